section
/-- a private method of a class that the tables say can be made, by its rows of tables_1 -/
def lw_okq (q : MethodName × Nat) : Prop := (q.1.cls ≠ "java/lang/invoke/MethodHandle" ∧ q.1.cls ≠ "java/lang/invoke/VarHandle") ∧ Cond.instantiable q.1.cls q.2 ∈ tables_1 ∧ Cond.privateMethod q.1 ∈ tables_1 ∧ Cond.instanceMethod q.1 ∈ tables_1
theorem lw_p0 : lw_okq (⟨"java/lang/Throwable", "fillInStackTrace", "(I)Ljava/lang/Throwable;"⟩, 6) := ⟨⟨by decide +kernel, by decide +kernel⟩, List.mem_of_getElem? (i := 181) (by decide +kernel), List.mem_of_getElem? (i := 179) (by decide +kernel), List.mem_of_getElem? (i := 180) (by decide +kernel)⟩
theorem lw_p1 : lw_okq (⟨"Tonguetell", "newTongue", "()I"⟩, 8) := ⟨⟨by decide +kernel, by decide +kernel⟩, List.mem_of_getElem? (i := 15) (by decide +kernel), List.mem_of_getElem? (i := 240) (by decide +kernel), List.mem_of_getElem? (i := 241) (by decide +kernel)⟩
theorem lw_p2 : lw_okq (⟨"Tonguetell", "requireTongue", "(I)V"⟩, 8) := ⟨⟨by decide +kernel, by decide +kernel⟩, List.mem_of_getElem? (i := 15) (by decide +kernel), List.mem_of_getElem? (i := 252) (by decide +kernel), List.mem_of_getElem? (i := 253) (by decide +kernel)⟩
theorem lw_p3 : lw_okq (⟨"Tonguetell$Shelf", "firstSlotWith", "(I)I"⟩, 5) := ⟨⟨by decide +kernel, by decide +kernel⟩, List.mem_of_getElem? (i := 54) (by decide +kernel), List.mem_of_getElem? (i := 277) (by decide +kernel), List.mem_of_getElem? (i := 278) (by decide +kernel)⟩
theorem lw_p4 : lw_okq (⟨"Tonguetell", "teachRuns", "(III)I"⟩, 8) := ⟨⟨by decide +kernel, by decide +kernel⟩, List.mem_of_getElem? (i := 15) (by decide +kernel), List.mem_of_getElem? (i := 286) (by decide +kernel), List.mem_of_getElem? (i := 287) (by decide +kernel)⟩
theorem lw_p5 : lw_okq (⟨"Tonguetell$Spelling", "letterOrGap", "(I)I"⟩, 2) := ⟨⟨by decide +kernel, by decide +kernel⟩, List.mem_of_getElem? (i := 23) (by decide +kernel), List.mem_of_getElem? (i := 298) (by decide +kernel), List.mem_of_getElem? (i := 299) (by decide +kernel)⟩
theorem lw_p6 : lw_okq (⟨"Tonguetell", "slotOfTaught", "(I)I"⟩, 8) := ⟨⟨by decide +kernel, by decide +kernel⟩, List.mem_of_getElem? (i := 15) (by decide +kernel), List.mem_of_getElem? (i := 310) (by decide +kernel), List.mem_of_getElem? (i := 311) (by decide +kernel)⟩
theorem lw_p7 : lw_okq (⟨"Tonguetell", "requireSomeTongue", "()V"⟩, 8) := ⟨⟨by decide +kernel, by decide +kernel⟩, List.mem_of_getElem? (i := 15) (by decide +kernel), List.mem_of_getElem? (i := 392) (by decide +kernel), List.mem_of_getElem? (i := 393) (by decide +kernel)⟩
theorem lw_p8 : lw_okq (⟨"Tonguetell", "requireRunPlace", "(I)V"⟩, 8) := ⟨⟨by decide +kernel, by decide +kernel⟩, List.mem_of_getElem? (i := 15) (by decide +kernel), List.mem_of_getElem? (i := 397) (by decide +kernel), List.mem_of_getElem? (i := 398) (by decide +kernel)⟩
theorem lw_p9 : lw_okq (⟨"Tonguetell", "layCostsForCut", "()V"⟩, 8) := ⟨⟨by decide +kernel, by decide +kernel⟩, List.mem_of_getElem? (i := 15) (by decide +kernel), List.mem_of_getElem? (i := 402) (by decide +kernel), List.mem_of_getElem? (i := 403) (by decide +kernel)⟩
theorem lw_p10 : lw_okq (⟨"Tonguetell$Cutter", "fillRest", "()V"⟩, 6) := ⟨⟨by decide +kernel, by decide +kernel⟩, List.mem_of_getElem? (i := 82) (by decide +kernel), List.mem_of_getElem? (i := 414) (by decide +kernel), List.mem_of_getElem? (i := 415) (by decide +kernel)⟩
theorem lw_p11 : lw_okq (⟨"Tonguetell$Cutter", "leastBehind", "(II)I"⟩, 6) := ⟨⟨by decide +kernel, by decide +kernel⟩, List.mem_of_getElem? (i := 82) (by decide +kernel), List.mem_of_getElem? (i := 418) (by decide +kernel), List.mem_of_getElem? (i := 419) (by decide +kernel)⟩
theorem lw_p12 : lw_okq (⟨"Tonguetell$Cutter", "cheapest", "(II)I"⟩, 6) := ⟨⟨by decide +kernel, by decide +kernel⟩, List.mem_of_getElem? (i := 82) (by decide +kernel), List.mem_of_getElem? (i := 422) (by decide +kernel), List.mem_of_getElem? (i := 423) (by decide +kernel)⟩
theorem lw_p13 : lw_okq (⟨"Tonguetell$Cutter", "restAfter", "(III)I"⟩, 6) := ⟨⟨by decide +kernel, by decide +kernel⟩, List.mem_of_getElem? (i := 82) (by decide +kernel), List.mem_of_getElem? (i := 426) (by decide +kernel), List.mem_of_getElem? (i := 427) (by decide +kernel)⟩
theorem lw_p14 : lw_okq (⟨"Tonguetell$Cutter", "priceOfChange", "(II)I"⟩, 6) := ⟨⟨by decide +kernel, by decide +kernel⟩, List.mem_of_getElem? (i := 82) (by decide +kernel), List.mem_of_getElem? (i := 430) (by decide +kernel), List.mem_of_getElem? (i := 431) (by decide +kernel)⟩
theorem lw_p15 : lw_okq (⟨"Tonguetell", "costOfSpelled", "(I)I"⟩, 8) := ⟨⟨by decide +kernel, by decide +kernel⟩, List.mem_of_getElem? (i := 15) (by decide +kernel), List.mem_of_getElem? (i := 442) (by decide +kernel), List.mem_of_getElem? (i := 443) (by decide +kernel)⟩
def lw_privs_1 : List (MethodName × Nat) := [(⟨"java/lang/Throwable", "fillInStackTrace", "(I)Ljava/lang/Throwable;"⟩, 6), (⟨"Tonguetell", "newTongue", "()I"⟩, 8), (⟨"Tonguetell", "requireTongue", "(I)V"⟩, 8), (⟨"Tonguetell$Shelf", "firstSlotWith", "(I)I"⟩, 5), (⟨"Tonguetell", "teachRuns", "(III)I"⟩, 8), (⟨"Tonguetell$Spelling", "letterOrGap", "(I)I"⟩, 2), (⟨"Tonguetell", "slotOfTaught", "(I)I"⟩, 8), (⟨"Tonguetell", "requireSomeTongue", "()V"⟩, 8), (⟨"Tonguetell", "requireRunPlace", "(I)V"⟩, 8), (⟨"Tonguetell", "layCostsForCut", "()V"⟩, 8), (⟨"Tonguetell$Cutter", "fillRest", "()V"⟩, 6), (⟨"Tonguetell$Cutter", "leastBehind", "(II)I"⟩, 6), (⟨"Tonguetell$Cutter", "cheapest", "(II)I"⟩, 6), (⟨"Tonguetell$Cutter", "restAfter", "(III)I"⟩, 6), (⟨"Tonguetell$Cutter", "priceOfChange", "(II)I"⟩, 6), (⟨"Tonguetell", "costOfSpelled", "(I)I"⟩, 8)]
theorem lw_r1 : ∀ q ∈ lw_privs_1, lw_okq q := List.forall_mem_cons.mpr ⟨lw_p0, List.forall_mem_cons.mpr ⟨lw_p1, List.forall_mem_cons.mpr ⟨lw_p2, List.forall_mem_cons.mpr ⟨lw_p3, List.forall_mem_cons.mpr ⟨lw_p4, List.forall_mem_cons.mpr ⟨lw_p5, List.forall_mem_cons.mpr ⟨lw_p6, List.forall_mem_cons.mpr ⟨lw_p7, List.forall_mem_cons.mpr ⟨lw_p8, List.forall_mem_cons.mpr ⟨lw_p9, List.forall_mem_cons.mpr ⟨lw_p10, List.forall_mem_cons.mpr ⟨lw_p11, List.forall_mem_cons.mpr ⟨lw_p12, List.forall_mem_cons.mpr ⟨lw_p13, List.forall_mem_cons.mpr ⟨lw_p14, List.forall_mem_cons.mpr ⟨lw_p15, fun _ h => absurd h List.not_mem_nil⟩⟩⟩⟩⟩⟩⟩⟩⟩⟩⟩⟩⟩⟩⟩⟩
def lw_privs : List (MethodName × Nat) := lw_privs_1
def lw_tbl : List Cond := k2_sels lw_privs ++ tables_1
theorem lw_privs_ok : ∀ q ∈ lw_privs, lw_okq q := lw_r1
end
section
/-! ===== BEGIN words of one list among another's, by their places ===== -/
theorem goodIn_r {big : List Cond} (ws : List Cond) (ps : List Nat) (hp : ws = ps.filterMap (fun i => big[i]?)) (h : ws.all goodWord = true) : GoodIn big ws := by
  intro w hw
  have h1 := List.all_eq_true.mp h w hw
  rw [hp] at hw
  obtain ⟨i, -, hi⟩ := List.mem_filterMap.mp hw
  have hm : w ∈ big := by first | exact List.mem_of_getElem? hi | exact List.getElem?_mem hi
  exact ⟨hm, good_of_word h1⟩
theorem goodIn_app {big a b : List Cond} (ha : GoodIn big a) (hb : GoodIn big b) : GoodIn big (a ++ b) := fun w h => (List.mem_append.mp h).elim (ha w) (hb w)
theorem goodIn_ca {big a b : List Cond} {c : Cond} (ha : GoodIn big (c :: a)) (hb : GoodIn big b) : GoodIn big (c :: (a ++ b)) := fun w h => (List.mem_cons.mp h).elim (fun e => ha w (List.mem_cons.mpr (Or.inl e))) (fun h => (List.mem_append.mp h).elim (fun h => ha w (List.mem_cons.mpr (Or.inr h))) (hb w))
theorem goodIn_sub {big ws : List Cond} (hm : ∀ w ∈ ws, w ∈ big) (h : ws.all goodWord = true) : GoodIn big ws := fun w hw => ⟨hm w hw, good_of_word (List.all_eq_true.mp h w hw)⟩
/-! ===== END ===== -/

/-! ===== BEGIN new T[n][m]: the outer array a place, the inner ones among the pooled ===== -/
/-- f, but v at every address of l -/
def vr_up {α : Type} (f : Nat → α) (l : List Nat) (v : α) : Nat → α := fun a => if a ∈ l then v else f a
theorem vr_up_in {α : Type} {f : Nat → α} {l : List Nat} {v : α} {a : Nat} (h : a ∈ l) : vr_up f l v a = v := if_pos h
theorem vr_up_ne {α : Type} {f : Nat → α} {l : List Nat} {v : α} {a : Nat} (h : a ∉ l) : vr_up f l v a = f a := if_neg h
theorem vr_rows {L l : List Nat} {f : Nat → va_E} {e : va_E} (h : ∀ a, a ∈ l → a ∉ L) : va_pl L f ++ l.map (fun a => (a, e)) = va_pl (L ++ l) (vr_up f l e) := by
  unfold va_pl
  rw [List.map_append]
  congr 1
  · apply List.map_congr_left
    intro a ha
    rw [vr_up_ne (fun q => h a q ha)]
  · apply List.map_congr_left
    intro a ha
    rw [vr_up_in ha]
theorem vr_lay {X rows : va_W} {x : Nat × va_E} {pl : va_W} {D : va_G} {cl : List vw_C} {H : Heap} (hP : va_P D cl (((X ++ pl) ++ [x]) ++ rows) H) : va_P D cl ((X ++ [x]) ++ (pl ++ rows)) H := by
  rw [List.append_assoc (X ++ pl)] at hP
  have h := va_P.swap hP
  rw [← List.append_assoc X] at h
  have h2 := va_P.swap h
  rw [List.append_assoc (X ++ [x])] at h2
  exact h2
theorem vr_layD {X rows : va_W} {x : Nat × va_E} {pl : va_W} {A : Nat → Prop} (hD : va_D A (((X ++ pl) ++ [x]) ++ rows)) : va_D A ((X ++ [x]) ++ (pl ++ rows)) := by
  rw [List.append_assoc (X ++ pl)] at hD
  have h := va_D.swap hD
  rw [← List.append_assoc X] at h
  have h2 := va_D.swap h
  rw [List.append_assoc (X ++ [x])] at h2
  exact h2
theorem vr_outer (c : ClassId) (N h0 : Nat) : ∀ i : Nat, Jvm.Free.Multi.outerC c N h0 i = arrV c N (fun j => va_rf (if j < i then some (h0 + 1 + j) else none))
  | 0 => by
    show ({ cls := c, slots := Array.replicate N .null, vm := .none } : Cell) = _
    rw [arrV_new]
    refine congrArg (arrV c N) (funext fun j => ?_)
    simp [va_rf]
  | i + 1 => by
    show (Jvm.Free.Multi.outerC c N h0 i).setSlot i (.ref (h0 + 1 + i)) = _
    rw [vr_outer c N h0 i, arrV_store]
    refine congrArg (arrV c N) (funext fun j => ?_)
    by_cases e : j = i
    · subst e
      simp [updV, va_rf]
    · by_cases h : j < i
      · simp [updV, e, h, Nat.lt_succ_of_lt h]
      · simp [updV, e, h, show ¬ j < i + 1 by omega]
/-- an array of arrays: its class over the component's (the word that the tables give, as a premise of a state) -/
def va_AOA (ty : FieldType) (U : State) : Prop := (Cond.arrayOver (.array ty)).before #[] U = true
theorem va_AOA.of {ty : FieldType} {A : Array Value} {U : State} (h : (Cond.arrayOver (.array ty)).before A U = true) : va_AOA ty U := h
theorem va_AOA.use {ty : FieldType} {A : Array Value} {U : State} (h : va_AOA ty U) : (Cond.arrayOver (.array ty)).before A U = true := h
section VGM
variable {p : Program} {l : Launch} {e : Env} {R : Room} {s : State} {m : MethodId} {args : Array Value} {below : List Frame} {meth : Method} {c : Code} {H : Heap} {locs : List Loc} {cells slots : Nat} {Q : State → Prop}
variable {cc : ByteArray} {pc : Nat} {ls : Array Slot} {rest : List Value} {D : va_G} {cl : List vw_C} {A : Nat → Prop} {a : Nat} {tys : List (ClassId × FieldType)} {ws : va_W} {H0 : Heap}
theorem va_mna {X : va_W} {L : List Nat} {f : Nat → va_E} {cc : ByteArray} (hexec : p.tables.exec = Jvm.exec) (hb : c.code = cc) {own : String} {index : Nat} {ty : FieldType} {cy : ClassId} (hown : s.vm.findClass own = some m.cls) (hclink : (Cond.classLink own index ("[" ++ (FieldType.array ty).toString)).before args s = true) (hover : va_AOA ty s) (harr : (Cond.arrayClass ty).before args s = true) (hcy : s.vm.findClass (FieldType.array ty).toString = some cy)
    (hK : va_K D cl tys s) (hP : va_P D cl (X ++ va_pl L f) H) (hD : va_D A (X ++ va_pl L f)) (hS : va_S A H0 H locs) (hA : ∀ q, H0.size ≤ q → A q) {n k : Int32} {N' K' : Nat} {z : vp_A} (hn : ¬ n < 0) (hk : ¬ k < 0) (hN : n.toNatClampNeg = N') (hM : k.toNatClampNeg = K')
    (hb1 : N' * 4 ≤ 536870912) (hb2 : K' * componentBytes ty ≤ 536870912) (hb3 : K' ≤ 536870912) (hdf : fits ty (defaultValue ty) = true) (hdd : (defaultValue ty).isDefault = true) (hcells : cells + (1 + N') ≤ R.cells) (hslots : slots + (N' + N' * K') ≤ R.slots) (hz : ∀ c : ClassId, Jvm.Free.Multi.innerC c K' (defaultValue ty) = vp_cell c z) (hdg : decode cc pc = .ok (.multianewarray index 2, 4))
    (kk : ∀ (q : Nat) (r : Nat → Nat) (cA : ClassId) (H1 : Heap), (∀ i j : Nat, i < N' → j < N' → r i = r j → i = j) → (∀ i : Nat, i < N' → r i ∉ L) → va_K D cl (tys ++ [(cA, .array ty)]) s →
      va_P D cl ((X ++ [(q, .inl (cA, N', .inr (.inr (.inr (.inr (fun i => if i < N' then some (r i) else none))))))]) ++ va_pl (L ++ (List.range N').map r) (vr_up f ((List.range N').map r) (.inl (cy, z)))) H1 → va_D A ((X ++ [(q, .inl (cA, N', .inr (.inr (.inr (.inr (fun i => if i < N' then some (r i) else none))))))]) ++ va_pl (L ++ (List.range N').map r) (vr_up f ((List.range N').map r) (.inl (cy, z)))) → va_S A H0 H1 locs →
      W p l e R s m args below meth c H1 locs (cells + 1 + N') (slots + N' + N' * K') Q (F0 m (pc + 4) ls (.ref q :: rest))) : W p l e R s m args below meth c H locs cells slots Q (F0 m pc ls (.int k :: .int n :: rest)) := by
  subst hN
  subst hM
  intro T hT Xs
  obtain ⟨vm₁, cA, comp, -, fA, fC, hO, -, X', step⟩ := Xs.multianewarray2F hexec hown hclink (va_AOA.use hover) harr (g := F0 m pc ls (.int k :: .int n :: rest)) rfl (by rw [hb]; exact hdg) rfl hn hk hb1 hb2 hb3 hdf hdd hcells hslots
  have ec : some cy = some comp := hcy.symm.trans fC
  cases ec
  generalize hF : Jvm.Free.Multi.fill (T.setVm vm₁) cA cy n.toNatClampNeg k.toNatClampNeg (defaultValue ty) n.toNatClampNeg = F at X' step
  have hTh : (T.setVm vm₁).heap = H := hT
  obtain ⟨f1, f2, -, -⟩ := Jvm.Free.Multi.fill_facts (T.setVm vm₁) cA cy n.toNatClampNeg k.toNatClampNeg (defaultValue ty) n.toNatClampNeg
  rw [hF, hTh] at f1 f2
  have hold : ∀ x : Nat, x < H.size → F.heap[x]? = H[x]? := fun x hx => by
    have := Jvm.Free.Multi.fill_old (T.setVm vm₁) cA cy n.toNatClampNeg k.toNatClampNeg (defaultValue ty) (a := x) (by rw [hTh]; exact hx) n.toNatClampNeg
    rw [hF, hTh] at this
    exact this
  have hrow : ∀ j : Nat, j < n.toNatClampNeg → F.heap[H.size + 1 + j]? = some (vp_cell cy z) := fun j hj => by
    have := Jvm.Free.Multi.fill_inner (T.setVm vm₁) cA cy n.toNatClampNeg k.toNatClampNeg (defaultValue ty) n.toNatClampNeg j hj
    rw [hF, hTh, hz] at this
    exact this
  have hout : Jvm.Free.Multi.outerC cA n.toNatClampNeg H.size n.toNatClampNeg = vp_cell cA (n.toNatClampNeg, .inr (.inr (.inr (.inr (fun i => if i < n.toNatClampNeg then some (H.size + 1 + i) else none))))) := by
    rw [vp_cell_q]
    exact vr_outer cA n.toNatClampNeg H.size n.toNatClampNeg
  rw [hout] at f2
  have hlt : ∀ a, a ∈ L → a < H.size := fun a ha => by
    obtain ⟨k9, hk9⟩ := va_pl_get (X := X) (f := f) ha
    exact (hP k9 _ hk9).lt
  have hnl : ∀ i : Nat, i < n.toNatClampNeg → H.size + 1 + i ∉ L := fun i _ h => by
    have := hlt _ h
    omega
  have hnm : ∀ a, a ∈ (List.range n.toNatClampNeg).map (fun i => H.size + 1 + i) → a ∉ L := fun a ha h => by
    obtain ⟨i, -, rfl⟩ := List.mem_map.mp ha
    have := hlt _ h
    omega
  have hP0 : va_P D cl (X ++ va_pl L f) F.heap := hP.kept (fun k9 x hx => hold x.1 ((hP k9 x hx).lt))
  have hP1 : va_P D cl ((X ++ va_pl L f) ++ [(H.size, .inl (cA, n.toNatClampNeg, .inr (.inr (.inr (.inr (fun i => if i < n.toNatClampNeg then some (H.size + 1 + i) else none))))))]) F.heap := hP0.app (fun k9 x hx => by
    have h0 : k9 < 1 := (List.getElem?_eq_some_iff.mp hx).1
    rw [show k9 = 0 by omega] at hx
    cases hx
    exact f2)
  have hP2 : va_P D cl (((X ++ va_pl L f) ++ [(H.size, .inl (cA, n.toNatClampNeg, .inr (.inr (.inr (.inr (fun i => if i < n.toNatClampNeg then some (H.size + 1 + i) else none))))))]) ++ ((List.range n.toNatClampNeg).map (fun i => H.size + 1 + i)).map (fun a => (a, .inl (cy, z)))) F.heap := hP1.app (fun k9 x hx => by
    obtain ⟨a, ha, rfl⟩ := List.mem_map.mp (List.mem_of_getElem? hx)
    obtain ⟨i, hi, rfl⟩ := List.mem_map.mp ha
    exact hrow i (List.mem_range.mp hi))
  have hD2 : va_D A (((X ++ va_pl L f) ++ [(H.size, .inl (cA, n.toNatClampNeg, .inr (.inr (.inr (.inr (fun i => if i < n.toNatClampNeg then some (H.size + 1 + i) else none))))))]) ++ ((List.range n.toNatClampNeg).map (fun i => H.size + 1 + i)).map (fun a => (a, .inl (cy, z)))) := by
    have hD1 := hD.push (e := .inl (cA, n.toNatClampNeg, .inr (.inr (.inr (.inr (fun i => if i < n.toNatClampNeg then some (H.size + 1 + i) else none)))))) hP rfl (hA _ hS.1)
    generalize hW1 : (X ++ va_pl L f) ++ [(H.size, .inl (cA, n.toNatClampNeg, .inr (.inr (.inr (.inr (fun i => if i < n.toNatClampNeg then some (H.size + 1 + i) else none))))))] = W1 at hD1 hP1 ⊢
    have hle : ∀ (k9 : Nat) (x : Nat × va_E), W1[k9]? = some x → x.1 ≤ H.size := fun k9 x hx => by
      rw [← hW1] at hx
      by_cases hl : k9 < (X ++ va_pl L f).length
      · rw [List.getElem?_append_left hl] at hx
        exact Nat.le_of_lt ((hP k9 x hx).lt)
      · rw [List.getElem?_append_right (by omega)] at hx
        have h0 : k9 - (X ++ va_pl L f).length < 1 := (List.getElem?_eq_some_iff.mp hx).1
        rw [show k9 - (X ++ va_pl L f).length = 0 by omega] at hx
        cases hx
        exact Nat.le_refl _
    have hr : ∀ (k9 : Nat) (x : Nat × va_E), (((List.range n.toNatClampNeg).map (fun i => H.size + 1 + i)).map (fun a => ((a, .inl (cy, z)) : Nat × va_E)))[k9]? = some x → x.1 = H.size + 1 + k9 := fun k9 x hx => by
      rw [List.getElem?_map, List.getElem?_map] at hx
      by_cases h9 : k9 < n.toNatClampNeg
      · rw [List.getElem?_range h9] at hx
        cases hx
        rfl
      · have hn0 : (List.range n.toNatClampNeg)[k9]? = none := List.getElem?_eq_none (by rw [List.length_range]; omega)
        rw [hn0] at hx
        cases hx
    refine ⟨fun i j x y hi hj hxy => ?_, fun k9 x hx => ?_⟩
    · by_cases h1 : i < W1.length <;> by_cases h2 : j < W1.length
      · rw [List.getElem?_append_left h1] at hi
        rw [List.getElem?_append_left h2] at hj
        exact hD1.1 i j x y hi hj hxy
      · rw [List.getElem?_append_left h1] at hi
        rw [List.getElem?_append_right (by omega)] at hj
        have := hle _ _ hi
        have := hr _ _ hj
        omega
      · rw [List.getElem?_append_right (by omega)] at hi
        rw [List.getElem?_append_left h2] at hj
        have := hle _ _ hj
        have := hr _ _ hi
        omega
      · rw [List.getElem?_append_right (by omega)] at hi hj
        have := hr _ _ hi
        have := hr _ _ hj
        omega
    · by_cases h1 : k9 < W1.length
      · rw [List.getElem?_append_left h1] at hx
        exact hD1.2 k9 x hx
      · rw [List.getElem?_append_right (by omega)] at hx
        have := hr _ _ hx
        exact hA _ (by have := hS.1; omega)
  have hAr : ArrOfT s cA (.array ty) := fun N9 z9 => by
    obtain ⟨-, k9, hk9, cm9, hkk9⟩ := (hO 0 0 0).1
    exact ⟨(fun q hq => by cases hq), k9, hk9, cm9, hkk9⟩
  have hK2 : va_K D cl (tys ++ [(cA, .array ty)]) s := ⟨hK.1, fun k9 x hx => by
    by_cases hl : k9 < tys.length
    · rw [List.getElem?_append_left hl] at hx
      exact hK.2 k9 x hx
    · rw [List.getElem?_append_right (by omega)] at hx
      have h0 : k9 - tys.length < 1 := (List.getElem?_eq_some_iff.mp hx).1
      rw [show k9 - tys.length = 0 by omega] at hx
      cases hx
      exact ⟨hAr, fA⟩⟩
  obtain ⟨t, a1, b1⟩ := kk H.size (fun i => H.size + 1 + i) cA F.heap (fun i j _ _ h => by have h9 : H.size + 1 + i = H.size + 1 + j := h; omega) hnl hK2 (by rw [← vr_rows hnm]; exact vr_lay hP2) (by rw [← vr_rows hnm]; exact vr_layD hD2) ⟨by rw [f1]; have := hS.1; omega, fun x h1 h2 => (hold x (Nat.lt_of_lt_of_le h1 hS.1)).trans (hS.2.1 x h1 h2), hS.2.2⟩ F rfl X'
  refine ⟨t, step t ?_, b1⟩
  have e : T.heap.size = H.size := by rw [hT]
  rw [e]
  exact a1
end VGM
/-! ===== END ===== -/

/-! ===== BEGIN exceptions that leave a method, and their catching by the caller (launches without stack traces) ===== -/
section VXA
/-! The laws vx_back, vx_callV, vx_callS, vx_callSW, vx_throw0, vx_throwS follow proofs of the library, with one case more: JvmDerived/Free/Laws.lean (Back.of_free), Shelf42/LK1.lean (callV, callS), Shelf/KitTraced.lean (throwNew0V, throwNewS). -/
/-- where a method has thrown q: the class by its name, the cell, what was written, the world -/
def vx_T (XC : String → State → State → Prop) (st : State) (q : Addr) (t : State) (mc ms : Nat) (free : Addr → Prop) : Prop :=
  ∃ (E : String) (ce : Cell) (L : List Loc), XC E st t ∧ t.heap[q]? = some ce ∧ ce.vm = .none ∧ st.vm.findClass E = some ce.cls ∧ st.WarmedH t.vm ∧ st.sameButNew ({ t with vm := st.vm } : State) L mc ms ∧ ∀ z ∈ L, free z.base
def vx_Q (Qc : Array Value → State → Outcome → State → Prop) (XC : String → State → State → Prop) (mc ms : Nat) (free : Addr → Prop) : Array Value → State → Outcome → State → Prop := fun a st o t =>
  (Qc a st o t ∧ ∃ L, FrameEnd st o t L mc ms ∧ ∀ q ∈ L, free q.base) ∨ ∃ q, o = .threw q ∧ vx_T XC st q t mc ms free
/-- a callee that returns or throws -/
def vx_Met (l : Launch) (y : MethodName) (ws : List Cond) (rm : Room) (Pc : Array Value → State → Prop) (Qc : Array Value → State → Outcome → State → Prop) (XC : String → State → State → Prop) (mc ms : Nat) (free : Addr → Prop) : Prop :=
  MetFree l y (headSpec ws rm) Pc (fun _ _ _ _ _ => True) (vx_Q Qc XC mc ms free)
def vx_Post (XC : String → State → State → Prop) (mc ms : Nat) (free : Addr → Prop) : Pt → Array Value → Addr → Pt → Prop := fun A a q B =>
  ∃ (g : JFrame) (mk : MethodId) (t : State) (L : List Loc) (E : String) (ce : Cell), B.U.heap = t.heap ∧ B.U.vm = t.vm ∧ XC E (A.U.calling g mk a) t ∧ t.heap[q]? = some ce ∧ ce.vm = .none ∧ A.U.vm.findClass E = some ce.cls ∧ B.locs = A.locs ++ L ∧ (∀ z ∈ L, free z.base) ∧ B.cells = A.cells + mc ∧ B.slots = A.slots + ms
def vx_Back (l : Launch) (R : Room) (p : Program) (e : Env) (below : List Frame) (s : State) (sargs : Array Value) (y : MethodName) (len W9 : Nat)
    (Pre : Pt → Array Value → Prop) (Post : Pt → Array Value → Option Value → Pt → Prop) (PostX : Pt → Array Value → Addr → Pt → Prop) : Prop :=
  ∀ (m : MethodId) (meth : Method) (c : Code) (A : Pt) (g : JFrame) (ig : Instr) (mk : MethodId) (a : Array Value),
    Stand p l e R s m sargs below meth c A.U A.locs A.cells A.slots → g.method = m → g.locals.size = c.maxLocals → decode c.code g.pc = .ok (ig, len) →
    2 * g.monitorRoom + (g.stack.map fun v => v.category).sum ≤ W9 → A.U.methodNamed? y = some mk → Pre A a →
    (∃ (v : Option Value) (B : Pt), Stand p l e R s m sargs below meth c B.U B.locs B.cells B.slots ∧ Post A a v B ∧
      Steps p.tables e below (doInvoke e (A.U.setTop g) [] mk a).1 (B.U.setTop { g with pc := g.pc + len, stack := v.toList ++ g.stack })) ∨
    (∃ (q : Addr) (B : Pt), Stand p l e R s m sargs below meth c B.U B.locs B.cells B.slots ∧ PostX A a q B ∧
      Steps p.tables e below (doInvoke e (A.U.setTop g) [] mk a).1 ((B.U.setTop g).pushFrame (.throwing q)))
section Payer
variable {l : Launch} {R : Room} {p : Program} {e : Env} {below : List Frame} {s : State} {sargs : Array Value} {y : MethodName} {len W9 : Nat}
theorem vx_back {ws : List Cond} {rm : Room} {Pc : Array Value → State → Prop} {Qc : Array Value → State → Outcome → State → Prop} {XC : String → State → State → Prop} {mc ms : Nat} {free : Addr → Prop} {bytes : ByteArray} {maxL : Nat} {ret : Option FieldType}
    (hM : vx_Met l y ws rm Pc Qc XC mc ms free) (hblind : FrameBlind Pc) (hrc : rm.cells = mc) (hrs : rm.slots = ms)
    (hframes : rm.frames + 1 ≤ R.frames) (hlocals : W9 + (maxL + 11) + rm.locals ≤ R.locals)
    (hws : ∀ w ∈ ws, ∀ a' U, s.WarmedH U.vm → w.before a' U = true) (hcode : Cond.code y bytes maxL ret ∈ ws) (hinit : ∀ a' U, s.WarmedH U.vm → (Cond.initialized y.cls).before a' U = true) :
    vx_Back l R p e below s sargs y len W9 (PreOf R mc ms Pc) (PostOf Qc mc ms free) (vx_Post XC mc ms free) := by
  intro m meth c A g ig mk a X hg hsize hdg hW hn hp
  have h1 : (headSpec ws rm).pre.before a A.U = true := atoms_intro fun w hw => hws w hw _ _ X.warmed
  have h2 : (Cond.code y bytes maxL ret).before a A.U = true := hws _ hcode _ _ X.warmed
  have h3 : (Cond.initialized y.cls).before a A.U = true := hinit _ _ X.warmed
  have h4 : A.cells + (headSpec ws rm).room.cells ≤ R.cells := by rw [show (headSpec ws rm).room.cells = mc from hrc]; exact hp.1
  have h5 : A.slots + (headSpec ws rm).room.slots ≤ R.slots := by rw [show (headSpec ws rm).room.slots = ms from hrs]; exact hp.2.1
  have hPc : Pc a (A.U.calling g mk a) := hblind _ _ _ _ hp.2.2
  obtain ⟨U, Ls, c0, s0⟩ := A
  dsimp only [Pt.U, Pt.locs, Pt.cells, Pt.slots] at h1 h2 h3 h4 h5 X hn hPc ⊢
  obtain ⟨methY, cY, hmY, hcY, -, hlY, -, -, -, -⟩ := Cond.code_spec hn h2
  obtain ⟨kY, hkY, -⟩ := className_of_methodNamed hn
  have hinitY : kY.init = .initialized := Cond.initialized_spec (findClass_of_methodNamed hn) hkY h3
  have h : At U g.method c below := by rw [hg]; exact X.here
  have hlocals9 : W9 + (maxL + 11) + (headSpec ws rm).room.locals ≤ R.locals := hlocals
  have happ : (headSpec ws rm).appliesLoose y e.platform (U.calling g mk a) = true :=
    Spec.appliesLoose_calling (g := g) h hdg hn hkY hinitY
      (X.room_calling (g := g) (R' := (headSpec ws rm).room) hsize hmY hcY hframes (by rw [hlY]; omega) h4 h5) h1
  obtain ⟨mid, hmid⟩ := h.above
  have hfr : (U.setTop g).frames = (.java g :: mid) ++ below := by rw [State.frames_setTop' g h.top, hmid]; rfl
  obtain ⟨o, s₂, hsteps, -, hend, hq⟩ := Steps.callFree hM p X.admits X.cas X.clock (acts := []) hfr happ hPc trivial
  have hq' : vx_Q Qc XC mc ms free a (U.calling g mk a) o s₂ := hq
  rw [State.frames_setTop' g h.top] at hend
  obtain ⟨g₀, hg0⟩ := Option.isSome_iff_exists.mp h.top
  obtain ⟨r, hr⟩ := State.topJava?_eq_some.mp hg0
  have hr' : (({ U with heap := s₂.heap, slotsUsed := s₂.slotsUsed } : State).setVm s₂.vm).frames = .java g₀ :: r := hr
  rcases hq' with ⟨hqc, L, hfe, hL⟩ | ⟨q, rfl, E, ce, L, hx, hce, hcv, hcl, hW₂, hsm, hL⟩
  · obtain ⟨⟨v, rfl⟩, hW₂, e2, q2, q3, q4, q5, q6⟩ := id hfe
    have e3 : s₂ = ({ (U.calling g mk a).setFrames s₂.frames with heap := s₂.heap, slotsUsed := s₂.slotsUsed } : State).setVm s₂.vm := by
      have : s₂ = ({ s₂ with vm := (U.calling g mk a).vm } : State).setVm s₂.vm := rfl
      rw [e2] at this
      exact this
    obtain ⟨c₂, i₂, len₂, hc₂, hd₂, hf₂⟩ := hend
    have hW' : U.WarmedH s₂.vm := hW₂
    have hcc : c₂ = c := by
      have h1 : s₂.code? g.method = U.code? g.method := by
        rw [State.code?_eq, State.code?_eq, hW'.alike.method?]
      exact Option.some.inj (hc₂.symm.trans (h1.trans h.code))
    subst hcc
    have hlen : len₂ = len := by rw [hdg] at hd₂; cases hd₂; rfl
    subst hlen
    have hs₂ : s₂ = (({ U with heap := s₂.heap, slotsUsed := s₂.slotsUsed } : State).setVm s₂.vm).setTop { g with pc := g.pc + len₂, stack := v.toList ++ g.stack } := by
      refine e3.trans ?_
      rw [hf₂, State.calling_eq h.top, State.setFrames_setFrames, State.setTop_of_frames _ hr', hr]
      rfl
    have hsame : U.sameButNew ({ U with heap := s₂.heap, slotsUsed := s₂.slotsUsed } : State) L mc ms := by
      refine ⟨?_, q2, q3, q4, q5, q6⟩
      obtain ⟨t, ht, -⟩ := State.frames_cons hr
      show ({ U with heap := s₂.heap, slotsUsed := s₂.slotsUsed } : State) = { U.setFrames U.frames with heap := s₂.heap, slotsUsed := s₂.slotsUsed }
      rw [State.setFrames_self ht]
    subst hg
    refine Or.inl ⟨v, ⟨(({ U with heap := s₂.heap, slotsUsed := s₂.slotsUsed } : State).setVm s₂.vm), Ls ++ L, c0 + mc, s0 + ms⟩,
      ⟨X.admits, X.cas, X.clock, X.frames, X.room, X.hears, X.method, X.code, (X.here.setHeapUsed s₂.heap s₂.slotsUsed).setVm hW'.alike, X.tail, State.WarmedH.trans X.warmed hW', X.limits, X.bytes, X.same.trans (hsame.setVm s.vm)⟩,
      ⟨g, mk, s₂, L, rfl, rfl, hqc, rfl, hL, rfl, rfl⟩, ?_⟩
    show Steps p.tables e below _ ((({ U with heap := s₂.heap, slotsUsed := s₂.slotsUsed } : State).setVm s₂.vm).setTop { g with pc := g.pc + len₂, stack := v.toList ++ g.stack })
    rw [← hs₂]
    exact hsteps
  · obtain ⟨e2, q2, q3, q4, q5, q6⟩ := id hsm
    have e3 : s₂ = ({ (U.calling g mk a).setFrames s₂.frames with heap := s₂.heap, slotsUsed := s₂.slotsUsed } : State).setVm s₂.vm := by
      have : s₂ = ({ s₂ with vm := (U.calling g mk a).vm } : State).setVm s₂.vm := rfl
      rw [e2] at this
      exact this
    have hf₂ : s₂.frames = .throwing q :: .java g :: U.frames.tail := hend
    have hW' : U.WarmedH s₂.vm := hW₂
    have hs₂ : s₂ = ((({ U with heap := s₂.heap, slotsUsed := s₂.slotsUsed } : State).setVm s₂.vm).setTop g).pushFrame (.throwing q) := by
      refine e3.trans ?_
      rw [hf₂, State.calling_eq h.top, State.setFrames_setFrames, State.pushFrame, State.frames_setTop _ hr', State.setTop_of_frames _ hr', State.setFrames_setFrames, hr]
      rfl
    have hsame : U.sameButNew ({ U with heap := s₂.heap, slotsUsed := s₂.slotsUsed } : State) L mc ms := by
      refine ⟨?_, q2, q3, q4, q5, q6⟩
      obtain ⟨t, ht, -⟩ := State.frames_cons hr
      show ({ U with heap := s₂.heap, slotsUsed := s₂.slotsUsed } : State) = { U.setFrames U.frames with heap := s₂.heap, slotsUsed := s₂.slotsUsed }
      rw [State.setFrames_self ht]
    subst hg
    refine Or.inr ⟨q, ⟨(({ U with heap := s₂.heap, slotsUsed := s₂.slotsUsed } : State).setVm s₂.vm), Ls ++ L, c0 + mc, s0 + ms⟩,
      ⟨X.admits, X.cas, X.clock, X.frames, X.room, X.hears, X.method, X.code, (X.here.setHeapUsed s₂.heap s₂.slotsUsed).setVm hW'.alike, X.tail, State.WarmedH.trans X.warmed hW', X.limits, X.bytes, X.same.trans (hsame.setVm s.vm)⟩,
      ⟨g, mk, s₂, L, E, ce, rfl, rfl, hx, hce, hcv, hcl, rfl, hL, rfl, rfl⟩, ?_⟩
    show Steps p.tables e below _ (((({ U with heap := s₂.heap, slotsUsed := s₂.slotsUsed } : State).setVm s₂.vm).setTop g).pushFrame (.throwing q))
    rw [← hs₂]
    exact hsteps
end Payer
section Calls
variable {p : Program} {l : Launch} {e : Env} {R : Room} {s : State} {m : MethodId} {args : Array Value} {below : List Frame} {meth : Method} {c : Code} {T : State} {locs : List Loc} {cells slots : Nat}
theorem vx_callV (X : Stand p l e R s m args below meth c T locs cells slots) (hexec : p.tables.exec = Jvm.exec) {own C : String} {index : Nat} {y : MethodName} {bytes : ByteArray} {maxL : Nat} {ret : Option FieldType}
    (hown : s.vm.findClass own = some m.cls) (hlink : (Cond.methodLink own index y).before args s = true) (hinst : (Cond.instanceMethod y).before args s = true) (hsel : (Cond.selects C y y).before args s = true)
    (hcode : (Cond.code y bytes maxL ret).before args s = true) (hy : y.cls ≠ "java/lang/invoke/MethodHandle" ∧ y.cls ≠ "java/lang/invoke/VarHandle")
    {W9 : Nat} {Pre : Pt → Array Value → Prop} {Post : Pt → Array Value → Option Value → Pt → Prop} {PostX : Pt → Array Value → Addr → Pt → Prop} (hK : vx_Back l R p e below s args y 3 W9 Pre Post PostX)
    {b : Addr} {cellB : Cell} (hcell : T.heap[b]? = some cellB) (hobj : cellB.vm.isStatics = false) (hcls : s.vm.findClass C = some cellB.cls)
    {g : JFrame} (hg : g.method = m) (hsize : g.locals.size = c.maxLocals) {argsL rest : List Value} (hlen : ∀ sig, parseMethodDescriptor y.desc = some sig → argsL.length = sig.parameters.length)
    (hstack : g.stack = argsL.reverse ++ .ref b :: rest) (hW : 2 * g.monitorRoom + (rest.map fun v => v.category).sum ≤ W9) (hdg : decode c.code g.pc = .ok (.invokevirtual index, 3))
    (hpre : ∀ vm₁, s.WarmedH vm₁ → Pre ⟨T.setVm vm₁, locs, cells, slots⟩ (Value.ref b :: argsL).toArray) :
    (∃ (v : Option Value) (vm₁ : Vm) (B : Pt), s.WarmedH vm₁ ∧ Stand p l e R s m args below meth c B.U B.locs B.cells B.slots ∧ Post ⟨T.setVm vm₁, locs, cells, slots⟩ (Value.ref b :: argsL).toArray v B ∧
      ∀ target, Steps p.tables e below (B.U.setTop { g with pc := g.pc + 3, stack := v.toList ++ rest }) target → Steps p.tables e below (T.setTop g) target) ∨
    (∃ (q : Addr) (vm₁ : Vm) (B : Pt), s.WarmedH vm₁ ∧ Stand p l e R s m args below meth c B.U B.locs B.cells B.slots ∧ PostX ⟨T.setVm vm₁, locs, cells, slots⟩ (Value.ref b :: argsL).toArray q B ∧
      Steps p.tables e below (T.setTop g) ((B.U.setTop { g with stack := rest }).pushFrame (.throwing q))) := by
  obtain ⟨mk, methM, hnamed, hmethM, hstM, habM⟩ := Cond.instanceMethod_spec hinst
  obtain ⟨methM', cM, hmethM', -, -, -, -, -, -, hsigM⟩ := Cond.code_spec hnamed hcode
  cases hmethM.symm.trans hmethM'
  obtain ⟨c2, r2, m2, q1, q2, q3, q4, kP, hkP, hkPi⟩ := Cond.selects_spec hsel
  cases hcls.symm.trans q1
  cases (State.methodFound?_of_named hnamed hy).symm.trans q2
  cases hnamed.symm.trans q3
  have hselP : selectMethod e.platform s.vm cellB.cls mk = .method mk := by rw [Launch.admits_selectMethod X.admits]; exact q4
  obtain ⟨vm₁, X₁, hstep₁⟩ := X.invokevirtual hexec hown hlink hnamed hmethM hstM hkP hkPi hy (a := b) (cell := cellB) hcell
    (fun z h => by rw [h] at hobj; cases hobj) hselP hmethM habM hkP hkPi (g := g) hg (argsL := argsL) (rest := rest) (hlen _ hsigM) hstack hdg
  rcases hK m meth c ⟨T.setVm vm₁, locs, cells, slots⟩ { g with stack := rest } (.invokevirtual index) mk (Value.ref b :: argsL).toArray X₁ hg hsize hdg hW (X₁.named hnamed) (hpre vm₁ X₁.warmed) with ⟨v, B, X', hpost, hsteps⟩ | ⟨q, B, X', hpost, hsteps⟩
  · exact Or.inl ⟨v, vm₁, B, X₁.warmed, X', hpost, fun target h => hstep₁ _ fun acts => by rw [doInvoke_state]; exact hsteps.trans h⟩
  · exact Or.inr ⟨q, vm₁, B, X₁.warmed, X', hpost, hstep₁ _ fun acts => by rw [doInvoke_state]; exact hsteps⟩
theorem vx_callS (X : Stand p l e R s m args below meth c T locs cells slots) (hexec : p.tables.exec = Jvm.exec) {own : String} {index : Nat} {y : MethodName} {bytes : ByteArray} {maxL : Nat} {ret : Option FieldType}
    (hown : s.vm.findClass own = some m.cls) (hlink : (Cond.methodLink own index y).before args s = true) (hstat : (Cond.static y).before args s = true) (hinit : (Cond.initialized y.cls).before args s = true)
    (hcode : (Cond.code y bytes maxL ret).before args s = true) (hy : y.cls ≠ "java/lang/invoke/MethodHandle" ∧ y.cls ≠ "java/lang/invoke/VarHandle")
    {W9 : Nat} {Pre : Pt → Array Value → Prop} {Post : Pt → Array Value → Option Value → Pt → Prop} {PostX : Pt → Array Value → Addr → Pt → Prop} (hK : vx_Back l R p e below s args y 3 W9 Pre Post PostX)
    {g : JFrame} (hg : g.method = m) (hsize : g.locals.size = c.maxLocals) {argsL rest : List Value} (hlen : ∀ sig, parseMethodDescriptor y.desc = some sig → argsL.length = sig.parameters.length)
    (hstack : g.stack = argsL.reverse ++ rest) (hW : 2 * g.monitorRoom + (rest.map fun v => v.category).sum ≤ W9) (hdg : decode c.code g.pc = .ok (.invokestatic index, 3))
    (hpre : ∀ vm₁, s.WarmedH vm₁ → Pre ⟨T.setVm vm₁, locs, cells, slots⟩ argsL.toArray) :
    (∃ (v : Option Value) (vm₁ : Vm) (B : Pt), s.WarmedH vm₁ ∧ Stand p l e R s m args below meth c B.U B.locs B.cells B.slots ∧ Post ⟨T.setVm vm₁, locs, cells, slots⟩ argsL.toArray v B ∧
      ∀ target, Steps p.tables e below (B.U.setTop { g with pc := g.pc + 3, stack := v.toList ++ rest }) target → Steps p.tables e below (T.setTop g) target) ∨
    (∃ (q : Addr) (vm₁ : Vm) (B : Pt), s.WarmedH vm₁ ∧ Stand p l e R s m args below meth c B.U B.locs B.cells B.slots ∧ PostX ⟨T.setVm vm₁, locs, cells, slots⟩ argsL.toArray q B ∧
      Steps p.tables e below (T.setTop g) ((B.U.setTop { g with stack := rest }).pushFrame (.throwing q))) := by
  obtain ⟨mk, hnamed⟩ := Cond.code_named hcode
  obtain ⟨methM, cM, hmethM, -, -, -, -, -, -, hsigM⟩ := Cond.code_spec hnamed hcode
  have hstatic : methM.isStatic = true := Cond.static_spec hnamed hmethM hstat
  obtain ⟨kP, hkP, -⟩ := className_of_methodNamed hnamed
  have hinitP : kP.init = .initialized := Cond.initialized_spec (findClass_of_methodNamed hnamed) hkP hinit
  obtain ⟨vm₁, X₁, hstep₁⟩ := X.invokestatic hexec hown hlink hnamed hmethM hstatic hkP hinitP hy (g := g) hg (argsL := argsL) (rest := rest) (hlen _ hsigM) hstack hdg
  rcases hK m meth c ⟨T.setVm vm₁, locs, cells, slots⟩ { g with stack := rest } (.invokestatic index) mk argsL.toArray X₁ hg hsize hdg hW (X₁.named hnamed) (hpre vm₁ X₁.warmed) with ⟨v, B, X', hpost, hsteps⟩ | ⟨q, B, X', hpost, hsteps⟩
  · exact Or.inl ⟨v, vm₁, B, X₁.warmed, X', hpost, fun target h => hstep₁ _ fun acts => by rw [doInvoke_state]; exact hsteps.trans h⟩
  · exact Or.inr ⟨q, vm₁, B, X₁.warmed, X', hpost, hstep₁ _ fun acts => by rw [doInvoke_state]; exact hsteps⟩
end Calls
theorem vx_cls {s : State} {T : State} {vm₁ : Vm} {E : String} {k : ClassId} (hW : s.WarmedH vm₁) (h : (T.setVm vm₁).vm.findClass E = some k) : s.vm.findClass E = some k := by
  have h1 : vm₁.findClass E = some k := h
  rw [hW.alike.findClass] at h1
  exact h1
/-- the method's frame g, with q thrown over it -/
def vx_W (p : Program) (l : Launch) (e : Env) (R : Room) (s : State) (m : MethodId) (args : Array Value) (below : List Frame) (meth : Method) (c : Code) (H : Heap) (locs : List Loc) (cells slots : Nat) (Q : State → Prop) (g : JFrame) (q : Addr) : Prop :=
  ∀ T : State, T.heap = H → Stand p l e R s m args below meth c T locs cells slots → ∃ t, Steps p.tables e below ((T.setTop g).pushFrame (.throwing q)) t ∧ Q t
def vx_Run (p : Program) (l : Launch) (e : Env) (R : Room) (s : State) (m : MethodId) (args : Array Value) (below : List Frame) (meth : Method) (c : Code) (H : Heap) (locs : List Loc) (cells slots mc ms : Nat) (g : JFrame) (rest : List Value) (Qa : State → Outcome → State → Prop) (XC : String → State → State → Prop) (free : Addr → Prop) : Prop :=
  ∀ T : State, T.heap = H → Stand p l e R s m args below meth c T locs cells slots →
    (∃ (v : Option Value) (st₀ t T' : State) (L : List Loc), st₀.heap = H ∧ Stand p l e R s m args below meth c T' (locs ++ L) (cells + mc) (slots + ms) ∧ (∀ q ∈ L, free q.base) ∧ T'.heap = t.heap ∧ T'.vm = t.vm ∧ Qa st₀ (.returned v) t ∧
      Goes p e below T g T' { g with pc := g.pc + 3, stack := v.toList ++ rest }) ∨
    (∃ (q : Addr) (st₀ t T' : State) (L : List Loc) (E : String) (ce : Cell), st₀.heap = H ∧ Stand p l e R s m args below meth c T' (locs ++ L) (cells + mc) (slots + ms) ∧ (∀ z ∈ L, free z.base) ∧ T'.heap = t.heap ∧ T'.vm = t.vm ∧ XC E st₀ t ∧ t.heap[q]? = some ce ∧ ce.vm = .none ∧ s.vm.findClass E = some ce.cls ∧
      Steps p.tables e below (T.setTop g) ((T'.setTop { g with stack := rest }).pushFrame (.throwing q)))
def vx_X {S : Type} (px : S → Prop) (B : String → S → State → Prop) (A : Nat → Prop) : String → State → State → Prop := fun E st t => ∃ u : S, px u ∧ B E u t ∧ va_F A st t
section Runs
variable {p : Program} {l : Launch} {e : Env} {R : Room} {s : State} {m : MethodId} {args : Array Value} {below : List Frame} {meth : Method} {c : Code} {H : Heap} {locs : List Loc} {cells slots : Nat}
variable {y : MethodName} {bytes cc : ByteArray} {maxL nL mc ms n index : Nat} {ret : Option FieldType} {ws : List Cond} {rm : Room} {Pc : Array Value → State → Prop} {Qc : Array Value → State → Outcome → State → Prop} {XC : String → State → State → Prop} {free : Addr → Prop} {Ts : List Cond} {own C : String} {b : Addr} {As rest : List Value} {g : JFrame}
theorem vx_callBack (cb : CallB R s args own index y bytes maxL ret ws rm mc ms n) (hM : vx_Met l y ws rm Pc Qc XC mc ms free) (hbl : FrameBlind Pc) : vx_Back l R p e below s args y 3 8 (PreOf R mc ms Pc) (PostOf Qc mc ms free) (vx_Post XC mc ms free) := by
  obtain ⟨hrc, hrs, hfr, hlo, hws, hcw, -, hini, -⟩ := cb
  exact vx_back (bytes := bytes) (maxL := maxL) (ret := ret) hM hbl hrc hrs hfr hlo hws hcw (fun a' U hW => word_at hW (Or.inl (by first | rfl | simp [Cond.onTables, Cond.keeps, Cond.steady])) hini)
theorem vx_runV (S : CallFix p m c cc nL s args Ts own) (hM : vx_Met l y ws rm Pc Qc XC mc ms free) (cw : CallW R s args own C index y bytes maxL ret ws rm mc ms n) (hp : PreV s H C b Pc As)
    (hg : g.method = m) (hn : As.length = n) (hsize : g.locals.size = nL) (hstack : g.stack = As.reverse ++ .ref b :: rest) (hW : 2 * g.monitorRoom + (rest.map fun v => v.category).sum ≤ 8) (hdg : decode cc g.pc = .ok (.invokevirtual index, 3)) (hf : cells + mc ≤ R.cells ∧ slots + ms ≤ R.slots) :
    vx_Run p l e R s m args below meth c H locs cells slots mc ms g rest (Qc (Value.ref b :: As).toArray) XC free := by
  have hK : vx_Back l R p e below s args y 3 8 (PreOf R mc ms Pc) (PostOf Qc mc ms free) (vx_Post XC mc ms free) := vx_callBack cw.1 hM hp.1
  obtain ⟨⟨-, -, -, -, -, -, hcode, -, hy, hlen, hl⟩, hin, hse⟩ := cw
  obtain ⟨hx, hb, hml, ho, -⟩ := S
  obtain ⟨-, ⟨cellB, hcB, hoB, hclB⟩, hPc⟩ := hp
  intro T hT X
  rcases vx_callV X hx (C := C) (bytes := bytes) (maxL := maxL) (ret := ret) ho hl hin hse hcode hy hK (by rw [hT]; exact hcB) hoB hclB hg (hsize.trans hml.symm) (argsL := As) (rest := rest) (fun sig h => hn.trans (hlen sig h)) hstack hW (by rw [hb]; exact hdg)
    (fun vm₁ hW₁ => ⟨hf.1, hf.2, hPc (T.setVm vm₁) hT hW₁⟩) with ⟨v, vm₁, ⟨U', l2, c2, s2⟩, hW₁, X', ⟨g', mk, t, L, e1, e2, hq, h1, hL, h2, h3⟩, st⟩ | ⟨q, vm₁, ⟨U', l2, c2, s2⟩, hW₁, X', ⟨g', mk, t, L, E, ce, e1, e2, hq, hce, hcv, hcl, h1, hL, h2, h3⟩, st⟩
  · dsimp only [Pt.U, Pt.locs, Pt.cells, Pt.slots] at X' e1 e2 h1 h2 h3 st
    subst h1; subst h2; subst h3
    exact Or.inl ⟨v, (T.setVm vm₁).calling g' mk (Value.ref b :: As).toArray, t, U', L, hT, X', hL, e1, e2, hq, st⟩
  · dsimp only [Pt.U, Pt.locs, Pt.cells, Pt.slots] at X' e1 e2 h1 h2 h3 st hcl
    subst h1; subst h2; subst h3
    exact Or.inr ⟨q, (T.setVm vm₁).calling g' mk (Value.ref b :: As).toArray, t, U', L, E, ce, hT, X', hL, e1, e2, hq, hce, hcv, vx_cls hW₁ hcl, st⟩
theorem vx_runS (S : CallFix p m c cc nL s args Ts own) (hM : vx_Met l y ws rm Pc Qc XC mc ms free) (cw : CallB R s args own index y bytes maxL ret ws rm mc ms n ∧ (Cond.static y).before args s = true) (hp : PreS s H Pc As)
    (hg : g.method = m) (hn : As.length = n) (hsize : g.locals.size = nL) (hstack : g.stack = As.reverse ++ rest) (hW : 2 * g.monitorRoom + (rest.map fun v => v.category).sum ≤ 8) (hdg : decode cc g.pc = .ok (.invokestatic index, 3)) (hf : cells + mc ≤ R.cells ∧ slots + ms ≤ R.slots) :
    vx_Run p l e R s m args below meth c H locs cells slots mc ms g rest (Qc As.toArray) XC free := by
  have hK : vx_Back l R p e below s args y 3 8 (PreOf R mc ms Pc) (PostOf Qc mc ms free) (vx_Post XC mc ms free) := vx_callBack cw.1 hM hp.1
  obtain ⟨⟨-, -, -, -, -, -, hcode, hini, hy, hlen, hl⟩, hstt⟩ := cw
  obtain ⟨hx, hb, hml, ho, -⟩ := S
  intro T hT X
  rcases vx_callS X hx (bytes := bytes) (maxL := maxL) (ret := ret) ho hl hstt hini hcode hy hK hg (hsize.trans hml.symm) (argsL := As) (rest := rest) (fun sig h => hn.trans (hlen sig h)) hstack hW (by rw [hb]; exact hdg)
    (fun vm₁ hW₁ => ⟨hf.1, hf.2, hp.2 (T.setVm vm₁) hT hW₁⟩) with ⟨v, vm₁, ⟨U', l2, c2, s2⟩, hW₁, X', ⟨g', mk, t, L, e1, e2, hq, h1, hL, h2, h3⟩, st⟩ | ⟨q, vm₁, ⟨U', l2, c2, s2⟩, hW₁, X', ⟨g', mk, t, L, E, ce, e1, e2, hq, hce, hcv, hcl, h1, hL, h2, h3⟩, st⟩
  · dsimp only [Pt.U, Pt.locs, Pt.cells, Pt.slots] at X' e1 e2 h1 h2 h3 st
    subst h1; subst h2; subst h3
    exact Or.inl ⟨v, (T.setVm vm₁).calling g' mk As.toArray, t, U', L, hT, X', hL, e1, e2, hq, st⟩
  · dsimp only [Pt.U, Pt.locs, Pt.cells, Pt.slots] at X' e1 e2 h1 h2 h3 st hcl
    subst h1; subst h2; subst h3
    exact Or.inr ⟨q, (T.setVm vm₁).calling g' mk As.toArray, t, U', L, E, ce, hT, X', hL, e1, e2, hq, hce, hcv, vx_cls hW₁ hcl, st⟩
end Runs
section Rows
variable {p : Program} {l : Launch} {e : Env} {R : Room} {s : State} {m : MethodId} {args : Array Value} {below : List Frame} {meth : Method} {c : Code} {H : Heap} {locs : List Loc} {cells slots : Nat} {Q : State → Prop}
variable {mc ms : Nat} {free : Addr → Prop} {A0 A1 : Nat → Prop} {H0 : Heap} {a : Array Value} {pc : Nat} {ls : Array Slot} {st0 rest : List Value}
theorem vx_keep {st₀ t T' : State} {L : List Loc} (h0 : st₀.heap = H) (e1 : T'.heap = t.heap) (hS : va_S A0 H0 H locs) (hA : ∀ q, q < H.size → A1 q → A0 q) (hf : ∀ q, free q → A0 q) (hL : ∀ q ∈ L, free q.base) (hF : va_F A1 st₀ t) :
    H.size ≤ T'.heap.size ∧ (∀ q : Nat, q < H.size → ¬ A1 q → T'.heap[q]? = H[q]?) ∧ va_S A0 H0 T'.heap (locs ++ L) := by
  obtain ⟨hz, hk⟩ := hF
  rw [h0] at hz hk
  exact ⟨by rw [e1]; exact hz, fun q h1 h2 => by rw [e1]; exact hk q h1 h2,
    ⟨Nat.le_trans hS.1 (by rw [e1]; exact hz), fun q h1 h2 => by rw [e1, hk q (Nat.lt_of_lt_of_le h1 hS.1) (fun z => h2 (hA q (Nat.lt_of_lt_of_le h1 hS.1) z))]; exact hS.2.1 q h1 h2, fun q hq => by
      rcases List.mem_append.mp hq with h | h
      · exact hS.2.2 q h
      · exact hf _ (hL q h)⟩⟩
theorem vx_calli {S SX : Type} {post : Int32 → S → Prop} {px : SX → Prop} {B : S → State → Prop} {BX : String → SX → State → Prop} {AX : Nat → Prop} (hr : vx_Run p l e R s m args below meth c H locs cells slots mc ms (F0 m pc ls st0) rest (va_Qi post B A1 a) (vx_X px BX AX) free) (hS : va_S A0 H0 H locs) (hA : ∀ q, q < H.size → A1 q → A0 q) (hf : ∀ q, free q → A0 q) (hAX : ∀ q, q < H.size → AX q → A0 q)
    (kx : ∀ (E : String) (ce : Cell) (q9 : Addr) (u : SX) (t : State) (H1 : Heap) (locs1 : List Loc), t.heap = H1 → s.vm.Alike t.vm → px u → BX E u t → H.size ≤ H1.size → (∀ q : Nat, q < H.size → ¬ AX q → H1[q]? = H[q]?) → va_S A0 H0 H1 locs1 → H1[q9]? = some ce → ce.vm = .none → s.vm.findClass E = some ce.cls → vx_W p l e R s m args below meth c H1 locs1 (cells + mc) (slots + ms) Q (F0 m pc ls rest) q9)
    (kk : ∀ (r : Int32) (u : S) (t : State) (H1 : Heap) (locs1 : List Loc), t.heap = H1 → s.vm.Alike t.vm → post r u → B u t → H.size ≤ H1.size → (∀ q : Nat, q < H.size → ¬ A1 q → H1[q]? = H[q]?) → va_S A0 H0 H1 locs1 → W p l e R s m args below meth c H1 locs1 (cells + mc) (slots + ms) Q (F0 m (pc + 3) ls (.int r :: rest))) : W p l e R s m args below meth c H locs cells slots Q (F0 m pc ls st0) := by
  intro T hT X
  rcases hr T hT X with ⟨v, st₀, t, T', L, h0, X', hL, e1, e2, ⟨⟨r, u, hv, hp, hb⟩, hF⟩, st⟩ | ⟨q, st₀, t, T', L, E, ce, h0, X', hL, e1, e2, ⟨u, hp, hb, hF⟩, hce, hcv, hcl, st⟩
  · cases hv
    obtain ⟨k1, k2, k3⟩ := vx_keep h0 e1 hS hA hf hL hF
    obtain ⟨t2, a1, b1⟩ := kk r u t T'.heap (locs ++ L) e1.symm (by rw [← e2]; exact X'.warmed.alike) hp hb k1 k2 k3 T' rfl X'
    exact ⟨t2, st t2 a1, b1⟩
  · obtain ⟨k1, k2, k3⟩ := vx_keep h0 e1 hS hAX hf hL hF
    obtain ⟨t2, a1, b1⟩ := kx E ce q u t T'.heap (locs ++ L) e1.symm (by rw [← e2]; exact X'.warmed.alike) hp hb k1 k2 k3 (by rw [e1]; exact hce) hcv hcl T' rfl X'
    exact ⟨t2, st.trans a1, b1⟩
theorem vx_calll {S SX : Type} {post : Int64 → S → Prop} {px : SX → Prop} {B : S → State → Prop} {BX : String → SX → State → Prop} {AX : Nat → Prop} (hr : vx_Run p l e R s m args below meth c H locs cells slots mc ms (F0 m pc ls st0) rest (va_Ql post B A1 a) (vx_X px BX AX) free) (hS : va_S A0 H0 H locs) (hA : ∀ q, q < H.size → A1 q → A0 q) (hf : ∀ q, free q → A0 q) (hAX : ∀ q, q < H.size → AX q → A0 q)
    (kx : ∀ (E : String) (ce : Cell) (q9 : Addr) (u : SX) (t : State) (H1 : Heap) (locs1 : List Loc), t.heap = H1 → s.vm.Alike t.vm → px u → BX E u t → H.size ≤ H1.size → (∀ q : Nat, q < H.size → ¬ AX q → H1[q]? = H[q]?) → va_S A0 H0 H1 locs1 → H1[q9]? = some ce → ce.vm = .none → s.vm.findClass E = some ce.cls → vx_W p l e R s m args below meth c H1 locs1 (cells + mc) (slots + ms) Q (F0 m pc ls rest) q9)
    (kk : ∀ (r : Int64) (u : S) (t : State) (H1 : Heap) (locs1 : List Loc), t.heap = H1 → s.vm.Alike t.vm → post r u → B u t → H.size ≤ H1.size → (∀ q : Nat, q < H.size → ¬ A1 q → H1[q]? = H[q]?) → va_S A0 H0 H1 locs1 → W p l e R s m args below meth c H1 locs1 (cells + mc) (slots + ms) Q (F0 m (pc + 3) ls (.long r :: rest))) : W p l e R s m args below meth c H locs cells slots Q (F0 m pc ls st0) := by
  intro T hT X
  rcases hr T hT X with ⟨v, st₀, t, T', L, h0, X', hL, e1, e2, ⟨⟨r, u, hv, hp, hb⟩, hF⟩, st⟩ | ⟨q, st₀, t, T', L, E, ce, h0, X', hL, e1, e2, ⟨u, hp, hb, hF⟩, hce, hcv, hcl, st⟩
  · cases hv
    obtain ⟨k1, k2, k3⟩ := vx_keep h0 e1 hS hA hf hL hF
    obtain ⟨t2, a1, b1⟩ := kk r u t T'.heap (locs ++ L) e1.symm (by rw [← e2]; exact X'.warmed.alike) hp hb k1 k2 k3 T' rfl X'
    exact ⟨t2, st t2 a1, b1⟩
  · obtain ⟨k1, k2, k3⟩ := vx_keep h0 e1 hS hAX hf hL hF
    obtain ⟨t2, a1, b1⟩ := kx E ce q u t T'.heap (locs ++ L) e1.symm (by rw [← e2]; exact X'.warmed.alike) hp hb k1 k2 k3 (by rw [e1]; exact hce) hcv hcl T' rfl X'
    exact ⟨t2, st.trans a1, b1⟩
theorem vx_callf {S SX : Type} {post : UInt32 → S → Prop} {px : SX → Prop} {B : S → State → Prop} {BX : String → SX → State → Prop} {AX : Nat → Prop} (hr : vx_Run p l e R s m args below meth c H locs cells slots mc ms (F0 m pc ls st0) rest (va_Qf post B A1 a) (vx_X px BX AX) free) (hS : va_S A0 H0 H locs) (hA : ∀ q, q < H.size → A1 q → A0 q) (hf : ∀ q, free q → A0 q) (hAX : ∀ q, q < H.size → AX q → A0 q)
    (kx : ∀ (E : String) (ce : Cell) (q9 : Addr) (u : SX) (t : State) (H1 : Heap) (locs1 : List Loc), t.heap = H1 → s.vm.Alike t.vm → px u → BX E u t → H.size ≤ H1.size → (∀ q : Nat, q < H.size → ¬ AX q → H1[q]? = H[q]?) → va_S A0 H0 H1 locs1 → H1[q9]? = some ce → ce.vm = .none → s.vm.findClass E = some ce.cls → vx_W p l e R s m args below meth c H1 locs1 (cells + mc) (slots + ms) Q (F0 m pc ls rest) q9)
    (kk : ∀ (r : UInt32) (u : S) (t : State) (H1 : Heap) (locs1 : List Loc), t.heap = H1 → s.vm.Alike t.vm → post r u → B u t → H.size ≤ H1.size → (∀ q : Nat, q < H.size → ¬ A1 q → H1[q]? = H[q]?) → va_S A0 H0 H1 locs1 → W p l e R s m args below meth c H1 locs1 (cells + mc) (slots + ms) Q (F0 m (pc + 3) ls (.float r :: rest))) : W p l e R s m args below meth c H locs cells slots Q (F0 m pc ls st0) := by
  intro T hT X
  rcases hr T hT X with ⟨v, st₀, t, T', L, h0, X', hL, e1, e2, ⟨⟨r, u, hv, hp, hb⟩, hF⟩, st⟩ | ⟨q, st₀, t, T', L, E, ce, h0, X', hL, e1, e2, ⟨u, hp, hb, hF⟩, hce, hcv, hcl, st⟩
  · cases hv
    obtain ⟨k1, k2, k3⟩ := vx_keep h0 e1 hS hA hf hL hF
    obtain ⟨t2, a1, b1⟩ := kk r u t T'.heap (locs ++ L) e1.symm (by rw [← e2]; exact X'.warmed.alike) hp hb k1 k2 k3 T' rfl X'
    exact ⟨t2, st t2 a1, b1⟩
  · obtain ⟨k1, k2, k3⟩ := vx_keep h0 e1 hS hAX hf hL hF
    obtain ⟨t2, a1, b1⟩ := kx E ce q u t T'.heap (locs ++ L) e1.symm (by rw [← e2]; exact X'.warmed.alike) hp hb k1 k2 k3 (by rw [e1]; exact hce) hcv hcl T' rfl X'
    exact ⟨t2, st.trans a1, b1⟩
theorem vx_calld {S SX : Type} {post : UInt64 → S → Prop} {px : SX → Prop} {B : S → State → Prop} {BX : String → SX → State → Prop} {AX : Nat → Prop} (hr : vx_Run p l e R s m args below meth c H locs cells slots mc ms (F0 m pc ls st0) rest (va_Qd post B A1 a) (vx_X px BX AX) free) (hS : va_S A0 H0 H locs) (hA : ∀ q, q < H.size → A1 q → A0 q) (hf : ∀ q, free q → A0 q) (hAX : ∀ q, q < H.size → AX q → A0 q)
    (kx : ∀ (E : String) (ce : Cell) (q9 : Addr) (u : SX) (t : State) (H1 : Heap) (locs1 : List Loc), t.heap = H1 → s.vm.Alike t.vm → px u → BX E u t → H.size ≤ H1.size → (∀ q : Nat, q < H.size → ¬ AX q → H1[q]? = H[q]?) → va_S A0 H0 H1 locs1 → H1[q9]? = some ce → ce.vm = .none → s.vm.findClass E = some ce.cls → vx_W p l e R s m args below meth c H1 locs1 (cells + mc) (slots + ms) Q (F0 m pc ls rest) q9)
    (kk : ∀ (r : UInt64) (u : S) (t : State) (H1 : Heap) (locs1 : List Loc), t.heap = H1 → s.vm.Alike t.vm → post r u → B u t → H.size ≤ H1.size → (∀ q : Nat, q < H.size → ¬ A1 q → H1[q]? = H[q]?) → va_S A0 H0 H1 locs1 → W p l e R s m args below meth c H1 locs1 (cells + mc) (slots + ms) Q (F0 m (pc + 3) ls (.double r :: rest))) : W p l e R s m args below meth c H locs cells slots Q (F0 m pc ls st0) := by
  intro T hT X
  rcases hr T hT X with ⟨v, st₀, t, T', L, h0, X', hL, e1, e2, ⟨⟨r, u, hv, hp, hb⟩, hF⟩, st⟩ | ⟨q, st₀, t, T', L, E, ce, h0, X', hL, e1, e2, ⟨u, hp, hb, hF⟩, hce, hcv, hcl, st⟩
  · cases hv
    obtain ⟨k1, k2, k3⟩ := vx_keep h0 e1 hS hA hf hL hF
    obtain ⟨t2, a1, b1⟩ := kk r u t T'.heap (locs ++ L) e1.symm (by rw [← e2]; exact X'.warmed.alike) hp hb k1 k2 k3 T' rfl X'
    exact ⟨t2, st t2 a1, b1⟩
  · obtain ⟨k1, k2, k3⟩ := vx_keep h0 e1 hS hAX hf hL hF
    obtain ⟨t2, a1, b1⟩ := kx E ce q u t T'.heap (locs ++ L) e1.symm (by rw [← e2]; exact X'.warmed.alike) hp hb k1 k2 k3 (by rw [e1]; exact hce) hcv hcl T' rfl X'
    exact ⟨t2, st.trans a1, b1⟩
theorem vx_callv {S SX : Type} {post : S → Prop} {px : SX → Prop} {B : S → State → Prop} {BX : String → SX → State → Prop} {AX : Nat → Prop} (hr : vx_Run p l e R s m args below meth c H locs cells slots mc ms (F0 m pc ls st0) rest (va_Qv post B A1 a) (vx_X px BX AX) free) (hS : va_S A0 H0 H locs) (hA : ∀ q, q < H.size → A1 q → A0 q) (hf : ∀ q, free q → A0 q) (hAX : ∀ q, q < H.size → AX q → A0 q)
    (kx : ∀ (E : String) (ce : Cell) (q9 : Addr) (u : SX) (t : State) (H1 : Heap) (locs1 : List Loc), t.heap = H1 → s.vm.Alike t.vm → px u → BX E u t → H.size ≤ H1.size → (∀ q : Nat, q < H.size → ¬ AX q → H1[q]? = H[q]?) → va_S A0 H0 H1 locs1 → H1[q9]? = some ce → ce.vm = .none → s.vm.findClass E = some ce.cls → vx_W p l e R s m args below meth c H1 locs1 (cells + mc) (slots + ms) Q (F0 m pc ls rest) q9)
    (kk : ∀ (u : S) (t : State) (H1 : Heap) (locs1 : List Loc), t.heap = H1 → s.vm.Alike t.vm → post u → B u t → H.size ≤ H1.size → (∀ q : Nat, q < H.size → ¬ A1 q → H1[q]? = H[q]?) → va_S A0 H0 H1 locs1 → W p l e R s m args below meth c H1 locs1 (cells + mc) (slots + ms) Q (F0 m (pc + 3) ls (rest))) : W p l e R s m args below meth c H locs cells slots Q (F0 m pc ls st0) := by
  intro T hT X
  rcases hr T hT X with ⟨v, st₀, t, T', L, h0, X', hL, e1, e2, ⟨⟨u, hv, hp, hb⟩, hF⟩, st⟩ | ⟨q, st₀, t, T', L, E, ce, h0, X', hL, e1, e2, ⟨u, hp, hb, hF⟩, hce, hcv, hcl, st⟩
  · cases hv
    obtain ⟨k1, k2, k3⟩ := vx_keep h0 e1 hS hA hf hL hF
    obtain ⟨t2, a1, b1⟩ := kk u t T'.heap (locs ++ L) e1.symm (by rw [← e2]; exact X'.warmed.alike) hp hb k1 k2 k3 T' rfl X'
    exact ⟨t2, st t2 a1, b1⟩
  · obtain ⟨k1, k2, k3⟩ := vx_keep h0 e1 hS hAX hf hL hF
    obtain ⟨t2, a1, b1⟩ := kx E ce q u t T'.heap (locs ++ L) e1.symm (by rw [← e2]; exact X'.warmed.alike) hp hb k1 k2 k3 (by rw [e1]; exact hce) hcv hcl T' rfl X'
    exact ⟨t2, st.trans a1, b1⟩
/-- caught by the row x of this method's table; the rows ahead don't take it -/
theorem vx_catch {own name : String} {E : String} {ce : Cell} {q : Addr} (hown : s.vm.findClass own = some m.cls) (pre : List ExceptionTableEntry) (x : ExceptionTableEntry) (suf : List ExceptionTableEntry) (hsplit : c.exceptionTable.toList = pre ++ x :: suf)
    (hpass : ∀ z ∈ pre, covers z pc = false ∨ (z.catchType ≠ 0 ∧ ∃ nm : String, (Cond.classLink own z.catchType nm).before args s = true ∧ va_Nc E nm s)) (hx : covers x pc = true) (h0 : x.catchType ≠ 0)
    (hlink : (Cond.classLink own x.catchType name).before args s = true) (hcast : (Cond.castable E name).before args s = true) (hcell : H[q]? = some ce) (hv : ce.vm = .none) (hcl : s.vm.findClass E = some ce.cls)
    (kk : W p l e R s m args below meth c H locs cells slots Q (F0 m x.handlerPc ls [.ref q])) : vx_W p l e R s m args below meth c H locs cells slots Q (F0 m pc ls rest) q := by
  intro T hT X
  have hpl : e.platform.magicAccessors = ({} : Platform).magicAccessors := by rw [X.admits.platform]
  obtain ⟨c3, c4, hc3, hc4, hasg⟩ := Cond.castable_spec hcast
  cases Option.some.inj (hc3.symm.trans hcl)
  obtain ⟨c5, hc5, hcl5⟩ := Cond.classLink_spec hown hlink e.platform hpl
  cases Option.some.inj (hc4.symm.trans hc5)
  obtain ⟨vm', X', st⟩ := X.thenCaughtThrough q (g := F0 m pc ls rest) rfl (Steps.refl _) (by rw [hT]; exact hcell) (by rw [hv]; rfl) (by obtain ⟨k9, h9, -⟩ := Vm.findClass_spec hcl; exact ⟨k9, h9⟩) pre x suf hsplit
    (fun z hz => by
      rcases hpass z hz with h | ⟨hz0, nm, hl1, hn1⟩
      · exact Or.inl h
      · obtain ⟨c6, hc6, hcl6⟩ := Cond.classLink_spec hown hl1 e.platform hpl
        obtain ⟨a8, b8, h1, h2, h3⟩ := hn1
        cases Option.some.inj (h1.symm.trans hcl)
        cases Option.some.inj (h2.symm.trans hc6)
        exact Or.inr ⟨hz0, _, hcl6, h3⟩) hx (Or.inr ⟨h0, c4, hcl5, hasg⟩)
  obtain ⟨t, a1, b1⟩ := kk (T.setVm vm') hT X'
  exact ⟨t, st.trans a1, b1⟩
end Rows
section Ends
variable {p : Program} {l : Launch} {e : Env} {R : Room} {s : State} {m : MethodId} {args : Array Value} {below : List Frame} {meth : Method} {c : Code} {H : Heap} {locs : List Loc} {cells slots : Nat} {Q : State → Prop}
variable {mc ms : Nat} {free : Addr → Prop} {A0 A1 : Nat → Prop} {H0 : Heap} {a : Array Value} {ls : Array Slot} {st0 rest : List Value}
variable {Qc : Array Value → State → Outcome → State → Prop} {XC : String → State → State → Prop}
/-- what a body that may throw owes at its end -/
def vx_MQ (below : List Frame) (Qc : Array Value → State → Outcome → State → Prop) (XC : String → State → State → Prop) (a : Array Value) (s : State) (mc ms : Nat) (free : Addr → Prop) : State → Prop := fun t =>
  ∃ o, t.status = .running ∧ Ended t below o ∧ vx_Q Qc XC mc ms free a s o t
theorem vx_ret {g : JFrame} {mc ms : Nat} (k : W p l e R s m args below meth c H locs cells slots (MQ below Qc args s mc ms free) g) : W p l e R s m args below meth c H locs cells slots (vx_MQ below Qc XC args s mc ms free) g := by
  intro T hT X
  obtain ⟨t, a1, o, b1, b2, b3, b4⟩ := k T hT X
  exact ⟨t, a1, o, b1, b2, Or.inl ⟨b3, b4⟩⟩
/-- not caught here: it goes on to the caller -/
theorem vx_widen {g : JFrame} {q : Addr} {k n : Nat} (h1 : cells ≤ k) (h2 : slots ≤ n) (kk : vx_W p l e R s m args below meth c H locs k n Q g q) : vx_W p l e R s m args below meth c H locs cells slots Q g q := fun T hT X => kk T hT (stand_widen X h1 h2)
theorem vx_out {pc : Nat} {E : String} {ce : Cell} {q : Addr} {mc ms : Nat} (hout : ∀ x ∈ c.exceptionTable.toList, covers x pc = false) (hlocks : meth.locks = false) (hcell : H[q]? = some ce) (hv : ce.vm = .none) (hcl : s.vm.findClass E = some ce.cls)
    (hx : ∀ t : State, t.heap = H → s.vm.Alike t.vm → XC E s t) (hf : ∀ z ∈ locs, free z.base) (hc : cells ≤ mc) (hs : slots ≤ ms) :
    vx_W p l e R s m args below meth c H locs cells slots (vx_MQ below Qc XC args s mc ms free) (F0 m pc ls rest) q := by
  intro T hT X
  obtain ⟨st1, hrun, hend, hW, hsm⟩ := X.leaveThrown q (g := F0 m pc ls rest) rfl rfl rfl hout hlocks
  have hcell9 : (T.setFrames (.throwing q :: below)).heap[q]? = some ce := by
    show T.heap[q]? = some ce
    rw [hT]; exact hcell
  exact ⟨_, st1, .threw q, hrun, hend, Or.inr ⟨q, rfl, E, ce, locs, hx _ hT hW.alike, hcell9, hv, hcl, hW, hsm.mono hc hs, hf⟩⟩
theorem vx_frame {U : State} {k n : Nat} (h : s.sameButNew ({ U with vm := s.vm } : State) locs k n) : s.heap.size ≤ U.heap.size ∧ ∀ q : Nat, q < s.heap.size → (∀ z ∈ locs, z.base ≠ q) → U.heap[q]? = s.heap[q]? := by
  obtain ⟨-, h2, -, -, -, h6⟩ := h
  refine ⟨h2, fun q hq hz => ?_⟩
  obtain ⟨c9, e1, e2, e3, e4⟩ := h6 q _ (Array.getElem?_eq_getElem hq)
  have hs : c9.slots = (s.heap[q]).slots := Array.ext_getElem? fun i => e4 i fun hm => hz _ hm rfl
  have h9 : c9 = s.heap[q] := by
    rw [hs] at e2
    exact e2
  have e5 : U.heap[q]? = some c9 := e1
  rw [e5, h9, Array.getElem?_eq_getElem hq]
/-- the words of a throw but the four that speak of the heap -/
def vx_no (w : Cond) : Bool := decide (w ≠ .isRef (.static Bundle.tN "UNASSIGNED_STACK" Bundle.steD)) && decide (w ≠ .isRef (.static Bundle.tN "SUPPRESSED_SENTINEL" Bundle.listD)) && decide (w ≠ .laysStatic Bundle.tN "UNASSIGNED_STACK" Bundle.steD) && decide (w ≠ .laysStatic Bundle.tN "SUPPRESSED_SENTINEL" Bundle.listD)
def vx_at0 (own : String) (ic : Nat) (X : String) (names : List String) : List Cond := (Bundle.ownAtoms0 own ic X names).filter vx_no
def vx_atS (own : String) (ic : Nat) (X : String) (names : List String) : List Cond := (Bundle.ownAtoms own ic X names).filter vx_no
/-- a word that the tables alone decide, or a good one -/
def vx_ot (w : Cond) : Bool := w.onTables || goodWord w
theorem vx_ot_at {args a' : Array Value} {s U : State} {w : Cond} (hW : s.WarmedH U.vm) (hvm : s.vm = U.vm) (hg : vx_ot w = true) (h : w.before args s = true) : w.before a' U = true := by
  simp only [vx_ot, Bool.or_eq_true] at hg
  rcases hg with hg | hg
  · exact va_tabs hg hvm h
  · exact word_at hW (good_of_word hg) h
/-- a list's words: the good ones out of the method's own list, the others by premises of their own -/
theorem vx_hat {args : Array Value} {s : State} {L B : List Cond} (h1 : ∀ w ∈ L.filter goodWord, w.before args s = true) (h2 : ∀ w ∈ L.filter (fun w => !goodWord w), w ∈ B) (h3 : ∀ w ∈ B, w.before args s = true) : ∀ w ∈ L, w.before args s = true := by
  intro w hw
  by_cases g : goodWord w = true
  · exact h1 w (List.mem_filter.mpr ⟨hw, g⟩)
  · refine h3 w (h2 w (List.mem_filter.mpr ⟨hw, ?_⟩))
    show (!goodWord w) = true
    cases hgw : goodWord w
    · rfl
    · exact absurd hgw g
theorem vx_c {args : Array Value} {s : State} {w : Cond} {B : List Cond} (h : w.before args s = true) (t : ∀ w ∈ B, w.before args s = true) : ∀ w' ∈ w :: B, w'.before args s = true := fun w' h' => (List.mem_cons.mp h').elim (fun e => by rw [e]; exact h) (t w')
theorem vx_n {args : Array Value} {s : State} : ∀ w ∈ ([] : List Cond), w.before args s = true := fun _ h => nomatch h
theorem vx_own {args : Array Value} {s : State} {L : List Cond} (h1 : ∀ w ∈ L.filter vx_no, w.before args s = true)
    (hU : (Cond.isRef (.static Bundle.tN "UNASSIGNED_STACK" Bundle.steD)).before args s = true) (hN : (Cond.isRef (.static Bundle.tN "SUPPRESSED_SENTINEL" Bundle.listD)).before args s = true)
    (lU : (Cond.laysStatic Bundle.tN "UNASSIGNED_STACK" Bundle.steD).before args s = true) (lN : (Cond.laysStatic Bundle.tN "SUPPRESSED_SENTINEL" Bundle.listD).before args s = true) : ∀ w ∈ L, w.before args s = true := by
  intro w hw
  by_cases e1 : w = .isRef (.static Bundle.tN "UNASSIGNED_STACK" Bundle.steD)
  · rw [e1]; exact hU
  · by_cases e2 : w = .isRef (.static Bundle.tN "SUPPRESSED_SENTINEL" Bundle.listD)
    · rw [e2]; exact hN
    · by_cases e3 : w = .laysStatic Bundle.tN "UNASSIGNED_STACK" Bundle.steD
      · rw [e3]; exact lU
      · by_cases e4 : w = .laysStatic Bundle.tN "SUPPRESSED_SENTINEL" Bundle.listD
        · rw [e4]; exact lN
        · exact h1 w (List.mem_filter.mpr ⟨hw, by unfold vx_no; rw [decide_eq_true e1, decide_eq_true e2, decide_eq_true e3, decide_eq_true e4]; rfl⟩)
/-- where a static field lies, its class's statics cell in H -/
def vx_L (C n d : String) (A : Nat → Prop) (U : State) (H : Heap) : Prop := ∃ (c : ClassId) (k : Class) (i : Nat) (f : Field) (a : Nat) (cell : Cell), U.vm.findClass C = some c ∧ U.fieldFound? C n d = some (c, k, i, f) ∧ f.isStatic = true ∧ k.statics = some a ∧ H[a]? = some cell ∧ cell.vm.isStatics = true ∧ cell.cls = c ∧ f.slot < cell.slots.size ∧ k.staticTypes[f.slot]? = some f.type ∧ ¬ A a
theorem vx_L.moved {C n d : String} {A : Nat → Prop} {u U : State} {H : Heap} (hvm : u.vm.Alike U.vm) (h : vx_L C n d A u H) : vx_L C n d A U H := by
  obtain ⟨c, k, i, f, a, cell, h1, h2, h3, h4, h5, h6, h7, h8, h9, h10⟩ := h
  obtain ⟨k', hi', he⟩ := State.fieldFound?_setVm hvm h2
  exact ⟨c, k', i, f, a, cell, by rw [hvm.findClass]; exact h1, hi', h3, by rw [he]; exact h4, h5, h6, h7, h8, by rw [he]; exact h9, h10⟩
theorem vx_L.kept {C n d : String} {A : Nat → Prop} {U : State} {H H1 : Heap} (h : vx_L C n d A U H) (hq : ∀ a : Nat, a < H.size → ¬ A a → H1[a]? = H[a]?) : vx_L C n d A U H1 := by
  obtain ⟨c, k, i, f, a, cell, h1, h2, h3, h4, h5, h6, h7, h8, h9, h10⟩ := h
  exact ⟨c, k, i, f, a, cell, h1, h2, h3, h4, by rw [hq a (Array.getElem?_eq_some_iff.mp h5).1 h10]; exact h5, h6, h7, h8, h9, h10⟩
theorem vx_L.narrow {C n d : String} {A B : Nat → Prop} {U : State} {H : Heap} (h : vx_L C n d A U H) (hAB : ∀ q, B q → A q) : vx_L C n d B U H := by
  obtain ⟨c, k, i, f, a, cell, h1, h2, h3, h4, h5, h6, h7, h8, h9, h10⟩ := h
  exact ⟨c, k, i, f, a, cell, h1, h2, h3, h4, h5, h6, h7, h8, h9, fun z => h10 (hAB _ z)⟩
theorem vx_L.word {C n d : String} {A : Nat → Prop} {s : State} {args : Array Value} (h : vx_L C n d A s s.heap) : (Cond.laysStatic C n d).before args s = true := by
  obtain ⟨c, k, i, f, a, cell, h1, h2, h3, h4, h5, h6, h7, h8, h9, -⟩ := h
  show (Cond.laysStatic C n d).holds args s none s [] = true
  exact Cond.laysStatic_of h1 h2 h3 h4 h5 h6 h7 h8 h9
/-- .. and what it holds: null or some reference -/
def vx_Zq (C n d : String) (A : Nat → Prop) (U : State) (H : Heap) : Prop := va_Zq C n d A U H ∧ vx_L C n d A U H
theorem vx_Zq.moved {C n d : String} {A : Nat → Prop} {u U : State} {H : Heap} (hvm : u.vm.Alike U.vm) (h : vx_Zq C n d A u H) : vx_Zq C n d A U H := ⟨va_Zq.moved hvm h.1, vx_L.moved hvm h.2⟩
theorem vx_Zq.kept {C n d : String} {A : Nat → Prop} {U : State} {H H1 : Heap} (h : vx_Zq C n d A U H) (hq : ∀ a : Nat, a < H.size → ¬ A a → H1[a]? = H[a]?) : vx_Zq C n d A U H1 := ⟨va_Zq.kept h.1 hq, vx_L.kept h.2 hq⟩
theorem vx_Zq.narrow {C n d : String} {A B : Nat → Prop} {U : State} {H : Heap} (h : vx_Zq C n d A U H) (hAB : ∀ q, B q → A q) : vx_Zq C n d B U H := ⟨va_Zq.narrow h.1 hAB, vx_L.narrow h.2 hAB⟩
theorem vx_Zqof {args : Array Value} {s : State} {C n d : String} {A : Nat → Prop} (hl : (Cond.laysStatic C n d).before args s = true) (hini : (Cond.initialized C).before args s = true) (h : (Cond.isRef (.static C n d)).before args s = true) (hA : ∀ a : Nat, a < s.heap.size → ¬ A a) : vx_Zq C n d A s s.heap := by
  refine ⟨va_Zqof hl hini h hA, ?_⟩
  obtain ⟨c, k, i, f, a, cell, h1, h2, h3, h4, h5, h6, h7, h8, h9⟩ := Cond.laysStatic_spec hl
  exact ⟨c, k, i, f, a, cell, h1, h2, h3, h4, h5, h6, h7, h8, h9, hA a (Array.getElem?_eq_some_iff.mp h5).1⟩
theorem vx_isRef {C n d : String} {v : Value} {A : Nat → Prop} {s : State} {args : Array Value} (h : va_Z C n d v A s s.heap) (hv : v.isRef = true) : (Cond.isRef (.static C n d)).before args s = true := by
  obtain ⟨cf, kf, fi, f, a, cell, h1, h2, h3, h4, h5, h6, h7, -⟩ := h
  have he : (Term.static C n d).eval args s none [] s = some v := by
    simp [Term.eval, State.fieldNamed?, h1, h2, h4, h5, h6, h7]
  simp only [Cond.before, Cond.holds, Cond.value, he]
  cases v <;> simp_all [Value.isRef]
theorem vx_isRefq {C n d : String} {A : Nat → Prop} {s : State} {args : Array Value} (h : va_Zq C n d A s s.heap) : (Cond.isRef (.static C n d)).before args s = true := by
  rcases h with h | ⟨t, h⟩
  · exact vx_isRef h rfl
  · exact vx_isRef h rfl
/-- the same frame, seen from here: as if the method were called anew in this heap -/
theorem vx_rebase {T : State} (X : Stand p l e R s m args below meth c T locs cells slots) {R' : Room} (hf : R'.frames ≤ R.frames) (hl : R'.locals ≤ R.locals) (hc : cells + R'.cells ≤ R.cells) (hs : slots + R'.slots ≤ R.slots) :
    Stand p l e R' ((T.setVm s.vm).setFrames (.invoking m args :: below)) m args below meth c T [] 0 0 := by
  have htop : (T.setVm s.vm).topJava?.isSome := X.here.top
  have hF : ((T.setVm s.vm).setFrames (.invoking m args :: below)).frames = .invoking m args :: below := State.frames_setFrames _ (State.cur_lt_of_top htop)
  obtain ⟨g₀, hg0⟩ := Option.isSome_iff_exists.mp htop
  obtain ⟨r, hr⟩ := State.topJava?_eq_some.mp hg0
  have hl9 : e.platform.stackLimits (T.setVm s.vm).me = e.platform.stackLimits s.me := X.limits
  have hb9 : (T.setVm s.vm).me.stackBytes = s.me.stackBytes := X.bytes
  refine ⟨X.admits, X.cas, X.clock, hF, ?_, X.hears, X.method, X.code, X.here, X.tail, X.warmed, ?_, ?_, ?_⟩
  · have h := X.room
    have hU : ((T.setVm s.vm).setFrames (.invoking m args :: below)).localsInUse = s.localsInUse := by
      rw [State.localsInUse_invoking hF (meth := meth) (c := c) X.method X.code, State.localsInUse_invoking X.frames X.method X.code]
    simp only [State.hasRoom, Bool.and_eq_true, decide_eq_true_eq] at h ⊢
    obtain ⟨⟨⟨⟨h1, h2, h3, h4, h5, h6⟩, h7⟩, h8⟩, h9⟩ := h
    rw [X.frames, List.length_cons] at h2 h3
    have q1 := X.heapSize
    have q2 := X.used
    simp only [hF, hU, List.length_cons, State.stackLimits_setFrames, State.stackBytes_setFrames, hl9, hb9]
    refine ⟨⟨⟨⟨by omega, by omega, by omega, by omega, by omega, h6⟩, ?_⟩, ?_⟩, X.book⟩
    · show T.heap.size + R'.cells ≤ e.platform.maxCells
      omega
    · show T.slotsUsed + R'.slots ≤ e.platform.maxSlots
      omega
  · rw [State.stackLimits_setFrames]; rfl
  · rw [State.stackBytes_setFrames]; rfl
  · refine ⟨?_, Nat.le_refl _, Nat.le_refl _, ?_, ?_, fun a c9 h9 => ⟨c9, h9, rfl, rfl, fun _ _ => rfl⟩⟩
    · obtain ⟨t, ht, -⟩ := State.frames_cons hr
      show T.setVm s.vm = { ((T.setVm s.vm).setFrames (.invoking m args :: below)).setFrames (T.setVm s.vm).frames with heap := T.heap, slotsUsed := T.slotsUsed }
      rw [State.setFrames_setFrames, State.setFrames_self ht]
      rfl
    · show T.slotsUsed = T.slotsUsed + ((T.heap.toList.drop T.heap.size).map (·.slots.size)).sum
      rw [List.drop_eq_nil_of_le (Nat.le_of_eq Array.length_toList)]
      rfl
    · show ((T.heap.toList.drop T.heap.size).map (·.slots.size)).sum ≤ 0
      rw [List.drop_eq_nil_of_le (Nat.le_of_eq Array.length_toList)]
      exact Nat.le_refl _
/-- 'throw new E()': new; dup; invokespecial; athrow -/
theorem vx_throw0 {cc : ByteArray} {pc : Nat} (hexec : p.tables.exec = Jvm.exec) (hb : c.code = cc) (hl : l.stackTraces = false) {own cls : String} {names : List String} {ik ic mc ms : Nat} {A : Nat → Prop}
    (hown : s.vm.findClass own = some m.cls) (hcls : Bundle.fit cls = true) (hnames : ∀ n ∈ names, Bundle.fit n = true)
    (hk : (Cond.classLink own ik cls).before args s = true) (hini : (Cond.initialized cls).before args s = true) (hat : ∀ w ∈ vx_at0 own ic cls names, w.before args s = true)
    (hgood : ∀ w ∈ Cond.classLink own ik cls :: Cond.initialized cls :: vx_at0 own ic cls names, vx_ot w = true)
    (hU : vx_Zq Bundle.tN "UNASSIGNED_STACK" Bundle.steD A s s.heap) (hN : vx_Zq Bundle.tN "SUPPRESSED_SENTINEL" Bundle.listD A s s.heap) (hS : va_S A s.heap H locs) (hsize : ls.size = c.maxLocals)
    (d0 : decode cc pc = .ok (.new ik, 3)) (d3 : decode cc (pc + 3) = .ok (.dup, 1)) (d4 : decode cc (pc + 4) = .ok (.invokespecial ic, 3)) (d7 : decode cc (pc + 7) = .ok (.athrow, 1))
    (hout : ∀ x ∈ c.exceptionTable.toList, covers x (pc + 7) = false)
    (hRframes : names.length + 3 < R.frames) (hRlocals : (rest.map fun v => v.category).sum + (13 * (names.length + 1) + 42) ≤ R.locals) (hRcells : cells + 1 ≤ R.cells) (hRslots : slots + 6 ≤ R.slots) (hlocks : meth.locks = false)
    (hx : ∀ t : State, s.vm.Alike t.vm → H.size ≤ t.heap.size → (∀ q : Nat, q < H.size → t.heap[q]? = H[q]?) → XC cls s t)
    (hf : ∀ z ∈ locs, free z.base) (hc : cells + 1 ≤ mc) (hs : slots + 6 ≤ ms) :
    W p l e R s m args below meth c H locs cells slots (vx_MQ below Qc XC args s mc ms free) (F0 m pc ls rest) := by
  intro T hT X
  have htr : e.platform.stackTraces = false := (show e.platform.stackTraces = l.stackTraces by rw [X.admits.platform]).trans hl
  have Y := vx_rebase X (R' := { frames := R.frames, locals := R.locals, cells := 1, slots := 6 }) (Nat.le_refl _) (Nat.le_refl _) hRcells hRslots
  obtain ⟨s', hA⟩ : ∃ z, z = (T.setVm s.vm).setFrames (.invoking m args :: below) := ⟨_, rfl⟩
  rw [← hA] at Y
  have hvm : s'.vm = s.vm := by rw [hA]; rfl
  have hhp : s'.heap = H := by rw [hA]; exact hT
  have hW0 : s.WarmedH s'.vm := by rw [hvm]; exact State.WarmedH.refl s
  have hat' : ∀ w ∈ vx_at0 own ic cls names, w.before args s' = true := fun w hw => vx_ot_at hW0 hvm.symm (hgood w (List.mem_cons_of_mem _ (List.mem_cons_of_mem _ hw))) (hat w hw)
  have hk' : (Cond.classLink own ik cls).before args s' = true := vx_ot_at hW0 hvm.symm (hgood _ List.mem_cons_self) hk
  have hini' : (Cond.initialized cls).before args s' = true := vx_ot_at hW0 hvm.symm (hgood _ (List.mem_cons_of_mem _ List.mem_cons_self)) hini
  have hU' : vx_Zq Bundle.tN "UNASSIGNED_STACK" Bundle.steD A s' s'.heap := by rw [hhp]; exact vx_Zq.moved hW0.alike (hU.kept hS.2.1)
  have hN' : vx_Zq Bundle.tN "SUPPRESSED_SENTINEL" Bundle.listD A s' s'.heap := by rw [hhp]; exact vx_Zq.moved hW0.alike (hN.kept hS.2.1)
  have h : ∀ w ∈ Bundle.ownAtoms0 own ic cls names, w.before args s' = true := vx_own hat' (vx_isRefq hU'.1) (vx_isRefq hN'.1) hU'.2.word hN'.2.word
  have hown' : s'.vm.findClass own = some m.cls := by rw [hvm]; exact hown
  have hins : (Cond.instantiable cls 6).before args s' = true := h _ (by simp [Bundle.ownAtoms0])
  obtain ⟨vm₁, cX, kX, hfX, hkX, -, -, X₁, st1⟩ := Y.newCold hexec (own := own) (C := cls) (index := ik) (n := 6) hown' hk' hins hini'
    (g := F0 m pc ls rest) rfl (by rw [hb]; exact d0) (Nat.le_refl _) (Nat.le_refl _)
  generalize hT1 : (T.setVm vm₁).pushCell { cls := cX, slots := kX.instanceTypes.map defaultValue, vm := .none } = T1 at X₁ st1
  have hcat : (Value.ref T.heap.size).category = 1 := rfl
  have hcellA : T1.heap[T.heap.size]? = some (freshCell cX kX) := by rw [← hT1]; exact State.heap_pushCell_size _ _
  have d3' : decode c.code (pc + 3) = .ok (.dup, 1) := by rw [hb]; exact d3
  obtain ⟨U, hsteps, hrun, hend, hW, hsame, ce, hce, hO⟩ := X₁.ctorThrow0 hexec htr (own := own) (cls := cls) (names := names) (ic := ic) hown' hcls hnames h (fun x hx => nomatch hx) hfX hkX hcellA (by rw [hhp, hT]; exact Nat.le_refl _)
    (g := { method := m, pc := pc + 4, locals := ls, stack := .ref T.heap.size :: .ref T.heap.size :: rest, locked := none }) rfl hsize rfl rfl (rest := rest) rfl
    (by rw [hb]; exact d4) (by rw [hb]; exact d7) hout hRframes (by simp only [List.map_cons, List.sum_cons, hcat]; omega) hlocks
  obtain ⟨f1, f2⟩ := vx_frame hsame
  rw [hhp] at f1 f2
  have hWs : s.WarmedH U.vm := State.WarmedH.trans hW0 hW
  have hcl : s.vm.findClass cls = some ce.cls := by
    have h9 := hO.cls
    rw [hvm] at h9
    exact h9
  have hall : s.sameButNew ({ U with vm := s.vm } : State) locs mc ms := by
    subst hA
    obtain ⟨e1, e2⟩ := hsame
    rw [State.setFrames_setFrames] at e1
    have h2 : (T.setVm s.vm).sameButNew ({ U with vm := s.vm } : State) [] (0 + 1) (0 + 6) := ⟨e1, e2⟩
    have h3 := X.same.trans h2
    rw [List.append_nil] at h3
    exact h3.mono hc hs
  refine ⟨U, ?_, .threw T.heap.size, hrun, hend, Or.inr ⟨T.heap.size, rfl, cls, ce, locs, hx U hWs.alike f1 (fun q hq => f2 q hq (fun z hz => nomatch hz)), hce, hO.vm, hcl, hWs, hall, hf⟩⟩
  refine st1 _ ?_
  show Steps p.tables e below (T1.setTop { method := m, pc := pc + 3, locals := ls, stack := .ref T.heap.size :: rest, locked := none }) _
  jvm_step X₁.here [X₁.here.top, hexec, d3', Value.category]
  exact hsteps
/-- 'throw new E("text")': new; dup; ldc; invokespecial; athrow -/
theorem vx_throwS {cc : ByteArray} {pc : Nat} (hexec : p.tables.exec = Jvm.exec) (hb : c.code = cc) (hl : l.stackTraces = false) {own cls text : String} {names : List String} {ik is ic mc ms sa : Nat} {A : Nat → Prop}
    (hown : s.vm.findClass own = some m.cls) (hcls : Bundle.fit cls = true) (hnames : ∀ n ∈ names, Bundle.fit n = true)
    (hk : (Cond.classLink own ik cls).before args s = true) (hini : (Cond.initialized cls).before args s = true) (hstr : vk_R own is text sa s) (hat : ∀ w ∈ vx_atS own ic cls names, w.before args s = true)
    (hgood : ∀ w ∈ Cond.classLink own ik cls :: Cond.initialized cls :: vx_atS own ic cls names, vx_ot w = true)
    (hU : vx_Zq Bundle.tN "UNASSIGNED_STACK" Bundle.steD A s s.heap) (hN : vx_Zq Bundle.tN "SUPPRESSED_SENTINEL" Bundle.listD A s s.heap) (hS : va_S A s.heap H locs) (hsize : ls.size = c.maxLocals)
    (d0 : decode cc pc = .ok (.new ik, 3)) (d3 : decode cc (pc + 3) = .ok (.dup, 1)) (d4 : decode cc (pc + 4) = .ok (.ldc is, 2)) (d6 : decode cc (pc + 6) = .ok (.invokespecial ic, 3)) (d9 : decode cc (pc + 9) = .ok (.athrow, 1))
    (hout : ∀ x ∈ c.exceptionTable.toList, covers x (pc + 9) = false)
    (hRframes : names.length + 3 < R.frames) (hRlocals : (rest.map fun v => v.category).sum + (13 * (names.length + 1) + 43) ≤ R.locals) (hRcells : cells + 1 ≤ R.cells) (hRslots : slots + 6 ≤ R.slots) (hlocks : meth.locks = false)
    (hx : ∀ t : State, s.vm.Alike t.vm → H.size ≤ t.heap.size → (∀ q : Nat, q < H.size → t.heap[q]? = H[q]?) → XC cls s t)
    (hf : ∀ z ∈ locs, free z.base) (hc : cells + 1 ≤ mc) (hs : slots + 6 ≤ ms) :
    W p l e R s m args below meth c H locs cells slots (vx_MQ below Qc XC args s mc ms free) (F0 m pc ls rest) := by
  intro T hT X
  have htr : e.platform.stackTraces = false := (show e.platform.stackTraces = l.stackTraces by rw [X.admits.platform]).trans hl
  have Y := vx_rebase X (R' := { frames := R.frames, locals := R.locals, cells := 1, slots := 6 }) (Nat.le_refl _) (Nat.le_refl _) hRcells hRslots
  obtain ⟨s', hA⟩ : ∃ z, z = (T.setVm s.vm).setFrames (.invoking m args :: below) := ⟨_, rfl⟩
  rw [← hA] at Y
  have hvm : s'.vm = s.vm := by rw [hA]; rfl
  have hhp : s'.heap = H := by rw [hA]; exact hT
  have hW0 : s.WarmedH s'.vm := by rw [hvm]; exact State.WarmedH.refl s
  have hat' : ∀ w ∈ vx_atS own ic cls names, w.before args s' = true := fun w hw => vx_ot_at hW0 hvm.symm (hgood w (List.mem_cons_of_mem _ (List.mem_cons_of_mem _ hw))) (hat w hw)
  have hk' : (Cond.classLink own ik cls).before args s' = true := vx_ot_at hW0 hvm.symm (hgood _ List.mem_cons_self) hk
  have hini' : (Cond.initialized cls).before args s' = true := vx_ot_at hW0 hvm.symm (hgood _ (List.mem_cons_of_mem _ List.mem_cons_self)) hini
  have hU' : vx_Zq Bundle.tN "UNASSIGNED_STACK" Bundle.steD A s' s'.heap := by rw [hhp]; exact vx_Zq.moved hW0.alike (hU.kept hS.2.1)
  have hN' : vx_Zq Bundle.tN "SUPPRESSED_SENTINEL" Bundle.listD A s' s'.heap := by rw [hhp]; exact vx_Zq.moved hW0.alike (hN.kept hS.2.1)
  have h : ∀ w ∈ Bundle.ownAtoms own ic cls names, w.before args s' = true := vx_own hat' (vx_isRefq hU'.1) (vx_isRefq hN'.1) hU'.2.word hN'.2.word
  have hown' : s'.vm.findClass own = some m.cls := by rw [hvm]; exact hown
  have hins : (Cond.instantiable cls 6).before args s' = true := h _ (by simp [Bundle.ownAtoms])
  obtain ⟨vm₁, cX, kX, hfX, hkX, -, -, X₁, st1⟩ := Y.newCold hexec (own := own) (C := cls) (index := ik) (n := 6) hown' hk' hins hini'
    (g := F0 m pc ls rest) rfl (by rw [hb]; exact d0) (Nat.le_refl _) (Nat.le_refl _)
  generalize hT1 : (T.setVm vm₁).pushCell { cls := cX, slots := kX.instanceTypes.map defaultValue, vm := .none } = T1 at X₁ st1
  have hcat : (Value.ref T.heap.size).category = 1 := rfl
  have hcellA : T1.heap[T.heap.size]? = some (freshCell cX kX) := by rw [← hT1]; exact State.heap_pushCell_size _ _
  have d3' : decode c.code (pc + 3) = .ok (.dup, 1) := by rw [hb]; exact d3
  have d4' : decode c.code (pc + 4) = .ok (.ldc is, 2) := by rw [hb]; exact d4
  have hstr' : vk_R own is text sa s' := vk_R.warm hW0 hstr
  obtain ⟨U, hsteps, hrun, hend, hW, hsame, ce, hce, hO⟩ := X₁.ctorThrowS hexec htr (own := own) (cls := cls) (names := names) (ic := ic) hown' hcls hnames h (fun x hx => nomatch hx) hfX hkX hcellA (by rw [hhp, hT]; exact Nat.le_refl _) (msg := .ref sa) rfl
    (g := { method := m, pc := pc + 6, locals := ls, stack := .ref sa :: .ref T.heap.size :: .ref T.heap.size :: rest, locked := none }) rfl hsize rfl rfl (rest := rest) rfl
    (by rw [hb]; exact d6) (by rw [hb]; exact d9) hout hRframes (by simp only [List.map_cons, List.sum_cons, hcat]; omega) hlocks
  obtain ⟨f1, f2⟩ := vx_frame hsame
  rw [hhp] at f1 f2
  have hWs : s.WarmedH U.vm := State.WarmedH.trans hW0 hW
  have hcl : s.vm.findClass cls = some ce.cls := by
    have h9 := hO.cls
    rw [hvm] at h9
    exact h9
  have hall : s.sameButNew ({ U with vm := s.vm } : State) locs mc ms := by
    subst hA
    obtain ⟨e1, e2⟩ := hsame
    rw [State.setFrames_setFrames] at e1
    have h2 : (T.setVm s.vm).sameButNew ({ U with vm := s.vm } : State) [] (0 + 1) (0 + 6) := ⟨e1, e2⟩
    have h3 := X.same.trans h2
    rw [List.append_nil] at h3
    exact h3.mono hc hs
  refine ⟨U, ?_, .threw T.heap.size, hrun, hend, Or.inr ⟨T.heap.size, rfl, cls, ce, locs, hx U hWs.alike f1 (fun q hq => f2 q hq (fun z hz => nomatch hz)), hce, hO.vm, hcl, hWs, hall, hf⟩⟩
  refine st1 _ ?_
  show Steps p.tables e below (T1.setTop { method := m, pc := pc + 3, locals := ls, stack := .ref T.heap.size :: rest, locked := none }) _
  jvm_step X₁.here [X₁.here.top, hexec, d3', Value.category]
  exact X₁.ldcString hexec (own := own) (text := text) (index := is) (a := sa) hown' hstr'.1 hstr'.2
    (g := { method := m, pc := pc + 4, locals := ls, stack := .ref T.heap.size :: .ref T.heap.size :: rest, locked := none }) rfl d4' _ hsteps
/-- 'throw new E("text")', the text by a wide index -/
theorem vx_throwSW {cc : ByteArray} {pc : Nat} (hexec : p.tables.exec = Jvm.exec) (hb : c.code = cc) (hl : l.stackTraces = false) {own cls text : String} {names : List String} {ik is ic mc ms sa : Nat} {A : Nat → Prop}
    (hown : s.vm.findClass own = some m.cls) (hcls : Bundle.fit cls = true) (hnames : ∀ n ∈ names, Bundle.fit n = true)
    (hk : (Cond.classLink own ik cls).before args s = true) (hini : (Cond.initialized cls).before args s = true) (hstr : vk_R own is text sa s) (hat : ∀ w ∈ vx_atS own ic cls names, w.before args s = true)
    (hgood : ∀ w ∈ Cond.classLink own ik cls :: Cond.initialized cls :: vx_atS own ic cls names, vx_ot w = true)
    (hU : vx_Zq Bundle.tN "UNASSIGNED_STACK" Bundle.steD A s s.heap) (hN : vx_Zq Bundle.tN "SUPPRESSED_SENTINEL" Bundle.listD A s s.heap) (hS : va_S A s.heap H locs) (hsize : ls.size = c.maxLocals)
    (d0 : decode cc pc = .ok (.new ik, 3)) (d3 : decode cc (pc + 3) = .ok (.dup, 1)) (d4 : decode cc (pc + 4) = .ok (.ldc_w is, 3)) (d7 : decode cc (pc + 7) = .ok (.invokespecial ic, 3)) (d10 : decode cc (pc + 10) = .ok (.athrow, 1))
    (hout : ∀ x ∈ c.exceptionTable.toList, covers x (pc + 10) = false)
    (hRframes : names.length + 3 < R.frames) (hRlocals : (rest.map fun v => v.category).sum + (13 * (names.length + 1) + 43) ≤ R.locals) (hRcells : cells + 1 ≤ R.cells) (hRslots : slots + 6 ≤ R.slots) (hlocks : meth.locks = false)
    (hx : ∀ t : State, s.vm.Alike t.vm → H.size ≤ t.heap.size → (∀ q : Nat, q < H.size → t.heap[q]? = H[q]?) → XC cls s t)
    (hf : ∀ z ∈ locs, free z.base) (hc : cells + 1 ≤ mc) (hs : slots + 6 ≤ ms) :
    W p l e R s m args below meth c H locs cells slots (vx_MQ below Qc XC args s mc ms free) (F0 m pc ls rest) := by
  intro T hT X
  have htr : e.platform.stackTraces = false := (show e.platform.stackTraces = l.stackTraces by rw [X.admits.platform]).trans hl
  have Y := vx_rebase X (R' := { frames := R.frames, locals := R.locals, cells := 1, slots := 6 }) (Nat.le_refl _) (Nat.le_refl _) hRcells hRslots
  obtain ⟨s', hA⟩ : ∃ z, z = (T.setVm s.vm).setFrames (.invoking m args :: below) := ⟨_, rfl⟩
  rw [← hA] at Y
  have hvm : s'.vm = s.vm := by rw [hA]; rfl
  have hhp : s'.heap = H := by rw [hA]; exact hT
  have hW0 : s.WarmedH s'.vm := by rw [hvm]; exact State.WarmedH.refl s
  have hat' : ∀ w ∈ vx_atS own ic cls names, w.before args s' = true := fun w hw => vx_ot_at hW0 hvm.symm (hgood w (List.mem_cons_of_mem _ (List.mem_cons_of_mem _ hw))) (hat w hw)
  have hk' : (Cond.classLink own ik cls).before args s' = true := vx_ot_at hW0 hvm.symm (hgood _ List.mem_cons_self) hk
  have hini' : (Cond.initialized cls).before args s' = true := vx_ot_at hW0 hvm.symm (hgood _ (List.mem_cons_of_mem _ List.mem_cons_self)) hini
  have hU' : vx_Zq Bundle.tN "UNASSIGNED_STACK" Bundle.steD A s' s'.heap := by rw [hhp]; exact vx_Zq.moved hW0.alike (hU.kept hS.2.1)
  have hN' : vx_Zq Bundle.tN "SUPPRESSED_SENTINEL" Bundle.listD A s' s'.heap := by rw [hhp]; exact vx_Zq.moved hW0.alike (hN.kept hS.2.1)
  have h : ∀ w ∈ Bundle.ownAtoms own ic cls names, w.before args s' = true := vx_own hat' (vx_isRefq hU'.1) (vx_isRefq hN'.1) hU'.2.word hN'.2.word
  have hown' : s'.vm.findClass own = some m.cls := by rw [hvm]; exact hown
  have hins : (Cond.instantiable cls 6).before args s' = true := h _ (by simp [Bundle.ownAtoms])
  obtain ⟨vm₁, cX, kX, hfX, hkX, -, -, X₁, st1⟩ := Y.newCold hexec (own := own) (C := cls) (index := ik) (n := 6) hown' hk' hins hini'
    (g := F0 m pc ls rest) rfl (by rw [hb]; exact d0) (Nat.le_refl _) (Nat.le_refl _)
  generalize hT1 : (T.setVm vm₁).pushCell { cls := cX, slots := kX.instanceTypes.map defaultValue, vm := .none } = T1 at X₁ st1
  have hcat : (Value.ref T.heap.size).category = 1 := rfl
  have hcellA : T1.heap[T.heap.size]? = some (freshCell cX kX) := by rw [← hT1]; exact State.heap_pushCell_size _ _
  have d3' : decode c.code (pc + 3) = .ok (.dup, 1) := by rw [hb]; exact d3
  have d4' : decode c.code (pc + 4) = .ok (.ldc_w is, 3) := by rw [hb]; exact d4
  have hstr' : vk_R own is text sa s' := vk_R.warm hW0 hstr
  obtain ⟨U, hsteps, hrun, hend, hW, hsame, ce, hce, hO⟩ := X₁.ctorThrowS hexec htr (own := own) (cls := cls) (names := names) (ic := ic) hown' hcls hnames h (fun x hx => nomatch hx) hfX hkX hcellA (by rw [hhp, hT]; exact Nat.le_refl _) (msg := .ref sa) rfl
    (g := { method := m, pc := pc + 7, locals := ls, stack := .ref sa :: .ref T.heap.size :: .ref T.heap.size :: rest, locked := none }) rfl hsize rfl rfl (rest := rest) rfl
    (by rw [hb]; exact d7) (by rw [hb]; exact d10) hout hRframes (by simp only [List.map_cons, List.sum_cons, hcat]; omega) hlocks
  obtain ⟨f1, f2⟩ := vx_frame hsame
  rw [hhp] at f1 f2
  have hWs : s.WarmedH U.vm := State.WarmedH.trans hW0 hW
  have hcl : s.vm.findClass cls = some ce.cls := by
    have h9 := hO.cls
    rw [hvm] at h9
    exact h9
  have hall : s.sameButNew ({ U with vm := s.vm } : State) locs mc ms := by
    subst hA
    obtain ⟨e1, e2⟩ := hsame
    rw [State.setFrames_setFrames] at e1
    have h2 : (T.setVm s.vm).sameButNew ({ U with vm := s.vm } : State) [] (0 + 1) (0 + 6) := ⟨e1, e2⟩
    have h3 := X.same.trans h2
    rw [List.append_nil] at h3
    exact h3.mono hc hs
  refine ⟨U, ?_, .threw T.heap.size, hrun, hend, Or.inr ⟨T.heap.size, rfl, cls, ce, locs, hx U hWs.alike f1 (fun q hq => f2 q hq (fun z hz => nomatch hz)), hce, hO.vm, hcl, hWs, hall, hf⟩⟩
  refine st1 _ ?_
  show Steps p.tables e below (T1.setTop { method := m, pc := pc + 3, locals := ls, stack := .ref T.heap.size :: rest, locked := none }) _
  jvm_step X₁.here [X₁.here.top, hexec, d3', Value.category]
  exact X₁.ldcStringW hexec (own := own) (text := text) (index := is) (a := sa) hown' hstr'.1 hstr'.2
    (g := { method := m, pc := pc + 4, locals := ls, stack := .ref T.heap.size :: .ref T.heap.size :: rest, locked := none }) rfl d4' _ hsteps
end Ends
section Bodies
variable {l : Launch}
theorem vx_ofW {y : MethodName} {ws ws' : List Cond} {rm : Room} {Pc : Array Value → State → Prop} {Qc : Array Value → State → Outcome → State → Prop} {XC : String → State → State → Prop} {mc ms : Nat} {free : Addr → Prop} {cc : ByteArray} {maxL : Nat} {ret : Option FieldType}
    (hy : plainName y.cls = true) (hw : ws = Cond.code y cc maxL ret :: ws')
    (body : ∀ p e s m args below meth c s₁, BodyLoose p l y (headSpec ws rm) cc maxL ret e s m args below meth c s₁ → c.maxLocals = maxL → (∀ x ∈ c.exceptionTable.toList, False) → Pc args s →
      W p l e (headSpec ws rm).room s m args below meth c s.heap [] 0 0 (vx_MQ below Qc XC args s mc ms free) (entryFrame m args maxL)) : vx_Met l y ws rm Pc Qc XC mc ms free := by
  refine MetFree.of_bodyS (code := cc) (maxLocals := maxL) (ret := ret) hy ?_ ?_
  · intro args s m h hn
    obtain ⟨meth, c, h1, h2, h3, h4, h5, h6, -, -⟩ := Cond.code_spec hn (atoms_spec (ws := ws) h _ (by rw [hw]; exact List.mem_cons_self))
    exact ⟨meth, c, h1, h2, h3, h4, h5, h6⟩
  · intro p e s m args below meth c s₁ B hml hP _
    have hh0 : s₁.heap = s.heap := by rw [B.state]; rfl
    have ht : ∀ x ∈ c.exceptionTable.toList, False := by
      obtain ⟨meth9, c9, h1, h2, -, -, -, -, h7, -⟩ := Cond.code_spec B.named (atoms_spec (ws := ws) B.pre _ (by rw [hw]; exact List.mem_cons_self))
      cases Option.some.inj (h1.symm.trans B.method)
      cases Option.some.inj (h2.symm.trans (Stand.of_body B).code)
      intro x hx
      rw [Array.isEmpty_iff.mp h7] at hx
      cases hx
    obtain ⟨t, a1, o, b1, b2, b3⟩ := body p e s m args below meth c s₁ B hml ht hP s₁ hh0 (Stand.of_body B)
    exact ⟨t, o, a1, b1, b2, b3⟩
/-- the table of a body with handlers -/
theorem vx_table {p : Program} {x y : MethodName} {S : Spec} {cc bytes : ByteArray} {maxL maxL' : Nat} {ret ret' : Option FieldType} {e : Env} {s s₁ : State} {m : MethodId} {args : Array Value} {below : List Frame} {meth : Method} {c : Code} {hh : List (Nat × Nat × Nat × Nat)}
    (B : BodyLoose p l y S cc maxL ret e s m args below meth c s₁) (h : (Cond.codeWith y bytes maxL' ret' hh).before args s = true) : c.exceptionTable.toList = tableOf hh := by
  obtain ⟨m9, meth9, c9, hn9, h1, h2, -, -, h6, -⟩ := Cond.codeWith_spec h
  cases Option.some.inj (hn9.symm.trans B.named)
  cases Option.some.inj (h1.symm.trans B.method)
  cases Option.some.inj (h2.symm.trans (Stand.of_body B).code)
  rw [← h6, table_eq]
end Bodies
end VXA
/-! ===== END ===== -/
/-! ===== BEGIN a static call of a method with an exception table ===== -/
section VXS
variable {p : Program} {l : Launch} {e : Env} {R : Room} {s : State} {m : MethodId} {args : Array Value} {below : List Frame} {meth : Method} {c : Code} {T : State} {H : Heap} {locs : List Loc} {cells slots : Nat}
abbrev vx_CSW (R : Room) (s : State) (args : Array Value) (own : String) (index : Nat) (y : MethodName) (bytes : ByteArray) (maxL : Nat) (ret : Option FieldType) (hh : List (Nat × Nat × Nat × Nat)) (ws : List Cond) (rm : Room) (mc ms n : Nat) : Prop :=
  (rm.cells = mc ∧ rm.slots = ms ∧ rm.frames + 1 ≤ R.frames ∧ 8 + (maxL + 11) + rm.locals ≤ R.locals ∧ (∀ w ∈ ws, ∀ (a' : Array Value) (U : State), s.WarmedH U.vm → w.before a' U = true) ∧ Cond.codeWith y bytes maxL ret hh ∈ ws) ∧
  (Cond.codeWith y bytes maxL ret hh).before args s = true ∧ (Cond.initialized y.cls).before args s = true ∧ (y.cls ≠ "java/lang/invoke/MethodHandle" ∧ y.cls ≠ "java/lang/invoke/VarHandle") ∧
  (∀ sig, parseMethodDescriptor y.desc = some sig → n = sig.parameters.length) ∧ (Cond.methodLink own index y).before args s = true ∧ (Cond.static y).before args s = true
theorem vx_cwSW {own : String} {index maxL mc ms : Nat} {y : MethodName} {bytes : ByteArray} {ret : Option FieldType} {hh : List (Nat × Nat × Nat × Nat)} {Ts ws ws' : List Cond} {rm : Room} (n : Nat) (ht : ∀ w ∈ Ts, w.before args s = true) (hT : GoodIn Ts (va_wsS own index y ws)) (hw : ws = Cond.codeWith y bytes maxL ret hh :: ws') (hrc : rm.cells = mc) (hrs : rm.slots = ms)
    (hd : y.cls ≠ "java/lang/invoke/MethodHandle" ∧ y.cls ≠ "java/lang/invoke/VarHandle" ∧ (parseMethodDescriptor y.desc).map (fun d => d.parameters.length) = some n) (hR : rm.frames + 1 ≤ R.frames ∧ 8 + (maxL + 11) + rm.locals ≤ R.locals) :
    vx_CSW R s args own index y bytes maxL ret hh ws rm mc ms n := by
  have ok : ∀ w ∈ va_wsS own index y ws, w.before args s = true := fun w h => ht w (hT w h).1
  have hG : GoodIn Ts ws := fun w h => hT w (by unfold va_wsS; exact List.mem_append_right _ h)
  have hc : Cond.codeWith y bytes maxL ret hh ∈ ws := by rw [hw]; exact List.mem_cons_self
  refine ⟨⟨hrc, hrs, hR.1, hR.2, pay_in ht hG, hc⟩, ht _ (hG _ hc).1, ok _ (by simp [va_wsS]), ⟨hd.1, hd.2.1⟩, fun sig h => ?_, ok _ (by simp [va_wsS]), ok _ (by simp [va_wsS])⟩
  have h2 := hd.2.2
  rw [h] at h2
  exact (Option.some.inj h2).symm
theorem vx_callSW (X : Stand p l e R s m args below meth c T locs cells slots) (hexec : p.tables.exec = Jvm.exec) {own : String} {index : Nat} {y : MethodName} {bytes : ByteArray} {maxL : Nat} {ret : Option FieldType} {hh : List (Nat × Nat × Nat × Nat)}
    (hown : s.vm.findClass own = some m.cls) (hlink : (Cond.methodLink own index y).before args s = true) (hstat : (Cond.static y).before args s = true) (hinit : (Cond.initialized y.cls).before args s = true)
    (hcode : (Cond.codeWith y bytes maxL ret hh).before args s = true) (hy : y.cls ≠ "java/lang/invoke/MethodHandle" ∧ y.cls ≠ "java/lang/invoke/VarHandle")
    {W9 : Nat} {Pre : Pt → Array Value → Prop} {Post : Pt → Array Value → Option Value → Pt → Prop} (hK : Back l R p e below s args y 3 W9 Pre Post)
    {g : JFrame} (hg : g.method = m) (hsize : g.locals.size = c.maxLocals) {argsL rest : List Value} (hlen : ∀ sig, parseMethodDescriptor y.desc = some sig → argsL.length = sig.parameters.length)
    (hstack : g.stack = argsL.reverse ++ rest) (hW : 2 * g.monitorRoom + (rest.map fun v => v.category).sum ≤ W9) (hdg : decode c.code g.pc = .ok (.invokestatic index, 3))
    (hpre : ∀ vm₁, s.WarmedH vm₁ → Pre ⟨T.setVm vm₁, locs, cells, slots⟩ argsL.toArray) :
    ∃ (v : Option Value) (vm₁ : Vm) (B : Pt), s.WarmedH vm₁ ∧ Stand p l e R s m args below meth c B.U B.locs B.cells B.slots ∧ Post ⟨T.setVm vm₁, locs, cells, slots⟩ argsL.toArray v B ∧
      ∀ target, Steps p.tables e below (B.U.setTop { g with pc := g.pc + 3, stack := v.toList ++ rest }) target → Steps p.tables e below (T.setTop g) target := by
  obtain ⟨mk, methM, cM, hnamed, hmethM, -, -, -, -, -, -, hsigM⟩ := Cond.codeWith_spec hcode
  have hstatic : methM.isStatic = true := Cond.static_spec hnamed hmethM hstat
  obtain ⟨kP, hkP, -⟩ := className_of_methodNamed hnamed
  have hinitP : kP.init = .initialized := Cond.initialized_spec (findClass_of_methodNamed hnamed) hkP hinit
  obtain ⟨vm₁, X₁, hstep₁⟩ := X.invokestatic hexec hown hlink hnamed hmethM hstatic hkP hinitP hy (g := g) hg (argsL := argsL) (rest := rest) (hlen _ hsigM) hstack hdg
  obtain ⟨v, B, X', hpost, hsteps⟩ := hK m meth c ⟨T.setVm vm₁, locs, cells, slots⟩ { g with stack := rest } (.invokestatic index) mk argsL.toArray X₁ hg hsize hdg hW (X₁.named hnamed) (hpre vm₁ X₁.warmed)
  exact ⟨v, vm₁, B, X₁.warmed, X', hpost, fun target h => hstep₁ _ fun acts => by rw [doInvoke_state]; exact hsteps.trans h⟩
theorem vx_runSW {y : MethodName} {bytes cc : ByteArray} {maxL nL mc ms n index : Nat} {ret : Option FieldType} {hh : List (Nat × Nat × Nat × Nat)} {ws : List Cond} {rm : Room} {Pc : Array Value → State → Prop} {Qc : Array Value → State → Outcome → State → Prop} {free : Addr → Prop} {Ts : List Cond} {own : String} {As rest : List Value} {g : JFrame}
    (S : CallFix p m c cc nL s args Ts own) (hM : Met l y ws rm Pc Qc mc ms free) (cw : vx_CSW R s args own index y bytes maxL ret hh ws rm mc ms n) (hp : PreS s H Pc As)
    (hg : g.method = m) (hn : As.length = n) (hsize : g.locals.size = nL) (hstack : g.stack = As.reverse ++ rest) (hW : 2 * g.monitorRoom + (rest.map fun v => v.category).sum ≤ 8) (hdg : decode cc g.pc = .ok (.invokestatic index, 3)) (hf : cells + mc ≤ R.cells ∧ slots + ms ≤ R.slots) :
    va_Run p l e R s m args below meth c H locs cells slots mc ms g rest (Qc As.toArray) (free) := by
  obtain ⟨⟨hrc, hrs, hfr, hlo, hws, hcw⟩, hcode, hini, hy, hlen, hl, hstt⟩ := cw
  have hK : Back l R p e below s args y 3 8 (PreOf R mc ms Pc) (PostOf Qc mc ms free) := va_backW (hh := hh) (bytes := bytes) (maxL := maxL) (ret := ret) hM hp.1 hrc hrs hfr hlo hws hcw (fun a' U hW => word_at hW (Or.inl (by first | rfl | simp [Cond.onTables, Cond.keeps, Cond.steady])) hini)
  obtain ⟨hx, hb, hml, ho, -⟩ := S
  intro T hT X
  obtain ⟨v, vm₁, ⟨U', l2, c2, s2⟩, hW₁, X', ⟨g', mk, t, L, e1, e2, hq, h1, hL, h2, h3⟩, st⟩ := vx_callSW X hx (hh := hh) (bytes := bytes) (maxL := maxL) (ret := ret) ho hl hstt hini hcode hy hK hg (hsize.trans hml.symm) (argsL := As) (rest := rest) (fun sig h => hn.trans (hlen sig h)) hstack hW (by rw [hb]; exact hdg)
    (fun vm₁ hW₁ => ⟨hf.1, hf.2, hp.2 (T.setVm vm₁) hT hW₁⟩)
  dsimp only [Pt.U, Pt.locs, Pt.cells, Pt.slots] at X' e1 e2 h1 h2 h3 st
  subst h1; subst h2; subst h3
  exact ⟨v, (T.setVm vm₁).calling g' mk As.toArray, t, U', L, hT, X', hL, e1, e2, hq, st⟩
/-- not caught here, past rows that name other classes: it goes on to the caller -/
theorem vx_outP {p : Program} {l : Launch} {e : Env} {R : Room} {s : State} {m : MethodId} {args : Array Value} {below : List Frame} {meth : Method} {c : Code} {H : Heap} {locs : List Loc} {cells slots : Nat} {free : Addr → Prop} {ls : Array Slot} {rest : List Value} {Qc : Array Value → State → Outcome → State → Prop} {XC : String → State → State → Prop}
    {pc : Nat} {own E : String} {ce : Cell} {q : Addr} {mc ms : Nat} (hown : s.vm.findClass own = some m.cls) (hlocks : meth.locks = false)
    (hpass : ∀ z ∈ c.exceptionTable.toList, covers z pc = false ∨ (z.catchType ≠ 0 ∧ ∃ nm : String, (Cond.classLink own z.catchType nm).before args s = true ∧ va_Nc E nm s)) (hcell : H[q]? = some ce) (hv : ce.vm = .none) (hcl : s.vm.findClass E = some ce.cls)
    (hx : ∀ t : State, t.heap = H → s.vm.Alike t.vm → XC E s t) (hf : ∀ z ∈ locs, free z.base) (hc : cells ≤ mc) (hs : slots ≤ ms) :
    vx_W p l e R s m args below meth c H locs cells slots (vx_MQ below Qc XC args s mc ms free) (F0 m pc ls rest) q := by
  intro T hT X
  have hpl : e.platform.magicAccessors = ({} : Platform).magicAccessors := by rw [X.admits.platform]
  obtain ⟨vm', hW', X', st⟩ := X.outThrough hlocks q (g := F0 m pc ls rest) rfl rfl rfl (cell := ce) (by rw [hT]; exact hcell) (by rw [hv]; rfl)
    (by obtain ⟨k9, h9, -⟩ := Vm.findClass_spec hcl; exact ⟨k9, h9⟩) (fun z hz => by
      rcases hpass z hz with h | ⟨hz0, nm, hl1, hn1⟩
      · exact Or.inl h
      · obtain ⟨c6, hc6, hcl6⟩ := Cond.classLink_spec hown hl1 e.platform hpl
        obtain ⟨a8, b8, h1, h2, h3⟩ := hn1
        cases Option.some.inj (h1.symm.trans hcl)
        cases Option.some.inj (h2.symm.trans hc6)
        exact Or.inr ⟨hz0, _, hcl6, h3⟩)
  obtain ⟨g₀, hfr⟩ := X'.frames_eq
  have hcell9 : ((T.setVm vm').setFrames (.throwing q :: below)).heap[q]? = some ce := by
    show T.heap[q]? = some ce
    rw [hT]; exact hcell
  have hend : Ended ((T.setVm vm').setFrames (.throwing q :: below)) below (.threw q) := State.frames_setFrames _ (State.cur_lt_of_frames hfr)
  refine ⟨(T.setVm vm').setFrames (.throwing q :: below), ?_, .threw q, X'.here.running, hend, Or.inr ⟨q, rfl, E, ce, locs, hx _ hT (X'.ends _).1.alike, hcell9, hv, hcl, (X'.ends _).1, (X'.ends _).2.mono hc hs, hf⟩⟩
  rw [X.pushThrowing_eq]
  exact st
/-- a thing of a world lies in the heap -/
theorem vx_lt {D : va_G} {cl : List vw_C} {ws : va_W} {H1 : Heap} (h : va_P D cl ws H1) {k : Nat} {q : Nat × va_E} (hk : ws[k]? = some q) : q.1 < H1.size := (h k q hk).lt
end VXS
/-! ===== END ===== -/
/-! ===== BEGIN methods with a table of their own: called by a name, returning or throwing ===== -/
section VXH
/-! vx_backW, vx_callVX, vx_callSX, vx_callVW, vx_runVW, vx_runVX, vx_runSX, vx_ofWH follow the same proofs as their sisters above (Free/Laws.lean, Shelf42/LK1.lean); vx_outP calls Shelf42/NT130.lean (outThrough). -/
section
variable {l : Launch} {R : Room} {p : Program} {e : Env} {below : List Frame} {s : State} {sargs : Array Value} {y : MethodName} {len W9 : Nat}
theorem vx_backW {ws : List Cond} {rm : Room} {Pc : Array Value → State → Prop} {Qc : Array Value → State → Outcome → State → Prop} {XC : String → State → State → Prop} {mc ms : Nat} {free : Addr → Prop} {bytes : ByteArray} {maxL : Nat} {ret : Option FieldType} {hh : List (Nat × Nat × Nat × Nat)}
    (hM : vx_Met l y ws rm Pc Qc XC mc ms free) (hblind : FrameBlind Pc) (hrc : rm.cells = mc) (hrs : rm.slots = ms)
    (hframes : rm.frames + 1 ≤ R.frames) (hlocals : W9 + (maxL + 11) + rm.locals ≤ R.locals)
    (hws : ∀ w ∈ ws, ∀ a' U, s.WarmedH U.vm → w.before a' U = true) (hcode : Cond.codeWith y bytes maxL ret hh ∈ ws) (hinit : ∀ a' U, s.WarmedH U.vm → (Cond.initialized y.cls).before a' U = true) :
    vx_Back l R p e below s sargs y len W9 (PreOf R mc ms Pc) (PostOf Qc mc ms free) (vx_Post XC mc ms free) := by
  intro m meth c A g ig mk a X hg hsize hdg hW hn hp
  have h1 : (headSpec ws rm).pre.before a A.U = true := atoms_intro fun w hw => hws w hw _ _ X.warmed
  have h2 : (Cond.codeWith y bytes maxL ret hh).before a A.U = true := hws _ hcode _ _ X.warmed
  have h3 : (Cond.initialized y.cls).before a A.U = true := hinit _ _ X.warmed
  have h4 : A.cells + (headSpec ws rm).room.cells ≤ R.cells := by rw [show (headSpec ws rm).room.cells = mc from hrc]; exact hp.1
  have h5 : A.slots + (headSpec ws rm).room.slots ≤ R.slots := by rw [show (headSpec ws rm).room.slots = ms from hrs]; exact hp.2.1
  have hPc : Pc a (A.U.calling g mk a) := hblind _ _ _ _ hp.2.2
  obtain ⟨U, Ls, c0, s0⟩ := A
  dsimp only [Pt.U, Pt.locs, Pt.cells, Pt.slots] at h1 h2 h3 h4 h5 X hn hPc ⊢
  obtain ⟨m9, methY, cY, hn9, hmY, hcY, -, hlY, -⟩ := Cond.codeWith_spec h2
  cases Option.some.inj (hn9.symm.trans hn)
  obtain ⟨kY, hkY, -⟩ := className_of_methodNamed hn
  have hinitY : kY.init = .initialized := Cond.initialized_spec (findClass_of_methodNamed hn) hkY h3
  have h : At U g.method c below := by rw [hg]; exact X.here
  have hlocals9 : W9 + (maxL + 11) + (headSpec ws rm).room.locals ≤ R.locals := hlocals
  have happ : (headSpec ws rm).appliesLoose y e.platform (U.calling g mk a) = true :=
    Spec.appliesLoose_calling (g := g) h hdg hn hkY hinitY
      (X.room_calling (g := g) (R' := (headSpec ws rm).room) hsize hmY hcY hframes (by rw [hlY]; omega) h4 h5) h1
  obtain ⟨mid, hmid⟩ := h.above
  have hfr : (U.setTop g).frames = (.java g :: mid) ++ below := by rw [State.frames_setTop' g h.top, hmid]; rfl
  obtain ⟨o, s₂, hsteps, -, hend, hq⟩ := Steps.callFree hM p X.admits X.cas X.clock (acts := []) hfr happ hPc trivial
  have hq' : vx_Q Qc XC mc ms free a (U.calling g mk a) o s₂ := hq
  rw [State.frames_setTop' g h.top] at hend
  obtain ⟨g₀, hg0⟩ := Option.isSome_iff_exists.mp h.top
  obtain ⟨r, hr⟩ := State.topJava?_eq_some.mp hg0
  have hr' : (({ U with heap := s₂.heap, slotsUsed := s₂.slotsUsed } : State).setVm s₂.vm).frames = .java g₀ :: r := hr
  rcases hq' with ⟨hqc, L, hfe, hL⟩ | ⟨q, rfl, E, ce, L, hx, hce, hcv, hcl, hW₂, hsm, hL⟩
  · obtain ⟨⟨v, rfl⟩, hW₂, e2, q2, q3, q4, q5, q6⟩ := id hfe
    have e3 : s₂ = ({ (U.calling g mk a).setFrames s₂.frames with heap := s₂.heap, slotsUsed := s₂.slotsUsed } : State).setVm s₂.vm := by
      have : s₂ = ({ s₂ with vm := (U.calling g mk a).vm } : State).setVm s₂.vm := rfl
      rw [e2] at this
      exact this
    obtain ⟨c₂, i₂, len₂, hc₂, hd₂, hf₂⟩ := hend
    have hW' : U.WarmedH s₂.vm := hW₂
    have hcc : c₂ = c := by
      have h1 : s₂.code? g.method = U.code? g.method := by
        rw [State.code?_eq, State.code?_eq, hW'.alike.method?]
      exact Option.some.inj (hc₂.symm.trans (h1.trans h.code))
    subst hcc
    have hlen : len₂ = len := by rw [hdg] at hd₂; cases hd₂; rfl
    subst hlen
    have hs₂ : s₂ = (({ U with heap := s₂.heap, slotsUsed := s₂.slotsUsed } : State).setVm s₂.vm).setTop { g with pc := g.pc + len₂, stack := v.toList ++ g.stack } := by
      refine e3.trans ?_
      rw [hf₂, State.calling_eq h.top, State.setFrames_setFrames, State.setTop_of_frames _ hr', hr]
      rfl
    have hsame : U.sameButNew ({ U with heap := s₂.heap, slotsUsed := s₂.slotsUsed } : State) L mc ms := by
      refine ⟨?_, q2, q3, q4, q5, q6⟩
      obtain ⟨t, ht, -⟩ := State.frames_cons hr
      show ({ U with heap := s₂.heap, slotsUsed := s₂.slotsUsed } : State) = { U.setFrames U.frames with heap := s₂.heap, slotsUsed := s₂.slotsUsed }
      rw [State.setFrames_self ht]
    subst hg
    refine Or.inl ⟨v, ⟨(({ U with heap := s₂.heap, slotsUsed := s₂.slotsUsed } : State).setVm s₂.vm), Ls ++ L, c0 + mc, s0 + ms⟩,
      ⟨X.admits, X.cas, X.clock, X.frames, X.room, X.hears, X.method, X.code, (X.here.setHeapUsed s₂.heap s₂.slotsUsed).setVm hW'.alike, X.tail, State.WarmedH.trans X.warmed hW', X.limits, X.bytes, X.same.trans (hsame.setVm s.vm)⟩,
      ⟨g, mk, s₂, L, rfl, rfl, hqc, rfl, hL, rfl, rfl⟩, ?_⟩
    show Steps p.tables e below _ ((({ U with heap := s₂.heap, slotsUsed := s₂.slotsUsed } : State).setVm s₂.vm).setTop { g with pc := g.pc + len₂, stack := v.toList ++ g.stack })
    rw [← hs₂]
    exact hsteps
  · obtain ⟨e2, q2, q3, q4, q5, q6⟩ := id hsm
    have e3 : s₂ = ({ (U.calling g mk a).setFrames s₂.frames with heap := s₂.heap, slotsUsed := s₂.slotsUsed } : State).setVm s₂.vm := by
      have : s₂ = ({ s₂ with vm := (U.calling g mk a).vm } : State).setVm s₂.vm := rfl
      rw [e2] at this
      exact this
    have hf₂ : s₂.frames = .throwing q :: .java g :: U.frames.tail := hend
    have hW' : U.WarmedH s₂.vm := hW₂
    have hs₂ : s₂ = ((({ U with heap := s₂.heap, slotsUsed := s₂.slotsUsed } : State).setVm s₂.vm).setTop g).pushFrame (.throwing q) := by
      refine e3.trans ?_
      rw [hf₂, State.calling_eq h.top, State.setFrames_setFrames, State.pushFrame, State.frames_setTop _ hr', State.setTop_of_frames _ hr', State.setFrames_setFrames, hr]
      rfl
    have hsame : U.sameButNew ({ U with heap := s₂.heap, slotsUsed := s₂.slotsUsed } : State) L mc ms := by
      refine ⟨?_, q2, q3, q4, q5, q6⟩
      obtain ⟨t, ht, -⟩ := State.frames_cons hr
      show ({ U with heap := s₂.heap, slotsUsed := s₂.slotsUsed } : State) = { U.setFrames U.frames with heap := s₂.heap, slotsUsed := s₂.slotsUsed }
      rw [State.setFrames_self ht]
    subst hg
    refine Or.inr ⟨q, ⟨(({ U with heap := s₂.heap, slotsUsed := s₂.slotsUsed } : State).setVm s₂.vm), Ls ++ L, c0 + mc, s0 + ms⟩,
      ⟨X.admits, X.cas, X.clock, X.frames, X.room, X.hears, X.method, X.code, (X.here.setHeapUsed s₂.heap s₂.slotsUsed).setVm hW'.alike, X.tail, State.WarmedH.trans X.warmed hW', X.limits, X.bytes, X.same.trans (hsame.setVm s.vm)⟩,
      ⟨g, mk, s₂, L, E, ce, rfl, rfl, hx, hce, hcv, hcl, rfl, hL, rfl, rfl⟩, ?_⟩
    show Steps p.tables e below _ (((({ U with heap := s₂.heap, slotsUsed := s₂.slotsUsed } : State).setVm s₂.vm).setTop g).pushFrame (.throwing q))
    rw [← hs₂]
    exact hsteps
end
variable {p : Program} {l : Launch} {e : Env} {R : Room} {s : State} {m : MethodId} {args : Array Value} {below : List Frame} {meth : Method} {c : Code} {T : State} {H : Heap} {locs : List Loc} {cells slots : Nat}
theorem vx_callVX (X : Stand p l e R s m args below meth c T locs cells slots) (hexec : p.tables.exec = Jvm.exec) {own C : String} {index : Nat} {y : MethodName} {bytes : ByteArray} {maxL : Nat} {ret : Option FieldType} {hh : List (Nat × Nat × Nat × Nat)}
    (hown : s.vm.findClass own = some m.cls) (hlink : (Cond.methodLink own index y).before args s = true) (hinst : (Cond.instanceMethod y).before args s = true) (hsel : (Cond.selects C y y).before args s = true)
    (hcode : (Cond.codeWith y bytes maxL ret hh).before args s = true) (hy : y.cls ≠ "java/lang/invoke/MethodHandle" ∧ y.cls ≠ "java/lang/invoke/VarHandle")
    {W9 : Nat} {Pre : Pt → Array Value → Prop} {Post : Pt → Array Value → Option Value → Pt → Prop} {PostX : Pt → Array Value → Addr → Pt → Prop} (hK : vx_Back l R p e below s args y 3 W9 Pre Post PostX)
    {b : Addr} {cellB : Cell} (hcell : T.heap[b]? = some cellB) (hobj : cellB.vm.isStatics = false) (hcls : s.vm.findClass C = some cellB.cls)
    {g : JFrame} (hg : g.method = m) (hsize : g.locals.size = c.maxLocals) {argsL rest : List Value} (hlen : ∀ sig, parseMethodDescriptor y.desc = some sig → argsL.length = sig.parameters.length)
    (hstack : g.stack = argsL.reverse ++ .ref b :: rest) (hW : 2 * g.monitorRoom + (rest.map fun v => v.category).sum ≤ W9) (hdg : decode c.code g.pc = .ok (.invokevirtual index, 3))
    (hpre : ∀ vm₁, s.WarmedH vm₁ → Pre ⟨T.setVm vm₁, locs, cells, slots⟩ (Value.ref b :: argsL).toArray) :
    (∃ (v : Option Value) (vm₁ : Vm) (B : Pt), s.WarmedH vm₁ ∧ Stand p l e R s m args below meth c B.U B.locs B.cells B.slots ∧ Post ⟨T.setVm vm₁, locs, cells, slots⟩ (Value.ref b :: argsL).toArray v B ∧
      ∀ target, Steps p.tables e below (B.U.setTop { g with pc := g.pc + 3, stack := v.toList ++ rest }) target → Steps p.tables e below (T.setTop g) target) ∨
    (∃ (q : Addr) (vm₁ : Vm) (B : Pt), s.WarmedH vm₁ ∧ Stand p l e R s m args below meth c B.U B.locs B.cells B.slots ∧ PostX ⟨T.setVm vm₁, locs, cells, slots⟩ (Value.ref b :: argsL).toArray q B ∧
      Steps p.tables e below (T.setTop g) ((B.U.setTop { g with stack := rest }).pushFrame (.throwing q))) := by
  obtain ⟨mk, methM, hnamed, hmethM, hstM, habM⟩ := Cond.instanceMethod_spec hinst
  obtain ⟨m8, methM', cM, hn8, hmethM', -, -, -, -, -, -, hsigM⟩ := Cond.codeWith_spec hcode
  cases Option.some.inj (hn8.symm.trans hnamed)
  cases hmethM.symm.trans hmethM'
  obtain ⟨c2, r2, m2, q1, q2, q3, q4, kP, hkP, hkPi⟩ := Cond.selects_spec hsel
  cases hcls.symm.trans q1
  cases (State.methodFound?_of_named hnamed hy).symm.trans q2
  cases hnamed.symm.trans q3
  have hselP : selectMethod e.platform s.vm cellB.cls mk = .method mk := by rw [Launch.admits_selectMethod X.admits]; exact q4
  obtain ⟨vm₁, X₁, hstep₁⟩ := X.invokevirtual hexec hown hlink hnamed hmethM hstM hkP hkPi hy (a := b) (cell := cellB) hcell
    (fun z h => by rw [h] at hobj; cases hobj) hselP hmethM habM hkP hkPi (g := g) hg (argsL := argsL) (rest := rest) (hlen _ hsigM) hstack hdg
  rcases hK m meth c ⟨T.setVm vm₁, locs, cells, slots⟩ { g with stack := rest } (.invokevirtual index) mk (Value.ref b :: argsL).toArray X₁ hg hsize hdg hW (X₁.named hnamed) (hpre vm₁ X₁.warmed) with ⟨v, B, X', hpost, hsteps⟩ | ⟨q, B, X', hpost, hsteps⟩
  · exact Or.inl ⟨v, vm₁, B, X₁.warmed, X', hpost, fun target h => hstep₁ _ fun acts => by rw [doInvoke_state]; exact hsteps.trans h⟩
  · exact Or.inr ⟨q, vm₁, B, X₁.warmed, X', hpost, hstep₁ _ fun acts => by rw [doInvoke_state]; exact hsteps⟩
theorem vx_callSX (X : Stand p l e R s m args below meth c T locs cells slots) (hexec : p.tables.exec = Jvm.exec) {own : String} {index : Nat} {y : MethodName} {bytes : ByteArray} {maxL : Nat} {ret : Option FieldType} {hh : List (Nat × Nat × Nat × Nat)}
    (hown : s.vm.findClass own = some m.cls) (hlink : (Cond.methodLink own index y).before args s = true) (hstat : (Cond.static y).before args s = true) (hinit : (Cond.initialized y.cls).before args s = true)
    (hcode : (Cond.codeWith y bytes maxL ret hh).before args s = true) (hy : y.cls ≠ "java/lang/invoke/MethodHandle" ∧ y.cls ≠ "java/lang/invoke/VarHandle")
    {W9 : Nat} {Pre : Pt → Array Value → Prop} {Post : Pt → Array Value → Option Value → Pt → Prop} {PostX : Pt → Array Value → Addr → Pt → Prop} (hK : vx_Back l R p e below s args y 3 W9 Pre Post PostX)
    {g : JFrame} (hg : g.method = m) (hsize : g.locals.size = c.maxLocals) {argsL rest : List Value} (hlen : ∀ sig, parseMethodDescriptor y.desc = some sig → argsL.length = sig.parameters.length)
    (hstack : g.stack = argsL.reverse ++ rest) (hW : 2 * g.monitorRoom + (rest.map fun v => v.category).sum ≤ W9) (hdg : decode c.code g.pc = .ok (.invokestatic index, 3))
    (hpre : ∀ vm₁, s.WarmedH vm₁ → Pre ⟨T.setVm vm₁, locs, cells, slots⟩ argsL.toArray) :
    (∃ (v : Option Value) (vm₁ : Vm) (B : Pt), s.WarmedH vm₁ ∧ Stand p l e R s m args below meth c B.U B.locs B.cells B.slots ∧ Post ⟨T.setVm vm₁, locs, cells, slots⟩ argsL.toArray v B ∧
      ∀ target, Steps p.tables e below (B.U.setTop { g with pc := g.pc + 3, stack := v.toList ++ rest }) target → Steps p.tables e below (T.setTop g) target) ∨
    (∃ (q : Addr) (vm₁ : Vm) (B : Pt), s.WarmedH vm₁ ∧ Stand p l e R s m args below meth c B.U B.locs B.cells B.slots ∧ PostX ⟨T.setVm vm₁, locs, cells, slots⟩ argsL.toArray q B ∧
      Steps p.tables e below (T.setTop g) ((B.U.setTop { g with stack := rest }).pushFrame (.throwing q))) := by
  obtain ⟨mk, methM, cM, hnamed, hmethM, -, -, -, -, -, -, hsigM⟩ := Cond.codeWith_spec hcode
  have hstatic : methM.isStatic = true := Cond.static_spec hnamed hmethM hstat
  obtain ⟨kP, hkP, -⟩ := className_of_methodNamed hnamed
  have hinitP : kP.init = .initialized := Cond.initialized_spec (findClass_of_methodNamed hnamed) hkP hinit
  obtain ⟨vm₁, X₁, hstep₁⟩ := X.invokestatic hexec hown hlink hnamed hmethM hstatic hkP hinitP hy (g := g) hg (argsL := argsL) (rest := rest) (hlen _ hsigM) hstack hdg
  rcases hK m meth c ⟨T.setVm vm₁, locs, cells, slots⟩ { g with stack := rest } (.invokestatic index) mk argsL.toArray X₁ hg hsize hdg hW (X₁.named hnamed) (hpre vm₁ X₁.warmed) with ⟨v, B, X', hpost, hsteps⟩ | ⟨q, B, X', hpost, hsteps⟩
  · exact Or.inl ⟨v, vm₁, B, X₁.warmed, X', hpost, fun target h => hstep₁ _ fun acts => by rw [doInvoke_state]; exact hsteps.trans h⟩
  · exact Or.inr ⟨q, vm₁, B, X₁.warmed, X', hpost, hstep₁ _ fun acts => by rw [doInvoke_state]; exact hsteps⟩
theorem vx_callVW (X : Stand p l e R s m args below meth c T locs cells slots) (hexec : p.tables.exec = Jvm.exec) {own C : String} {index : Nat} {y : MethodName} {bytes : ByteArray} {maxL : Nat} {ret : Option FieldType} {hh : List (Nat × Nat × Nat × Nat)}
    (hown : s.vm.findClass own = some m.cls) (hlink : (Cond.methodLink own index y).before args s = true) (hinst : (Cond.instanceMethod y).before args s = true) (hsel : (Cond.selects C y y).before args s = true)
    (hcode : (Cond.codeWith y bytes maxL ret hh).before args s = true) (hy : y.cls ≠ "java/lang/invoke/MethodHandle" ∧ y.cls ≠ "java/lang/invoke/VarHandle")
    {W9 : Nat} {Pre : Pt → Array Value → Prop} {Post : Pt → Array Value → Option Value → Pt → Prop} (hK : Back l R p e below s args y 3 W9 Pre Post)
    {b : Addr} {cellB : Cell} (hcell : T.heap[b]? = some cellB) (hobj : cellB.vm.isStatics = false) (hcls : s.vm.findClass C = some cellB.cls)
    {g : JFrame} (hg : g.method = m) (hsize : g.locals.size = c.maxLocals) {argsL rest : List Value} (hlen : ∀ sig, parseMethodDescriptor y.desc = some sig → argsL.length = sig.parameters.length)
    (hstack : g.stack = argsL.reverse ++ .ref b :: rest) (hW : 2 * g.monitorRoom + (rest.map fun v => v.category).sum ≤ W9) (hdg : decode c.code g.pc = .ok (.invokevirtual index, 3))
    (hpre : ∀ vm₁, s.WarmedH vm₁ → Pre ⟨T.setVm vm₁, locs, cells, slots⟩ (Value.ref b :: argsL).toArray) :
    ∃ (v : Option Value) (vm₁ : Vm) (B : Pt), s.WarmedH vm₁ ∧ Stand p l e R s m args below meth c B.U B.locs B.cells B.slots ∧ Post ⟨T.setVm vm₁, locs, cells, slots⟩ (Value.ref b :: argsL).toArray v B ∧
      ∀ target, Steps p.tables e below (B.U.setTop { g with pc := g.pc + 3, stack := v.toList ++ rest }) target → Steps p.tables e below (T.setTop g) target := by
  obtain ⟨mk, methM, hnamed, hmethM, hstM, habM⟩ := Cond.instanceMethod_spec hinst
  obtain ⟨m8, methM', cM, hn8, hmethM', -, -, -, -, -, -, hsigM⟩ := Cond.codeWith_spec hcode
  cases Option.some.inj (hn8.symm.trans hnamed)
  cases hmethM.symm.trans hmethM'
  obtain ⟨c2, r2, m2, q1, q2, q3, q4, kP, hkP, hkPi⟩ := Cond.selects_spec hsel
  cases hcls.symm.trans q1
  cases (State.methodFound?_of_named hnamed hy).symm.trans q2
  cases hnamed.symm.trans q3
  have hselP : selectMethod e.platform s.vm cellB.cls mk = .method mk := by rw [Launch.admits_selectMethod X.admits]; exact q4
  obtain ⟨vm₁, X₁, hstep₁⟩ := X.invokevirtual hexec hown hlink hnamed hmethM hstM hkP hkPi hy (a := b) (cell := cellB) hcell
    (fun z h => by rw [h] at hobj; cases hobj) hselP hmethM habM hkP hkPi (g := g) hg (argsL := argsL) (rest := rest) (hlen _ hsigM) hstack hdg
  obtain ⟨v, B, X', hpost, hsteps⟩ := hK m meth c ⟨T.setVm vm₁, locs, cells, slots⟩ { g with stack := rest } (.invokevirtual index) mk (Value.ref b :: argsL).toArray X₁ hg hsize hdg hW (X₁.named hnamed) (hpre vm₁ X₁.warmed)
  exact ⟨v, vm₁, B, X₁.warmed, X', hpost, fun target h => hstep₁ _ fun acts => by rw [doInvoke_state]; exact hsteps.trans h⟩
abbrev vx_CVW (R : Room) (s : State) (args : Array Value) (own C : String) (index : Nat) (y : MethodName) (bytes : ByteArray) (maxL : Nat) (ret : Option FieldType) (hh : List (Nat × Nat × Nat × Nat)) (ws : List Cond) (rm : Room) (mc ms n : Nat) : Prop :=
  (rm.cells = mc ∧ rm.slots = ms ∧ rm.frames + 1 ≤ R.frames ∧ 8 + (maxL + 11) + rm.locals ≤ R.locals ∧ (∀ w ∈ ws, ∀ (a' : Array Value) (U : State), s.WarmedH U.vm → w.before a' U = true) ∧ Cond.codeWith y bytes maxL ret hh ∈ ws) ∧
  (Cond.codeWith y bytes maxL ret hh).before args s = true ∧ (Cond.initialized y.cls).before args s = true ∧ (y.cls ≠ "java/lang/invoke/MethodHandle" ∧ y.cls ≠ "java/lang/invoke/VarHandle") ∧
  (∀ sig, parseMethodDescriptor y.desc = some sig → n = sig.parameters.length) ∧ (Cond.methodLink own index y).before args s = true ∧ (Cond.instanceMethod y).before args s = true ∧ (Cond.selects C y y).before args s = true
theorem vx_cwVW {own C : String} {index maxL mc ms : Nat} {y : MethodName} {bytes : ByteArray} {ret : Option FieldType} {hh : List (Nat × Nat × Nat × Nat)} {Ts ws ws' : List Cond} {rm : Room} (n : Nat) (ht : ∀ w ∈ Ts, w.before args s = true) (hT : GoodIn Ts (wsV own index C y ws)) (hw : ws = Cond.codeWith y bytes maxL ret hh :: ws') (hrc : rm.cells = mc) (hrs : rm.slots = ms)
    (hd : y.cls = C ∧ y.cls ≠ "java/lang/invoke/MethodHandle" ∧ y.cls ≠ "java/lang/invoke/VarHandle" ∧ (parseMethodDescriptor y.desc).map (fun d => d.parameters.length) = some n) (hR : rm.frames + 1 ≤ R.frames ∧ 8 + (maxL + 11) + rm.locals ≤ R.locals) :
    vx_CVW R s args own C index y bytes maxL ret hh ws rm mc ms n := by
  obtain ⟨hC, hd⟩ := hd
  subst hC
  have ok : ∀ w ∈ wsV own index y.cls y ws, w.before args s = true := fun w h => ht w (hT w h).1
  have hG : GoodIn Ts ws := fun w h => hT w (by unfold wsV; exact List.mem_append_right _ h)
  have hc : Cond.codeWith y bytes maxL ret hh ∈ ws := by rw [hw]; exact List.mem_cons_self
  refine ⟨⟨hrc, hrs, hR.1, hR.2, pay_in ht hG, hc⟩, ht _ (hG _ hc).1, ok _ (by simp [wsV]), ⟨hd.1, hd.2.1⟩, fun sig h => ?_, ok _ (by simp [wsV]), ok _ (by simp [wsV]), ok _ (by simp [wsV])⟩
  have h2 := hd.2.2
  rw [h] at h2
  exact (Option.some.inj h2).symm
theorem vx_runVW {y : MethodName} {bytes cc : ByteArray} {maxL nL mc ms n index : Nat} {ret : Option FieldType} {hh : List (Nat × Nat × Nat × Nat)} {ws : List Cond} {rm : Room} {Pc : Array Value → State → Prop} {Qc : Array Value → State → Outcome → State → Prop} {free : Addr → Prop} {Ts : List Cond} {own C : String} {b : Addr} {As rest : List Value} {g : JFrame}
    (S : CallFix p m c cc nL s args Ts own) (hM : Met l y ws rm Pc Qc mc ms free) (cw : vx_CVW R s args own C index y bytes maxL ret hh ws rm mc ms n) (hp : PreV s H C b Pc As)
    (hg : g.method = m) (hn : As.length = n) (hsize : g.locals.size = nL) (hstack : g.stack = As.reverse ++ .ref b :: rest) (hW : 2 * g.monitorRoom + (rest.map fun v => v.category).sum ≤ 8) (hdg : decode cc g.pc = .ok (.invokevirtual index, 3)) (hf : cells + mc ≤ R.cells ∧ slots + ms ≤ R.slots) :
    va_Run p l e R s m args below meth c H locs cells slots mc ms g rest (Qc (Value.ref b :: As).toArray) free := by
  obtain ⟨⟨hrc, hrs, hfr, hlo, hws, hcw⟩, hcode, hini, hy, hlen, hl, hin, hse⟩ := cw
  have hK : Back l R p e below s args y 3 8 (PreOf R mc ms Pc) (PostOf Qc mc ms free) := va_backW (hh := hh) (bytes := bytes) (maxL := maxL) (ret := ret) hM hp.1 hrc hrs hfr hlo hws hcw (fun a' U hW => word_at hW (Or.inl (by first | rfl | simp [Cond.onTables, Cond.keeps, Cond.steady])) hini)
  obtain ⟨hx, hb, hml, ho, -⟩ := S
  obtain ⟨-, ⟨cellB, hcB, hoB, hclB⟩, hPc⟩ := hp
  intro T hT X
  obtain ⟨v, vm₁, ⟨U', l2, c2, s2⟩, hW₁, X', ⟨g', mk, t, L, e1, e2, hq, h1, hL, h2, h3⟩, st⟩ := vx_callVW X hx (C := C) (hh := hh) (bytes := bytes) (maxL := maxL) (ret := ret) ho hl hin hse hcode hy hK (by rw [hT]; exact hcB) hoB hclB hg (hsize.trans hml.symm) (argsL := As) (rest := rest) (fun sig h => hn.trans (hlen sig h)) hstack hW (by rw [hb]; exact hdg)
    (fun vm₁ hW₁ => ⟨hf.1, hf.2, hPc (T.setVm vm₁) hT hW₁⟩)
  dsimp only [Pt.U, Pt.locs, Pt.cells, Pt.slots] at X' e1 e2 h1 h2 h3 st
  subst h1; subst h2; subst h3
  exact ⟨v, (T.setVm vm₁).calling g' mk (Value.ref b :: As).toArray, t, U', L, hT, X', hL, e1, e2, hq, st⟩
section
variable {y : MethodName} {bytes cc : ByteArray} {maxL nL mc ms n index : Nat} {ret : Option FieldType} {ws : List Cond} {rm : Room} {Pc : Array Value → State → Prop} {Qc : Array Value → State → Outcome → State → Prop} {XC : String → State → State → Prop} {free : Addr → Prop} {Ts : List Cond} {own C : String} {b : Addr} {As rest : List Value} {g : JFrame}
theorem vx_runVX {hh : List (Nat × Nat × Nat × Nat)} (S : CallFix p m c cc nL s args Ts own) (hM : vx_Met l y ws rm Pc Qc XC mc ms free) (cw : vx_CVW R s args own C index y bytes maxL ret hh ws rm mc ms n) (hp : PreV s H C b Pc As)
    (hg : g.method = m) (hn : As.length = n) (hsize : g.locals.size = nL) (hstack : g.stack = As.reverse ++ .ref b :: rest) (hW : 2 * g.monitorRoom + (rest.map fun v => v.category).sum ≤ 8) (hdg : decode cc g.pc = .ok (.invokevirtual index, 3)) (hf : cells + mc ≤ R.cells ∧ slots + ms ≤ R.slots) :
    vx_Run p l e R s m args below meth c H locs cells slots mc ms g rest (Qc (Value.ref b :: As).toArray) XC free := by
  obtain ⟨⟨hrc, hrs, hfr, hlo, hws, hcw⟩, hcode, hini, hy, hlen, hl, hin, hse⟩ := cw
  have hK : vx_Back l R p e below s args y 3 8 (PreOf R mc ms Pc) (PostOf Qc mc ms free) (vx_Post XC mc ms free) := vx_backW (hh := hh) (bytes := bytes) (maxL := maxL) (ret := ret) hM hp.1 hrc hrs hfr hlo hws hcw (fun a' U hW => word_at hW (Or.inl (by first | rfl | simp [Cond.onTables, Cond.keeps, Cond.steady])) hini)
  obtain ⟨hx, hb, hml, ho, -⟩ := S
  obtain ⟨-, ⟨cellB, hcB, hoB, hclB⟩, hPc⟩ := hp
  intro T hT X
  rcases vx_callVX X hx (C := C) (hh := hh) (bytes := bytes) (maxL := maxL) (ret := ret) ho hl hin hse hcode hy hK (by rw [hT]; exact hcB) hoB hclB hg (hsize.trans hml.symm) (argsL := As) (rest := rest) (fun sig h => hn.trans (hlen sig h)) hstack hW (by rw [hb]; exact hdg)
    (fun vm₁ hW₁ => ⟨hf.1, hf.2, hPc (T.setVm vm₁) hT hW₁⟩) with ⟨v, vm₁, ⟨U', l2, c2, s2⟩, hW₁, X', ⟨g', mk, t, L, e1, e2, hq, h1, hL, h2, h3⟩, st⟩ | ⟨q, vm₁, ⟨U', l2, c2, s2⟩, hW₁, X', ⟨g', mk, t, L, E, ce, e1, e2, hq, hce, hcv, hcl, h1, hL, h2, h3⟩, st⟩
  · dsimp only [Pt.U, Pt.locs, Pt.cells, Pt.slots] at X' e1 e2 h1 h2 h3 st
    subst h1; subst h2; subst h3
    exact Or.inl ⟨v, (T.setVm vm₁).calling g' mk (Value.ref b :: As).toArray, t, U', L, hT, X', hL, e1, e2, hq, st⟩
  · dsimp only [Pt.U, Pt.locs, Pt.cells, Pt.slots] at X' e1 e2 h1 h2 h3 st hcl
    subst h1; subst h2; subst h3
    exact Or.inr ⟨q, (T.setVm vm₁).calling g' mk (Value.ref b :: As).toArray, t, U', L, E, ce, hT, X', hL, e1, e2, hq, hce, hcv, vx_cls hW₁ hcl, st⟩
theorem vx_runSX {hh : List (Nat × Nat × Nat × Nat)} (S : CallFix p m c cc nL s args Ts own) (hM : vx_Met l y ws rm Pc Qc XC mc ms free) (cw : vx_CSW R s args own index y bytes maxL ret hh ws rm mc ms n) (hp : PreS s H Pc As)
    (hg : g.method = m) (hn : As.length = n) (hsize : g.locals.size = nL) (hstack : g.stack = As.reverse ++ rest) (hW : 2 * g.monitorRoom + (rest.map fun v => v.category).sum ≤ 8) (hdg : decode cc g.pc = .ok (.invokestatic index, 3)) (hf : cells + mc ≤ R.cells ∧ slots + ms ≤ R.slots) :
    vx_Run p l e R s m args below meth c H locs cells slots mc ms g rest (Qc As.toArray) XC free := by
  obtain ⟨⟨hrc, hrs, hfr, hlo, hws, hcw⟩, hcode, hini, hy, hlen, hl, hstt⟩ := cw
  have hK : vx_Back l R p e below s args y 3 8 (PreOf R mc ms Pc) (PostOf Qc mc ms free) (vx_Post XC mc ms free) := vx_backW (hh := hh) (bytes := bytes) (maxL := maxL) (ret := ret) hM hp.1 hrc hrs hfr hlo hws hcw (fun a' U hW => word_at hW (Or.inl (by first | rfl | simp [Cond.onTables, Cond.keeps, Cond.steady])) hini)
  obtain ⟨hx, hb, hml, ho, -⟩ := S
  intro T hT X
  rcases vx_callSX X hx (hh := hh) (bytes := bytes) (maxL := maxL) (ret := ret) ho hl hstt hini hcode hy hK hg (hsize.trans hml.symm) (argsL := As) (rest := rest) (fun sig h => hn.trans (hlen sig h)) hstack hW (by rw [hb]; exact hdg)
    (fun vm₁ hW₁ => ⟨hf.1, hf.2, hp.2 (T.setVm vm₁) hT hW₁⟩) with ⟨v, vm₁, ⟨U', l2, c2, s2⟩, hW₁, X', ⟨g', mk, t, L, e1, e2, hq, h1, hL, h2, h3⟩, st⟩ | ⟨q, vm₁, ⟨U', l2, c2, s2⟩, hW₁, X', ⟨g', mk, t, L, E, ce, e1, e2, hq, hce, hcv, hcl, h1, hL, h2, h3⟩, st⟩
  · dsimp only [Pt.U, Pt.locs, Pt.cells, Pt.slots] at X' e1 e2 h1 h2 h3 st
    subst h1; subst h2; subst h3
    exact Or.inl ⟨v, (T.setVm vm₁).calling g' mk As.toArray, t, U', L, hT, X', hL, e1, e2, hq, st⟩
  · dsimp only [Pt.U, Pt.locs, Pt.cells, Pt.slots] at X' e1 e2 h1 h2 h3 st hcl
    subst h1; subst h2; subst h3
    exact Or.inr ⟨q, (T.setVm vm₁).calling g' mk As.toArray, t, U', L, E, ce, hT, X', hL, e1, e2, hq, hce, hcv, vx_cls hW₁ hcl, st⟩
end
end VXH
theorem vx_ofWH {l : Launch} {y : MethodName} {ws ws' : List Cond} {rm : Room} {Pc : Array Value → State → Prop} {Qc : Array Value → State → Outcome → State → Prop} {XC : String → State → State → Prop} {mc ms : Nat} {free : Addr → Prop} {cc : ByteArray} {maxL : Nat} {ret : Option FieldType} {hh : List (Nat × Nat × Nat × Nat)}
    (hy : plainName y.cls = true) (hw : ws = Cond.codeWith y cc maxL ret hh :: ws')
    (body : ∀ p e s m args below meth c s₁, BodyLoose p l y (headSpec ws rm) cc maxL ret e s m args below meth c s₁ → c.maxLocals = maxL → Pc args s →
      W p l e (headSpec ws rm).room s m args below meth c s.heap [] 0 0 (vx_MQ below Qc XC args s mc ms free) (entryFrame m args maxL)) : vx_Met l y ws rm Pc Qc XC mc ms free := by
  refine MetFree.of_bodyS (code := cc) (maxLocals := maxL) (ret := ret) hy ?_ ?_
  · intro args s m h hn
    obtain ⟨m9, meth, c, hn9, h1, h2, h3, h4, -, h5, h6, -⟩ := Cond.codeWith_spec (atoms_spec (ws := ws) h _ (by rw [hw]; exact List.mem_cons_self))
    cases hn.symm.trans hn9
    exact ⟨meth, c, h1, h2, h3, h4, h5, h6⟩
  · intro p e s m args below meth c s₁ B hml hP _
    have hh0 : s₁.heap = s.heap := by rw [B.state]; rfl
    obtain ⟨t, a1, o, b1, b2, b3⟩ := body p e s m args below meth c s₁ B hml hP s₁ hh0 (Stand.of_body B)
    exact ⟨t, o, a1, b1, b2, b3⟩
/-! ===== END ===== -/
end
section
/-! ===== a class of exceptions whose constructor names its superclass's by another place than 7 ===== -/
/-- its constructor's bytes: it hands its text on to the constructor at place 13 -/
def od_six : ByteArray := ⟨#[0x2a, 0x2b, 0xb7, 0x00, 0x0d, 0xb1]⟩
theorem od_0 : decode od_six 0 = .ok (.aload_n 0, 1) := by decide +kernel
theorem od_1 : decode od_six 1 = .ok (.aload_n 1, 1) := by decide +kernel
theorem od_2 : decode od_six 2 = .ok (.invokespecial 13, 3) := by decide +kernel
theorem od_5 : decode od_six 5 = .ok (.return_, 1) := by decide +kernel
/-- the words of such a throw but the four that speak of the heap -/
def od_at (own : String) (ic : Nat) (X : String) (names : List String) : List Cond := (Bundle.ownAtomsX own ic X 13 od_six names).filter vx_no
section Odd
variable {p : Program} {l : Launch} {e : Env} {R : Room} {s : State} {m : MethodId} {args : Array Value} {below : List Frame} {meth : Method} {c : Code} {V H : Heap} {locs : List Loc} {cells slots : Nat}
set_option maxHeartbeats 2000000 in
theorem od_ctor {W0 : State} (X : Stand p l e R s m args below meth c W0 locs cells slots) (hexec : p.tables.exec = Jvm.exec) (htr : e.platform.stackTraces = false) {own cls : String} {names : List String} {ic : Nat}
    (hown : s.vm.findClass own = some m.cls) (hcls : Bundle.fit cls = true) (hnames : ∀ n ∈ names, Bundle.fit n = true) (h : ∀ a ∈ Bundle.ownAtomsX own ic cls 13 od_six names, a.before args s = true)
    (hlocs : ∀ x ∈ locs, ∀ cell, s.heap[x.base]? = some cell → cell.vm.isStatics = false)
    {a : Addr} {cX : ClassId} {kX : Class} (hfX : s.vm.findClass cls = some cX) (hkX : s.vm.classes[cX]? = some kX) (hcell : W0.heap[a]? = some (freshCell cX kX)) (hnew : s.heap.size ≤ a) {msg : Value} (hmsg : msg.isRef = true)
    {g : JFrame} (hg : g.method = m) (hsize : g.locals.size = c.maxLocals) (hlocked : g.locked = none) (hent : g.entered = []) {rest : List Value} (hst : g.stack = msg :: .ref a :: .ref a :: rest)
    (d6 : decode c.code g.pc = .ok (.invokespecial ic, 3)) (d9 : decode c.code (g.pc + 3) = .ok (.athrow, 1)) (hout : ∀ x ∈ c.exceptionTable.toList, covers x (g.pc + 3) = false)
    (hRf : names.length + 3 < R.frames) (hRl : 2 * g.monitorRoom + ((Value.ref a :: rest).map fun v => v.category).sum + (13 * (names.length + 1) + 42) ≤ R.locals) (hlocks : meth.locks = false) :
    ∃ U : State, Steps p.tables e below (W0.setTop g) U ∧ U.status = .running ∧ Ended U below (.threw a) ∧ s.WarmedH U.vm ∧ s.sameButNew ({ U with vm := s.vm } : State) locs cells slots ∧ ∃ ce, U.heap[a]? = some ce ∧ s.vm.findClass cls = some ce.cls ∧ ce.vm = .none := by
  have howns : e.platform.frameOwnsMonitors = true := by rw [X.admits.platform]
  have hfin : e.platform.finalization = false := by rw [X.admits.platform]
  have hpl : e.platform.magicAccessors = ({} : Platform).magicAccessors := by rw [X.admits.platform]
  have hb : ∀ x, x ∈ Bundle.ownAtomsX own ic cls 13 od_six names → x.holds args s none s [] = true := fun x hx => h x hx
  -- the words of the throwable's own class, of the chain up to it
  obtain ⟨T, Z0, LT, -, Y⟩ := ThrowableC.of_atoms (args := args) howns hfin hpl (fun x hx => h x (by simp [Bundle.ownAtomsX, hx]))
  obtain ⟨Z, M, LZ, LM, hnZ⟩ := Init0T.ofS_atoms (args := args) hpl LT Y (fun x hx => h x (by simp [Bundle.ownAtomsX, hx]))
  obtain ⟨P1, Ps, hlen, L1, hL, hPm, hl1, hl2⟩ := Bundle.chainSX (args := args) hpl hnZ od_0 od_1 od_2 od_5 names cls hcls hnames (fun x hx => h x (by simp [Bundle.ownAtomsX, hx]))
  have hfound : s.vm.findClass cls = some P1.m.cls := findClass_of_methodNamed hPm
  cases Option.some.inj (hfX.symm.trans hfound)
  obtain ⟨c1, kX', hc1, hk, hord, -, -, -⟩ := Cond.instantiable_spec (hb (.instantiable cls 6) (by simp [Bundle.ownAtomsX]))
  cases Option.some.inj (hc1.symm.trans hfound)
  cases Option.some.inj (hkX.symm.trans hk)
  have hs0 : selectMethod e.platform s.vm P1.m.cls T.fill0 = .method T.fill0 := by
    obtain ⟨c2, r2, m2, q1, q2, q3, q4, -⟩ := Cond.selects_spec (hb (.selects cls Bundle.tFill0 Bundle.tFill0) (by simp [Bundle.ownAtomsX]))
    cases Option.some.inj (q1.symm.trans hfound)
    cases Option.some.inj (q2.symm.trans (State.methodFound?_of_named Y.fill0 (by decide)))
    cases Option.some.inj (q3.symm.trans Y.fill0)
    rw [Launch.admits_selectMethod X.admits]
    exact q4
  have hsF : selectMethod e.platform s.vm P1.m.cls T.fill = .method T.fill := by
    obtain ⟨c2, r2, m2, q1, q2, q3, q4, -⟩ := Cond.selects_spec (hb (.selects cls Bundle.tFill Bundle.tFill) (by simp [Bundle.ownAtomsX]))
    cases Option.some.inj (q1.symm.trans hfound)
    cases Option.some.inj (q2.symm.trans (State.methodFound?_of_named Y.fill (by decide)))
    cases Option.some.inj (q3.symm.trans Y.fill)
    rw [Launch.admits_selectMethod X.admits]
    exact q4
  -- the two statics that it lays
  obtain ⟨cS0, hcS0, hiss⟩ := Y.statics
  obtain ⟨u0, hu0⟩ := Cond.staticRefV Y.unassigned LT.unassignedStatic LT.statics hcS0 hiss (hb (.isRef (.static Bundle.tN "UNASSIGNED_STACK" Bundle.steD)) (by simp [Bundle.ownAtomsX]))
  obtain ⟨sen, hsen⟩ := Cond.staticRefV Y.sentinel LT.sentinelStatic LT.statics hcS0 hiss (hb (.isRef (.static Bundle.tN "SUPPRESSED_SENTINEL" Bundle.listD)) (by simp [Bundle.ownAtomsX]))
  obtain ⟨ci, i9, fB, hk9, hg9, ha9, hsB, -, hnB, htB, hfB⟩ := Cond.ownField (t := .object "java/lang/Object") Y.found LT.cls (by decide +kernel) (hb (.fieldLink Bundle.tN 198 Bundle.tN "backtrace" "Ljava/lang/Object;") (by simp [Bundle.ownAtomsX])) (hb (.lays Bundle.tN Bundle.tN "backtrace" "Ljava/lang/Object;") (by simp [Bundle.ownAtomsX])) e.platform hpl
  obtain ⟨cS, hcS, heS, -, hkeep⟩ := X.same.2.2.2.2.2 T.aS cS0 hcS0
  have hcS1 : W0.heap[T.aS]? = some cS := hcS
  have hnl : ∀ i, (⟨T.aS, i⟩ : Loc) ∉ locs := fun i hm => by
    have h9 := hlocs _ hm cS0 hcS0
    rw [hiss] at h9
    cases h9
  have hkS : cS.vm ≠ .unknown := by
    rw [heS]
    intro hu
    rw [show cS0.vm = .unknown from hu] at hiss
    cases hiss
  have hne : T.aS ≠ a := Nat.ne_of_lt (Nat.lt_of_lt_of_le (Array.getElem?_eq_some_iff.mp hcS0).1 hnew)
  obtain ⟨iM, hfM⟩ := Y.msg
  obtain ⟨tyC, dC, hdC, hnC⟩ := Cond.laysAt hfound hk Y.cause (hb (.lays cls Bundle.tN "cause" "Ljava/lang/Throwable;") (by simp [Bundle.ownAtomsX]))
  obtain ⟨tyS, dS, hdS, hnS⟩ := Cond.laysAt hfound hk Y.stack (hb (.lays cls Bundle.tN "stackTrace" Bundle.steD) (by simp [Bundle.ownAtomsX]))
  obtain ⟨tyP, dP, hdP, hnP⟩ := Cond.laysAt hfound hk Y.supp (hb (.lays cls Bundle.tN "suppressedExceptions" Bundle.listD) (by simp [Bundle.ownAtomsX]))
  obtain ⟨tyM, dM, hdM, hnM⟩ := Cond.laysAt hfound hk hfM (hb (.lays cls Bundle.tN "detailMessage" "Ljava/lang/String;") (by simp [Bundle.ownAtomsX]))
  obtain ⟨tyB, dB, hdB, hnB9⟩ := Cond.laysAt hfound hk hfB (hb (.lays cls Bundle.tN "backtrace" "Ljava/lang/Object;") (by simp [Bundle.ownAtomsX]))
  have bC := Cond.laysApart hdB hdC hnB9 hnC (by rw [hnB, Y.causeName]; decide)
  have bS := Cond.laysApart hdB hdS hnB9 hnS (by rw [hnB, Y.stackName]; decide)
  have bP := Cond.laysApart hdB hdP hnB9 hnP (by rw [hnB, Y.suppName]; decide)
  have hskip : SkipFacts T e.platform s (fun u => u) u0 ((preparedCellV T.toThrowableT (freshCell P1.m.cls kX) a u0 sen).withEntry W0.cur) :=
    ⟨{ ci198 := ci, i198 := i9, fBack := fB }, ⟨hk9, hg9, ha9, hsB⟩, by
      have h9 := fresh_default (c := P1.m.cls) tyB
      rw [htB] at h9
      simpa [preparedCellV, Cell.setSlot, Cell.withEntry, Array.getElem?_setIfInBounds, bC, bS, bP, bC.symm, bS.symm, bP.symm, defaultValue] using h9, fun _ _ => rfl⟩
  -- the constructor's chain, then the throw
  obtain ⟨tm, mC, cdC, kC, vm1, hnm, -, -, -, -, -, -, -, hW1, st1⟩ := Steps.initColdS (tb := p.tables) (e := e) (below := below) (s := s) (U := W0) X.here hexec X.warmed hpl hown (t := Bundle.initS cls) rfl rfl (Bundle.fit_spec hcls).2
    (hb (.methodLink own ic (Bundle.initS cls)) (by simp [Bundle.ownAtomsX])) (h (.instanceMethod (Bundle.initS cls)) (by cases names <;> simp [Bundle.ownAtomsX, Bundle.chainSAtomsX, Bundle.passSAtoms])) (bytes := od_six) (maxL := 2) (h (.code (Bundle.initS cls) od_six 2 none) (by cases names <;> simp [Bundle.ownAtomsX, Bundle.chainSAtomsX, Bundle.passSAtoms]))
    (f := g) hg (a := a) (msg := msg) (rest := .ref a :: rest) hst d6
  cases Option.some.inj (hnm.symm.trans hPm)
  have X1 := X.noted hW1
  obtain ⟨vm2, X2, st2⟩ := X1.ctorMessageOffV hexec (g := { g with stack := .ref a :: rest }) hg hsize T LT Z LZ M LM (P1 :: Ps)
    (fun P hP => by rcases List.mem_cons.mp hP with rfl | hP; exact L1; exact hL P hP) ⟨hl1, hl2⟩ (u0 := u0) (sen := sen) (self := a) hmsg (cell := freshCell P1.m.cls kX) (cellS := cS)
    hcell (fun _ => by simp) (by simp) rfl rfl hs0 hsF hcS1 hne hkS (by rw [hkeep _ (hnl _)]; exact hu0) (by rw [hkeep _ (hnl _)]; exact hsen)
    (Takes.of_laid hk hord tyC (by rw [Y.causeType]; rfl)) (Takes.of_laid hk hord tyS (by rw [Y.stackType]; exact fits_refV_array _ u0)) (Takes.of_laid hk hord tyP (by rw [Y.suppType]; exact fits_refV_object _ sen))
    (Takes.of_laid hk hord tyM (by rw [Y.msgType]; exact fits_refV_object _ ⟨msg, hmsg⟩)) Y.objLocals hskip htr [] d6
    (by simp only [List.length_cons, hlen]; omega) (by simp only [List.length_cons, hlen]; exact hRl)
  obtain ⟨hwalk, hrun, hended, hWU, hsame⟩ := X2.athrowLeaves hexec (g := { g with stack := .ref a :: rest, pc := g.pc + 3 }) hg hlocked hent hout (a := a) (rest := rest) rfl d9
  have hlt : a < ((W0.setVm vm1).setVm vm2).heap.size := (Array.getElem?_eq_some_iff.mp hcell).1
  have hU := heapAt_setCell_self (s := (W0.setVm vm1).setVm vm2) (plainBareV T.toThrowableT (freshCell P1.m.cls kX) a u0 sen msg) hlt
  refine ⟨_, st1 _ (fun acts => ?_), hrun, hended, hWU, hsame.weaken (fun y hy hlt' => ?_) (Nat.le_refl _) (Nat.le_refl _), _, hU, hfound, rfl⟩
  · rw [doInvoke_state]
    exact st2 _ hwalk
  · rcases List.mem_append.mp hy with h1 | h1
    · exact h1
    · exfalso
      have hba : y.base = a := by
        simp only [List.mem_cons, List.not_mem_nil, or_false] at h1
        rcases h1 with rfl | rfl | rfl | rfl | rfl <;> rfl
      rw [hba] at hlt'
      exact Nat.not_lt.mpr hnew hlt'
end Odd
section OddT
variable {p : Program} {l : Launch} {e : Env} {R : Room} {s : State} {m : MethodId} {args : Array Value} {below : List Frame} {meth : Method} {c : Code} {H : Heap} {locs : List Loc} {cells slots : Nat} {mc ms : Nat} {free : Addr → Prop} {ls : Array Slot} {rest : List Value} {Qc : Array Value → State → Outcome → State → Prop} {XC : String → State → State → Prop}
set_option maxHeartbeats 2000000 in
/-- 'throw new E("text")' of such a class -/
theorem od_throw {cc : ByteArray} {pc : Nat} (hexec : p.tables.exec = Jvm.exec) (hb : c.code = cc) (hl : l.stackTraces = false) {own cls text : String} {names : List String} {ik is ic sa : Nat} {A : Nat → Prop}
    (hown : s.vm.findClass own = some m.cls) (hcls : Bundle.fit cls = true) (hnames : ∀ n ∈ names, Bundle.fit n = true)
    (hk : (Cond.classLink own ik cls).before args s = true) (hini : (Cond.initialized cls).before args s = true) (hstr : vk_R own is text sa s) (hat : ∀ w ∈ od_at own ic cls names, w.before args s = true)
    (hgood : ∀ w ∈ Cond.classLink own ik cls :: Cond.initialized cls :: od_at own ic cls names, vx_ot w = true)
    (hU : vx_Zq Bundle.tN "UNASSIGNED_STACK" Bundle.steD A s s.heap) (hN : vx_Zq Bundle.tN "SUPPRESSED_SENTINEL" Bundle.listD A s s.heap) (hS : va_S A s.heap H locs) (hsize : ls.size = c.maxLocals)
    (d0 : decode cc pc = .ok (.new ik, 3)) (d3 : decode cc (pc + 3) = .ok (.dup, 1)) (d4 : decode cc (pc + 4) = .ok (.ldc is, 2)) (d6 : decode cc (pc + 6) = .ok (.invokespecial ic, 3)) (d9 : decode cc (pc + 9) = .ok (.athrow, 1))
    (hout : ∀ x ∈ c.exceptionTable.toList, covers x (pc + 9) = false)
    (hRf : names.length + 3 < R.frames) (hRl : (rest.map fun v => v.category).sum + (13 * (names.length + 1) + 43) ≤ R.locals) (hRc : cells + 1 ≤ R.cells) (hRs : slots + 6 ≤ R.slots) (hlocks : meth.locks = false)
    (hx : ∀ t : State, s.vm.Alike t.vm → H.size ≤ t.heap.size → (∀ q : Nat, q < H.size → t.heap[q]? = H[q]?) → XC cls s t)
    (hf : ∀ z ∈ locs, free z.base) (hc : cells + 1 ≤ mc) (hs : slots + 6 ≤ ms) :
    W p l e R s m args below meth c H locs cells slots (vx_MQ below Qc XC args s mc ms free) (F0 m pc ls rest) := by
  intro T hT X
  have htr : e.platform.stackTraces = false := (show e.platform.stackTraces = l.stackTraces by rw [X.admits.platform]).trans hl
  have Y := vx_rebase X (R' := { frames := R.frames, locals := R.locals, cells := 1, slots := 6 }) (Nat.le_refl _) (Nat.le_refl _) hRc hRs
  obtain ⟨s9, hA⟩ : ∃ z, z = (T.setVm s.vm).setFrames (.invoking m args :: below) := ⟨_, rfl⟩
  rw [← hA] at Y
  have hvm : s9.vm = s.vm := by rw [hA]; rfl
  have hhp : s9.heap = H := by rw [hA]; exact hT
  have hW0 : s.WarmedH s9.vm := by rw [hvm]; exact State.WarmedH.refl s
  have hat9 : ∀ w ∈ od_at own ic cls names, w.before args s9 = true := fun w hw => vx_ot_at hW0 hvm.symm (hgood w (List.mem_cons_of_mem _ (List.mem_cons_of_mem _ hw))) (hat w hw)
  have hk9 : (Cond.classLink own ik cls).before args s9 = true := vx_ot_at hW0 hvm.symm (hgood _ List.mem_cons_self) hk
  have hini9 : (Cond.initialized cls).before args s9 = true := vx_ot_at hW0 hvm.symm (hgood _ (List.mem_cons_of_mem _ List.mem_cons_self)) hini
  have hU9 : vx_Zq Bundle.tN "UNASSIGNED_STACK" Bundle.steD A s9 s9.heap := by rw [hhp]; exact vx_Zq.moved hW0.alike (hU.kept hS.2.1)
  have hN9 : vx_Zq Bundle.tN "SUPPRESSED_SENTINEL" Bundle.listD A s9 s9.heap := by rw [hhp]; exact vx_Zq.moved hW0.alike (hN.kept hS.2.1)
  have h : ∀ w ∈ Bundle.ownAtomsX own ic cls 13 od_six names, w.before args s9 = true := vx_own hat9 (vx_isRefq hU9.1) (vx_isRefq hN9.1) hU9.2.word hN9.2.word
  have hown9 : s9.vm.findClass own = some m.cls := by rw [hvm]; exact hown
  have hins : (Cond.instantiable cls 6).before args s9 = true := h _ (by simp [Bundle.ownAtomsX])
  obtain ⟨vm1, cX, kX, hfX, hkX, -, -, X1, st1⟩ := Y.newCold hexec (own := own) (C := cls) (index := ik) (n := 6) hown9 hk9 hins hini9 (g := F0 m pc ls rest) rfl (by rw [hb]; exact d0) (Nat.le_refl _) (Nat.le_refl _)
  generalize hT1 : (T.setVm vm1).pushCell { cls := cX, slots := kX.instanceTypes.map defaultValue, vm := .none } = T1 at X1 st1
  have hcat : (Value.ref T.heap.size).category = 1 := rfl
  have hcA : T1.heap[T.heap.size]? = some (freshCell cX kX) := by rw [← hT1]; exact State.heap_pushCell_size _ _
  have d39 : decode c.code (pc + 3) = .ok (.dup, 1) := by rw [hb]; exact d3
  have d49 : decode c.code (pc + 4) = .ok (.ldc is, 2) := by rw [hb]; exact d4
  have hstr9 : vk_R own is text sa s9 := vk_R.warm hW0 hstr
  obtain ⟨U, hsteps, hrun, hend, hW, hsame, ce, hce, hcl0, hv0⟩ := od_ctor X1 hexec htr (own := own) (cls := cls) (names := names) (ic := ic) hown9 hcls hnames h (fun x hx => nomatch hx) hfX hkX hcA (by rw [hhp, hT]; exact Nat.le_refl _) (msg := .ref sa) rfl
    (g := { method := m, pc := pc + 6, locals := ls, stack := .ref sa :: .ref T.heap.size :: .ref T.heap.size :: rest, locked := none }) rfl hsize rfl rfl (rest := rest) rfl
    (by rw [hb]; exact d6) (by rw [hb]; exact d9) hout hRf (by simp only [List.map_cons, List.sum_cons, hcat]; omega) hlocks
  obtain ⟨f1, f2⟩ := vx_frame hsame
  rw [hhp] at f1 f2
  have hWs : s.WarmedH U.vm := State.WarmedH.trans hW0 hW
  have hcl : s.vm.findClass cls = some ce.cls := by rw [hvm] at hcl0; exact hcl0
  have hall : s.sameButNew ({ U with vm := s.vm } : State) locs mc ms := by
    subst hA
    obtain ⟨e1, e2⟩ := hsame
    rw [State.setFrames_setFrames] at e1
    have h2 : (T.setVm s.vm).sameButNew ({ U with vm := s.vm } : State) [] (0 + 1) (0 + 6) := ⟨e1, e2⟩
    have h3 := X.same.trans h2
    rw [List.append_nil] at h3
    exact h3.mono hc hs
  refine ⟨U, ?_, .threw T.heap.size, hrun, hend, Or.inr ⟨T.heap.size, rfl, cls, ce, locs, hx U hWs.alike f1 (fun q hq => f2 q hq (fun z hz => nomatch hz)), hce, hv0, hcl, hWs, hall, hf⟩⟩
  refine st1 _ ?_
  show Steps p.tables e below (T1.setTop { method := m, pc := pc + 3, locals := ls, stack := .ref T.heap.size :: rest, locked := none }) _
  jvm_step X1.here [X1.here.top, hexec, d39, Value.category]
  exact X1.ldcString hexec (own := own) (text := text) (index := is) (a := sa) hown9 hstr9.1 hstr9.2
    (g := { method := m, pc := pc + 4, locals := ls, stack := .ref T.heap.size :: .ref T.heap.size :: rest, locked := none }) rfl d49 _ hsteps
end OddT
end
section
/-! ===== printed: names, fields, word lists ===== -/
def RX0 : String := "Tonguetell$Cutter"
def TX0 : u_T := fun k => match k with
  | 0 => ("Tonguetell$Cutter", "costs", "[[I", true)
  | 1 => ("Tonguetell$Cutter", "told", "[I", true)
  | 2 => ("Tonguetell$Cutter", "rest", "[[I", true)
  | 3 => ("Tonguetell$Cutter", "runCount", "I", false)
  | 4 => ("Tonguetell$Cutter", "choices", "I", false)
  | _ => ("Tonguetell$Cutter", "changePrice", "I", false)
def tyX0 : Nat → FieldType := fun k => match k with
  | 0 => .array (.array .int)
  | 1 => .array .int
  | 2 => .array (.array .int)
  | 3 => .int
  | 4 => .int
  | _ => .int
abbrev wsX00 : List Cond := u_ws RX0 TX0 6
theorem nmX0 : ∀ a, a < 6 → ∀ b, b < 6 → a ≠ b → (TX0 a).2.1 ≠ (TX0 b).2.1 := by decide +kernel
theorem tyX0_ok : ∀ k, k < 6 → parseFieldDescriptor (TX0 k).2.2.1 = some (tyX0 k) := by decide +kernel
abbrev cX0_init : ByteArray := prog_2_method_1_code
def yX0_init : MethodName := ⟨RX0, "<init>", "()V"⟩
abbrev cX0_begin : ByteArray := prog_2_method_2_code
def yX0_begin : MethodName := ⟨RX0, "begin", "(III)V"⟩
abbrev cX0_leastCost : ByteArray := prog_2_method_3_code
def yX0_leastCost : MethodName := ⟨RX0, "leastCost", "()I"⟩
abbrev cX0_leastCostByTrying : ByteArray := prog_2_method_4_code
def yX0_leastCostByTrying : MethodName := ⟨RX0, "leastCostByTrying", "()I"⟩
abbrev cX0_findToldCut : ByteArray := prog_2_method_5_code
def yX0_findToldCut : MethodName := ⟨RX0, "findToldCut", "()V"⟩
abbrev cX0_stretchCount : ByteArray := prog_2_method_6_code
def yX0_stretchCount : MethodName := ⟨RX0, "stretchCount", "()I"⟩
abbrev cX0_fillRest : ByteArray := prog_2_method_7_code
def yX0_fillRest : MethodName := ⟨RX0, "fillRest", "()V"⟩
abbrev cX0_leastBehind : ByteArray := prog_2_method_8_code
def yX0_leastBehind : MethodName := ⟨RX0, "leastBehind", "(II)I"⟩
abbrev cX0_cheapest : ByteArray := prog_2_method_9_code
def yX0_cheapest : MethodName := ⟨RX0, "cheapest", "(II)I"⟩
abbrev cX0_restAfter : ByteArray := prog_2_method_10_code
def yX0_restAfter : MethodName := ⟨RX0, "restAfter", "(III)I"⟩
abbrev cX0_priceOfChange : ByteArray := prog_2_method_11_code
def yX0_priceOfChange : MethodName := ⟨RX0, "priceOfChange", "(II)I"⟩
abbrev cX0_leastByTrying : ByteArray := prog_2_method_12_code
def yX0_leastByTrying : MethodName := ⟨RX0, "leastByTrying", "(LTonguetell$Cutter;II)I"⟩
def RX1 : String := "Tonguetell$Shelf"
def TX1 : u_T := fun k => match k with
  | 0 => ("Tonguetell$Shelf", "numberIn", "[I", true)
  | 1 => ("Tonguetell$Shelf", "tongueIn", "[I", true)
  | 2 => ("Tonguetell$Shelf", "lengthIn", "[I", true)
  | 3 => ("Tonguetell$Shelf", "runsIn", "[[I", true)
  | _ => ("Tonguetell$Shelf", "nextNumber", "I", false)
def tyX1 : Nat → FieldType := fun k => match k with
  | 0 => .array .int
  | 1 => .array .int
  | 2 => .array .int
  | 3 => .array (.array .int)
  | _ => .int
abbrev wsX10 : List Cond := u_ws RX1 TX1 5
theorem nmX1 : ∀ a, a < 5 → ∀ b, b < 5 → a ≠ b → (TX1 a).2.1 ≠ (TX1 b).2.1 := by decide +kernel
theorem tyX1_ok : ∀ k, k < 5 → parseFieldDescriptor (TX1 k).2.2.1 = some (tyX1 k) := by decide +kernel
abbrev cX1_init : ByteArray := prog_3_method_1_code
def yX1_init : MethodName := ⟨RX1, "<init>", "()V"⟩
abbrev cX1_isFull : ByteArray := prog_3_method_2_code
def yX1_isFull : MethodName := ⟨RX1, "isFull", "()Z"⟩
abbrev cX1_slotOf : ByteArray := prog_3_method_3_code
def yX1_slotOf : MethodName := ⟨RX1, "slotOf", "(I)I"⟩
abbrev cX1_take : ByteArray := prog_3_method_4_code
def yX1_take : MethodName := ⟨RX1, "take", "(II)I"⟩
abbrev cX1_free : ByteArray := prog_3_method_5_code
def yX1_free : MethodName := ⟨RX1, "free", "(I)V"⟩
abbrev cX1_firstSlotWith : ByteArray := prog_3_method_6_code
def yX1_firstSlotWith : MethodName := ⟨RX1, "firstSlotWith", "(I)I"⟩
def RX2 : String := "Tonguetell$Spelling"
def TX2 : u_T := fun k => match k with
  | 0 => ("Tonguetell$Spelling", "letters", "[I", true)
  | _ => ("Tonguetell$Spelling", "length", "I", false)
def tyX2 : Nat → FieldType := fun k => match k with
  | 0 => .array .int
  | _ => .int
abbrev wsX20 : List Cond := u_ws RX2 TX2 2
theorem nmX2 : ∀ a, a < 2 → ∀ b, b < 2 → a ≠ b → (TX2 a).2.1 ≠ (TX2 b).2.1 := by decide +kernel
theorem tyX2_ok : ∀ k, k < 2 → parseFieldDescriptor (TX2 k).2.2.1 = some (tyX2 k) := by decide +kernel
abbrev cX2_init : ByteArray := prog_4_method_1_code
def yX2_init : MethodName := ⟨RX2, "<init>", "()V"⟩
abbrev cX2_append : ByteArray := prog_4_method_2_code
def yX2_append : MethodName := ⟨RX2, "append", "(I)V"⟩
abbrev cX2_runCount : ByteArray := prog_4_method_3_code
def yX2_runCount : MethodName := ⟨RX2, "runCount", "()I"⟩
abbrev cX2_runNumber : ByteArray := prog_4_method_4_code
def yX2_runNumber : MethodName := ⟨RX2, "runNumber", "(I)I"⟩
abbrev cX2_letterOrGap : ByteArray := prog_4_method_5_code
def yX2_letterOrGap : MethodName := ⟨RX2, "letterOrGap", "(I)I"⟩
def RX3 : String := "Tonguetell$Tally"
def TX3 : u_T := fun k => match k with
  | 0 => ("Tonguetell$Tally", "counts", "[I", true)
  | _ => ("Tonguetell$Tally", "sum", "I", false)
def tyX3 : Nat → FieldType := fun k => match k with
  | 0 => .array .int
  | _ => .int
abbrev wsX30 : List Cond := u_ws RX3 TX3 2
theorem nmX3 : ∀ a, a < 2 → ∀ b, b < 2 → a ≠ b → (TX3 a).2.1 ≠ (TX3 b).2.1 := by decide +kernel
theorem tyX3_ok : ∀ k, k < 2 → parseFieldDescriptor (TX3 k).2.2.1 = some (tyX3 k) := by decide +kernel
abbrev cX3_init : ByteArray := prog_5_method_1_code
def yX3_init : MethodName := ⟨RX3, "<init>", "()V"⟩
abbrev cX3_add : ByteArray := prog_5_method_3_code
def yX3_add : MethodName := ⟨RX3, "add", "(I)V"⟩
abbrev cX3_remove : ByteArray := prog_5_method_4_code
def yX3_remove : MethodName := ⟨RX3, "remove", "(I)V"⟩
abbrev cX3_costOf : ByteArray := prog_5_method_5_code
def yX3_costOf : MethodName := ⟨RX3, "costOf", "(I)I"⟩
def RX4 : String := "Tonguetell"
def TX4 : u_T := fun k => match k with
  | 0 => ("Tonguetell", "spelled", "LTonguetell$Spelling;", true)
  | 1 => ("Tonguetell", "spelledTally", "LTonguetell$Tally;", true)
  | 2 => ("Tonguetell", "tallies", "[LTonguetell$Tally;", true)
  | 3 => ("Tonguetell", "shelf", "LTonguetell$Shelf;", true)
  | 4 => ("Tonguetell", "cutter", "LTonguetell$Cutter;", true)
  | 5 => ("Tonguetell", "tongueCount", "I", false)
  | 6 => ("Tonguetell", "margin", "I", false)
  | _ => ("Tonguetell", "price", "I", false)
def tyX4 : Nat → FieldType := fun k => match k with
  | 0 => .object "Tonguetell$Spelling"
  | 1 => .object "Tonguetell$Tally"
  | 2 => .array (.object "Tonguetell$Tally")
  | 3 => .object "Tonguetell$Shelf"
  | 4 => .object "Tonguetell$Cutter"
  | 5 => .int
  | 6 => .int
  | _ => .int
abbrev wsX40 : List Cond := u_ws RX4 TX4 8
theorem nmX4 : ∀ a, a < 8 → ∀ b, b < 8 → a ≠ b → (TX4 a).2.1 ≠ (TX4 b).2.1 := by decide +kernel
theorem tyX4_ok : ∀ k, k < 8 → parseFieldDescriptor (TX4 k).2.2.1 = some (tyX4 k) := by decide +kernel
abbrev cX4_init : ByteArray := prog_1_method_1_code
def yX4_init : MethodName := ⟨RX4, "<init>", "()V"⟩
abbrev cX4_spell : ByteArray := prog_1_method_2_code
def yX4_spell : MethodName := ⟨RX4, "spell", "(C)I"⟩
abbrev cX4_clearSpelled : ByteArray := prog_1_method_3_code
def yX4_clearSpelled : MethodName := ⟨RX4, "clearSpelled", "()I"⟩
abbrev cX4_runs : ByteArray := prog_1_method_4_code
def yX4_runs : MethodName := ⟨RX4, "runs", "()I"⟩
abbrev cX4_runAt : ByteArray := prog_1_method_5_code
def yX4_runAt : MethodName := ⟨RX4, "runAt", "(I)I"⟩
abbrev cX4_addTongue : ByteArray := prog_1_method_6_code
def yX4_addTongue : MethodName := ⟨RX4, "addTongue", "()I"⟩
abbrev cX4_tongues : ByteArray := prog_1_method_7_code
def yX4_tongues : MethodName := ⟨RX4, "tongues", "()I"⟩
abbrev cX4_teach : ByteArray := prog_1_method_8_code
def yX4_teach : MethodName := ⟨RX4, "teach", "(I)I"⟩
abbrev cX4_withdraw : ByteArray := prog_1_method_9_code
def yX4_withdraw : MethodName := ⟨RX4, "withdraw", "(I)I"⟩
abbrev cX4_tongueOf : ByteArray := prog_1_method_10_code
def yX4_tongueOf : MethodName := ⟨RX4, "tongueOf", "(I)I"⟩
abbrev cX4_total : ByteArray := prog_1_method_11_code
def yX4_total : MethodName := ⟨RX4, "total", "(I)I"⟩
abbrev cX4_count : ByteArray := prog_1_method_12_code
def yX4_count : MethodName := ⟨RX4, "count", "(II)I"⟩
abbrev cX4_cost : ByteArray := prog_1_method_13_code
def yX4_cost : MethodName := ⟨RX4, "cost", "(II)I"⟩
abbrev cX4_textCost : ByteArray := prog_1_method_15_code
def yX4_textCost : MethodName := ⟨RX4, "textCost", "(I)I"⟩
abbrev cX4_setPrice : ByteArray := prog_1_method_20_code
def yX4_setPrice : MethodName := ⟨RX4, "setPrice", "(I)I"⟩
abbrev cX4_cutCost : ByteArray := prog_1_method_21_code
def yX4_cutCost : MethodName := ⟨RX4, "cutCost", "()I"⟩
abbrev cX4_cutCostByTrying : ByteArray := prog_1_method_22_code
def yX4_cutCostByTrying : MethodName := ⟨RX4, "cutCostByTrying", "()I"⟩
abbrev cX4_cutTongue : ByteArray := prog_1_method_23_code
def yX4_cutTongue : MethodName := ⟨RX4, "cutTongue", "(I)I"⟩
abbrev cX4_stretches : ByteArray := prog_1_method_24_code
def yX4_stretches : MethodName := ⟨RX4, "stretches", "()I"⟩
abbrev cX4_letterNumber : ByteArray := prog_1_method_26_code
def yX4_letterNumber : MethodName := ⟨RX4, "letterNumber", "(C)I"⟩
abbrev cX4_requireRunPlace : ByteArray := prog_1_method_27_code
def yX4_requireRunPlace : MethodName := ⟨RX4, "requireRunPlace", "(I)V"⟩
abbrev cX4_requireTongue : ByteArray := prog_1_method_28_code
def yX4_requireTongue : MethodName := ⟨RX4, "requireTongue", "(I)V"⟩
abbrev cX4_requireSomeTongue : ByteArray := prog_1_method_29_code
def yX4_requireSomeTongue : MethodName := ⟨RX4, "requireSomeTongue", "()V"⟩
abbrev cX4_requireRunKind : ByteArray := prog_1_method_30_code
def yX4_requireRunKind : MethodName := ⟨RX4, "requireRunKind", "(I)V"⟩
abbrev cX4_slotOfTaught : ByteArray := prog_1_method_31_code
def yX4_slotOfTaught : MethodName := ⟨RX4, "slotOfTaught", "(I)I"⟩
abbrev cX4_newTongue : ByteArray := prog_1_method_32_code
def yX4_newTongue : MethodName := ⟨RX4, "newTongue", "()I"⟩
abbrev cX4_teachRuns : ByteArray := prog_1_method_33_code
def yX4_teachRuns : MethodName := ⟨RX4, "teachRuns", "(III)I"⟩
abbrev cX4_costOfSpelled : ByteArray := prog_1_method_34_code
def yX4_costOfSpelled : MethodName := ⟨RX4, "costOfSpelled", "(I)I"⟩
abbrev cX4_layCostsForCut : ByteArray := prog_1_method_38_code
def yX4_layCostsForCut : MethodName := ⟨RX4, "layCostsForCut", "()V"⟩
def RX5 : String := "TonguetellModel"
def TX5 : u_T := fun k => match k with
  | _ => ("", "", "", false)
def tyX5 : Nat → FieldType := fun k => match k with
  | _ => .int
abbrev wsX50 : List Cond := u_ws RX5 TX5 0
theorem nmX5 : ∀ a, a < 0 → ∀ b, b < 0 → a ≠ b → (TX5 a).2.1 ≠ (TX5 b).2.1 := by decide +kernel
theorem tyX5_ok : ∀ k, k < 0 → parseFieldDescriptor (TX5 k).2.2.1 = some (tyX5 k) := by decide +kernel
def RL : String := "TonguetellLaw"
abbrev cL_cell : ByteArray := method_2_code
def yL_cell : MethodName := ⟨RL, "cell", "([II)I"⟩
abbrev cL_low : ByteArray := method_3_code
def yL_low : MethodName := ⟨RL, "low", "(II)I"⟩
abbrev cL_areCosts : ByteArray := method_4_code
def yL_areCosts : MethodName := ⟨RL, "areCosts", "(LTonguetell;I)Z"⟩
abbrev cL_isCut : ByteArray := method_5_code
def yL_isCut : MethodName := ⟨RL, "isCut", "(LTonguetell;II)Z"⟩
abbrev cL_law : ByteArray := code
def yL_law : MethodName := ⟨RL, "law", "([I)Z"⟩
def wsX0_init : List Cond := .code yX0_init cX0_init 1 none :: ([.methodLink RX0 3 objectInit, .instanceMethod objectInit, .code objectInit ⟨#[0xb1]⟩ 1 none, .classLink RX0 9 "[[I", .arrayClass .int, .fieldLink RX0 11 "Tonguetell$Cutter" "costs" "[[I", .fieldLink RX0 16 "Tonguetell$Cutter" "told" "[I", .fieldLink RX0 20 "Tonguetell$Cutter" "rest" "[[I", .fieldLink RX0 23 "Tonguetell$Cutter" "runCount" "I", .fieldLink RX0 27 "Tonguetell$Cutter" "choices" "I", .fieldLink RX0 30 "Tonguetell$Cutter" "changePrice" "I"] ++ wsX00)
def wsX0_begin : List Cond := .code yX0_begin cX0_begin 4 none :: ([.fieldLink RX0 23 "Tonguetell$Cutter" "runCount" "I", .fieldLink RX0 27 "Tonguetell$Cutter" "choices" "I", .fieldLink RX0 30 "Tonguetell$Cutter" "changePrice" "I"] ++ wsX00)
def wsX0_priceOfChange : List Cond := .code yX0_priceOfChange cX0_priceOfChange 3 (some .int) :: ([.fieldLink RX0 30 "Tonguetell$Cutter" "changePrice" "I"] ++ wsX00)
def wsX0_restAfter : List Cond := .code yX0_restAfter cX0_restAfter 4 (some .int) :: ([.fieldLink RX0 20 "Tonguetell$Cutter" "rest" "[[I", .methodLink RX0 51 yX0_priceOfChange, .instanceMethod yX0_priceOfChange, .selects RX0 yX0_priceOfChange yX0_priceOfChange, .initialized RX0, .code yX0_priceOfChange cX0_priceOfChange 3 (some .int), .fieldLink RX0 30 "Tonguetell$Cutter" "changePrice" "I"] ++ wsX00)
def wsX0_cheapest : List Cond := .code yX0_cheapest cX0_cheapest 5 (some .int) :: ([.fieldLink RX0 27 "Tonguetell$Cutter" "choices" "I", .methodLink RX0 47 yX0_restAfter, .instanceMethod yX0_restAfter, .selects RX0 yX0_restAfter yX0_restAfter, .initialized RX0, .code yX0_restAfter cX0_restAfter 4 (some .int), .fieldLink RX0 20 "Tonguetell$Cutter" "rest" "[[I", .methodLink RX0 51 yX0_priceOfChange, .instanceMethod yX0_priceOfChange, .selects RX0 yX0_priceOfChange yX0_priceOfChange, .code yX0_priceOfChange cX0_priceOfChange 3 (some .int), .fieldLink RX0 30 "Tonguetell$Cutter" "changePrice" "I"] ++ wsX00)
def wsX0_leastBehind : List Cond := .code yX0_leastBehind cX0_leastBehind 4 (some .int) :: ([.fieldLink RX0 23 "Tonguetell$Cutter" "runCount" "I", .methodLink RX0 36 yX0_cheapest, .instanceMethod yX0_cheapest, .selects RX0 yX0_cheapest yX0_cheapest, .initialized RX0, .code yX0_cheapest cX0_cheapest 5 (some .int), .fieldLink RX0 27 "Tonguetell$Cutter" "choices" "I", .methodLink RX0 47 yX0_restAfter, .instanceMethod yX0_restAfter, .selects RX0 yX0_restAfter yX0_restAfter, .code yX0_restAfter cX0_restAfter 4 (some .int), .fieldLink RX0 20 "Tonguetell$Cutter" "rest" "[[I", .methodLink RX0 51 yX0_priceOfChange, .instanceMethod yX0_priceOfChange, .selects RX0 yX0_priceOfChange yX0_priceOfChange, .code yX0_priceOfChange cX0_priceOfChange 3 (some .int), .fieldLink RX0 30 "Tonguetell$Cutter" "changePrice" "I"] ++ wsX00)
def wsX0_fillRest : List Cond := .code yX0_fillRest cX0_fillRest 3 none :: ([.fieldLink RX0 23 "Tonguetell$Cutter" "runCount" "I", .fieldLink RX0 27 "Tonguetell$Cutter" "choices" "I", .fieldLink RX0 20 "Tonguetell$Cutter" "rest" "[[I", .fieldLink RX0 11 "Tonguetell$Cutter" "costs" "[[I", .methodLink RX0 44 yX0_leastBehind, .instanceMethod yX0_leastBehind, .selects RX0 yX0_leastBehind yX0_leastBehind, .initialized RX0, .code yX0_leastBehind cX0_leastBehind 4 (some .int), .methodLink RX0 36 yX0_cheapest, .instanceMethod yX0_cheapest, .selects RX0 yX0_cheapest yX0_cheapest, .code yX0_cheapest cX0_cheapest 5 (some .int), .methodLink RX0 47 yX0_restAfter, .instanceMethod yX0_restAfter, .selects RX0 yX0_restAfter yX0_restAfter, .code yX0_restAfter cX0_restAfter 4 (some .int), .methodLink RX0 51 yX0_priceOfChange, .instanceMethod yX0_priceOfChange, .selects RX0 yX0_priceOfChange yX0_priceOfChange, .code yX0_priceOfChange cX0_priceOfChange 3 (some .int), .fieldLink RX0 30 "Tonguetell$Cutter" "changePrice" "I"] ++ wsX00)
def wsX0_leastCost_r1 : List Cond := [Cond.fieldLink RX0 23 "Tonguetell$Cutter" "runCount" "I", Cond.fieldLink RX0 20 "Tonguetell$Cutter" "rest" "[[I", Cond.methodLink RX0 33 yX0_fillRest, Cond.instanceMethod yX0_fillRest, Cond.selects RX0 yX0_fillRest yX0_fillRest, Cond.initialized RX0, Cond.code yX0_fillRest cX0_fillRest 3 none, Cond.fieldLink RX0 27 "Tonguetell$Cutter" "choices" "I", Cond.fieldLink RX0 11 "Tonguetell$Cutter" "costs" "[[I", Cond.methodLink RX0 44 yX0_leastBehind, Cond.instanceMethod yX0_leastBehind, Cond.selects RX0 yX0_leastBehind yX0_leastBehind, Cond.code yX0_leastBehind cX0_leastBehind 4 (some .int), Cond.methodLink RX0 36 yX0_cheapest, Cond.instanceMethod yX0_cheapest, Cond.selects RX0 yX0_cheapest yX0_cheapest, Cond.code yX0_cheapest cX0_cheapest 5 (some .int), Cond.methodLink RX0 47 yX0_restAfter, Cond.instanceMethod yX0_restAfter, Cond.selects RX0 yX0_restAfter yX0_restAfter, Cond.code yX0_restAfter cX0_restAfter 4 (some .int), Cond.methodLink RX0 51 yX0_priceOfChange, Cond.instanceMethod yX0_priceOfChange, Cond.selects RX0 yX0_priceOfChange yX0_priceOfChange]
def wsX0_leastCost_r2 : List Cond := [Cond.code yX0_priceOfChange cX0_priceOfChange 3 (some .int), Cond.fieldLink RX0 30 "Tonguetell$Cutter" "changePrice" "I"]
def wsX0_leastCost : List Cond := .code yX0_leastCost cX0_leastCost 1 (some .int) :: ((wsX0_leastCost_r1 ++ wsX0_leastCost_r2) ++ wsX00)
def wsX0_leastByTrying : List Cond := .code yX0_leastByTrying cX0_leastByTrying 6 (some .int) :: ([.fieldLink RX0 23 "Tonguetell$Cutter" "runCount" "I", .constant RX0 54 (1000000), .fieldLink RX0 27 "Tonguetell$Cutter" "choices" "I", .fieldLink RX0 11 "Tonguetell$Cutter" "costs" "[[I", .methodLink RX0 55 Lib.Math.min.name, .static Lib.Math.min.name, .initialized "java/lang/Math", .code Lib.Math.min.name Lib.Math.min.code 2 (some .int), .methodLink RX0 51 yX0_priceOfChange, .instanceMethod yX0_priceOfChange, .selects RX0 yX0_priceOfChange yX0_priceOfChange, .initialized RX0, .code yX0_priceOfChange cX0_priceOfChange 3 (some .int), .fieldLink RX0 30 "Tonguetell$Cutter" "changePrice" "I", .methodLink RX0 40 yX0_leastByTrying, .static yX0_leastByTrying] ++ wsX00)
def wsX0_leastCostByTrying : List Cond := .code yX0_leastCostByTrying cX0_leastCostByTrying 1 (some .int) :: ([.methodLink RX0 40 yX0_leastByTrying, .static yX0_leastByTrying, .initialized RX0, .code yX0_leastByTrying cX0_leastByTrying 6 (some .int), .fieldLink RX0 23 "Tonguetell$Cutter" "runCount" "I", .constant RX0 54 (1000000), .fieldLink RX0 27 "Tonguetell$Cutter" "choices" "I", .fieldLink RX0 11 "Tonguetell$Cutter" "costs" "[[I", .methodLink RX0 55 Lib.Math.min.name, .static Lib.Math.min.name, .initialized "java/lang/Math", .code Lib.Math.min.name Lib.Math.min.code 2 (some .int), .methodLink RX0 51 yX0_priceOfChange, .instanceMethod yX0_priceOfChange, .selects RX0 yX0_priceOfChange yX0_priceOfChange, .code yX0_priceOfChange cX0_priceOfChange 3 (some .int), .fieldLink RX0 30 "Tonguetell$Cutter" "changePrice" "I"] ++ wsX00)
def wsX0_findToldCut_r1 : List Cond := [Cond.fieldLink RX0 23 "Tonguetell$Cutter" "runCount" "I", Cond.fieldLink RX0 16 "Tonguetell$Cutter" "told" "[I", Cond.methodLink RX0 33 yX0_fillRest, Cond.instanceMethod yX0_fillRest, Cond.selects RX0 yX0_fillRest yX0_fillRest, Cond.initialized RX0, Cond.code yX0_fillRest cX0_fillRest 3 none, Cond.fieldLink RX0 27 "Tonguetell$Cutter" "choices" "I", Cond.fieldLink RX0 20 "Tonguetell$Cutter" "rest" "[[I", Cond.fieldLink RX0 11 "Tonguetell$Cutter" "costs" "[[I", Cond.methodLink RX0 44 yX0_leastBehind, Cond.instanceMethod yX0_leastBehind, Cond.selects RX0 yX0_leastBehind yX0_leastBehind, Cond.code yX0_leastBehind cX0_leastBehind 4 (some .int), Cond.methodLink RX0 36 yX0_cheapest, Cond.instanceMethod yX0_cheapest, Cond.selects RX0 yX0_cheapest yX0_cheapest, Cond.code yX0_cheapest cX0_cheapest 5 (some .int), Cond.methodLink RX0 47 yX0_restAfter, Cond.instanceMethod yX0_restAfter, Cond.selects RX0 yX0_restAfter yX0_restAfter, Cond.code yX0_restAfter cX0_restAfter 4 (some .int), Cond.methodLink RX0 51 yX0_priceOfChange, Cond.instanceMethod yX0_priceOfChange]
def wsX0_findToldCut_r2 : List Cond := [Cond.selects RX0 yX0_priceOfChange yX0_priceOfChange, Cond.code yX0_priceOfChange cX0_priceOfChange 3 (some .int), Cond.fieldLink RX0 30 "Tonguetell$Cutter" "changePrice" "I"]
def wsX0_findToldCut : List Cond := .code yX0_findToldCut cX0_findToldCut 3 none :: ((wsX0_findToldCut_r1 ++ wsX0_findToldCut_r2) ++ wsX00)
def wsX0_stretchCount : List Cond := .code yX0_stretchCount cX0_stretchCount 3 (some .int) :: ([.fieldLink RX0 23 "Tonguetell$Cutter" "runCount" "I", .fieldLink RX0 16 "Tonguetell$Cutter" "told" "[I"] ++ wsX00)
def wsX1_init : List Cond := .code yX1_init cX1_init 2 none :: ([.methodLink RX1 3 objectInit, .instanceMethod objectInit, .code objectInit ⟨#[0xb1]⟩ 1 none, .arrayClass .int, .fieldLink RX1 9 "Tonguetell$Shelf" "numberIn" "[I", .fieldLink RX1 15 "Tonguetell$Shelf" "tongueIn" "[I", .fieldLink RX1 18 "Tonguetell$Shelf" "lengthIn" "[I", .classLink RX1 21 "[[I", .fieldLink RX1 23 "Tonguetell$Shelf" "runsIn" "[[I", .fieldLink RX1 26 "Tonguetell$Shelf" "nextNumber" "I"] ++ wsX10)
def wsX1_firstSlotWith : List Cond := .code yX1_firstSlotWith cX1_firstSlotWith 3 (some .int) :: ([.fieldLink RX1 9 "Tonguetell$Shelf" "numberIn" "[I"] ++ wsX10)
def wsX1_isFull : List Cond := .code yX1_isFull cX1_isFull 1 (some .boolean) :: ([.methodLink RX1 30 yX1_firstSlotWith, .instanceMethod yX1_firstSlotWith, .selects RX1 yX1_firstSlotWith yX1_firstSlotWith, .initialized RX1, .code yX1_firstSlotWith cX1_firstSlotWith 3 (some .int), .fieldLink RX1 9 "Tonguetell$Shelf" "numberIn" "[I"] ++ wsX10)
def wsX1_slotOf : List Cond := .code yX1_slotOf cX1_slotOf 2 (some .int) :: ([.methodLink RX1 30 yX1_firstSlotWith, .instanceMethod yX1_firstSlotWith, .selects RX1 yX1_firstSlotWith yX1_firstSlotWith, .initialized RX1, .code yX1_firstSlotWith cX1_firstSlotWith 3 (some .int), .fieldLink RX1 9 "Tonguetell$Shelf" "numberIn" "[I"] ++ wsX10)
def wsX1_take : List Cond := .code yX1_take cX1_take 4 (some .int) :: ([.fieldLink RX1 9 "Tonguetell$Shelf" "numberIn" "[I", .fieldLink RX1 26 "Tonguetell$Shelf" "nextNumber" "I", .fieldLink RX1 15 "Tonguetell$Shelf" "tongueIn" "[I", .fieldLink RX1 18 "Tonguetell$Shelf" "lengthIn" "[I", .methodLink RX1 30 yX1_firstSlotWith, .instanceMethod yX1_firstSlotWith, .selects RX1 yX1_firstSlotWith yX1_firstSlotWith, .initialized RX1, .code yX1_firstSlotWith cX1_firstSlotWith 3 (some .int)] ++ wsX10)
def wsX1_free : List Cond := .code yX1_free cX1_free 2 none :: ([.fieldLink RX1 9 "Tonguetell$Shelf" "numberIn" "[I"] ++ wsX10)
def wsX2_init : List Cond := .code yX2_init cX2_init 1 none :: ([.methodLink RX2 3 objectInit, .instanceMethod objectInit, .code objectInit ⟨#[0xb1]⟩ 1 none, .arrayClass .int, .fieldLink RX2 9 "Tonguetell$Spelling" "letters" "[I", .fieldLink RX2 15 "Tonguetell$Spelling" "length" "I"] ++ wsX20)
def wsX2_append : List Cond := .code yX2_append cX2_append 2 none :: ([.fieldLink RX2 9 "Tonguetell$Spelling" "letters" "[I", .fieldLink RX2 15 "Tonguetell$Spelling" "length" "I"] ++ wsX20)
def wsX2_runCount : List Cond := .code yX2_runCount cX2_runCount 1 (some .int) :: ([.fieldLink RX2 15 "Tonguetell$Spelling" "length" "I"] ++ wsX20)
def wsX2_letterOrGap : List Cond := .code yX2_letterOrGap cX2_letterOrGap 2 (some .int) :: ([.fieldLink RX2 15 "Tonguetell$Spelling" "length" "I", .fieldLink RX2 9 "Tonguetell$Spelling" "letters" "[I"] ++ wsX20)
def wsX2_runNumber : List Cond := .code yX2_runNumber cX2_runNumber 2 (some .int) :: ([.methodLink RX2 19 yX2_letterOrGap, .instanceMethod yX2_letterOrGap, .selects RX2 yX2_letterOrGap yX2_letterOrGap, .initialized RX2, .code yX2_letterOrGap cX2_letterOrGap 2 (some .int), .fieldLink RX2 15 "Tonguetell$Spelling" "length" "I", .fieldLink RX2 9 "Tonguetell$Spelling" "letters" "[I"] ++ wsX20)
def wsX3_init : List Cond := .code yX3_init cX3_init 1 none :: ([.methodLink RX3 3 objectInit, .instanceMethod objectInit, .code objectInit ⟨#[0xb1]⟩ 1 none, .arrayClass .int, .fieldLink RX3 9 "Tonguetell$Tally" "counts" "[I", .fieldLink RX3 15 "Tonguetell$Tally" "sum" "I"] ++ wsX30)
def wsX3_add : List Cond := .code yX3_add cX3_add 2 none :: ([.fieldLink RX3 9 "Tonguetell$Tally" "counts" "[I", .fieldLink RX3 15 "Tonguetell$Tally" "sum" "I"] ++ wsX30)
def wsX3_remove : List Cond := .code yX3_remove cX3_remove 2 none :: ([.fieldLink RX3 9 "Tonguetell$Tally" "counts" "[I", .fieldLink RX3 15 "Tonguetell$Tally" "sum" "I"] ++ wsX30)
def wsX3_costOf : List Cond := .code yX3_costOf cX3_costOf 5 (some .int) :: ([.fieldLink RX3 15 "Tonguetell$Tally" "sum" "I", .fieldLink RX3 9 "Tonguetell$Tally" "counts" "[I"] ++ wsX30)
def wsX4_init_r1 : List Cond := [Cond.methodLink RX4 1 objectInit, Cond.instanceMethod objectInit, Cond.code objectInit ⟨#[0xb1]⟩ 1 none, Cond.classLink RX4 7 RX2, Cond.instantiable RX2 2, Cond.initialized RX2, Cond.fieldLink RX4 10 "Tonguetell" "spelled" "LTonguetell$Spelling;", Cond.classLink RX4 16 RX3, Cond.instantiable RX3 2, Cond.initialized RX3, Cond.fieldLink RX4 19 "Tonguetell" "spelledTally" "LTonguetell$Tally;", Cond.fieldLink RX4 23 "Tonguetell" "tallies" "[LTonguetell$Tally;", Cond.classLink RX4 27 RX1, Cond.instantiable RX1 5, Cond.initialized RX1, Cond.fieldLink RX4 30 "Tonguetell" "shelf" "LTonguetell$Shelf;", Cond.classLink RX4 34 RX0, Cond.instantiable RX0 6, Cond.initialized RX0, Cond.fieldLink RX4 37 "Tonguetell" "cutter" "LTonguetell$Cutter;", Cond.fieldLink RX4 41 "Tonguetell" "tongueCount" "I", Cond.fieldLink RX4 45 "Tonguetell" "margin" "I", Cond.fieldLink RX4 48 "Tonguetell" "price" "I", Cond.instanceMethod yX2_init]
def wsX4_init_r2 : List Cond := [Cond.code yX2_init cX2_init 1 none, Cond.methodLink RX2 3 objectInit, Cond.arrayClass .int, Cond.fieldLink RX2 9 "Tonguetell$Spelling" "letters" "[I", Cond.fieldLink RX2 15 "Tonguetell$Spelling" "length" "I", Cond.instanceMethod yX3_init, Cond.code yX3_init cX3_init 1 none, Cond.methodLink RX3 3 objectInit, Cond.fieldLink RX3 9 "Tonguetell$Tally" "counts" "[I", Cond.fieldLink RX3 15 "Tonguetell$Tally" "sum" "I", Cond.methodLink RX4 29 yX1_init, Cond.instanceMethod yX1_init, Cond.code yX1_init cX1_init 2 none, Cond.methodLink RX1 3 objectInit, Cond.fieldLink RX1 9 "Tonguetell$Shelf" "numberIn" "[I", Cond.fieldLink RX1 15 "Tonguetell$Shelf" "tongueIn" "[I", Cond.fieldLink RX1 18 "Tonguetell$Shelf" "lengthIn" "[I", Cond.classLink RX1 21 "[[I", Cond.fieldLink RX1 23 "Tonguetell$Shelf" "runsIn" "[[I", Cond.fieldLink RX1 26 "Tonguetell$Shelf" "nextNumber" "I", Cond.instanceMethod yX0_init, Cond.code yX0_init cX0_init 1 none, Cond.methodLink RX0 3 objectInit, Cond.classLink RX0 9 "[[I"]
def wsX4_init_r3 : List Cond := [Cond.fieldLink RX0 11 "Tonguetell$Cutter" "costs" "[[I", Cond.fieldLink RX0 16 "Tonguetell$Cutter" "told" "[I", Cond.fieldLink RX0 20 "Tonguetell$Cutter" "rest" "[[I", Cond.fieldLink RX0 23 "Tonguetell$Cutter" "runCount" "I", Cond.fieldLink RX0 27 "Tonguetell$Cutter" "choices" "I", Cond.fieldLink RX0 30 "Tonguetell$Cutter" "changePrice" "I"]
def wsX4_init : List Cond := .code yX4_init cX4_init 2 none :: ((wsX4_init_r1 ++ (wsX4_init_r2 ++ wsX4_init_r3)) ++ wsX20 ++ wsX40 ++ wsX30 ++ wsX10 ++ wsX00)
def wsX4_letterNumber : List Cond := .code yX4_letterNumber cX4_letterNumber 1 (some .int) :: ([])
def wsX4_spell : List Cond := .code yX4_spell cX4_spell 3 (some .int) :: ([.classLink RX4 55 "java/lang/IllegalArgumentException", .initialized "java/lang/IllegalArgumentException", .classLink RX4 65 "java/lang/IllegalStateException", .initialized "java/lang/IllegalStateException", .fieldLink RX4 10 "Tonguetell" "spelled" "LTonguetell$Spelling;", .fieldLink RX4 62 "Tonguetell$Spelling" "length" "I", .methodLink RX4 51 yX4_letterNumber, .static yX4_letterNumber, .initialized RX4, .code yX4_letterNumber cX4_letterNumber 1 (some .int), .methodLink RX4 70 yX2_append, .instanceMethod yX2_append, .selects RX2 yX2_append yX2_append, .initialized RX2, .code yX2_append cX2_append 2 none, .fieldLink RX2 9 "Tonguetell$Spelling" "letters" "[I", .fieldLink RX2 15 "Tonguetell$Spelling" "length" "I"] ++ wsX40 ++ wsX20 ++ (vx_atS RX4 59 "java/lang/IllegalArgumentException" ["java/lang/RuntimeException", "java/lang/Exception"]).filter goodWord ++ (vx_atS RX4 69 "java/lang/IllegalStateException" ["java/lang/RuntimeException", "java/lang/Exception"]).filter goodWord)
def wsX4_clearSpelled : List Cond := .code yX4_clearSpelled cX4_clearSpelled 2 (some .int) :: ([.fieldLink RX4 10 "Tonguetell" "spelled" "LTonguetell$Spelling;", .fieldLink RX4 62 "Tonguetell$Spelling" "length" "I"] ++ wsX40 ++ wsX20)
def wsX4_runs : List Cond := .code yX4_runs cX4_runs 1 (some .int) :: ([.fieldLink RX4 10 "Tonguetell" "spelled" "LTonguetell$Spelling;", .methodLink RX4 74 yX2_runCount, .instanceMethod yX2_runCount, .selects RX2 yX2_runCount yX2_runCount, .initialized RX2, .code yX2_runCount cX2_runCount 1 (some .int), .fieldLink RX2 15 "Tonguetell$Spelling" "length" "I"] ++ wsX40 ++ wsX20)
def wsX4_requireRunPlace : List Cond := .code yX4_requireRunPlace cX4_requireRunPlace 2 none :: ([.classLink RX4 185 "java/lang/IndexOutOfBoundsException", .initialized "java/lang/IndexOutOfBoundsException", .fieldLink RX4 10 "Tonguetell" "spelled" "LTonguetell$Spelling;", .methodLink RX4 74 yX2_runCount, .instanceMethod yX2_runCount, .selects RX2 yX2_runCount yX2_runCount, .initialized RX2, .code yX2_runCount cX2_runCount 1 (some .int), .fieldLink RX2 15 "Tonguetell$Spelling" "length" "I"] ++ wsX40 ++ wsX20 ++ (vx_atS RX4 189 "java/lang/IndexOutOfBoundsException" ["java/lang/RuntimeException", "java/lang/Exception"]).filter goodWord)
def wsX4_runAt : List Cond := .code yX4_runAt cX4_runAt 2 (some .int) :: ([.fieldLink RX4 10 "Tonguetell" "spelled" "LTonguetell$Spelling;", .methodLink RX4 78 yX4_requireRunPlace, .instanceMethod yX4_requireRunPlace, .selects RX4 yX4_requireRunPlace yX4_requireRunPlace, .initialized RX4, .code yX4_requireRunPlace cX4_requireRunPlace 2 none, .classLink RX4 185 "java/lang/IndexOutOfBoundsException", .initialized "java/lang/IndexOutOfBoundsException", .methodLink RX4 74 yX2_runCount, .instanceMethod yX2_runCount, .selects RX2 yX2_runCount yX2_runCount, .initialized RX2, .code yX2_runCount cX2_runCount 1 (some .int), .fieldLink RX2 15 "Tonguetell$Spelling" "length" "I", .methodLink RX4 81 yX2_runNumber, .instanceMethod yX2_runNumber, .selects RX2 yX2_runNumber yX2_runNumber, .code yX2_runNumber cX2_runNumber 2 (some .int), .methodLink RX2 19 yX2_letterOrGap, .instanceMethod yX2_letterOrGap, .selects RX2 yX2_letterOrGap yX2_letterOrGap, .code yX2_letterOrGap cX2_letterOrGap 2 (some .int), .fieldLink RX2 9 "Tonguetell$Spelling" "letters" "[I"] ++ wsX40 ++ wsX20 ++ (vx_atS RX4 189 "java/lang/IndexOutOfBoundsException" ["java/lang/RuntimeException", "java/lang/Exception"]).filter goodWord)
def wsX4_newTongue : List Cond := .code yX4_newTongue cX4_newTongue 2 (some .int) :: ([.fieldLink RX4 41 "Tonguetell" "tongueCount" "I"] ++ wsX40)
def wsX4_addTongue : List Cond := .code yX4_addTongue cX4_addTongue 1 (some .int) :: ([.classLink RX4 65 "java/lang/IllegalStateException", .initialized "java/lang/IllegalStateException", .fieldLink RX4 41 "Tonguetell" "tongueCount" "I", .methodLink RX4 87 yX4_newTongue, .instanceMethod yX4_newTongue, .selects RX4 yX4_newTongue yX4_newTongue, .initialized RX4, .code yX4_newTongue cX4_newTongue 2 (some .int)] ++ wsX40 ++ (vx_atS RX4 69 "java/lang/IllegalStateException" ["java/lang/RuntimeException", "java/lang/Exception"]).filter goodWord)
def wsX4_tongues : List Cond := .code yX4_tongues cX4_tongues 1 (some .int) :: ([.fieldLink RX4 41 "Tonguetell" "tongueCount" "I"] ++ wsX40)
def wsX4_requireTongue : List Cond := .code yX4_requireTongue cX4_requireTongue 2 none :: ([.classLink RX4 185 "java/lang/IndexOutOfBoundsException", .initialized "java/lang/IndexOutOfBoundsException", .fieldLink RX4 41 "Tonguetell" "tongueCount" "I"] ++ wsX40 ++ (vx_atS RX4 189 "java/lang/IndexOutOfBoundsException" ["java/lang/RuntimeException", "java/lang/Exception"]).filter goodWord)
def wsX4_teachRuns_r1 : List Cond := [Cond.fieldLink RX4 30 "Tonguetell" "shelf" "LTonguetell$Shelf;", Cond.fieldLink RX4 10 "Tonguetell" "spelled" "LTonguetell$Spelling;", Cond.fieldLink RX4 115 "Tonguetell$Shelf" "runsIn" "[[I", Cond.fieldLink RX4 23 "Tonguetell" "tallies" "[LTonguetell$Tally;", Cond.fieldLink RX4 211 "Tonguetell$Shelf" "numberIn" "[I", Cond.methodLink RX4 204 yX1_take, Cond.instanceMethod yX1_take, Cond.selects RX1 yX1_take yX1_take, Cond.initialized RX1, Cond.code yX1_take cX1_take 4 (some .int), Cond.fieldLink RX1 9 "Tonguetell$Shelf" "numberIn" "[I", Cond.fieldLink RX1 26 "Tonguetell$Shelf" "nextNumber" "I", Cond.fieldLink RX1 15 "Tonguetell$Shelf" "tongueIn" "[I", Cond.fieldLink RX1 18 "Tonguetell$Shelf" "lengthIn" "[I", Cond.methodLink RX1 30 yX1_firstSlotWith, Cond.instanceMethod yX1_firstSlotWith, Cond.selects RX1 yX1_firstSlotWith yX1_firstSlotWith, Cond.code yX1_firstSlotWith cX1_firstSlotWith 3 (some .int), Cond.methodLink RX4 81 yX2_runNumber, Cond.instanceMethod yX2_runNumber, Cond.selects RX2 yX2_runNumber yX2_runNumber, Cond.initialized RX2, Cond.code yX2_runNumber cX2_runNumber 2 (some .int), Cond.methodLink RX2 19 yX2_letterOrGap]
def wsX4_teachRuns_r2 : List Cond := [Cond.instanceMethod yX2_letterOrGap, Cond.selects RX2 yX2_letterOrGap yX2_letterOrGap, Cond.code yX2_letterOrGap cX2_letterOrGap 2 (some .int), Cond.fieldLink RX2 15 "Tonguetell$Spelling" "length" "I", Cond.fieldLink RX2 9 "Tonguetell$Spelling" "letters" "[I", Cond.methodLink RX4 208 yX3_add, Cond.instanceMethod yX3_add, Cond.selects RX3 yX3_add yX3_add, Cond.initialized RX3, Cond.code yX3_add cX3_add 2 none, Cond.fieldLink RX3 9 "Tonguetell$Tally" "counts" "[I", Cond.fieldLink RX3 15 "Tonguetell$Tally" "sum" "I"]
def wsX4_teachRuns : List Cond := .code yX4_teachRuns cX4_teachRuns 7 (some .int) :: ((wsX4_teachRuns_r1 ++ wsX4_teachRuns_r2) ++ wsX40 ++ wsX10 ++ wsX20 ++ wsX30)
def wsX4_teach_r1 : List Cond := [Cond.classLink RX4 65 "java/lang/IllegalStateException", Cond.initialized "java/lang/IllegalStateException", Cond.fieldLink RX4 10 "Tonguetell" "spelled" "LTonguetell$Spelling;", Cond.fieldLink RX4 62 "Tonguetell$Spelling" "length" "I", Cond.fieldLink RX4 30 "Tonguetell" "shelf" "LTonguetell$Shelf;", Cond.methodLink RX4 90 yX4_requireTongue, Cond.instanceMethod yX4_requireTongue, Cond.selects RX4 yX4_requireTongue yX4_requireTongue, Cond.initialized RX4, Cond.code yX4_requireTongue cX4_requireTongue 2 none, Cond.classLink RX4 185 "java/lang/IndexOutOfBoundsException", Cond.initialized "java/lang/IndexOutOfBoundsException", Cond.fieldLink RX4 41 "Tonguetell" "tongueCount" "I", Cond.methodLink RX4 95 yX1_isFull, Cond.instanceMethod yX1_isFull, Cond.selects RX1 yX1_isFull yX1_isFull, Cond.initialized RX1, Cond.code yX1_isFull cX1_isFull 1 (some .boolean), Cond.methodLink RX1 30 yX1_firstSlotWith, Cond.instanceMethod yX1_firstSlotWith, Cond.selects RX1 yX1_firstSlotWith yX1_firstSlotWith, Cond.code yX1_firstSlotWith cX1_firstSlotWith 3 (some .int), Cond.fieldLink RX1 9 "Tonguetell$Shelf" "numberIn" "[I", Cond.methodLink RX4 74 yX2_runCount]
def wsX4_teach_r2 : List Cond := [Cond.instanceMethod yX2_runCount, Cond.selects RX2 yX2_runCount yX2_runCount, Cond.initialized RX2, Cond.code yX2_runCount cX2_runCount 1 (some .int), Cond.fieldLink RX2 15 "Tonguetell$Spelling" "length" "I", Cond.methodLink RX4 101 yX4_teachRuns, Cond.instanceMethod yX4_teachRuns, Cond.selects RX4 yX4_teachRuns yX4_teachRuns, Cond.code yX4_teachRuns cX4_teachRuns 7 (some .int), Cond.fieldLink RX4 115 "Tonguetell$Shelf" "runsIn" "[[I", Cond.fieldLink RX4 23 "Tonguetell" "tallies" "[LTonguetell$Tally;", Cond.fieldLink RX4 211 "Tonguetell$Shelf" "numberIn" "[I", Cond.methodLink RX4 204 yX1_take, Cond.instanceMethod yX1_take, Cond.selects RX1 yX1_take yX1_take, Cond.code yX1_take cX1_take 4 (some .int), Cond.fieldLink RX1 26 "Tonguetell$Shelf" "nextNumber" "I", Cond.fieldLink RX1 15 "Tonguetell$Shelf" "tongueIn" "[I", Cond.fieldLink RX1 18 "Tonguetell$Shelf" "lengthIn" "[I", Cond.methodLink RX4 81 yX2_runNumber, Cond.instanceMethod yX2_runNumber, Cond.selects RX2 yX2_runNumber yX2_runNumber, Cond.code yX2_runNumber cX2_runNumber 2 (some .int), Cond.methodLink RX2 19 yX2_letterOrGap]
def wsX4_teach_r3 : List Cond := [Cond.instanceMethod yX2_letterOrGap, Cond.selects RX2 yX2_letterOrGap yX2_letterOrGap, Cond.code yX2_letterOrGap cX2_letterOrGap 2 (some .int), Cond.fieldLink RX2 9 "Tonguetell$Spelling" "letters" "[I", Cond.methodLink RX4 208 yX3_add, Cond.instanceMethod yX3_add, Cond.selects RX3 yX3_add yX3_add, Cond.initialized RX3, Cond.code yX3_add cX3_add 2 none, Cond.fieldLink RX3 9 "Tonguetell$Tally" "counts" "[I", Cond.fieldLink RX3 15 "Tonguetell$Tally" "sum" "I"]
def wsX4_teach : List Cond := .code yX4_teach cX4_teach 2 (some .int) :: ((wsX4_teach_r1 ++ (wsX4_teach_r2 ++ wsX4_teach_r3)) ++ wsX40 ++ wsX20 ++ wsX10 ++ wsX30 ++ (vx_atS RX4 69 "java/lang/IllegalStateException" ["java/lang/RuntimeException", "java/lang/Exception"]).filter goodWord ++ (vx_atS RX4 189 "java/lang/IndexOutOfBoundsException" ["java/lang/RuntimeException", "java/lang/Exception"]).filter goodWord)
def wsX4_slotOfTaught : List Cond := .code yX4_slotOfTaught cX4_slotOfTaught 3 (some .int) :: ([.classLink RX4 199 "java/util/NoSuchElementException", .initialized "java/util/NoSuchElementException", .fieldLink RX4 30 "Tonguetell" "shelf" "LTonguetell$Shelf;", .methodLink RX4 196 yX1_slotOf, .instanceMethod yX1_slotOf, .selects RX1 yX1_slotOf yX1_slotOf, .initialized RX1, .code yX1_slotOf cX1_slotOf 2 (some .int), .methodLink RX1 30 yX1_firstSlotWith, .instanceMethod yX1_firstSlotWith, .selects RX1 yX1_firstSlotWith yX1_firstSlotWith, .code yX1_firstSlotWith cX1_firstSlotWith 3 (some .int), .fieldLink RX1 9 "Tonguetell$Shelf" "numberIn" "[I"] ++ wsX40 ++ wsX10 ++ (od_at RX4 203 "java/util/NoSuchElementException" ["java/lang/RuntimeException", "java/lang/Exception"]).filter goodWord)
def wsX4_withdraw_r1 : List Cond := [Cond.fieldLink RX4 23 "Tonguetell" "tallies" "[LTonguetell$Tally;", Cond.fieldLink RX4 30 "Tonguetell" "shelf" "LTonguetell$Shelf;", Cond.fieldLink RX4 108 "Tonguetell$Shelf" "tongueIn" "[I", Cond.fieldLink RX4 112 "Tonguetell$Shelf" "lengthIn" "[I", Cond.fieldLink RX4 115 "Tonguetell$Shelf" "runsIn" "[[I", Cond.methodLink RX4 105 yX4_slotOfTaught, Cond.instanceMethod yX4_slotOfTaught, Cond.selects RX4 yX4_slotOfTaught yX4_slotOfTaught, Cond.initialized RX4, Cond.code yX4_slotOfTaught cX4_slotOfTaught 3 (some .int), Cond.classLink RX4 199 "java/util/NoSuchElementException", Cond.initialized "java/util/NoSuchElementException", Cond.methodLink RX4 196 yX1_slotOf, Cond.instanceMethod yX1_slotOf, Cond.selects RX1 yX1_slotOf yX1_slotOf, Cond.initialized RX1, Cond.code yX1_slotOf cX1_slotOf 2 (some .int), Cond.methodLink RX1 30 yX1_firstSlotWith, Cond.instanceMethod yX1_firstSlotWith, Cond.selects RX1 yX1_firstSlotWith yX1_firstSlotWith, Cond.code yX1_firstSlotWith cX1_firstSlotWith 3 (some .int), Cond.fieldLink RX1 9 "Tonguetell$Shelf" "numberIn" "[I", Cond.methodLink RX4 119 yX3_remove, Cond.instanceMethod yX3_remove]
def wsX4_withdraw_r2 : List Cond := [Cond.selects RX3 yX3_remove yX3_remove, Cond.initialized RX3, Cond.code yX3_remove cX3_remove 2 none, Cond.fieldLink RX3 9 "Tonguetell$Tally" "counts" "[I", Cond.fieldLink RX3 15 "Tonguetell$Tally" "sum" "I", Cond.methodLink RX4 122 yX1_free, Cond.instanceMethod yX1_free, Cond.selects RX1 yX1_free yX1_free, Cond.code yX1_free cX1_free 2 none]
def wsX4_withdraw : List Cond := .code yX4_withdraw cX4_withdraw 6 (some .int) :: ((wsX4_withdraw_r1 ++ wsX4_withdraw_r2) ++ wsX40 ++ wsX10 ++ wsX30 ++ (od_at RX4 203 "java/util/NoSuchElementException" ["java/lang/RuntimeException", "java/lang/Exception"]).filter goodWord)
def wsX4_tongueOf : List Cond := .code yX4_tongueOf cX4_tongueOf 2 (some .int) :: ([.fieldLink RX4 30 "Tonguetell" "shelf" "LTonguetell$Shelf;", .fieldLink RX4 108 "Tonguetell$Shelf" "tongueIn" "[I", .methodLink RX4 105 yX4_slotOfTaught, .instanceMethod yX4_slotOfTaught, .selects RX4 yX4_slotOfTaught yX4_slotOfTaught, .initialized RX4, .code yX4_slotOfTaught cX4_slotOfTaught 3 (some .int), .classLink RX4 199 "java/util/NoSuchElementException", .initialized "java/util/NoSuchElementException", .methodLink RX4 196 yX1_slotOf, .instanceMethod yX1_slotOf, .selects RX1 yX1_slotOf yX1_slotOf, .initialized RX1, .code yX1_slotOf cX1_slotOf 2 (some .int), .methodLink RX1 30 yX1_firstSlotWith, .instanceMethod yX1_firstSlotWith, .selects RX1 yX1_firstSlotWith yX1_firstSlotWith, .code yX1_firstSlotWith cX1_firstSlotWith 3 (some .int), .fieldLink RX1 9 "Tonguetell$Shelf" "numberIn" "[I"] ++ wsX40 ++ wsX10 ++ (od_at RX4 203 "java/util/NoSuchElementException" ["java/lang/RuntimeException", "java/lang/Exception"]).filter goodWord)
def wsX4_total : List Cond := .code yX4_total cX4_total 2 (some .int) :: ([.fieldLink RX4 23 "Tonguetell" "tallies" "[LTonguetell$Tally;", .fieldLink RX4 125 "Tonguetell$Tally" "sum" "I", .methodLink RX4 90 yX4_requireTongue, .instanceMethod yX4_requireTongue, .selects RX4 yX4_requireTongue yX4_requireTongue, .initialized RX4, .code yX4_requireTongue cX4_requireTongue 2 none, .classLink RX4 185 "java/lang/IndexOutOfBoundsException", .initialized "java/lang/IndexOutOfBoundsException", .fieldLink RX4 41 "Tonguetell" "tongueCount" "I"] ++ wsX40 ++ wsX30 ++ (vx_atS RX4 189 "java/lang/IndexOutOfBoundsException" ["java/lang/RuntimeException", "java/lang/Exception"]).filter goodWord)
def wsX4_requireRunKind : List Cond := .code yX4_requireRunKind cX4_requireRunKind 1 none :: ([.classLink RX4 185 "java/lang/IndexOutOfBoundsException", .initialized "java/lang/IndexOutOfBoundsException"] ++ (vx_atS RX4 189 "java/lang/IndexOutOfBoundsException" ["java/lang/RuntimeException", "java/lang/Exception"]).filter goodWord)
def wsX4_count : List Cond := .code yX4_count cX4_count 3 (some .int) :: ([.fieldLink RX4 23 "Tonguetell" "tallies" "[LTonguetell$Tally;", .fieldLink RX4 131 "Tonguetell$Tally" "counts" "[I", .methodLink RX4 90 yX4_requireTongue, .instanceMethod yX4_requireTongue, .selects RX4 yX4_requireTongue yX4_requireTongue, .initialized RX4, .code yX4_requireTongue cX4_requireTongue 2 none, .classLink RX4 185 "java/lang/IndexOutOfBoundsException", .initialized "java/lang/IndexOutOfBoundsException", .fieldLink RX4 41 "Tonguetell" "tongueCount" "I", .methodLink RX4 128 yX4_requireRunKind, .static yX4_requireRunKind, .code yX4_requireRunKind cX4_requireRunKind 1 none] ++ wsX40 ++ wsX30 ++ (vx_atS RX4 189 "java/lang/IndexOutOfBoundsException" ["java/lang/RuntimeException", "java/lang/Exception"]).filter goodWord)
def wsX4_cost : List Cond := .code yX4_cost cX4_cost 3 (some .int) :: ([.fieldLink RX4 23 "Tonguetell" "tallies" "[LTonguetell$Tally;", .methodLink RX4 90 yX4_requireTongue, .instanceMethod yX4_requireTongue, .selects RX4 yX4_requireTongue yX4_requireTongue, .initialized RX4, .code yX4_requireTongue cX4_requireTongue 2 none, .classLink RX4 185 "java/lang/IndexOutOfBoundsException", .initialized "java/lang/IndexOutOfBoundsException", .fieldLink RX4 41 "Tonguetell" "tongueCount" "I", .methodLink RX4 128 yX4_requireRunKind, .static yX4_requireRunKind, .code yX4_requireRunKind cX4_requireRunKind 1 none, .methodLink RX4 134 yX3_costOf, .instanceMethod yX3_costOf, .selects RX3 yX3_costOf yX3_costOf, .initialized RX3, .code yX3_costOf cX3_costOf 5 (some .int), .fieldLink RX3 15 "Tonguetell$Tally" "sum" "I", .fieldLink RX3 9 "Tonguetell$Tally" "counts" "[I"] ++ wsX40 ++ wsX30 ++ (vx_atS RX4 189 "java/lang/IndexOutOfBoundsException" ["java/lang/RuntimeException", "java/lang/Exception"]).filter goodWord)
def wsX4_costOfSpelled : List Cond := .code yX4_costOfSpelled cX4_costOfSpelled 4 (some .int) :: ([.fieldLink RX4 10 "Tonguetell" "spelled" "LTonguetell$Spelling;", .fieldLink RX4 23 "Tonguetell" "tallies" "[LTonguetell$Tally;", .methodLink RX4 74 yX2_runCount, .instanceMethod yX2_runCount, .selects RX2 yX2_runCount yX2_runCount, .initialized RX2, .code yX2_runCount cX2_runCount 1 (some .int), .fieldLink RX2 15 "Tonguetell$Spelling" "length" "I", .methodLink RX4 81 yX2_runNumber, .instanceMethod yX2_runNumber, .selects RX2 yX2_runNumber yX2_runNumber, .code yX2_runNumber cX2_runNumber 2 (some .int), .methodLink RX2 19 yX2_letterOrGap, .instanceMethod yX2_letterOrGap, .selects RX2 yX2_letterOrGap yX2_letterOrGap, .code yX2_letterOrGap cX2_letterOrGap 2 (some .int), .fieldLink RX2 9 "Tonguetell$Spelling" "letters" "[I", .methodLink RX4 134 yX3_costOf, .instanceMethod yX3_costOf, .selects RX3 yX3_costOf yX3_costOf, .initialized RX3, .code yX3_costOf cX3_costOf 5 (some .int), .fieldLink RX3 15 "Tonguetell$Tally" "sum" "I", .fieldLink RX3 9 "Tonguetell$Tally" "counts" "[I"] ++ wsX40 ++ wsX20 ++ wsX30)
def wsX4_textCost_r1 : List Cond := [Cond.methodLink RX4 90 yX4_requireTongue, Cond.instanceMethod yX4_requireTongue, Cond.selects RX4 yX4_requireTongue yX4_requireTongue, Cond.initialized RX4, Cond.code yX4_requireTongue cX4_requireTongue 2 none, Cond.classLink RX4 185 "java/lang/IndexOutOfBoundsException", Cond.initialized "java/lang/IndexOutOfBoundsException", Cond.fieldLink RX4 41 "Tonguetell" "tongueCount" "I", Cond.methodLink RX4 140 yX4_costOfSpelled, Cond.instanceMethod yX4_costOfSpelled, Cond.selects RX4 yX4_costOfSpelled yX4_costOfSpelled, Cond.code yX4_costOfSpelled cX4_costOfSpelled 4 (some .int), Cond.fieldLink RX4 10 "Tonguetell" "spelled" "LTonguetell$Spelling;", Cond.fieldLink RX4 23 "Tonguetell" "tallies" "[LTonguetell$Tally;", Cond.methodLink RX4 74 yX2_runCount, Cond.instanceMethod yX2_runCount, Cond.selects RX2 yX2_runCount yX2_runCount, Cond.initialized RX2, Cond.code yX2_runCount cX2_runCount 1 (some .int), Cond.fieldLink RX2 15 "Tonguetell$Spelling" "length" "I", Cond.methodLink RX4 81 yX2_runNumber, Cond.instanceMethod yX2_runNumber, Cond.selects RX2 yX2_runNumber yX2_runNumber, Cond.code yX2_runNumber cX2_runNumber 2 (some .int)]
def wsX4_textCost_r2 : List Cond := [Cond.methodLink RX2 19 yX2_letterOrGap, Cond.instanceMethod yX2_letterOrGap, Cond.selects RX2 yX2_letterOrGap yX2_letterOrGap, Cond.code yX2_letterOrGap cX2_letterOrGap 2 (some .int), Cond.fieldLink RX2 9 "Tonguetell$Spelling" "letters" "[I", Cond.methodLink RX4 134 yX3_costOf, Cond.instanceMethod yX3_costOf, Cond.selects RX3 yX3_costOf yX3_costOf, Cond.initialized RX3, Cond.code yX3_costOf cX3_costOf 5 (some .int), Cond.fieldLink RX3 15 "Tonguetell$Tally" "sum" "I", Cond.fieldLink RX3 9 "Tonguetell$Tally" "counts" "[I"]
def wsX4_textCost : List Cond := .code yX4_textCost cX4_textCost 2 (some .int) :: ((wsX4_textCost_r1 ++ wsX4_textCost_r2) ++ wsX40 ++ wsX20 ++ wsX30 ++ (vx_atS RX4 189 "java/lang/IndexOutOfBoundsException" ["java/lang/RuntimeException", "java/lang/Exception"]).filter goodWord)
def wsX4_setPrice : List Cond := .code yX4_setPrice cX4_setPrice 3 (some .int) :: ([.classLink RX4 55 "java/lang/IllegalArgumentException", .initialized "java/lang/IllegalArgumentException", .fieldLink RX4 48 "Tonguetell" "price" "I"] ++ wsX40 ++ (vx_atS RX4 59 "java/lang/IllegalArgumentException" ["java/lang/RuntimeException", "java/lang/Exception"]).filter goodWord)
def wsX4_requireSomeTongue : List Cond := .code yX4_requireSomeTongue cX4_requireSomeTongue 1 none :: ([.classLink RX4 65 "java/lang/IllegalStateException", .initialized "java/lang/IllegalStateException", .fieldLink RX4 41 "Tonguetell" "tongueCount" "I"] ++ wsX40 ++ (vx_atS RX4 69 "java/lang/IllegalStateException" ["java/lang/RuntimeException", "java/lang/Exception"]).filter goodWord)
def wsX4_layCostsForCut_r1 : List Cond := [Cond.fieldLink RX4 37 "Tonguetell" "cutter" "LTonguetell$Cutter;", Cond.fieldLink RX4 10 "Tonguetell" "spelled" "LTonguetell$Spelling;", Cond.fieldLink RX4 41 "Tonguetell" "tongueCount" "I", Cond.fieldLink RX4 48 "Tonguetell" "price" "I", Cond.fieldLink RX4 226 "Tonguetell$Cutter" "costs" "[[I", Cond.fieldLink RX4 23 "Tonguetell" "tallies" "[LTonguetell$Tally;", Cond.methodLink RX4 74 yX2_runCount, Cond.instanceMethod yX2_runCount, Cond.selects RX2 yX2_runCount yX2_runCount, Cond.initialized RX2, Cond.code yX2_runCount cX2_runCount 1 (some .int), Cond.fieldLink RX2 15 "Tonguetell$Spelling" "length" "I", Cond.methodLink RX4 222 yX0_begin, Cond.instanceMethod yX0_begin, Cond.selects RX0 yX0_begin yX0_begin, Cond.initialized RX0, Cond.code yX0_begin cX0_begin 4 none, Cond.fieldLink RX0 23 "Tonguetell$Cutter" "runCount" "I", Cond.fieldLink RX0 27 "Tonguetell$Cutter" "choices" "I", Cond.fieldLink RX0 30 "Tonguetell$Cutter" "changePrice" "I", Cond.methodLink RX4 81 yX2_runNumber, Cond.instanceMethod yX2_runNumber, Cond.selects RX2 yX2_runNumber yX2_runNumber, Cond.code yX2_runNumber cX2_runNumber 2 (some .int)]
def wsX4_layCostsForCut_r2 : List Cond := [Cond.methodLink RX2 19 yX2_letterOrGap, Cond.instanceMethod yX2_letterOrGap, Cond.selects RX2 yX2_letterOrGap yX2_letterOrGap, Cond.code yX2_letterOrGap cX2_letterOrGap 2 (some .int), Cond.fieldLink RX2 9 "Tonguetell$Spelling" "letters" "[I", Cond.methodLink RX4 134 yX3_costOf, Cond.instanceMethod yX3_costOf, Cond.selects RX3 yX3_costOf yX3_costOf, Cond.initialized RX3, Cond.code yX3_costOf cX3_costOf 5 (some .int), Cond.fieldLink RX3 15 "Tonguetell$Tally" "sum" "I", Cond.fieldLink RX3 9 "Tonguetell$Tally" "counts" "[I"]
def wsX4_layCostsForCut : List Cond := .code yX4_layCostsForCut cX4_layCostsForCut 4 none :: ((wsX4_layCostsForCut_r1 ++ wsX4_layCostsForCut_r2) ++ wsX40 ++ wsX00 ++ wsX20 ++ wsX30)
def wsX4_cutCost_r1 : List Cond := [Cond.fieldLink RX4 37 "Tonguetell" "cutter" "LTonguetell$Cutter;", Cond.methodLink RX4 157 yX4_requireSomeTongue, Cond.instanceMethod yX4_requireSomeTongue, Cond.selects RX4 yX4_requireSomeTongue yX4_requireSomeTongue, Cond.initialized RX4, Cond.code yX4_requireSomeTongue cX4_requireSomeTongue 1 none, Cond.classLink RX4 65 "java/lang/IllegalStateException", Cond.initialized "java/lang/IllegalStateException", Cond.fieldLink RX4 41 "Tonguetell" "tongueCount" "I", Cond.methodLink RX4 160 yX4_layCostsForCut, Cond.instanceMethod yX4_layCostsForCut, Cond.selects RX4 yX4_layCostsForCut yX4_layCostsForCut, Cond.code yX4_layCostsForCut cX4_layCostsForCut 4 none, Cond.fieldLink RX4 10 "Tonguetell" "spelled" "LTonguetell$Spelling;", Cond.fieldLink RX4 48 "Tonguetell" "price" "I", Cond.fieldLink RX4 226 "Tonguetell$Cutter" "costs" "[[I", Cond.fieldLink RX4 23 "Tonguetell" "tallies" "[LTonguetell$Tally;", Cond.methodLink RX4 74 yX2_runCount, Cond.instanceMethod yX2_runCount, Cond.selects RX2 yX2_runCount yX2_runCount, Cond.initialized RX2, Cond.code yX2_runCount cX2_runCount 1 (some .int), Cond.fieldLink RX2 15 "Tonguetell$Spelling" "length" "I", Cond.methodLink RX4 222 yX0_begin]
def wsX4_cutCost_r2 : List Cond := [Cond.instanceMethod yX0_begin, Cond.selects RX0 yX0_begin yX0_begin, Cond.initialized RX0, Cond.code yX0_begin cX0_begin 4 none, Cond.fieldLink RX0 23 "Tonguetell$Cutter" "runCount" "I", Cond.fieldLink RX0 27 "Tonguetell$Cutter" "choices" "I", Cond.fieldLink RX0 30 "Tonguetell$Cutter" "changePrice" "I", Cond.methodLink RX4 81 yX2_runNumber, Cond.instanceMethod yX2_runNumber, Cond.selects RX2 yX2_runNumber yX2_runNumber, Cond.code yX2_runNumber cX2_runNumber 2 (some .int), Cond.methodLink RX2 19 yX2_letterOrGap, Cond.instanceMethod yX2_letterOrGap, Cond.selects RX2 yX2_letterOrGap yX2_letterOrGap, Cond.code yX2_letterOrGap cX2_letterOrGap 2 (some .int), Cond.fieldLink RX2 9 "Tonguetell$Spelling" "letters" "[I", Cond.methodLink RX4 134 yX3_costOf, Cond.instanceMethod yX3_costOf, Cond.selects RX3 yX3_costOf yX3_costOf, Cond.initialized RX3, Cond.code yX3_costOf cX3_costOf 5 (some .int), Cond.fieldLink RX3 15 "Tonguetell$Tally" "sum" "I", Cond.fieldLink RX3 9 "Tonguetell$Tally" "counts" "[I", Cond.methodLink RX4 163 yX0_leastCost]
def wsX4_cutCost_r3 : List Cond := [Cond.instanceMethod yX0_leastCost, Cond.selects RX0 yX0_leastCost yX0_leastCost, Cond.code yX0_leastCost cX0_leastCost 1 (some .int), Cond.fieldLink RX0 20 "Tonguetell$Cutter" "rest" "[[I", Cond.methodLink RX0 33 yX0_fillRest, Cond.instanceMethod yX0_fillRest, Cond.selects RX0 yX0_fillRest yX0_fillRest, Cond.code yX0_fillRest cX0_fillRest 3 none, Cond.fieldLink RX0 11 "Tonguetell$Cutter" "costs" "[[I", Cond.methodLink RX0 44 yX0_leastBehind, Cond.instanceMethod yX0_leastBehind, Cond.selects RX0 yX0_leastBehind yX0_leastBehind, Cond.code yX0_leastBehind cX0_leastBehind 4 (some .int), Cond.methodLink RX0 36 yX0_cheapest, Cond.instanceMethod yX0_cheapest, Cond.selects RX0 yX0_cheapest yX0_cheapest, Cond.code yX0_cheapest cX0_cheapest 5 (some .int), Cond.methodLink RX0 47 yX0_restAfter, Cond.instanceMethod yX0_restAfter, Cond.selects RX0 yX0_restAfter yX0_restAfter, Cond.code yX0_restAfter cX0_restAfter 4 (some .int), Cond.methodLink RX0 51 yX0_priceOfChange, Cond.instanceMethod yX0_priceOfChange, Cond.selects RX0 yX0_priceOfChange yX0_priceOfChange]
def wsX4_cutCost_r4 : List Cond := [Cond.code yX0_priceOfChange cX0_priceOfChange 3 (some .int)]
def wsX4_cutCost : List Cond := .code yX4_cutCost cX4_cutCost 1 (some .int) :: ((wsX4_cutCost_r1 ++ (wsX4_cutCost_r2 ++ (wsX4_cutCost_r3 ++ wsX4_cutCost_r4))) ++ wsX40 ++ wsX00 ++ wsX20 ++ wsX30 ++ (vx_atS RX4 69 "java/lang/IllegalStateException" ["java/lang/RuntimeException", "java/lang/Exception"]).filter goodWord)
def wsX4_cutCostByTrying_r1 : List Cond := [Cond.classLink RX4 65 "java/lang/IllegalStateException", Cond.initialized "java/lang/IllegalStateException", Cond.fieldLink RX4 10 "Tonguetell" "spelled" "LTonguetell$Spelling;", Cond.fieldLink RX4 62 "Tonguetell$Spelling" "length" "I", Cond.fieldLink RX4 37 "Tonguetell" "cutter" "LTonguetell$Cutter;", Cond.methodLink RX4 157 yX4_requireSomeTongue, Cond.instanceMethod yX4_requireSomeTongue, Cond.selects RX4 yX4_requireSomeTongue yX4_requireSomeTongue, Cond.initialized RX4, Cond.code yX4_requireSomeTongue cX4_requireSomeTongue 1 none, Cond.fieldLink RX4 41 "Tonguetell" "tongueCount" "I", Cond.methodLink RX4 160 yX4_layCostsForCut, Cond.instanceMethod yX4_layCostsForCut, Cond.selects RX4 yX4_layCostsForCut yX4_layCostsForCut, Cond.code yX4_layCostsForCut cX4_layCostsForCut 4 none, Cond.fieldLink RX4 48 "Tonguetell" "price" "I", Cond.fieldLink RX4 226 "Tonguetell$Cutter" "costs" "[[I", Cond.fieldLink RX4 23 "Tonguetell" "tallies" "[LTonguetell$Tally;", Cond.methodLink RX4 74 yX2_runCount, Cond.instanceMethod yX2_runCount, Cond.selects RX2 yX2_runCount yX2_runCount, Cond.initialized RX2, Cond.code yX2_runCount cX2_runCount 1 (some .int), Cond.fieldLink RX2 15 "Tonguetell$Spelling" "length" "I"]
def wsX4_cutCostByTrying_r2 : List Cond := [Cond.methodLink RX4 222 yX0_begin, Cond.instanceMethod yX0_begin, Cond.selects RX0 yX0_begin yX0_begin, Cond.initialized RX0, Cond.code yX0_begin cX0_begin 4 none, Cond.fieldLink RX0 23 "Tonguetell$Cutter" "runCount" "I", Cond.fieldLink RX0 27 "Tonguetell$Cutter" "choices" "I", Cond.fieldLink RX0 30 "Tonguetell$Cutter" "changePrice" "I", Cond.methodLink RX4 81 yX2_runNumber, Cond.instanceMethod yX2_runNumber, Cond.selects RX2 yX2_runNumber yX2_runNumber, Cond.code yX2_runNumber cX2_runNumber 2 (some .int), Cond.methodLink RX2 19 yX2_letterOrGap, Cond.instanceMethod yX2_letterOrGap, Cond.selects RX2 yX2_letterOrGap yX2_letterOrGap, Cond.code yX2_letterOrGap cX2_letterOrGap 2 (some .int), Cond.fieldLink RX2 9 "Tonguetell$Spelling" "letters" "[I", Cond.methodLink RX4 134 yX3_costOf, Cond.instanceMethod yX3_costOf, Cond.selects RX3 yX3_costOf yX3_costOf, Cond.initialized RX3, Cond.code yX3_costOf cX3_costOf 5 (some .int), Cond.fieldLink RX3 15 "Tonguetell$Tally" "sum" "I", Cond.fieldLink RX3 9 "Tonguetell$Tally" "counts" "[I"]
def wsX4_cutCostByTrying_r3 : List Cond := [Cond.methodLink RX4 168 yX0_leastCostByTrying, Cond.instanceMethod yX0_leastCostByTrying, Cond.selects RX0 yX0_leastCostByTrying yX0_leastCostByTrying, Cond.code yX0_leastCostByTrying cX0_leastCostByTrying 1 (some .int), Cond.methodLink RX0 40 yX0_leastByTrying, Cond.static yX0_leastByTrying, Cond.code yX0_leastByTrying cX0_leastByTrying 6 (some .int), Cond.constant RX0 54 (1000000), Cond.fieldLink RX0 11 "Tonguetell$Cutter" "costs" "[[I", Cond.methodLink RX0 55 Lib.Math.min.name, Cond.static Lib.Math.min.name, Cond.initialized "java/lang/Math", Cond.code Lib.Math.min.name Lib.Math.min.code 2 (some .int), Cond.methodLink RX0 51 yX0_priceOfChange, Cond.instanceMethod yX0_priceOfChange, Cond.selects RX0 yX0_priceOfChange yX0_priceOfChange, Cond.code yX0_priceOfChange cX0_priceOfChange 3 (some .int)]
def wsX4_cutCostByTrying : List Cond := .code yX4_cutCostByTrying cX4_cutCostByTrying 1 (some .int) :: ((wsX4_cutCostByTrying_r1 ++ (wsX4_cutCostByTrying_r2 ++ wsX4_cutCostByTrying_r3)) ++ wsX40 ++ wsX20 ++ wsX00 ++ wsX30 ++ (vx_atS RX4 69 "java/lang/IllegalStateException" ["java/lang/RuntimeException", "java/lang/Exception"]).filter goodWord)
def wsX4_cutTongue_r1 : List Cond := [Cond.fieldLink RX4 37 "Tonguetell" "cutter" "LTonguetell$Cutter;", Cond.fieldLink RX4 174 "Tonguetell$Cutter" "told" "[I", Cond.methodLink RX4 157 yX4_requireSomeTongue, Cond.instanceMethod yX4_requireSomeTongue, Cond.selects RX4 yX4_requireSomeTongue yX4_requireSomeTongue, Cond.initialized RX4, Cond.code yX4_requireSomeTongue cX4_requireSomeTongue 1 none, Cond.classLink RX4 65 "java/lang/IllegalStateException", Cond.initialized "java/lang/IllegalStateException", Cond.fieldLink RX4 41 "Tonguetell" "tongueCount" "I", Cond.methodLink RX4 78 yX4_requireRunPlace, Cond.instanceMethod yX4_requireRunPlace, Cond.selects RX4 yX4_requireRunPlace yX4_requireRunPlace, Cond.code yX4_requireRunPlace cX4_requireRunPlace 2 none, Cond.classLink RX4 185 "java/lang/IndexOutOfBoundsException", Cond.initialized "java/lang/IndexOutOfBoundsException", Cond.fieldLink RX4 10 "Tonguetell" "spelled" "LTonguetell$Spelling;", Cond.methodLink RX4 74 yX2_runCount, Cond.instanceMethod yX2_runCount, Cond.selects RX2 yX2_runCount yX2_runCount, Cond.initialized RX2, Cond.code yX2_runCount cX2_runCount 1 (some .int), Cond.fieldLink RX2 15 "Tonguetell$Spelling" "length" "I", Cond.methodLink RX4 160 yX4_layCostsForCut]
def wsX4_cutTongue_r2 : List Cond := [Cond.instanceMethod yX4_layCostsForCut, Cond.selects RX4 yX4_layCostsForCut yX4_layCostsForCut, Cond.code yX4_layCostsForCut cX4_layCostsForCut 4 none, Cond.fieldLink RX4 48 "Tonguetell" "price" "I", Cond.fieldLink RX4 226 "Tonguetell$Cutter" "costs" "[[I", Cond.fieldLink RX4 23 "Tonguetell" "tallies" "[LTonguetell$Tally;", Cond.methodLink RX4 222 yX0_begin, Cond.instanceMethod yX0_begin, Cond.selects RX0 yX0_begin yX0_begin, Cond.initialized RX0, Cond.code yX0_begin cX0_begin 4 none, Cond.fieldLink RX0 23 "Tonguetell$Cutter" "runCount" "I", Cond.fieldLink RX0 27 "Tonguetell$Cutter" "choices" "I", Cond.fieldLink RX0 30 "Tonguetell$Cutter" "changePrice" "I", Cond.methodLink RX4 81 yX2_runNumber, Cond.instanceMethod yX2_runNumber, Cond.selects RX2 yX2_runNumber yX2_runNumber, Cond.code yX2_runNumber cX2_runNumber 2 (some .int), Cond.methodLink RX2 19 yX2_letterOrGap, Cond.instanceMethod yX2_letterOrGap, Cond.selects RX2 yX2_letterOrGap yX2_letterOrGap, Cond.code yX2_letterOrGap cX2_letterOrGap 2 (some .int), Cond.fieldLink RX2 9 "Tonguetell$Spelling" "letters" "[I", Cond.methodLink RX4 134 yX3_costOf]
def wsX4_cutTongue_r3 : List Cond := [Cond.instanceMethod yX3_costOf, Cond.selects RX3 yX3_costOf yX3_costOf, Cond.initialized RX3, Cond.code yX3_costOf cX3_costOf 5 (some .int), Cond.fieldLink RX3 15 "Tonguetell$Tally" "sum" "I", Cond.fieldLink RX3 9 "Tonguetell$Tally" "counts" "[I", Cond.methodLink RX4 171 yX0_findToldCut, Cond.instanceMethod yX0_findToldCut, Cond.selects RX0 yX0_findToldCut yX0_findToldCut, Cond.code yX0_findToldCut cX0_findToldCut 3 none, Cond.fieldLink RX0 16 "Tonguetell$Cutter" "told" "[I", Cond.methodLink RX0 33 yX0_fillRest, Cond.instanceMethod yX0_fillRest, Cond.selects RX0 yX0_fillRest yX0_fillRest, Cond.code yX0_fillRest cX0_fillRest 3 none, Cond.fieldLink RX0 20 "Tonguetell$Cutter" "rest" "[[I", Cond.fieldLink RX0 11 "Tonguetell$Cutter" "costs" "[[I", Cond.methodLink RX0 44 yX0_leastBehind, Cond.instanceMethod yX0_leastBehind, Cond.selects RX0 yX0_leastBehind yX0_leastBehind, Cond.code yX0_leastBehind cX0_leastBehind 4 (some .int), Cond.methodLink RX0 36 yX0_cheapest, Cond.instanceMethod yX0_cheapest, Cond.selects RX0 yX0_cheapest yX0_cheapest]
def wsX4_cutTongue_r4 : List Cond := [Cond.code yX0_cheapest cX0_cheapest 5 (some .int), Cond.methodLink RX0 47 yX0_restAfter, Cond.instanceMethod yX0_restAfter, Cond.selects RX0 yX0_restAfter yX0_restAfter, Cond.code yX0_restAfter cX0_restAfter 4 (some .int), Cond.methodLink RX0 51 yX0_priceOfChange, Cond.instanceMethod yX0_priceOfChange, Cond.selects RX0 yX0_priceOfChange yX0_priceOfChange, Cond.code yX0_priceOfChange cX0_priceOfChange 3 (some .int)]
def wsX4_cutTongue : List Cond := .code yX4_cutTongue cX4_cutTongue 2 (some .int) :: ((wsX4_cutTongue_r1 ++ (wsX4_cutTongue_r2 ++ (wsX4_cutTongue_r3 ++ wsX4_cutTongue_r4))) ++ wsX40 ++ wsX00 ++ wsX20 ++ wsX30 ++ (vx_atS RX4 69 "java/lang/IllegalStateException" ["java/lang/RuntimeException", "java/lang/Exception"]).filter goodWord ++ (vx_atS RX4 189 "java/lang/IndexOutOfBoundsException" ["java/lang/RuntimeException", "java/lang/Exception"]).filter goodWord)
def wsX4_stretches_r1 : List Cond := [Cond.fieldLink RX4 37 "Tonguetell" "cutter" "LTonguetell$Cutter;", Cond.methodLink RX4 157 yX4_requireSomeTongue, Cond.instanceMethod yX4_requireSomeTongue, Cond.selects RX4 yX4_requireSomeTongue yX4_requireSomeTongue, Cond.initialized RX4, Cond.code yX4_requireSomeTongue cX4_requireSomeTongue 1 none, Cond.classLink RX4 65 "java/lang/IllegalStateException", Cond.initialized "java/lang/IllegalStateException", Cond.fieldLink RX4 41 "Tonguetell" "tongueCount" "I", Cond.methodLink RX4 160 yX4_layCostsForCut, Cond.instanceMethod yX4_layCostsForCut, Cond.selects RX4 yX4_layCostsForCut yX4_layCostsForCut, Cond.code yX4_layCostsForCut cX4_layCostsForCut 4 none, Cond.fieldLink RX4 10 "Tonguetell" "spelled" "LTonguetell$Spelling;", Cond.fieldLink RX4 48 "Tonguetell" "price" "I", Cond.fieldLink RX4 226 "Tonguetell$Cutter" "costs" "[[I", Cond.fieldLink RX4 23 "Tonguetell" "tallies" "[LTonguetell$Tally;", Cond.methodLink RX4 74 yX2_runCount, Cond.instanceMethod yX2_runCount, Cond.selects RX2 yX2_runCount yX2_runCount, Cond.initialized RX2, Cond.code yX2_runCount cX2_runCount 1 (some .int), Cond.fieldLink RX2 15 "Tonguetell$Spelling" "length" "I", Cond.methodLink RX4 222 yX0_begin]
def wsX4_stretches_r2 : List Cond := [Cond.instanceMethod yX0_begin, Cond.selects RX0 yX0_begin yX0_begin, Cond.initialized RX0, Cond.code yX0_begin cX0_begin 4 none, Cond.fieldLink RX0 23 "Tonguetell$Cutter" "runCount" "I", Cond.fieldLink RX0 27 "Tonguetell$Cutter" "choices" "I", Cond.fieldLink RX0 30 "Tonguetell$Cutter" "changePrice" "I", Cond.methodLink RX4 81 yX2_runNumber, Cond.instanceMethod yX2_runNumber, Cond.selects RX2 yX2_runNumber yX2_runNumber, Cond.code yX2_runNumber cX2_runNumber 2 (some .int), Cond.methodLink RX2 19 yX2_letterOrGap, Cond.instanceMethod yX2_letterOrGap, Cond.selects RX2 yX2_letterOrGap yX2_letterOrGap, Cond.code yX2_letterOrGap cX2_letterOrGap 2 (some .int), Cond.fieldLink RX2 9 "Tonguetell$Spelling" "letters" "[I", Cond.methodLink RX4 134 yX3_costOf, Cond.instanceMethod yX3_costOf, Cond.selects RX3 yX3_costOf yX3_costOf, Cond.initialized RX3, Cond.code yX3_costOf cX3_costOf 5 (some .int), Cond.fieldLink RX3 15 "Tonguetell$Tally" "sum" "I", Cond.fieldLink RX3 9 "Tonguetell$Tally" "counts" "[I", Cond.methodLink RX4 171 yX0_findToldCut]
def wsX4_stretches_r3 : List Cond := [Cond.instanceMethod yX0_findToldCut, Cond.selects RX0 yX0_findToldCut yX0_findToldCut, Cond.code yX0_findToldCut cX0_findToldCut 3 none, Cond.fieldLink RX0 16 "Tonguetell$Cutter" "told" "[I", Cond.methodLink RX0 33 yX0_fillRest, Cond.instanceMethod yX0_fillRest, Cond.selects RX0 yX0_fillRest yX0_fillRest, Cond.code yX0_fillRest cX0_fillRest 3 none, Cond.fieldLink RX0 20 "Tonguetell$Cutter" "rest" "[[I", Cond.fieldLink RX0 11 "Tonguetell$Cutter" "costs" "[[I", Cond.methodLink RX0 44 yX0_leastBehind, Cond.instanceMethod yX0_leastBehind, Cond.selects RX0 yX0_leastBehind yX0_leastBehind, Cond.code yX0_leastBehind cX0_leastBehind 4 (some .int), Cond.methodLink RX0 36 yX0_cheapest, Cond.instanceMethod yX0_cheapest, Cond.selects RX0 yX0_cheapest yX0_cheapest, Cond.code yX0_cheapest cX0_cheapest 5 (some .int), Cond.methodLink RX0 47 yX0_restAfter, Cond.instanceMethod yX0_restAfter, Cond.selects RX0 yX0_restAfter yX0_restAfter, Cond.code yX0_restAfter cX0_restAfter 4 (some .int), Cond.methodLink RX0 51 yX0_priceOfChange, Cond.instanceMethod yX0_priceOfChange]
def wsX4_stretches_r4 : List Cond := [Cond.selects RX0 yX0_priceOfChange yX0_priceOfChange, Cond.code yX0_priceOfChange cX0_priceOfChange 3 (some .int), Cond.methodLink RX4 177 yX0_stretchCount, Cond.instanceMethod yX0_stretchCount, Cond.selects RX0 yX0_stretchCount yX0_stretchCount, Cond.code yX0_stretchCount cX0_stretchCount 3 (some .int)]
def wsX4_stretches : List Cond := .code yX4_stretches cX4_stretches 1 (some .int) :: ((wsX4_stretches_r1 ++ (wsX4_stretches_r2 ++ (wsX4_stretches_r3 ++ wsX4_stretches_r4))) ++ wsX40 ++ wsX00 ++ wsX20 ++ wsX30 ++ (vx_atS RX4 69 "java/lang/IllegalStateException" ["java/lang/RuntimeException", "java/lang/Exception"]).filter goodWord)
def wsL_cell : List Cond := .code yL_cell cL_cell 2 (some .int) :: ([])
def wsL_low : List Cond := .code yL_low cL_low 2 (some .int) :: ([.constant RL 7 (2147483647)])
def wsL_areCosts_r1 : List Cond := [Cond.methodLink RL 8 yX4_total, Cond.instanceMethod yX4_total, Cond.selects RX4 yX4_total yX4_total, Cond.initialized RX4, Cond.code yX4_total cX4_total 2 (some .int), Cond.fieldLink RX4 23 "Tonguetell" "tallies" "[LTonguetell$Tally;", Cond.fieldLink RX4 125 "Tonguetell$Tally" "sum" "I", Cond.methodLink RX4 90 yX4_requireTongue, Cond.instanceMethod yX4_requireTongue, Cond.selects RX4 yX4_requireTongue yX4_requireTongue, Cond.code yX4_requireTongue cX4_requireTongue 2 none, Cond.classLink RX4 185 "java/lang/IndexOutOfBoundsException", Cond.initialized "java/lang/IndexOutOfBoundsException", Cond.fieldLink RX4 41 "Tonguetell" "tongueCount" "I", Cond.methodLink RL 14 yX4_count, Cond.instanceMethod yX4_count, Cond.selects RX4 yX4_count yX4_count, Cond.code yX4_count cX4_count 3 (some .int), Cond.fieldLink RX4 131 "Tonguetell$Tally" "counts" "[I", Cond.methodLink RX4 128 yX4_requireRunKind, Cond.static yX4_requireRunKind, Cond.code yX4_requireRunKind cX4_requireRunKind 1 none, Cond.methodLink RL 18 yX4_cost, Cond.instanceMethod yX4_cost]
def wsL_areCosts_r2 : List Cond := [Cond.selects RX4 yX4_cost yX4_cost, Cond.code yX4_cost cX4_cost 3 (some .int), Cond.methodLink RX4 134 yX3_costOf, Cond.instanceMethod yX3_costOf, Cond.selects RX3 yX3_costOf yX3_costOf, Cond.initialized RX3, Cond.code yX3_costOf cX3_costOf 5 (some .int), Cond.fieldLink RX3 15 "Tonguetell$Tally" "sum" "I", Cond.fieldLink RX3 9 "Tonguetell$Tally" "counts" "[I"]
def wsL_areCosts : List Cond := .code yL_areCosts cL_areCosts 10 (some .boolean) :: ((wsL_areCosts_r1 ++ wsL_areCosts_r2) ++ wsX40 ++ wsX30 ++ (vx_atS RX4 189 "java/lang/IndexOutOfBoundsException" ["java/lang/RuntimeException", "java/lang/Exception"]).filter goodWord)
def wsL_isCut_r1 : List Cond := [Cond.methodLink RL 21 yX4_runs, Cond.instanceMethod yX4_runs, Cond.selects RX4 yX4_runs yX4_runs, Cond.initialized RX4, Cond.code yX4_runs cX4_runs 1 (some .int), Cond.fieldLink RX4 10 "Tonguetell" "spelled" "LTonguetell$Spelling;", Cond.methodLink RX4 74 yX2_runCount, Cond.instanceMethod yX2_runCount, Cond.selects RX2 yX2_runCount yX2_runCount, Cond.initialized RX2, Cond.code yX2_runCount cX2_runCount 1 (some .int), Cond.fieldLink RX2 15 "Tonguetell$Spelling" "length" "I", Cond.methodLink RL 25 yX4_cutTongue, Cond.instanceMethod yX4_cutTongue, Cond.selects RX4 yX4_cutTongue yX4_cutTongue, Cond.code yX4_cutTongue cX4_cutTongue 2 (some .int), Cond.fieldLink RX4 37 "Tonguetell" "cutter" "LTonguetell$Cutter;", Cond.fieldLink RX4 174 "Tonguetell$Cutter" "told" "[I", Cond.methodLink RX4 157 yX4_requireSomeTongue, Cond.instanceMethod yX4_requireSomeTongue, Cond.selects RX4 yX4_requireSomeTongue yX4_requireSomeTongue, Cond.code yX4_requireSomeTongue cX4_requireSomeTongue 1 none, Cond.classLink RX4 65 "java/lang/IllegalStateException", Cond.initialized "java/lang/IllegalStateException"]
def wsL_isCut_r2 : List Cond := [Cond.fieldLink RX4 41 "Tonguetell" "tongueCount" "I", Cond.methodLink RX4 78 yX4_requireRunPlace, Cond.instanceMethod yX4_requireRunPlace, Cond.selects RX4 yX4_requireRunPlace yX4_requireRunPlace, Cond.code yX4_requireRunPlace cX4_requireRunPlace 2 none, Cond.classLink RX4 185 "java/lang/IndexOutOfBoundsException", Cond.initialized "java/lang/IndexOutOfBoundsException", Cond.methodLink RX4 160 yX4_layCostsForCut, Cond.instanceMethod yX4_layCostsForCut, Cond.selects RX4 yX4_layCostsForCut yX4_layCostsForCut, Cond.code yX4_layCostsForCut cX4_layCostsForCut 4 none, Cond.fieldLink RX4 48 "Tonguetell" "price" "I", Cond.fieldLink RX4 226 "Tonguetell$Cutter" "costs" "[[I", Cond.fieldLink RX4 23 "Tonguetell" "tallies" "[LTonguetell$Tally;", Cond.methodLink RX4 222 yX0_begin, Cond.instanceMethod yX0_begin, Cond.selects RX0 yX0_begin yX0_begin, Cond.initialized RX0, Cond.code yX0_begin cX0_begin 4 none, Cond.fieldLink RX0 23 "Tonguetell$Cutter" "runCount" "I", Cond.fieldLink RX0 27 "Tonguetell$Cutter" "choices" "I", Cond.fieldLink RX0 30 "Tonguetell$Cutter" "changePrice" "I", Cond.methodLink RX4 81 yX2_runNumber, Cond.instanceMethod yX2_runNumber]
def wsL_isCut_r3 : List Cond := [Cond.selects RX2 yX2_runNumber yX2_runNumber, Cond.code yX2_runNumber cX2_runNumber 2 (some .int), Cond.methodLink RX2 19 yX2_letterOrGap, Cond.instanceMethod yX2_letterOrGap, Cond.selects RX2 yX2_letterOrGap yX2_letterOrGap, Cond.code yX2_letterOrGap cX2_letterOrGap 2 (some .int), Cond.fieldLink RX2 9 "Tonguetell$Spelling" "letters" "[I", Cond.methodLink RX4 134 yX3_costOf, Cond.instanceMethod yX3_costOf, Cond.selects RX3 yX3_costOf yX3_costOf, Cond.initialized RX3, Cond.code yX3_costOf cX3_costOf 5 (some .int), Cond.fieldLink RX3 15 "Tonguetell$Tally" "sum" "I", Cond.fieldLink RX3 9 "Tonguetell$Tally" "counts" "[I", Cond.methodLink RX4 171 yX0_findToldCut, Cond.instanceMethod yX0_findToldCut, Cond.selects RX0 yX0_findToldCut yX0_findToldCut, Cond.code yX0_findToldCut cX0_findToldCut 3 none, Cond.fieldLink RX0 16 "Tonguetell$Cutter" "told" "[I", Cond.methodLink RX0 33 yX0_fillRest, Cond.instanceMethod yX0_fillRest, Cond.selects RX0 yX0_fillRest yX0_fillRest, Cond.code yX0_fillRest cX0_fillRest 3 none, Cond.fieldLink RX0 20 "Tonguetell$Cutter" "rest" "[[I"]
def wsL_isCut_r4 : List Cond := [Cond.fieldLink RX0 11 "Tonguetell$Cutter" "costs" "[[I", Cond.methodLink RX0 44 yX0_leastBehind, Cond.instanceMethod yX0_leastBehind, Cond.selects RX0 yX0_leastBehind yX0_leastBehind, Cond.code yX0_leastBehind cX0_leastBehind 4 (some .int), Cond.methodLink RX0 36 yX0_cheapest, Cond.instanceMethod yX0_cheapest, Cond.selects RX0 yX0_cheapest yX0_cheapest, Cond.code yX0_cheapest cX0_cheapest 5 (some .int), Cond.methodLink RX0 47 yX0_restAfter, Cond.instanceMethod yX0_restAfter, Cond.selects RX0 yX0_restAfter yX0_restAfter, Cond.code yX0_restAfter cX0_restAfter 4 (some .int), Cond.methodLink RX0 51 yX0_priceOfChange, Cond.instanceMethod yX0_priceOfChange, Cond.selects RX0 yX0_priceOfChange yX0_priceOfChange, Cond.code yX0_priceOfChange cX0_priceOfChange 3 (some .int), Cond.methodLink RL 28 yX4_tongues, Cond.instanceMethod yX4_tongues, Cond.selects RX4 yX4_tongues yX4_tongues, Cond.code yX4_tongues cX4_tongues 1 (some .int), Cond.methodLink RL 31 yX4_runAt, Cond.instanceMethod yX4_runAt, Cond.selects RX4 yX4_runAt yX4_runAt]
def wsL_isCut_r5 : List Cond := [Cond.code yX4_runAt cX4_runAt 2 (some .int), Cond.methodLink RL 18 yX4_cost, Cond.instanceMethod yX4_cost, Cond.selects RX4 yX4_cost yX4_cost, Cond.code yX4_cost cX4_cost 3 (some .int), Cond.methodLink RX4 90 yX4_requireTongue, Cond.instanceMethod yX4_requireTongue, Cond.selects RX4 yX4_requireTongue yX4_requireTongue, Cond.code yX4_requireTongue cX4_requireTongue 2 none, Cond.methodLink RX4 128 yX4_requireRunKind, Cond.static yX4_requireRunKind, Cond.code yX4_requireRunKind cX4_requireRunKind 1 none, Cond.methodLink RL 34 yX4_textCost, Cond.instanceMethod yX4_textCost, Cond.selects RX4 yX4_textCost yX4_textCost, Cond.code yX4_textCost cX4_textCost 2 (some .int), Cond.methodLink RX4 140 yX4_costOfSpelled, Cond.instanceMethod yX4_costOfSpelled, Cond.selects RX4 yX4_costOfSpelled yX4_costOfSpelled, Cond.code yX4_costOfSpelled cX4_costOfSpelled 4 (some .int), Cond.methodLink RL 37 yX4_cutCost, Cond.instanceMethod yX4_cutCost, Cond.selects RX4 yX4_cutCost yX4_cutCost, Cond.code yX4_cutCost cX4_cutCost 1 (some .int)]
def wsL_isCut_r6 : List Cond := [Cond.methodLink RX4 163 yX0_leastCost, Cond.instanceMethod yX0_leastCost, Cond.selects RX0 yX0_leastCost yX0_leastCost, Cond.code yX0_leastCost cX0_leastCost 1 (some .int), Cond.methodLink RL 40 yX4_stretches, Cond.instanceMethod yX4_stretches, Cond.selects RX4 yX4_stretches yX4_stretches, Cond.code yX4_stretches cX4_stretches 1 (some .int), Cond.methodLink RX4 177 yX0_stretchCount, Cond.instanceMethod yX0_stretchCount, Cond.selects RX0 yX0_stretchCount yX0_stretchCount, Cond.code yX0_stretchCount cX0_stretchCount 3 (some .int), Cond.methodLink RL 43 yX4_cutCostByTrying, Cond.instanceMethod yX4_cutCostByTrying, Cond.selects RX4 yX4_cutCostByTrying yX4_cutCostByTrying, Cond.code yX4_cutCostByTrying cX4_cutCostByTrying 1 (some .int), Cond.fieldLink RX4 62 "Tonguetell$Spelling" "length" "I", Cond.methodLink RX4 168 yX0_leastCostByTrying, Cond.instanceMethod yX0_leastCostByTrying, Cond.selects RX0 yX0_leastCostByTrying yX0_leastCostByTrying, Cond.code yX0_leastCostByTrying cX0_leastCostByTrying 1 (some .int), Cond.methodLink RX0 40 yX0_leastByTrying, Cond.static yX0_leastByTrying, Cond.code yX0_leastByTrying cX0_leastByTrying 6 (some .int)]
def wsL_isCut_r7 : List Cond := [Cond.constant RX0 54 (1000000), Cond.methodLink RX0 55 Lib.Math.min.name, Cond.static Lib.Math.min.name, Cond.initialized "java/lang/Math", Cond.code Lib.Math.min.name Lib.Math.min.code 2 (some .int)]
def wsL_isCut : List Cond := .code yL_isCut cL_isCut 10 (some .boolean) :: ((wsL_isCut_r1 ++ (wsL_isCut_r2 ++ (wsL_isCut_r3 ++ (wsL_isCut_r4 ++ (wsL_isCut_r5 ++ (wsL_isCut_r6 ++ wsL_isCut_r7)))))) ++ wsX40 ++ wsX20 ++ wsX00 ++ wsX30 ++ (vx_atS RX4 69 "java/lang/IllegalStateException" ["java/lang/RuntimeException", "java/lang/Exception"]).filter goodWord ++ (vx_atS RX4 189 "java/lang/IndexOutOfBoundsException" ["java/lang/RuntimeException", "java/lang/Exception"]).filter goodWord)
abbrev vwCl : List vw_C := [(RX0, TX0, 6), (RX1, TX1, 5), (RX2, TX2, 2), (RX3, TX3, 2), (RX4, TX4, 8)]
end
section
/-! ===== printed: decode rows, inner classes ===== -/
theorem dX0_init_0 : decode cX0_init 0 = .ok (.aload_n 0, 1) := by decide +kernel
theorem dX0_init_1 : decode cX0_init 1 = .ok (.invokespecial 3, 3) := by decide +kernel
theorem dX0_init_4 : decode cX0_init 4 = .ok (.aload_n 0, 1) := by decide +kernel
theorem dX0_init_5 : decode cX0_init 5 = .ok (.bipush 17, 2) := by decide +kernel
theorem dX0_init_7 : decode cX0_init 7 = .ok (.iconst 5, 1) := by decide +kernel
theorem dX0_init_8 : decode cX0_init 8 = .ok (.multianewarray 9 2, 4) := by decide +kernel
theorem dX0_init_12 : decode cX0_init 12 = .ok (.putfield 11, 3) := by decide +kernel
theorem dX0_init_15 : decode cX0_init 15 = .ok (.aload_n 0, 1) := by decide +kernel
theorem dX0_init_16 : decode cX0_init 16 = .ok (.bipush 17, 2) := by decide +kernel
theorem dX0_init_18 : decode cX0_init 18 = .ok (.newarray .int, 2) := by decide +kernel
theorem dX0_init_20 : decode cX0_init 20 = .ok (.putfield 16, 3) := by decide +kernel
theorem dX0_init_23 : decode cX0_init 23 = .ok (.aload_n 0, 1) := by decide +kernel
theorem dX0_init_24 : decode cX0_init 24 = .ok (.bipush 17, 2) := by decide +kernel
theorem dX0_init_26 : decode cX0_init 26 = .ok (.iconst 5, 1) := by decide +kernel
theorem dX0_init_27 : decode cX0_init 27 = .ok (.multianewarray 9 2, 4) := by decide +kernel
theorem dX0_init_31 : decode cX0_init 31 = .ok (.putfield 20, 3) := by decide +kernel
theorem dX0_init_34 : decode cX0_init 34 = .ok (.aload_n 0, 1) := by decide +kernel
theorem dX0_init_35 : decode cX0_init 35 = .ok (.iconst 0, 1) := by decide +kernel
theorem dX0_init_36 : decode cX0_init 36 = .ok (.putfield 23, 3) := by decide +kernel
theorem dX0_init_39 : decode cX0_init 39 = .ok (.aload_n 0, 1) := by decide +kernel
theorem dX0_init_40 : decode cX0_init 40 = .ok (.iconst 0, 1) := by decide +kernel
theorem dX0_init_41 : decode cX0_init 41 = .ok (.putfield 27, 3) := by decide +kernel
theorem dX0_init_44 : decode cX0_init 44 = .ok (.aload_n 0, 1) := by decide +kernel
theorem dX0_init_45 : decode cX0_init 45 = .ok (.iconst 0, 1) := by decide +kernel
theorem dX0_init_46 : decode cX0_init 46 = .ok (.putfield 30, 3) := by decide +kernel
theorem dX0_init_49 : decode cX0_init 49 = .ok (.return_, 1) := by decide +kernel
theorem dX0_begin_0 : decode cX0_begin 0 = .ok (.aload_n 0, 1) := by decide +kernel
theorem dX0_begin_1 : decode cX0_begin 1 = .ok (.iload_n 1, 1) := by decide +kernel
theorem dX0_begin_2 : decode cX0_begin 2 = .ok (.putfield 23, 3) := by decide +kernel
theorem dX0_begin_5 : decode cX0_begin 5 = .ok (.aload_n 0, 1) := by decide +kernel
theorem dX0_begin_6 : decode cX0_begin 6 = .ok (.iload_n 2, 1) := by decide +kernel
theorem dX0_begin_7 : decode cX0_begin 7 = .ok (.putfield 27, 3) := by decide +kernel
theorem dX0_begin_10 : decode cX0_begin 10 = .ok (.aload_n 0, 1) := by decide +kernel
theorem dX0_begin_11 : decode cX0_begin 11 = .ok (.iload_n 3, 1) := by decide +kernel
theorem dX0_begin_12 : decode cX0_begin 12 = .ok (.putfield 30, 3) := by decide +kernel
theorem dX0_begin_15 : decode cX0_begin 15 = .ok (.return_, 1) := by decide +kernel
set_option maxRecDepth 20000 in
theorem ggX0_leastCost_X0_fillRest : GoodIn wsX0_leastCost wsX0_fillRest := goodIn_r _ [7, 1, 8, 2, 9, 10, 11, 12, 6, 13, 14, 15, 16, 17, 18, 19, 20, 21, 22, 23, 24, 25, 26, 27, 28, 29, 30, 31, 32] (by decide +kernel) (by decide +kernel)
set_option maxRecDepth 20000 in
theorem gX0_leastCost_X0_fillRest : GoodIn wsX0_leastCost (wsV RX0 33 RX0 yX0_fillRest wsX0_fillRest) := goodIn_app (goodIn_of _ (by decide +kernel)) ggX0_leastCost_X0_fillRest
set_option maxRecDepth 20000 in
theorem ggX0_leastCost_X0_cheapest : GoodIn wsX0_leastCost wsX0_cheapest := goodIn_r _ [17, 8, 18, 19, 20, 6, 21, 2, 22, 23, 24, 25, 26, 27, 28, 29, 30, 31, 32] (by decide +kernel) (by decide +kernel)
set_option maxRecDepth 20000 in
theorem gX0_leastCost_X0_cheapest : GoodIn wsX0_leastCost (wsV RX0 36 RX0 yX0_cheapest wsX0_cheapest) := goodIn_app (goodIn_of _ (by decide +kernel)) ggX0_leastCost_X0_cheapest
theorem dX0_leastCost_0 : decode cX0_leastCost 0 = .ok (.aload_n 0, 1) := by decide +kernel
theorem dX0_leastCost_1 : decode cX0_leastCost 1 = .ok (.getfield 23, 3) := by decide +kernel
theorem dX0_leastCost_4 : decode cX0_leastCost 4 = .ok (.ifCond .ne 5, 3) := by decide +kernel
theorem dX0_leastCost_7 : decode cX0_leastCost 7 = .ok (.iconst 0, 1) := by decide +kernel
theorem dX0_leastCost_8 : decode cX0_leastCost 8 = .ok (.ireturn, 1) := by decide +kernel
theorem dX0_leastCost_9 : decode cX0_leastCost 9 = .ok (.aload_n 0, 1) := by decide +kernel
theorem dX0_leastCost_10 : decode cX0_leastCost 10 = .ok (.invokevirtual 33, 3) := by decide +kernel
theorem dX0_leastCost_13 : decode cX0_leastCost 13 = .ok (.aload_n 0, 1) := by decide +kernel
theorem dX0_leastCost_14 : decode cX0_leastCost 14 = .ok (.getfield 20, 3) := by decide +kernel
theorem dX0_leastCost_17 : decode cX0_leastCost 17 = .ok (.iconst 0, 1) := by decide +kernel
theorem dX0_leastCost_18 : decode cX0_leastCost 18 = .ok (.aaload, 1) := by decide +kernel
theorem dX0_leastCost_19 : decode cX0_leastCost 19 = .ok (.aload_n 0, 1) := by decide +kernel
theorem dX0_leastCost_20 : decode cX0_leastCost 20 = .ok (.iconst 0, 1) := by decide +kernel
theorem dX0_leastCost_21 : decode cX0_leastCost 21 = .ok (.iconst (-1), 1) := by decide +kernel
theorem dX0_leastCost_22 : decode cX0_leastCost 22 = .ok (.invokevirtual 36, 3) := by decide +kernel
theorem dX0_leastCost_25 : decode cX0_leastCost 25 = .ok (.iaload, 1) := by decide +kernel
theorem dX0_leastCost_26 : decode cX0_leastCost 26 = .ok (.ireturn, 1) := by decide +kernel
set_option maxRecDepth 20000 in
theorem ggX0_leastCostByTrying_X0_leastByTrying : GoodIn wsX0_leastCostByTrying wsX0_leastByTrying := goodIn_r _ [4, 5, 6, 7, 8, 9, 10, 11, 12, 13, 14, 15, 3, 16, 17, 1, 2, 18, 19, 20, 21, 22, 23] (by decide +kernel) (by decide +kernel)
set_option maxRecDepth 20000 in
theorem gX0_leastCostByTrying_X0_leastByTrying : GoodIn wsX0_leastCostByTrying (va_wsS RX0 40 yX0_leastByTrying wsX0_leastByTrying) := goodIn_app (goodIn_of _ (by decide +kernel)) ggX0_leastCostByTrying_X0_leastByTrying
theorem dX0_leastCostByTrying_0 : decode cX0_leastCostByTrying 0 = .ok (.aload_n 0, 1) := by decide +kernel
theorem dX0_leastCostByTrying_1 : decode cX0_leastCostByTrying 1 = .ok (.iconst 0, 1) := by decide +kernel
theorem dX0_leastCostByTrying_2 : decode cX0_leastCostByTrying 2 = .ok (.iconst (-1), 1) := by decide +kernel
theorem dX0_leastCostByTrying_3 : decode cX0_leastCostByTrying 3 = .ok (.invokestatic 40, 3) := by decide +kernel
theorem dX0_leastCostByTrying_6 : decode cX0_leastCostByTrying 6 = .ok (.ireturn, 1) := by decide +kernel
set_option maxRecDepth 20000 in
theorem ggX0_findToldCut_X0_fillRest : GoodIn wsX0_findToldCut wsX0_fillRest := goodIn_r _ [7, 1, 8, 9, 10, 11, 12, 13, 6, 14, 15, 16, 17, 18, 19, 20, 21, 22, 23, 24, 25, 26, 27, 28, 29, 30, 31, 32, 33] (by decide +kernel) (by decide +kernel)
set_option maxRecDepth 20000 in
theorem gX0_findToldCut_X0_fillRest : GoodIn wsX0_findToldCut (wsV RX0 33 RX0 yX0_fillRest wsX0_fillRest) := goodIn_app (goodIn_of _ (by decide +kernel)) ggX0_findToldCut_X0_fillRest
set_option maxRecDepth 20000 in
theorem ggX0_findToldCut_X0_cheapest : GoodIn wsX0_findToldCut wsX0_cheapest := goodIn_r _ [18, 8, 19, 20, 21, 6, 22, 9, 23, 24, 25, 26, 27, 28, 29, 30, 31, 32, 33] (by decide +kernel) (by decide +kernel)
set_option maxRecDepth 20000 in
theorem gX0_findToldCut_X0_cheapest : GoodIn wsX0_findToldCut (wsV RX0 36 RX0 yX0_cheapest wsX0_cheapest) := goodIn_app (goodIn_of _ (by decide +kernel)) ggX0_findToldCut_X0_cheapest
theorem dX0_findToldCut_0 : decode cX0_findToldCut 0 = .ok (.aload_n 0, 1) := by decide +kernel
theorem dX0_findToldCut_1 : decode cX0_findToldCut 1 = .ok (.invokevirtual 33, 3) := by decide +kernel
theorem dX0_findToldCut_4 : decode cX0_findToldCut 4 = .ok (.iconst (-1), 1) := by decide +kernel
theorem dX0_findToldCut_5 : decode cX0_findToldCut 5 = .ok (.istore_n 1, 1) := by decide +kernel
theorem dX0_findToldCut_6 : decode cX0_findToldCut 6 = .ok (.iconst 0, 1) := by decide +kernel
theorem dX0_findToldCut_7 : decode cX0_findToldCut 7 = .ok (.istore_n 2, 1) := by decide +kernel
theorem dX0_findToldCut_8 : decode cX0_findToldCut 8 = .ok (.iload_n 2, 1) := by decide +kernel
theorem dX0_findToldCut_9 : decode cX0_findToldCut 9 = .ok (.aload_n 0, 1) := by decide +kernel
theorem dX0_findToldCut_10 : decode cX0_findToldCut 10 = .ok (.getfield 23, 3) := by decide +kernel
theorem dX0_findToldCut_13 : decode cX0_findToldCut 13 = .ok (.if_icmp .ge 28, 3) := by decide +kernel
theorem dX0_findToldCut_16 : decode cX0_findToldCut 16 = .ok (.aload_n 0, 1) := by decide +kernel
theorem dX0_findToldCut_17 : decode cX0_findToldCut 17 = .ok (.getfield 16, 3) := by decide +kernel
theorem dX0_findToldCut_20 : decode cX0_findToldCut 20 = .ok (.iload_n 2, 1) := by decide +kernel
theorem dX0_findToldCut_21 : decode cX0_findToldCut 21 = .ok (.aload_n 0, 1) := by decide +kernel
theorem dX0_findToldCut_22 : decode cX0_findToldCut 22 = .ok (.iload_n 2, 1) := by decide +kernel
theorem dX0_findToldCut_23 : decode cX0_findToldCut 23 = .ok (.iload_n 1, 1) := by decide +kernel
theorem dX0_findToldCut_24 : decode cX0_findToldCut 24 = .ok (.invokevirtual 36, 3) := by decide +kernel
theorem dX0_findToldCut_27 : decode cX0_findToldCut 27 = .ok (.iastore, 1) := by decide +kernel
theorem dX0_findToldCut_28 : decode cX0_findToldCut 28 = .ok (.aload_n 0, 1) := by decide +kernel
theorem dX0_findToldCut_29 : decode cX0_findToldCut 29 = .ok (.getfield 16, 3) := by decide +kernel
theorem dX0_findToldCut_32 : decode cX0_findToldCut 32 = .ok (.iload_n 2, 1) := by decide +kernel
theorem dX0_findToldCut_33 : decode cX0_findToldCut 33 = .ok (.iaload, 1) := by decide +kernel
theorem dX0_findToldCut_34 : decode cX0_findToldCut 34 = .ok (.istore_n 1, 1) := by decide +kernel
theorem dX0_findToldCut_35 : decode cX0_findToldCut 35 = .ok (.iinc 2 1, 3) := by decide +kernel
theorem dX0_findToldCut_38 : decode cX0_findToldCut 38 = .ok (.goto (-30), 3) := by decide +kernel
theorem dX0_findToldCut_41 : decode cX0_findToldCut 41 = .ok (.return_, 1) := by decide +kernel
theorem dX0_stretchCount_0 : decode cX0_stretchCount 0 = .ok (.iconst 0, 1) := by decide +kernel
theorem dX0_stretchCount_1 : decode cX0_stretchCount 1 = .ok (.istore_n 1, 1) := by decide +kernel
theorem dX0_stretchCount_2 : decode cX0_stretchCount 2 = .ok (.iconst 0, 1) := by decide +kernel
theorem dX0_stretchCount_3 : decode cX0_stretchCount 3 = .ok (.istore_n 2, 1) := by decide +kernel
theorem dX0_stretchCount_4 : decode cX0_stretchCount 4 = .ok (.iload_n 2, 1) := by decide +kernel
theorem dX0_stretchCount_5 : decode cX0_stretchCount 5 = .ok (.aload_n 0, 1) := by decide +kernel
theorem dX0_stretchCount_6 : decode cX0_stretchCount 6 = .ok (.getfield 23, 3) := by decide +kernel
theorem dX0_stretchCount_9 : decode cX0_stretchCount 9 = .ok (.if_icmp .ge 33, 3) := by decide +kernel
theorem dX0_stretchCount_12 : decode cX0_stretchCount 12 = .ok (.iload_n 2, 1) := by decide +kernel
theorem dX0_stretchCount_13 : decode cX0_stretchCount 13 = .ok (.ifCond .eq 20, 3) := by decide +kernel
theorem dX0_stretchCount_16 : decode cX0_stretchCount 16 = .ok (.aload_n 0, 1) := by decide +kernel
theorem dX0_stretchCount_17 : decode cX0_stretchCount 17 = .ok (.getfield 16, 3) := by decide +kernel
theorem dX0_stretchCount_20 : decode cX0_stretchCount 20 = .ok (.iload_n 2, 1) := by decide +kernel
theorem dX0_stretchCount_21 : decode cX0_stretchCount 21 = .ok (.iaload, 1) := by decide +kernel
theorem dX0_stretchCount_22 : decode cX0_stretchCount 22 = .ok (.aload_n 0, 1) := by decide +kernel
theorem dX0_stretchCount_23 : decode cX0_stretchCount 23 = .ok (.getfield 16, 3) := by decide +kernel
theorem dX0_stretchCount_26 : decode cX0_stretchCount 26 = .ok (.iload_n 2, 1) := by decide +kernel
theorem dX0_stretchCount_27 : decode cX0_stretchCount 27 = .ok (.iconst 1, 1) := by decide +kernel
theorem dX0_stretchCount_28 : decode cX0_stretchCount 28 = .ok (.isub, 1) := by decide +kernel
theorem dX0_stretchCount_29 : decode cX0_stretchCount 29 = .ok (.iaload, 1) := by decide +kernel
theorem dX0_stretchCount_30 : decode cX0_stretchCount 30 = .ok (.if_icmp .eq 6, 3) := by decide +kernel
theorem dX0_stretchCount_33 : decode cX0_stretchCount 33 = .ok (.iinc 1 1, 3) := by decide +kernel
theorem dX0_stretchCount_36 : decode cX0_stretchCount 36 = .ok (.iinc 2 1, 3) := by decide +kernel
theorem dX0_stretchCount_39 : decode cX0_stretchCount 39 = .ok (.goto (-35), 3) := by decide +kernel
theorem dX0_stretchCount_42 : decode cX0_stretchCount 42 = .ok (.iload_n 1, 1) := by decide +kernel
theorem dX0_stretchCount_43 : decode cX0_stretchCount 43 = .ok (.ireturn, 1) := by decide +kernel
set_option maxRecDepth 20000 in
theorem ggX0_fillRest_X0_leastBehind : GoodIn wsX0_fillRest wsX0_leastBehind := goodIn_r _ [9, 1, 10, 11, 12, 8, 13, 2, 14, 15, 16, 17, 3, 18, 19, 20, 21, 22, 23, 24, 25, 26, 27, 28] (by decide +kernel) (by decide +kernel)
set_option maxRecDepth 20000 in
theorem gX0_fillRest_X0_leastBehind : GoodIn wsX0_fillRest (wsV RX0 44 RX0 yX0_leastBehind wsX0_leastBehind) := goodIn_app (goodIn_of _ (by decide +kernel)) ggX0_fillRest_X0_leastBehind
theorem dX0_fillRest_0 : decode cX0_fillRest 0 = .ok (.aload_n 0, 1) := by decide +kernel
theorem dX0_fillRest_1 : decode cX0_fillRest 1 = .ok (.getfield 23, 3) := by decide +kernel
theorem dX0_fillRest_4 : decode cX0_fillRest 4 = .ok (.iconst 1, 1) := by decide +kernel
theorem dX0_fillRest_5 : decode cX0_fillRest 5 = .ok (.isub, 1) := by decide +kernel
theorem dX0_fillRest_6 : decode cX0_fillRest 6 = .ok (.istore_n 1, 1) := by decide +kernel
theorem dX0_fillRest_7 : decode cX0_fillRest 7 = .ok (.iload_n 1, 1) := by decide +kernel
theorem dX0_fillRest_8 : decode cX0_fillRest 8 = .ok (.ifCond .lt 48, 3) := by decide +kernel
theorem dX0_fillRest_11 : decode cX0_fillRest 11 = .ok (.iconst 0, 1) := by decide +kernel
theorem dX0_fillRest_12 : decode cX0_fillRest 12 = .ok (.istore_n 2, 1) := by decide +kernel
theorem dX0_fillRest_13 : decode cX0_fillRest 13 = .ok (.iload_n 2, 1) := by decide +kernel
theorem dX0_fillRest_14 : decode cX0_fillRest 14 = .ok (.aload_n 0, 1) := by decide +kernel
theorem dX0_fillRest_15 : decode cX0_fillRest 15 = .ok (.getfield 27, 3) := by decide +kernel
theorem dX0_fillRest_18 : decode cX0_fillRest 18 = .ok (.if_icmp .ge 32, 3) := by decide +kernel
theorem dX0_fillRest_21 : decode cX0_fillRest 21 = .ok (.aload_n 0, 1) := by decide +kernel
theorem dX0_fillRest_22 : decode cX0_fillRest 22 = .ok (.getfield 20, 3) := by decide +kernel
theorem dX0_fillRest_25 : decode cX0_fillRest 25 = .ok (.iload_n 1, 1) := by decide +kernel
theorem dX0_fillRest_26 : decode cX0_fillRest 26 = .ok (.aaload, 1) := by decide +kernel
theorem dX0_fillRest_27 : decode cX0_fillRest 27 = .ok (.iload_n 2, 1) := by decide +kernel
theorem dX0_fillRest_28 : decode cX0_fillRest 28 = .ok (.aload_n 0, 1) := by decide +kernel
theorem dX0_fillRest_29 : decode cX0_fillRest 29 = .ok (.getfield 11, 3) := by decide +kernel
theorem dX0_fillRest_32 : decode cX0_fillRest 32 = .ok (.iload_n 1, 1) := by decide +kernel
theorem dX0_fillRest_33 : decode cX0_fillRest 33 = .ok (.aaload, 1) := by decide +kernel
theorem dX0_fillRest_34 : decode cX0_fillRest 34 = .ok (.iload_n 2, 1) := by decide +kernel
theorem dX0_fillRest_35 : decode cX0_fillRest 35 = .ok (.iaload, 1) := by decide +kernel
theorem dX0_fillRest_36 : decode cX0_fillRest 36 = .ok (.aload_n 0, 1) := by decide +kernel
theorem dX0_fillRest_37 : decode cX0_fillRest 37 = .ok (.iload_n 1, 1) := by decide +kernel
theorem dX0_fillRest_38 : decode cX0_fillRest 38 = .ok (.iload_n 2, 1) := by decide +kernel
theorem dX0_fillRest_39 : decode cX0_fillRest 39 = .ok (.invokevirtual 44, 3) := by decide +kernel
theorem dX0_fillRest_42 : decode cX0_fillRest 42 = .ok (.iadd, 1) := by decide +kernel
theorem dX0_fillRest_43 : decode cX0_fillRest 43 = .ok (.iastore, 1) := by decide +kernel
theorem dX0_fillRest_44 : decode cX0_fillRest 44 = .ok (.iinc 2 1, 3) := by decide +kernel
theorem dX0_fillRest_47 : decode cX0_fillRest 47 = .ok (.goto (-34), 3) := by decide +kernel
theorem dX0_fillRest_50 : decode cX0_fillRest 50 = .ok (.iinc 1 (-1), 3) := by decide +kernel
theorem dX0_fillRest_53 : decode cX0_fillRest 53 = .ok (.goto (-46), 3) := by decide +kernel
theorem dX0_fillRest_56 : decode cX0_fillRest 56 = .ok (.return_, 1) := by decide +kernel
set_option maxRecDepth 20000 in
theorem ggX0_leastBehind_X0_cheapest : GoodIn wsX0_leastBehind wsX0_cheapest := goodIn_r _ [6, 7, 8, 9, 10, 5, 11, 12, 13, 14, 15, 16, 17, 18, 19, 20, 21, 22, 23] (by decide +kernel) (by decide +kernel)
set_option maxRecDepth 20000 in
theorem gX0_leastBehind_X0_cheapest : GoodIn wsX0_leastBehind (wsV RX0 36 RX0 yX0_cheapest wsX0_cheapest) := goodIn_app (goodIn_of _ (by decide +kernel)) ggX0_leastBehind_X0_cheapest
set_option maxRecDepth 20000 in
theorem ggX0_leastBehind_X0_restAfter : GoodIn wsX0_leastBehind wsX0_restAfter := goodIn_r _ [11, 12, 13, 14, 15, 5, 16, 17, 18, 19, 20, 21, 22, 23] (by decide +kernel) (by decide +kernel)
set_option maxRecDepth 20000 in
theorem gX0_leastBehind_X0_restAfter : GoodIn wsX0_leastBehind (wsV RX0 47 RX0 yX0_restAfter wsX0_restAfter) := goodIn_app (goodIn_of _ (by decide +kernel)) ggX0_leastBehind_X0_restAfter
theorem dX0_leastBehind_0 : decode cX0_leastBehind 0 = .ok (.iload_n 1, 1) := by decide +kernel
theorem dX0_leastBehind_1 : decode cX0_leastBehind 1 = .ok (.iconst 1, 1) := by decide +kernel
theorem dX0_leastBehind_2 : decode cX0_leastBehind 2 = .ok (.iadd, 1) := by decide +kernel
theorem dX0_leastBehind_3 : decode cX0_leastBehind 3 = .ok (.istore_n 3, 1) := by decide +kernel
theorem dX0_leastBehind_4 : decode cX0_leastBehind 4 = .ok (.iload_n 3, 1) := by decide +kernel
theorem dX0_leastBehind_5 : decode cX0_leastBehind 5 = .ok (.aload_n 0, 1) := by decide +kernel
theorem dX0_leastBehind_6 : decode cX0_leastBehind 6 = .ok (.getfield 23, 3) := by decide +kernel
theorem dX0_leastBehind_9 : decode cX0_leastBehind 9 = .ok (.if_icmp .lt 7, 3) := by decide +kernel
theorem dX0_leastBehind_12 : decode cX0_leastBehind 12 = .ok (.iconst 0, 1) := by decide +kernel
theorem dX0_leastBehind_13 : decode cX0_leastBehind 13 = .ok (.goto 15, 3) := by decide +kernel
theorem dX0_leastBehind_16 : decode cX0_leastBehind 16 = .ok (.aload_n 0, 1) := by decide +kernel
theorem dX0_leastBehind_17 : decode cX0_leastBehind 17 = .ok (.iload_n 3, 1) := by decide +kernel
theorem dX0_leastBehind_18 : decode cX0_leastBehind 18 = .ok (.aload_n 0, 1) := by decide +kernel
theorem dX0_leastBehind_19 : decode cX0_leastBehind 19 = .ok (.iload_n 3, 1) := by decide +kernel
theorem dX0_leastBehind_20 : decode cX0_leastBehind 20 = .ok (.iload_n 2, 1) := by decide +kernel
theorem dX0_leastBehind_21 : decode cX0_leastBehind 21 = .ok (.invokevirtual 36, 3) := by decide +kernel
theorem dX0_leastBehind_24 : decode cX0_leastBehind 24 = .ok (.iload_n 2, 1) := by decide +kernel
theorem dX0_leastBehind_25 : decode cX0_leastBehind 25 = .ok (.invokevirtual 47, 3) := by decide +kernel
theorem dX0_leastBehind_28 : decode cX0_leastBehind 28 = .ok (.ireturn, 1) := by decide +kernel
set_option maxRecDepth 20000 in
theorem ggX0_cheapest_X0_restAfter : GoodIn wsX0_cheapest wsX0_restAfter := goodIn_r _ [6, 7, 8, 9, 10, 5, 11, 12, 13, 14, 15, 16, 17, 18] (by decide +kernel) (by decide +kernel)
set_option maxRecDepth 20000 in
theorem gX0_cheapest_X0_restAfter : GoodIn wsX0_cheapest (wsV RX0 47 RX0 yX0_restAfter wsX0_restAfter) := goodIn_app (goodIn_of _ (by decide +kernel)) ggX0_cheapest_X0_restAfter
theorem dX0_cheapest_0 : decode cX0_cheapest 0 = .ok (.iconst 0, 1) := by decide +kernel
theorem dX0_cheapest_1 : decode cX0_cheapest 1 = .ok (.istore_n 3, 1) := by decide +kernel
theorem dX0_cheapest_2 : decode cX0_cheapest 2 = .ok (.iconst 1, 1) := by decide +kernel
theorem dX0_cheapest_3 : decode cX0_cheapest 3 = .ok (.istore 4, 2) := by decide +kernel
theorem dX0_cheapest_5 : decode cX0_cheapest 5 = .ok (.iload 4, 2) := by decide +kernel
theorem dX0_cheapest_7 : decode cX0_cheapest 7 = .ok (.aload_n 0, 1) := by decide +kernel
theorem dX0_cheapest_8 : decode cX0_cheapest 8 = .ok (.getfield 27, 3) := by decide +kernel
theorem dX0_cheapest_11 : decode cX0_cheapest 11 = .ok (.if_icmp .ge 30, 3) := by decide +kernel
theorem dX0_cheapest_14 : decode cX0_cheapest 14 = .ok (.aload_n 0, 1) := by decide +kernel
theorem dX0_cheapest_15 : decode cX0_cheapest 15 = .ok (.iload_n 1, 1) := by decide +kernel
theorem dX0_cheapest_16 : decode cX0_cheapest 16 = .ok (.iload 4, 2) := by decide +kernel
theorem dX0_cheapest_18 : decode cX0_cheapest 18 = .ok (.iload_n 2, 1) := by decide +kernel
theorem dX0_cheapest_19 : decode cX0_cheapest 19 = .ok (.invokevirtual 47, 3) := by decide +kernel
theorem dX0_cheapest_22 : decode cX0_cheapest 22 = .ok (.aload_n 0, 1) := by decide +kernel
theorem dX0_cheapest_23 : decode cX0_cheapest 23 = .ok (.iload_n 1, 1) := by decide +kernel
theorem dX0_cheapest_24 : decode cX0_cheapest 24 = .ok (.iload_n 3, 1) := by decide +kernel
theorem dX0_cheapest_25 : decode cX0_cheapest 25 = .ok (.iload_n 2, 1) := by decide +kernel
theorem dX0_cheapest_26 : decode cX0_cheapest 26 = .ok (.invokevirtual 47, 3) := by decide +kernel
theorem dX0_cheapest_29 : decode cX0_cheapest 29 = .ok (.if_icmp .ge 6, 3) := by decide +kernel
theorem dX0_cheapest_32 : decode cX0_cheapest 32 = .ok (.iload 4, 2) := by decide +kernel
theorem dX0_cheapest_34 : decode cX0_cheapest 34 = .ok (.istore_n 3, 1) := by decide +kernel
theorem dX0_cheapest_35 : decode cX0_cheapest 35 = .ok (.iinc 4 1, 3) := by decide +kernel
theorem dX0_cheapest_38 : decode cX0_cheapest 38 = .ok (.goto (-33), 3) := by decide +kernel
theorem dX0_cheapest_41 : decode cX0_cheapest 41 = .ok (.iload_n 3, 1) := by decide +kernel
theorem dX0_cheapest_42 : decode cX0_cheapest 42 = .ok (.ireturn, 1) := by decide +kernel
set_option maxRecDepth 20000 in
theorem ggX0_restAfter_X0_priceOfChange : GoodIn wsX0_restAfter wsX0_priceOfChange := goodIn_r _ [6, 7, 8, 9, 10, 11, 12, 13] (by decide +kernel) (by decide +kernel)
set_option maxRecDepth 20000 in
theorem gX0_restAfter_X0_priceOfChange : GoodIn wsX0_restAfter (wsV RX0 51 RX0 yX0_priceOfChange wsX0_priceOfChange) := goodIn_app (goodIn_of _ (by decide +kernel)) ggX0_restAfter_X0_priceOfChange
theorem dX0_restAfter_0 : decode cX0_restAfter 0 = .ok (.aload_n 0, 1) := by decide +kernel
theorem dX0_restAfter_1 : decode cX0_restAfter 1 = .ok (.getfield 20, 3) := by decide +kernel
theorem dX0_restAfter_4 : decode cX0_restAfter 4 = .ok (.iload_n 1, 1) := by decide +kernel
theorem dX0_restAfter_5 : decode cX0_restAfter 5 = .ok (.aaload, 1) := by decide +kernel
theorem dX0_restAfter_6 : decode cX0_restAfter 6 = .ok (.iload_n 2, 1) := by decide +kernel
theorem dX0_restAfter_7 : decode cX0_restAfter 7 = .ok (.iaload, 1) := by decide +kernel
theorem dX0_restAfter_8 : decode cX0_restAfter 8 = .ok (.aload_n 0, 1) := by decide +kernel
theorem dX0_restAfter_9 : decode cX0_restAfter 9 = .ok (.iload_n 3, 1) := by decide +kernel
theorem dX0_restAfter_10 : decode cX0_restAfter 10 = .ok (.iload_n 2, 1) := by decide +kernel
theorem dX0_restAfter_11 : decode cX0_restAfter 11 = .ok (.invokevirtual 51, 3) := by decide +kernel
theorem dX0_restAfter_14 : decode cX0_restAfter 14 = .ok (.iadd, 1) := by decide +kernel
theorem dX0_restAfter_15 : decode cX0_restAfter 15 = .ok (.ireturn, 1) := by decide +kernel
theorem dX0_priceOfChange_0 : decode cX0_priceOfChange 0 = .ok (.iload_n 1, 1) := by decide +kernel
theorem dX0_priceOfChange_1 : decode cX0_priceOfChange 1 = .ok (.iconst (-1), 1) := by decide +kernel
theorem dX0_priceOfChange_2 : decode cX0_priceOfChange 2 = .ok (.if_icmp .eq 8, 3) := by decide +kernel
theorem dX0_priceOfChange_5 : decode cX0_priceOfChange 5 = .ok (.iload_n 1, 1) := by decide +kernel
theorem dX0_priceOfChange_6 : decode cX0_priceOfChange 6 = .ok (.iload_n 2, 1) := by decide +kernel
theorem dX0_priceOfChange_7 : decode cX0_priceOfChange 7 = .ok (.if_icmp .ne 7, 3) := by decide +kernel
theorem dX0_priceOfChange_10 : decode cX0_priceOfChange 10 = .ok (.iconst 0, 1) := by decide +kernel
theorem dX0_priceOfChange_11 : decode cX0_priceOfChange 11 = .ok (.goto 7, 3) := by decide +kernel
theorem dX0_priceOfChange_14 : decode cX0_priceOfChange 14 = .ok (.aload_n 0, 1) := by decide +kernel
theorem dX0_priceOfChange_15 : decode cX0_priceOfChange 15 = .ok (.getfield 30, 3) := by decide +kernel
theorem dX0_priceOfChange_18 : decode cX0_priceOfChange 18 = .ok (.ireturn, 1) := by decide +kernel
set_option maxRecDepth 20000 in
theorem ggX0_leastByTrying_X0_priceOfChange : GoodIn wsX0_leastByTrying wsX0_priceOfChange := goodIn_r _ [13, 14, 17, 18, 19, 20, 21, 22] (by decide +kernel) (by decide +kernel)
set_option maxRecDepth 20000 in
theorem gX0_leastByTrying_X0_priceOfChange : GoodIn wsX0_leastByTrying (wsV RX0 51 RX0 yX0_priceOfChange wsX0_priceOfChange) := goodIn_app (goodIn_of _ (by decide +kernel)) ggX0_leastByTrying_X0_priceOfChange
set_option maxRecDepth 20000 in
theorem ggX0_leastByTrying_X0_leastByTrying : GoodIn wsX0_leastByTrying wsX0_leastByTrying := goodIn_r _ [0, 1, 2, 3, 4, 5, 6, 7, 8, 9, 10, 11, 12, 13, 14, 15, 16, 17, 18, 19, 20, 21, 22] (by decide +kernel) (by decide +kernel)
set_option maxRecDepth 20000 in
theorem gX0_leastByTrying_X0_leastByTrying : GoodIn wsX0_leastByTrying (va_wsS RX0 40 yX0_leastByTrying wsX0_leastByTrying) := goodIn_app (goodIn_of _ (by decide +kernel)) ggX0_leastByTrying_X0_leastByTrying
theorem dX0_leastByTrying_0 : decode cX0_leastByTrying 0 = .ok (.iload_n 1, 1) := by decide +kernel
theorem dX0_leastByTrying_1 : decode cX0_leastByTrying 1 = .ok (.aload_n 0, 1) := by decide +kernel
theorem dX0_leastByTrying_2 : decode cX0_leastByTrying 2 = .ok (.getfield 23, 3) := by decide +kernel
theorem dX0_leastByTrying_5 : decode cX0_leastByTrying 5 = .ok (.if_icmp .ge 8, 3) := by decide +kernel
theorem dX0_leastByTrying_8 : decode cX0_leastByTrying 8 = .ok (.iload_n 1, 1) := by decide +kernel
theorem dX0_leastByTrying_9 : decode cX0_leastByTrying 9 = .ok (.iconst 5, 1) := by decide +kernel
theorem dX0_leastByTrying_10 : decode cX0_leastByTrying 10 = .ok (.if_icmp .le 5, 3) := by decide +kernel
theorem dX0_leastByTrying_13 : decode cX0_leastByTrying 13 = .ok (.iconst 0, 1) := by decide +kernel
theorem dX0_leastByTrying_14 : decode cX0_leastByTrying 14 = .ok (.ireturn, 1) := by decide +kernel
theorem dX0_leastByTrying_15 : decode cX0_leastByTrying 15 = .ok (.ldc 54, 2) := by decide +kernel
theorem dX0_leastByTrying_17 : decode cX0_leastByTrying 17 = .ok (.istore_n 3, 1) := by decide +kernel
theorem dX0_leastByTrying_18 : decode cX0_leastByTrying 18 = .ok (.iconst 0, 1) := by decide +kernel
theorem dX0_leastByTrying_19 : decode cX0_leastByTrying 19 = .ok (.istore 4, 2) := by decide +kernel
theorem dX0_leastByTrying_21 : decode cX0_leastByTrying 21 = .ok (.iload 4, 2) := by decide +kernel
theorem dX0_leastByTrying_23 : decode cX0_leastByTrying 23 = .ok (.aload_n 0, 1) := by decide +kernel
theorem dX0_leastByTrying_24 : decode cX0_leastByTrying 24 = .ok (.getfield 27, 3) := by decide +kernel
theorem dX0_leastByTrying_27 : decode cX0_leastByTrying 27 = .ok (.if_icmp .ge 45, 3) := by decide +kernel
theorem dX0_leastByTrying_30 : decode cX0_leastByTrying 30 = .ok (.aload_n 0, 1) := by decide +kernel
theorem dX0_leastByTrying_31 : decode cX0_leastByTrying 31 = .ok (.iload_n 2, 1) := by decide +kernel
theorem dX0_leastByTrying_32 : decode cX0_leastByTrying 32 = .ok (.iload 4, 2) := by decide +kernel
theorem dX0_leastByTrying_34 : decode cX0_leastByTrying 34 = .ok (.invokevirtual 51, 3) := by decide +kernel
theorem dX0_leastByTrying_37 : decode cX0_leastByTrying 37 = .ok (.aload_n 0, 1) := by decide +kernel
theorem dX0_leastByTrying_38 : decode cX0_leastByTrying 38 = .ok (.getfield 11, 3) := by decide +kernel
theorem dX0_leastByTrying_41 : decode cX0_leastByTrying 41 = .ok (.iload_n 1, 1) := by decide +kernel
theorem dX0_leastByTrying_42 : decode cX0_leastByTrying 42 = .ok (.aaload, 1) := by decide +kernel
theorem dX0_leastByTrying_43 : decode cX0_leastByTrying 43 = .ok (.iload 4, 2) := by decide +kernel
theorem dX0_leastByTrying_45 : decode cX0_leastByTrying 45 = .ok (.iaload, 1) := by decide +kernel
theorem dX0_leastByTrying_46 : decode cX0_leastByTrying 46 = .ok (.iadd, 1) := by decide +kernel
theorem dX0_leastByTrying_47 : decode cX0_leastByTrying 47 = .ok (.istore 5, 2) := by decide +kernel
theorem dX0_leastByTrying_49 : decode cX0_leastByTrying 49 = .ok (.iload_n 3, 1) := by decide +kernel
theorem dX0_leastByTrying_50 : decode cX0_leastByTrying 50 = .ok (.iload 5, 2) := by decide +kernel
theorem dX0_leastByTrying_52 : decode cX0_leastByTrying 52 = .ok (.aload_n 0, 1) := by decide +kernel
theorem dX0_leastByTrying_53 : decode cX0_leastByTrying 53 = .ok (.iload_n 1, 1) := by decide +kernel
theorem dX0_leastByTrying_54 : decode cX0_leastByTrying 54 = .ok (.iconst 1, 1) := by decide +kernel
theorem dX0_leastByTrying_55 : decode cX0_leastByTrying 55 = .ok (.iadd, 1) := by decide +kernel
theorem dX0_leastByTrying_56 : decode cX0_leastByTrying 56 = .ok (.iload 4, 2) := by decide +kernel
theorem dX0_leastByTrying_58 : decode cX0_leastByTrying 58 = .ok (.invokestatic 40, 3) := by decide +kernel
theorem dX0_leastByTrying_61 : decode cX0_leastByTrying 61 = .ok (.iadd, 1) := by decide +kernel
theorem dX0_leastByTrying_62 : decode cX0_leastByTrying 62 = .ok (.invokestatic 55, 3) := by decide +kernel
theorem dX0_leastByTrying_65 : decode cX0_leastByTrying 65 = .ok (.istore_n 3, 1) := by decide +kernel
theorem dX0_leastByTrying_66 : decode cX0_leastByTrying 66 = .ok (.iinc 4 1, 3) := by decide +kernel
theorem dX0_leastByTrying_69 : decode cX0_leastByTrying 69 = .ok (.goto (-48), 3) := by decide +kernel
theorem dX0_leastByTrying_72 : decode cX0_leastByTrying 72 = .ok (.iload_n 3, 1) := by decide +kernel
theorem dX0_leastByTrying_73 : decode cX0_leastByTrying 73 = .ok (.ireturn, 1) := by decide +kernel
theorem dX1_init_0 : decode cX1_init 0 = .ok (.aload_n 0, 1) := by decide +kernel
theorem dX1_init_1 : decode cX1_init 1 = .ok (.invokespecial 3, 3) := by decide +kernel
theorem dX1_init_4 : decode cX1_init 4 = .ok (.aload_n 0, 1) := by decide +kernel
theorem dX1_init_5 : decode cX1_init 5 = .ok (.bipush 30, 2) := by decide +kernel
theorem dX1_init_7 : decode cX1_init 7 = .ok (.newarray .int, 2) := by decide +kernel
theorem dX1_init_9 : decode cX1_init 9 = .ok (.putfield 9, 3) := by decide +kernel
theorem dX1_init_12 : decode cX1_init 12 = .ok (.aload_n 0, 1) := by decide +kernel
theorem dX1_init_13 : decode cX1_init 13 = .ok (.bipush 30, 2) := by decide +kernel
theorem dX1_init_15 : decode cX1_init 15 = .ok (.newarray .int, 2) := by decide +kernel
theorem dX1_init_17 : decode cX1_init 17 = .ok (.putfield 15, 3) := by decide +kernel
theorem dX1_init_20 : decode cX1_init 20 = .ok (.aload_n 0, 1) := by decide +kernel
theorem dX1_init_21 : decode cX1_init 21 = .ok (.bipush 30, 2) := by decide +kernel
theorem dX1_init_23 : decode cX1_init 23 = .ok (.newarray .int, 2) := by decide +kernel
theorem dX1_init_25 : decode cX1_init 25 = .ok (.putfield 18, 3) := by decide +kernel
theorem dX1_init_28 : decode cX1_init 28 = .ok (.aload_n 0, 1) := by decide +kernel
theorem dX1_init_29 : decode cX1_init 29 = .ok (.bipush 30, 2) := by decide +kernel
theorem dX1_init_31 : decode cX1_init 31 = .ok (.bipush 17, 2) := by decide +kernel
theorem dX1_init_33 : decode cX1_init 33 = .ok (.multianewarray 21 2, 4) := by decide +kernel
theorem dX1_init_37 : decode cX1_init 37 = .ok (.putfield 23, 3) := by decide +kernel
theorem dX1_init_40 : decode cX1_init 40 = .ok (.aload_n 0, 1) := by decide +kernel
theorem dX1_init_41 : decode cX1_init 41 = .ok (.iconst 0, 1) := by decide +kernel
theorem dX1_init_42 : decode cX1_init 42 = .ok (.putfield 26, 3) := by decide +kernel
theorem dX1_init_45 : decode cX1_init 45 = .ok (.iconst 0, 1) := by decide +kernel
theorem dX1_init_46 : decode cX1_init 46 = .ok (.istore_n 1, 1) := by decide +kernel
theorem dX1_init_47 : decode cX1_init 47 = .ok (.iload_n 1, 1) := by decide +kernel
theorem dX1_init_48 : decode cX1_init 48 = .ok (.bipush 30, 2) := by decide +kernel
theorem dX1_init_50 : decode cX1_init 50 = .ok (.if_icmp .ge 16, 3) := by decide +kernel
theorem dX1_init_53 : decode cX1_init 53 = .ok (.aload_n 0, 1) := by decide +kernel
theorem dX1_init_54 : decode cX1_init 54 = .ok (.getfield 9, 3) := by decide +kernel
theorem dX1_init_57 : decode cX1_init 57 = .ok (.iload_n 1, 1) := by decide +kernel
theorem dX1_init_58 : decode cX1_init 58 = .ok (.iconst (-1), 1) := by decide +kernel
theorem dX1_init_59 : decode cX1_init 59 = .ok (.iastore, 1) := by decide +kernel
theorem dX1_init_60 : decode cX1_init 60 = .ok (.iinc 1 1, 3) := by decide +kernel
theorem dX1_init_63 : decode cX1_init 63 = .ok (.goto (-16), 3) := by decide +kernel
theorem dX1_init_66 : decode cX1_init 66 = .ok (.return_, 1) := by decide +kernel
set_option maxRecDepth 20000 in
theorem ggX1_isFull_X1_firstSlotWith : GoodIn wsX1_isFull wsX1_firstSlotWith := goodIn_r _ [5, 6, 7, 8, 9, 10, 11] (by decide +kernel) (by decide +kernel)
set_option maxRecDepth 20000 in
theorem gX1_isFull_X1_firstSlotWith : GoodIn wsX1_isFull (wsV RX1 30 RX1 yX1_firstSlotWith wsX1_firstSlotWith) := goodIn_app (goodIn_of _ (by decide +kernel)) ggX1_isFull_X1_firstSlotWith
theorem dX1_isFull_0 : decode cX1_isFull 0 = .ok (.aload_n 0, 1) := by decide +kernel
theorem dX1_isFull_1 : decode cX1_isFull 1 = .ok (.iconst (-1), 1) := by decide +kernel
theorem dX1_isFull_2 : decode cX1_isFull 2 = .ok (.invokevirtual 30, 3) := by decide +kernel
theorem dX1_isFull_5 : decode cX1_isFull 5 = .ok (.iconst (-1), 1) := by decide +kernel
theorem dX1_isFull_6 : decode cX1_isFull 6 = .ok (.if_icmp .ne 7, 3) := by decide +kernel
theorem dX1_isFull_9 : decode cX1_isFull 9 = .ok (.iconst 1, 1) := by decide +kernel
theorem dX1_isFull_10 : decode cX1_isFull 10 = .ok (.goto 4, 3) := by decide +kernel
theorem dX1_isFull_13 : decode cX1_isFull 13 = .ok (.iconst 0, 1) := by decide +kernel
theorem dX1_isFull_14 : decode cX1_isFull 14 = .ok (.ireturn, 1) := by decide +kernel
set_option maxRecDepth 20000 in
theorem ggX1_slotOf_X1_firstSlotWith : GoodIn wsX1_slotOf wsX1_firstSlotWith := goodIn_r _ [5, 6, 7, 8, 9, 10, 11] (by decide +kernel) (by decide +kernel)
set_option maxRecDepth 20000 in
theorem gX1_slotOf_X1_firstSlotWith : GoodIn wsX1_slotOf (wsV RX1 30 RX1 yX1_firstSlotWith wsX1_firstSlotWith) := goodIn_app (goodIn_of _ (by decide +kernel)) ggX1_slotOf_X1_firstSlotWith
theorem dX1_slotOf_0 : decode cX1_slotOf 0 = .ok (.iload_n 1, 1) := by decide +kernel
theorem dX1_slotOf_1 : decode cX1_slotOf 1 = .ok (.ifCond .ge 7, 3) := by decide +kernel
theorem dX1_slotOf_4 : decode cX1_slotOf 4 = .ok (.iconst (-1), 1) := by decide +kernel
theorem dX1_slotOf_5 : decode cX1_slotOf 5 = .ok (.goto 8, 3) := by decide +kernel
theorem dX1_slotOf_8 : decode cX1_slotOf 8 = .ok (.aload_n 0, 1) := by decide +kernel
theorem dX1_slotOf_9 : decode cX1_slotOf 9 = .ok (.iload_n 1, 1) := by decide +kernel
theorem dX1_slotOf_10 : decode cX1_slotOf 10 = .ok (.invokevirtual 30, 3) := by decide +kernel
theorem dX1_slotOf_13 : decode cX1_slotOf 13 = .ok (.ireturn, 1) := by decide +kernel
set_option maxRecDepth 20000 in
theorem ggX1_take_X1_firstSlotWith : GoodIn wsX1_take wsX1_firstSlotWith := goodIn_r _ [9, 1, 10, 11, 12, 13, 14] (by decide +kernel) (by decide +kernel)
set_option maxRecDepth 20000 in
theorem gX1_take_X1_firstSlotWith : GoodIn wsX1_take (wsV RX1 30 RX1 yX1_firstSlotWith wsX1_firstSlotWith) := goodIn_app (goodIn_of _ (by decide +kernel)) ggX1_take_X1_firstSlotWith
theorem dX1_take_0 : decode cX1_take 0 = .ok (.aload_n 0, 1) := by decide +kernel
theorem dX1_take_1 : decode cX1_take 1 = .ok (.iconst (-1), 1) := by decide +kernel
theorem dX1_take_2 : decode cX1_take 2 = .ok (.invokevirtual 30, 3) := by decide +kernel
theorem dX1_take_5 : decode cX1_take 5 = .ok (.istore_n 3, 1) := by decide +kernel
theorem dX1_take_6 : decode cX1_take 6 = .ok (.aload_n 0, 1) := by decide +kernel
theorem dX1_take_7 : decode cX1_take 7 = .ok (.getfield 9, 3) := by decide +kernel
theorem dX1_take_10 : decode cX1_take 10 = .ok (.iload_n 3, 1) := by decide +kernel
theorem dX1_take_11 : decode cX1_take 11 = .ok (.aload_n 0, 1) := by decide +kernel
theorem dX1_take_12 : decode cX1_take 12 = .ok (.getfield 26, 3) := by decide +kernel
theorem dX1_take_15 : decode cX1_take 15 = .ok (.iastore, 1) := by decide +kernel
theorem dX1_take_16 : decode cX1_take 16 = .ok (.aload_n 0, 1) := by decide +kernel
theorem dX1_take_17 : decode cX1_take 17 = .ok (.getfield 15, 3) := by decide +kernel
theorem dX1_take_20 : decode cX1_take 20 = .ok (.iload_n 3, 1) := by decide +kernel
theorem dX1_take_21 : decode cX1_take 21 = .ok (.iload_n 1, 1) := by decide +kernel
theorem dX1_take_22 : decode cX1_take 22 = .ok (.iastore, 1) := by decide +kernel
theorem dX1_take_23 : decode cX1_take 23 = .ok (.aload_n 0, 1) := by decide +kernel
theorem dX1_take_24 : decode cX1_take 24 = .ok (.getfield 18, 3) := by decide +kernel
theorem dX1_take_27 : decode cX1_take 27 = .ok (.iload_n 3, 1) := by decide +kernel
theorem dX1_take_28 : decode cX1_take 28 = .ok (.iload_n 2, 1) := by decide +kernel
theorem dX1_take_29 : decode cX1_take 29 = .ok (.iastore, 1) := by decide +kernel
theorem dX1_take_30 : decode cX1_take 30 = .ok (.aload_n 0, 1) := by decide +kernel
theorem dX1_take_31 : decode cX1_take 31 = .ok (.dup, 1) := by decide +kernel
theorem dX1_take_32 : decode cX1_take 32 = .ok (.getfield 26, 3) := by decide +kernel
theorem dX1_take_35 : decode cX1_take 35 = .ok (.iconst 1, 1) := by decide +kernel
theorem dX1_take_36 : decode cX1_take 36 = .ok (.iadd, 1) := by decide +kernel
theorem dX1_take_37 : decode cX1_take 37 = .ok (.putfield 26, 3) := by decide +kernel
theorem dX1_take_40 : decode cX1_take 40 = .ok (.iload_n 3, 1) := by decide +kernel
theorem dX1_take_41 : decode cX1_take 41 = .ok (.ireturn, 1) := by decide +kernel
theorem dX1_free_0 : decode cX1_free 0 = .ok (.aload_n 0, 1) := by decide +kernel
theorem dX1_free_1 : decode cX1_free 1 = .ok (.getfield 9, 3) := by decide +kernel
theorem dX1_free_4 : decode cX1_free 4 = .ok (.iload_n 1, 1) := by decide +kernel
theorem dX1_free_5 : decode cX1_free 5 = .ok (.iconst (-1), 1) := by decide +kernel
theorem dX1_free_6 : decode cX1_free 6 = .ok (.iastore, 1) := by decide +kernel
theorem dX1_free_7 : decode cX1_free 7 = .ok (.return_, 1) := by decide +kernel
theorem dX1_firstSlotWith_0 : decode cX1_firstSlotWith 0 = .ok (.iconst 0, 1) := by decide +kernel
theorem dX1_firstSlotWith_1 : decode cX1_firstSlotWith 1 = .ok (.istore_n 2, 1) := by decide +kernel
theorem dX1_firstSlotWith_2 : decode cX1_firstSlotWith 2 = .ok (.iload_n 2, 1) := by decide +kernel
theorem dX1_firstSlotWith_3 : decode cX1_firstSlotWith 3 = .ok (.bipush 30, 2) := by decide +kernel
theorem dX1_firstSlotWith_5 : decode cX1_firstSlotWith 5 = .ok (.if_icmp .ge 21, 3) := by decide +kernel
theorem dX1_firstSlotWith_8 : decode cX1_firstSlotWith 8 = .ok (.aload_n 0, 1) := by decide +kernel
theorem dX1_firstSlotWith_9 : decode cX1_firstSlotWith 9 = .ok (.getfield 9, 3) := by decide +kernel
theorem dX1_firstSlotWith_12 : decode cX1_firstSlotWith 12 = .ok (.iload_n 2, 1) := by decide +kernel
theorem dX1_firstSlotWith_13 : decode cX1_firstSlotWith 13 = .ok (.iaload, 1) := by decide +kernel
theorem dX1_firstSlotWith_14 : decode cX1_firstSlotWith 14 = .ok (.iload_n 1, 1) := by decide +kernel
theorem dX1_firstSlotWith_15 : decode cX1_firstSlotWith 15 = .ok (.if_icmp .ne 5, 3) := by decide +kernel
theorem dX1_firstSlotWith_18 : decode cX1_firstSlotWith 18 = .ok (.iload_n 2, 1) := by decide +kernel
theorem dX1_firstSlotWith_19 : decode cX1_firstSlotWith 19 = .ok (.ireturn, 1) := by decide +kernel
theorem dX1_firstSlotWith_20 : decode cX1_firstSlotWith 20 = .ok (.iinc 2 1, 3) := by decide +kernel
theorem dX1_firstSlotWith_23 : decode cX1_firstSlotWith 23 = .ok (.goto (-21), 3) := by decide +kernel
theorem dX1_firstSlotWith_26 : decode cX1_firstSlotWith 26 = .ok (.iconst (-1), 1) := by decide +kernel
theorem dX1_firstSlotWith_27 : decode cX1_firstSlotWith 27 = .ok (.ireturn, 1) := by decide +kernel
theorem dX2_init_0 : decode cX2_init 0 = .ok (.aload_n 0, 1) := by decide +kernel
theorem dX2_init_1 : decode cX2_init 1 = .ok (.invokespecial 3, 3) := by decide +kernel
theorem dX2_init_4 : decode cX2_init 4 = .ok (.aload_n 0, 1) := by decide +kernel
theorem dX2_init_5 : decode cX2_init 5 = .ok (.bipush 16, 2) := by decide +kernel
theorem dX2_init_7 : decode cX2_init 7 = .ok (.newarray .int, 2) := by decide +kernel
theorem dX2_init_9 : decode cX2_init 9 = .ok (.putfield 9, 3) := by decide +kernel
theorem dX2_init_12 : decode cX2_init 12 = .ok (.aload_n 0, 1) := by decide +kernel
theorem dX2_init_13 : decode cX2_init 13 = .ok (.iconst 0, 1) := by decide +kernel
theorem dX2_init_14 : decode cX2_init 14 = .ok (.putfield 15, 3) := by decide +kernel
theorem dX2_init_17 : decode cX2_init 17 = .ok (.return_, 1) := by decide +kernel
theorem dX2_append_0 : decode cX2_append 0 = .ok (.aload_n 0, 1) := by decide +kernel
theorem dX2_append_1 : decode cX2_append 1 = .ok (.getfield 9, 3) := by decide +kernel
theorem dX2_append_4 : decode cX2_append 4 = .ok (.aload_n 0, 1) := by decide +kernel
theorem dX2_append_5 : decode cX2_append 5 = .ok (.getfield 15, 3) := by decide +kernel
theorem dX2_append_8 : decode cX2_append 8 = .ok (.iload_n 1, 1) := by decide +kernel
theorem dX2_append_9 : decode cX2_append 9 = .ok (.iastore, 1) := by decide +kernel
theorem dX2_append_10 : decode cX2_append 10 = .ok (.aload_n 0, 1) := by decide +kernel
theorem dX2_append_11 : decode cX2_append 11 = .ok (.dup, 1) := by decide +kernel
theorem dX2_append_12 : decode cX2_append 12 = .ok (.getfield 15, 3) := by decide +kernel
theorem dX2_append_15 : decode cX2_append 15 = .ok (.iconst 1, 1) := by decide +kernel
theorem dX2_append_16 : decode cX2_append 16 = .ok (.iadd, 1) := by decide +kernel
theorem dX2_append_17 : decode cX2_append 17 = .ok (.putfield 15, 3) := by decide +kernel
theorem dX2_append_20 : decode cX2_append 20 = .ok (.return_, 1) := by decide +kernel
theorem dX2_runCount_0 : decode cX2_runCount 0 = .ok (.aload_n 0, 1) := by decide +kernel
theorem dX2_runCount_1 : decode cX2_runCount 1 = .ok (.getfield 15, 3) := by decide +kernel
theorem dX2_runCount_4 : decode cX2_runCount 4 = .ok (.ifCond .ne 7, 3) := by decide +kernel
theorem dX2_runCount_7 : decode cX2_runCount 7 = .ok (.iconst 0, 1) := by decide +kernel
theorem dX2_runCount_8 : decode cX2_runCount 8 = .ok (.goto 9, 3) := by decide +kernel
theorem dX2_runCount_11 : decode cX2_runCount 11 = .ok (.aload_n 0, 1) := by decide +kernel
theorem dX2_runCount_12 : decode cX2_runCount 12 = .ok (.getfield 15, 3) := by decide +kernel
theorem dX2_runCount_15 : decode cX2_runCount 15 = .ok (.iconst 1, 1) := by decide +kernel
theorem dX2_runCount_16 : decode cX2_runCount 16 = .ok (.iadd, 1) := by decide +kernel
theorem dX2_runCount_17 : decode cX2_runCount 17 = .ok (.ireturn, 1) := by decide +kernel
set_option maxRecDepth 20000 in
theorem ggX2_runNumber_X2_letterOrGap : GoodIn wsX2_runNumber wsX2_letterOrGap := goodIn_r _ [5, 6, 7, 8, 9] (by decide +kernel) (by decide +kernel)
set_option maxRecDepth 20000 in
theorem gX2_runNumber_X2_letterOrGap : GoodIn wsX2_runNumber (wsV RX2 19 RX2 yX2_letterOrGap wsX2_letterOrGap) := goodIn_app (goodIn_of _ (by decide +kernel)) ggX2_runNumber_X2_letterOrGap
theorem dX2_runNumber_0 : decode cX2_runNumber 0 = .ok (.bipush 6, 2) := by decide +kernel
theorem dX2_runNumber_2 : decode cX2_runNumber 2 = .ok (.aload_n 0, 1) := by decide +kernel
theorem dX2_runNumber_3 : decode cX2_runNumber 3 = .ok (.iload_n 1, 1) := by decide +kernel
theorem dX2_runNumber_4 : decode cX2_runNumber 4 = .ok (.iconst 1, 1) := by decide +kernel
theorem dX2_runNumber_5 : decode cX2_runNumber 5 = .ok (.isub, 1) := by decide +kernel
theorem dX2_runNumber_6 : decode cX2_runNumber 6 = .ok (.invokevirtual 19, 3) := by decide +kernel
theorem dX2_runNumber_9 : decode cX2_runNumber 9 = .ok (.imul, 1) := by decide +kernel
theorem dX2_runNumber_10 : decode cX2_runNumber 10 = .ok (.aload_n 0, 1) := by decide +kernel
theorem dX2_runNumber_11 : decode cX2_runNumber 11 = .ok (.iload_n 1, 1) := by decide +kernel
theorem dX2_runNumber_12 : decode cX2_runNumber 12 = .ok (.invokevirtual 19, 3) := by decide +kernel
theorem dX2_runNumber_15 : decode cX2_runNumber 15 = .ok (.iadd, 1) := by decide +kernel
theorem dX2_runNumber_16 : decode cX2_runNumber 16 = .ok (.ireturn, 1) := by decide +kernel
theorem dX2_letterOrGap_0 : decode cX2_letterOrGap 0 = .ok (.iload_n 1, 1) := by decide +kernel
theorem dX2_letterOrGap_1 : decode cX2_letterOrGap 1 = .ok (.ifCond .lt 11, 3) := by decide +kernel
theorem dX2_letterOrGap_4 : decode cX2_letterOrGap 4 = .ok (.iload_n 1, 1) := by decide +kernel
theorem dX2_letterOrGap_5 : decode cX2_letterOrGap 5 = .ok (.aload_n 0, 1) := by decide +kernel
theorem dX2_letterOrGap_6 : decode cX2_letterOrGap 6 = .ok (.getfield 15, 3) := by decide +kernel
theorem dX2_letterOrGap_9 : decode cX2_letterOrGap 9 = .ok (.if_icmp .lt 7, 3) := by decide +kernel
theorem dX2_letterOrGap_12 : decode cX2_letterOrGap 12 = .ok (.iconst 0, 1) := by decide +kernel
theorem dX2_letterOrGap_13 : decode cX2_letterOrGap 13 = .ok (.goto 9, 3) := by decide +kernel
theorem dX2_letterOrGap_16 : decode cX2_letterOrGap 16 = .ok (.aload_n 0, 1) := by decide +kernel
theorem dX2_letterOrGap_17 : decode cX2_letterOrGap 17 = .ok (.getfield 9, 3) := by decide +kernel
theorem dX2_letterOrGap_20 : decode cX2_letterOrGap 20 = .ok (.iload_n 1, 1) := by decide +kernel
theorem dX2_letterOrGap_21 : decode cX2_letterOrGap 21 = .ok (.iaload, 1) := by decide +kernel
theorem dX2_letterOrGap_22 : decode cX2_letterOrGap 22 = .ok (.ireturn, 1) := by decide +kernel
theorem dX3_init_0 : decode cX3_init 0 = .ok (.aload_n 0, 1) := by decide +kernel
theorem dX3_init_1 : decode cX3_init 1 = .ok (.invokespecial 3, 3) := by decide +kernel
theorem dX3_init_4 : decode cX3_init 4 = .ok (.aload_n 0, 1) := by decide +kernel
theorem dX3_init_5 : decode cX3_init 5 = .ok (.bipush 36, 2) := by decide +kernel
theorem dX3_init_7 : decode cX3_init 7 = .ok (.newarray .int, 2) := by decide +kernel
theorem dX3_init_9 : decode cX3_init 9 = .ok (.putfield 9, 3) := by decide +kernel
theorem dX3_init_12 : decode cX3_init 12 = .ok (.aload_n 0, 1) := by decide +kernel
theorem dX3_init_13 : decode cX3_init 13 = .ok (.iconst 0, 1) := by decide +kernel
theorem dX3_init_14 : decode cX3_init 14 = .ok (.putfield 15, 3) := by decide +kernel
theorem dX3_init_17 : decode cX3_init 17 = .ok (.return_, 1) := by decide +kernel
theorem dX3_add_0 : decode cX3_add 0 = .ok (.aload_n 0, 1) := by decide +kernel
theorem dX3_add_1 : decode cX3_add 1 = .ok (.getfield 9, 3) := by decide +kernel
theorem dX3_add_4 : decode cX3_add 4 = .ok (.iload_n 1, 1) := by decide +kernel
theorem dX3_add_5 : decode cX3_add 5 = .ok (.dup2, 1) := by decide +kernel
theorem dX3_add_6 : decode cX3_add 6 = .ok (.iaload, 1) := by decide +kernel
theorem dX3_add_7 : decode cX3_add 7 = .ok (.iconst 1, 1) := by decide +kernel
theorem dX3_add_8 : decode cX3_add 8 = .ok (.iadd, 1) := by decide +kernel
theorem dX3_add_9 : decode cX3_add 9 = .ok (.iastore, 1) := by decide +kernel
theorem dX3_add_10 : decode cX3_add 10 = .ok (.aload_n 0, 1) := by decide +kernel
theorem dX3_add_11 : decode cX3_add 11 = .ok (.dup, 1) := by decide +kernel
theorem dX3_add_12 : decode cX3_add 12 = .ok (.getfield 15, 3) := by decide +kernel
theorem dX3_add_15 : decode cX3_add 15 = .ok (.iconst 1, 1) := by decide +kernel
theorem dX3_add_16 : decode cX3_add 16 = .ok (.iadd, 1) := by decide +kernel
theorem dX3_add_17 : decode cX3_add 17 = .ok (.putfield 15, 3) := by decide +kernel
theorem dX3_add_20 : decode cX3_add 20 = .ok (.return_, 1) := by decide +kernel
theorem dX3_remove_0 : decode cX3_remove 0 = .ok (.aload_n 0, 1) := by decide +kernel
theorem dX3_remove_1 : decode cX3_remove 1 = .ok (.getfield 9, 3) := by decide +kernel
theorem dX3_remove_4 : decode cX3_remove 4 = .ok (.iload_n 1, 1) := by decide +kernel
theorem dX3_remove_5 : decode cX3_remove 5 = .ok (.dup2, 1) := by decide +kernel
theorem dX3_remove_6 : decode cX3_remove 6 = .ok (.iaload, 1) := by decide +kernel
theorem dX3_remove_7 : decode cX3_remove 7 = .ok (.iconst 1, 1) := by decide +kernel
theorem dX3_remove_8 : decode cX3_remove 8 = .ok (.isub, 1) := by decide +kernel
theorem dX3_remove_9 : decode cX3_remove 9 = .ok (.iastore, 1) := by decide +kernel
theorem dX3_remove_10 : decode cX3_remove 10 = .ok (.aload_n 0, 1) := by decide +kernel
theorem dX3_remove_11 : decode cX3_remove 11 = .ok (.dup, 1) := by decide +kernel
theorem dX3_remove_12 : decode cX3_remove 12 = .ok (.getfield 15, 3) := by decide +kernel
theorem dX3_remove_15 : decode cX3_remove 15 = .ok (.iconst 1, 1) := by decide +kernel
theorem dX3_remove_16 : decode cX3_remove 16 = .ok (.isub, 1) := by decide +kernel
theorem dX3_remove_17 : decode cX3_remove 17 = .ok (.putfield 15, 3) := by decide +kernel
theorem dX3_remove_20 : decode cX3_remove 20 = .ok (.return_, 1) := by decide +kernel
theorem dX3_costOf_0 : decode cX3_costOf 0 = .ok (.aload_n 0, 1) := by decide +kernel
theorem dX3_costOf_1 : decode cX3_costOf 1 = .ok (.getfield 15, 3) := by decide +kernel
theorem dX3_costOf_4 : decode cX3_costOf 4 = .ok (.bipush 36, 2) := by decide +kernel
theorem dX3_costOf_6 : decode cX3_costOf 6 = .ok (.iadd, 1) := by decide +kernel
theorem dX3_costOf_7 : decode cX3_costOf 7 = .ok (.istore_n 2, 1) := by decide +kernel
theorem dX3_costOf_8 : decode cX3_costOf 8 = .ok (.aload_n 0, 1) := by decide +kernel
theorem dX3_costOf_9 : decode cX3_costOf 9 = .ok (.getfield 9, 3) := by decide +kernel
theorem dX3_costOf_12 : decode cX3_costOf 12 = .ok (.iload_n 1, 1) := by decide +kernel
theorem dX3_costOf_13 : decode cX3_costOf 13 = .ok (.iaload, 1) := by decide +kernel
theorem dX3_costOf_14 : decode cX3_costOf 14 = .ok (.iconst 1, 1) := by decide +kernel
theorem dX3_costOf_15 : decode cX3_costOf 15 = .ok (.iadd, 1) := by decide +kernel
theorem dX3_costOf_16 : decode cX3_costOf 16 = .ok (.istore_n 3, 1) := by decide +kernel
theorem dX3_costOf_17 : decode cX3_costOf 17 = .ok (.iconst 0, 1) := by decide +kernel
theorem dX3_costOf_18 : decode cX3_costOf 18 = .ok (.istore 4, 2) := by decide +kernel
theorem dX3_costOf_20 : decode cX3_costOf 20 = .ok (.iload_n 3, 1) := by decide +kernel
theorem dX3_costOf_21 : decode cX3_costOf 21 = .ok (.iload_n 2, 1) := by decide +kernel
theorem dX3_costOf_22 : decode cX3_costOf 22 = .ok (.if_icmp .ge 20, 3) := by decide +kernel
theorem dX3_costOf_25 : decode cX3_costOf 25 = .ok (.iload 4, 2) := by decide +kernel
theorem dX3_costOf_27 : decode cX3_costOf 27 = .ok (.bipush 10, 2) := by decide +kernel
theorem dX3_costOf_29 : decode cX3_costOf 29 = .ok (.if_icmp .ge 13, 3) := by decide +kernel
theorem dX3_costOf_32 : decode cX3_costOf 32 = .ok (.iload_n 3, 1) := by decide +kernel
theorem dX3_costOf_33 : decode cX3_costOf 33 = .ok (.iconst 2, 1) := by decide +kernel
theorem dX3_costOf_34 : decode cX3_costOf 34 = .ok (.imul, 1) := by decide +kernel
theorem dX3_costOf_35 : decode cX3_costOf 35 = .ok (.istore_n 3, 1) := by decide +kernel
theorem dX3_costOf_36 : decode cX3_costOf 36 = .ok (.iinc 4 1, 3) := by decide +kernel
theorem dX3_costOf_39 : decode cX3_costOf 39 = .ok (.goto (-19), 3) := by decide +kernel
theorem dX3_costOf_42 : decode cX3_costOf 42 = .ok (.iload 4, 2) := by decide +kernel
theorem dX3_costOf_44 : decode cX3_costOf 44 = .ok (.ireturn, 1) := by decide +kernel
end
section
/-! ===== printed: decode rows, the class ===== -/
set_option maxRecDepth 20000 in
theorem ggX4_init_X2_init : GoodIn wsX4_init wsX2_init := goodIn_r _ [25, 26, 2, 3, 27, 28, 29, 55, 56] (by decide +kernel) (by decide +kernel)
set_option maxRecDepth 20000 in
theorem gX4_init_X2_init_n9 : GoodIn wsX4_init (wsX2_init) := ggX4_init_X2_init
set_option maxRecDepth 20000 in
theorem ggX4_init_X3_init : GoodIn wsX4_init wsX3_init := goodIn_r _ [31, 32, 2, 3, 27, 33, 34, 65, 66] (by decide +kernel) (by decide +kernel)
set_option maxRecDepth 20000 in
theorem gX4_init_X3_init_n18 : GoodIn wsX4_init (wsX3_init) := ggX4_init_X3_init
set_option maxRecDepth 20000 in
theorem ggX4_init_X1_init : GoodIn wsX4_init wsX1_init := goodIn_r _ [37, 38, 2, 3, 27, 39, 40, 41, 42, 43, 44, 67, 68, 69, 70, 71] (by decide +kernel) (by decide +kernel)
set_option maxRecDepth 20000 in
theorem gX4_init_X1_init : GoodIn wsX4_init (wsX1_init) := ggX4_init_X1_init
set_option maxRecDepth 20000 in
theorem ggX4_init_X0_init : GoodIn wsX4_init wsX0_init := goodIn_r _ [46, 47, 2, 3, 48, 27, 49, 50, 51, 52, 53, 54, 72, 73, 74, 75, 76, 77] (by decide +kernel) (by decide +kernel)
set_option maxRecDepth 20000 in
theorem gX4_init_X0_init_n36 : GoodIn wsX4_init (wsX0_init) := ggX4_init_X0_init
theorem dX4_init_0 : decode cX4_init 0 = .ok (.aload_n 0, 1) := by decide +kernel
theorem dX4_init_1 : decode cX4_init 1 = .ok (.invokespecial 1, 3) := by decide +kernel
theorem dX4_init_4 : decode cX4_init 4 = .ok (.aload_n 0, 1) := by decide +kernel
theorem dX4_init_5 : decode cX4_init 5 = .ok (.new 7, 3) := by decide +kernel
theorem dX4_init_8 : decode cX4_init 8 = .ok (.dup, 1) := by decide +kernel
theorem dX4_init_9 : decode cX4_init 9 = .ok (.invokespecial 9, 3) := by decide +kernel
theorem dX4_init_12 : decode cX4_init 12 = .ok (.putfield 10, 3) := by decide +kernel
theorem dX4_init_15 : decode cX4_init 15 = .ok (.aload_n 0, 1) := by decide +kernel
theorem dX4_init_16 : decode cX4_init 16 = .ok (.new 16, 3) := by decide +kernel
theorem dX4_init_19 : decode cX4_init 19 = .ok (.dup, 1) := by decide +kernel
theorem dX4_init_20 : decode cX4_init 20 = .ok (.invokespecial 18, 3) := by decide +kernel
theorem dX4_init_23 : decode cX4_init 23 = .ok (.putfield 19, 3) := by decide +kernel
theorem dX4_init_26 : decode cX4_init 26 = .ok (.aload_n 0, 1) := by decide +kernel
theorem dX4_init_27 : decode cX4_init 27 = .ok (.iconst 5, 1) := by decide +kernel
theorem dX4_init_28 : decode cX4_init 28 = .ok (.anewarray 16, 3) := by decide +kernel
theorem dX4_init_31 : decode cX4_init 31 = .ok (.putfield 23, 3) := by decide +kernel
theorem dX4_init_34 : decode cX4_init 34 = .ok (.aload_n 0, 1) := by decide +kernel
theorem dX4_init_35 : decode cX4_init 35 = .ok (.new 27, 3) := by decide +kernel
theorem dX4_init_38 : decode cX4_init 38 = .ok (.dup, 1) := by decide +kernel
theorem dX4_init_39 : decode cX4_init 39 = .ok (.invokespecial 29, 3) := by decide +kernel
theorem dX4_init_42 : decode cX4_init 42 = .ok (.putfield 30, 3) := by decide +kernel
theorem dX4_init_45 : decode cX4_init 45 = .ok (.aload_n 0, 1) := by decide +kernel
theorem dX4_init_46 : decode cX4_init 46 = .ok (.new 34, 3) := by decide +kernel
theorem dX4_init_49 : decode cX4_init 49 = .ok (.dup, 1) := by decide +kernel
theorem dX4_init_50 : decode cX4_init 50 = .ok (.invokespecial 36, 3) := by decide +kernel
theorem dX4_init_53 : decode cX4_init 53 = .ok (.putfield 37, 3) := by decide +kernel
theorem dX4_init_56 : decode cX4_init 56 = .ok (.aload_n 0, 1) := by decide +kernel
theorem dX4_init_57 : decode cX4_init 57 = .ok (.iconst 0, 1) := by decide +kernel
theorem dX4_init_58 : decode cX4_init 58 = .ok (.putfield 41, 3) := by decide +kernel
theorem dX4_init_61 : decode cX4_init 61 = .ok (.aload_n 0, 1) := by decide +kernel
theorem dX4_init_62 : decode cX4_init 62 = .ok (.iconst 3, 1) := by decide +kernel
theorem dX4_init_63 : decode cX4_init 63 = .ok (.putfield 45, 3) := by decide +kernel
theorem dX4_init_66 : decode cX4_init 66 = .ok (.aload_n 0, 1) := by decide +kernel
theorem dX4_init_67 : decode cX4_init 67 = .ok (.iconst 4, 1) := by decide +kernel
theorem dX4_init_68 : decode cX4_init 68 = .ok (.putfield 48, 3) := by decide +kernel
theorem dX4_init_71 : decode cX4_init 71 = .ok (.iconst 0, 1) := by decide +kernel
theorem dX4_init_72 : decode cX4_init 72 = .ok (.istore_n 1, 1) := by decide +kernel
theorem dX4_init_73 : decode cX4_init 73 = .ok (.iload_n 1, 1) := by decide +kernel
theorem dX4_init_74 : decode cX4_init 74 = .ok (.iconst 5, 1) := by decide +kernel
theorem dX4_init_75 : decode cX4_init 75 = .ok (.if_icmp .ge 22, 3) := by decide +kernel
theorem dX4_init_78 : decode cX4_init 78 = .ok (.aload_n 0, 1) := by decide +kernel
theorem dX4_init_79 : decode cX4_init 79 = .ok (.getfield 23, 3) := by decide +kernel
theorem dX4_init_82 : decode cX4_init 82 = .ok (.iload_n 1, 1) := by decide +kernel
theorem dX4_init_83 : decode cX4_init 83 = .ok (.new 16, 3) := by decide +kernel
theorem dX4_init_86 : decode cX4_init 86 = .ok (.dup, 1) := by decide +kernel
theorem dX4_init_87 : decode cX4_init 87 = .ok (.invokespecial 18, 3) := by decide +kernel
theorem dX4_init_90 : decode cX4_init 90 = .ok (.aastore, 1) := by decide +kernel
theorem dX4_init_91 : decode cX4_init 91 = .ok (.iinc 1 1, 3) := by decide +kernel
theorem dX4_init_94 : decode cX4_init 94 = .ok (.goto (-21), 3) := by decide +kernel
theorem dX4_init_97 : decode cX4_init 97 = .ok (.return_, 1) := by decide +kernel
set_option maxRecDepth 20000 in
theorem ggX4_spell_X4_letterNumber : GoodIn wsX4_spell wsX4_letterNumber := goodIn_r _ [10] (by decide +kernel) (by decide +kernel)
set_option maxRecDepth 20000 in
theorem gX4_spell_X4_letterNumber : GoodIn wsX4_spell (va_wsS RX4 51 yX4_letterNumber wsX4_letterNumber) := goodIn_app (goodIn_of _ (by decide +kernel)) ggX4_spell_X4_letterNumber
set_option maxRecDepth 20000 in
theorem ggX4_spell_X2_append : GoodIn wsX4_spell wsX2_append := goodIn_r _ [15, 16, 17, 26, 27] (by decide +kernel) (by decide +kernel)
set_option maxRecDepth 20000 in
theorem gX4_spell_X2_append : GoodIn wsX4_spell (wsV RX4 70 RX2 yX2_append wsX2_append) := goodIn_app (goodIn_of _ (by decide +kernel)) ggX4_spell_X2_append
theorem dX4_spell_0 : decode cX4_spell 0 = .ok (.iload_n 1, 1) := by decide +kernel
theorem dX4_spell_1 : decode cX4_spell 1 = .ok (.invokestatic 51, 3) := by decide +kernel
theorem dX4_spell_4 : decode cX4_spell 4 = .ok (.istore_n 2, 1) := by decide +kernel
theorem dX4_spell_5 : decode cX4_spell 5 = .ok (.iload_n 2, 1) := by decide +kernel
theorem dX4_spell_6 : decode cX4_spell 6 = .ok (.iconst (-1), 1) := by decide +kernel
theorem dX4_spell_7 : decode cX4_spell 7 = .ok (.if_icmp .ne 13, 3) := by decide +kernel
theorem dX4_spell_10 : decode cX4_spell 10 = .ok (.new 55, 3) := by decide +kernel
theorem dX4_spell_13 : decode cX4_spell 13 = .ok (.dup, 1) := by decide +kernel
theorem dX4_spell_14 : decode cX4_spell 14 = .ok (.ldc 57, 2) := by decide +kernel
theorem dX4_spell_16 : decode cX4_spell 16 = .ok (.invokespecial 59, 3) := by decide +kernel
theorem dX4_spell_19 : decode cX4_spell 19 = .ok (.athrow, 1) := by decide +kernel
theorem dX4_spell_20 : decode cX4_spell 20 = .ok (.aload_n 0, 1) := by decide +kernel
theorem dX4_spell_21 : decode cX4_spell 21 = .ok (.getfield 10, 3) := by decide +kernel
theorem dX4_spell_24 : decode cX4_spell 24 = .ok (.getfield 62, 3) := by decide +kernel
theorem dX4_spell_27 : decode cX4_spell 27 = .ok (.bipush 16, 2) := by decide +kernel
theorem dX4_spell_29 : decode cX4_spell 29 = .ok (.if_icmp .lt 13, 3) := by decide +kernel
theorem dX4_spell_32 : decode cX4_spell 32 = .ok (.new 65, 3) := by decide +kernel
theorem dX4_spell_35 : decode cX4_spell 35 = .ok (.dup, 1) := by decide +kernel
theorem dX4_spell_36 : decode cX4_spell 36 = .ok (.ldc 67, 2) := by decide +kernel
theorem dX4_spell_38 : decode cX4_spell 38 = .ok (.invokespecial 69, 3) := by decide +kernel
theorem dX4_spell_41 : decode cX4_spell 41 = .ok (.athrow, 1) := by decide +kernel
theorem dX4_spell_42 : decode cX4_spell 42 = .ok (.aload_n 0, 1) := by decide +kernel
theorem dX4_spell_43 : decode cX4_spell 43 = .ok (.getfield 10, 3) := by decide +kernel
theorem dX4_spell_46 : decode cX4_spell 46 = .ok (.iload_n 2, 1) := by decide +kernel
theorem dX4_spell_47 : decode cX4_spell 47 = .ok (.invokevirtual 70, 3) := by decide +kernel
theorem dX4_spell_50 : decode cX4_spell 50 = .ok (.aload_n 0, 1) := by decide +kernel
theorem dX4_spell_51 : decode cX4_spell 51 = .ok (.getfield 10, 3) := by decide +kernel
theorem dX4_spell_54 : decode cX4_spell 54 = .ok (.getfield 62, 3) := by decide +kernel
theorem dX4_spell_57 : decode cX4_spell 57 = .ok (.ireturn, 1) := by decide +kernel
theorem dX4_clearSpelled_0 : decode cX4_clearSpelled 0 = .ok (.aload_n 0, 1) := by decide +kernel
theorem dX4_clearSpelled_1 : decode cX4_clearSpelled 1 = .ok (.getfield 10, 3) := by decide +kernel
theorem dX4_clearSpelled_4 : decode cX4_clearSpelled 4 = .ok (.getfield 62, 3) := by decide +kernel
theorem dX4_clearSpelled_7 : decode cX4_clearSpelled 7 = .ok (.istore_n 1, 1) := by decide +kernel
theorem dX4_clearSpelled_8 : decode cX4_clearSpelled 8 = .ok (.aload_n 0, 1) := by decide +kernel
theorem dX4_clearSpelled_9 : decode cX4_clearSpelled 9 = .ok (.getfield 10, 3) := by decide +kernel
theorem dX4_clearSpelled_12 : decode cX4_clearSpelled 12 = .ok (.iconst 0, 1) := by decide +kernel
theorem dX4_clearSpelled_13 : decode cX4_clearSpelled 13 = .ok (.putfield 62, 3) := by decide +kernel
theorem dX4_clearSpelled_16 : decode cX4_clearSpelled 16 = .ok (.iload_n 1, 1) := by decide +kernel
theorem dX4_clearSpelled_17 : decode cX4_clearSpelled 17 = .ok (.ireturn, 1) := by decide +kernel
set_option maxRecDepth 20000 in
theorem ggX4_runs_X2_runCount : GoodIn wsX4_runs wsX2_runCount := goodIn_r _ [6, 7, 16, 17] (by decide +kernel) (by decide +kernel)
set_option maxRecDepth 20000 in
theorem gX4_runs_X2_runCount : GoodIn wsX4_runs (wsV RX4 74 RX2 yX2_runCount wsX2_runCount) := goodIn_app (goodIn_of _ (by decide +kernel)) ggX4_runs_X2_runCount
theorem dX4_runs_0 : decode cX4_runs 0 = .ok (.aload_n 0, 1) := by decide +kernel
theorem dX4_runs_1 : decode cX4_runs 1 = .ok (.getfield 10, 3) := by decide +kernel
theorem dX4_runs_4 : decode cX4_runs 4 = .ok (.invokevirtual 74, 3) := by decide +kernel
theorem dX4_runs_7 : decode cX4_runs 7 = .ok (.ireturn, 1) := by decide +kernel
set_option maxRecDepth 20000 in
theorem ggX4_runAt_X4_requireRunPlace : GoodIn wsX4_runAt wsX4_requireRunPlace := goodIn_ca (goodIn_r _ [6, 7, 8, 1, 9, 10, 11, 12, 13, 14, 24, 25, 26, 27, 28, 29, 30, 31, 32, 33] (by decide +kernel) (by decide +kernel)) (goodIn_sub (fun _ h => List.mem_cons_of_mem _ (List.mem_append_right _ h)) (by decide +kernel))
set_option maxRecDepth 20000 in
theorem gX4_runAt_X4_requireRunPlace : GoodIn wsX4_runAt (wsV RX4 78 RX4 yX4_requireRunPlace wsX4_requireRunPlace) := goodIn_app (goodIn_of _ (by decide +kernel)) ggX4_runAt_X4_requireRunPlace
set_option maxRecDepth 20000 in
theorem ggX4_runAt_X2_runNumber : GoodIn wsX4_runAt wsX2_runNumber := goodIn_r _ [18, 19, 20, 21, 12, 22, 14, 23, 32, 33] (by decide +kernel) (by decide +kernel)
set_option maxRecDepth 20000 in
theorem gX4_runAt_X2_runNumber : GoodIn wsX4_runAt (wsV RX4 81 RX2 yX2_runNumber wsX2_runNumber) := goodIn_app (goodIn_of _ (by decide +kernel)) ggX4_runAt_X2_runNumber
theorem dX4_runAt_0 : decode cX4_runAt 0 = .ok (.aload_n 0, 1) := by decide +kernel
theorem dX4_runAt_1 : decode cX4_runAt 1 = .ok (.iload_n 1, 1) := by decide +kernel
theorem dX4_runAt_2 : decode cX4_runAt 2 = .ok (.invokevirtual 78, 3) := by decide +kernel
theorem dX4_runAt_5 : decode cX4_runAt 5 = .ok (.aload_n 0, 1) := by decide +kernel
theorem dX4_runAt_6 : decode cX4_runAt 6 = .ok (.getfield 10, 3) := by decide +kernel
theorem dX4_runAt_9 : decode cX4_runAt 9 = .ok (.iload_n 1, 1) := by decide +kernel
theorem dX4_runAt_10 : decode cX4_runAt 10 = .ok (.invokevirtual 81, 3) := by decide +kernel
theorem dX4_runAt_13 : decode cX4_runAt 13 = .ok (.ireturn, 1) := by decide +kernel
set_option maxRecDepth 20000 in
theorem ggX4_addTongue_X4_newTongue : GoodIn wsX4_addTongue wsX4_newTongue := goodIn_r _ [8, 3, 9, 10, 11, 12, 13, 14, 15, 16] (by decide +kernel) (by decide +kernel)
set_option maxRecDepth 20000 in
theorem gX4_addTongue_X4_newTongue : GoodIn wsX4_addTongue (wsV RX4 87 RX4 yX4_newTongue wsX4_newTongue) := goodIn_app (goodIn_of _ (by decide +kernel)) ggX4_addTongue_X4_newTongue
theorem dX4_addTongue_0 : decode cX4_addTongue 0 = .ok (.aload_n 0, 1) := by decide +kernel
theorem dX4_addTongue_1 : decode cX4_addTongue 1 = .ok (.getfield 41, 3) := by decide +kernel
theorem dX4_addTongue_4 : decode cX4_addTongue 4 = .ok (.iconst 5, 1) := by decide +kernel
theorem dX4_addTongue_5 : decode cX4_addTongue 5 = .ok (.if_icmp .lt 13, 3) := by decide +kernel
theorem dX4_addTongue_8 : decode cX4_addTongue 8 = .ok (.new 65, 3) := by decide +kernel
theorem dX4_addTongue_11 : decode cX4_addTongue 11 = .ok (.dup, 1) := by decide +kernel
theorem dX4_addTongue_12 : decode cX4_addTongue 12 = .ok (.ldc 85, 2) := by decide +kernel
theorem dX4_addTongue_14 : decode cX4_addTongue 14 = .ok (.invokespecial 69, 3) := by decide +kernel
theorem dX4_addTongue_17 : decode cX4_addTongue 17 = .ok (.athrow, 1) := by decide +kernel
theorem dX4_addTongue_18 : decode cX4_addTongue 18 = .ok (.aload_n 0, 1) := by decide +kernel
theorem dX4_addTongue_19 : decode cX4_addTongue 19 = .ok (.invokevirtual 87, 3) := by decide +kernel
theorem dX4_addTongue_22 : decode cX4_addTongue 22 = .ok (.ireturn, 1) := by decide +kernel
theorem dX4_tongues_0 : decode cX4_tongues 0 = .ok (.aload_n 0, 1) := by decide +kernel
theorem dX4_tongues_1 : decode cX4_tongues 1 = .ok (.getfield 41, 3) := by decide +kernel
theorem dX4_tongues_4 : decode cX4_tongues 4 = .ok (.ireturn, 1) := by decide +kernel
set_option maxRecDepth 20000 in
theorem ggX4_teach_X4_requireTongue : GoodIn wsX4_teach wsX4_requireTongue := goodIn_ca (goodIn_r _ [10, 11, 12, 13, 60, 61, 62, 63, 64, 65, 66, 67] (by decide +kernel) (by decide +kernel)) (goodIn_sub (fun _ h => List.mem_cons_of_mem _ (List.mem_append_right _ h)) (by decide +kernel))
set_option maxRecDepth 20000 in
theorem gX4_teach_X4_requireTongue : GoodIn wsX4_teach (wsV RX4 90 RX4 yX4_requireTongue wsX4_requireTongue) := goodIn_app (goodIn_of _ (by decide +kernel)) ggX4_teach_X4_requireTongue
set_option maxRecDepth 20000 in
theorem ggX4_teach_X1_isFull : GoodIn wsX4_teach wsX1_isFull := goodIn_r _ [18, 19, 20, 21, 17, 22, 23, 70, 71, 72, 73, 74] (by decide +kernel) (by decide +kernel)
set_option maxRecDepth 20000 in
theorem gX4_teach_X1_isFull : GoodIn wsX4_teach (wsV RX4 95 RX1 yX1_isFull wsX1_isFull) := goodIn_app (goodIn_of _ (by decide +kernel)) ggX4_teach_X1_isFull
set_option maxRecDepth 20000 in
theorem ggX4_teach_X2_runCount : GoodIn wsX4_teach wsX2_runCount := goodIn_r _ [28, 29, 68, 69] (by decide +kernel) (by decide +kernel)
set_option maxRecDepth 20000 in
theorem gX4_teach_X2_runCount : GoodIn wsX4_teach (wsV RX4 74 RX2 yX2_runCount wsX2_runCount) := goodIn_app (goodIn_of _ (by decide +kernel)) ggX4_teach_X2_runCount
set_option maxRecDepth 20000 in
theorem ggX4_teach_X4_teachRuns : GoodIn wsX4_teach wsX4_teachRuns := goodIn_r _ [33, 5, 3, 34, 35, 36, 37, 38, 39, 17, 40, 23, 41, 42, 43, 19, 20, 21, 22, 44, 45, 46, 27, 47, 48, 49, 50, 51, 29, 52, 53, 54, 55, 56, 57, 58, 59, 60, 61, 62, 63, 64, 65, 66, 67, 70, 71, 72, 73, 74, 68, 69, 75, 76] (by decide +kernel) (by decide +kernel)
set_option maxRecDepth 20000 in
theorem gX4_teach_X4_teachRuns : GoodIn wsX4_teach (wsV RX4 101 RX4 yX4_teachRuns wsX4_teachRuns) := goodIn_app (goodIn_of _ (by decide +kernel)) ggX4_teach_X4_teachRuns
theorem dX4_teach_0 : decode cX4_teach 0 = .ok (.aload_n 0, 1) := by decide +kernel
theorem dX4_teach_1 : decode cX4_teach 1 = .ok (.iload_n 1, 1) := by decide +kernel
theorem dX4_teach_2 : decode cX4_teach 2 = .ok (.invokevirtual 90, 3) := by decide +kernel
theorem dX4_teach_5 : decode cX4_teach 5 = .ok (.aload_n 0, 1) := by decide +kernel
theorem dX4_teach_6 : decode cX4_teach 6 = .ok (.getfield 10, 3) := by decide +kernel
theorem dX4_teach_9 : decode cX4_teach 9 = .ok (.getfield 62, 3) := by decide +kernel
theorem dX4_teach_12 : decode cX4_teach 12 = .ok (.ifCond .ne 13, 3) := by decide +kernel
theorem dX4_teach_15 : decode cX4_teach 15 = .ok (.new 65, 3) := by decide +kernel
theorem dX4_teach_18 : decode cX4_teach 18 = .ok (.dup, 1) := by decide +kernel
theorem dX4_teach_19 : decode cX4_teach 19 = .ok (.ldc 93, 2) := by decide +kernel
theorem dX4_teach_21 : decode cX4_teach 21 = .ok (.invokespecial 69, 3) := by decide +kernel
theorem dX4_teach_24 : decode cX4_teach 24 = .ok (.athrow, 1) := by decide +kernel
theorem dX4_teach_25 : decode cX4_teach 25 = .ok (.aload_n 0, 1) := by decide +kernel
theorem dX4_teach_26 : decode cX4_teach 26 = .ok (.getfield 30, 3) := by decide +kernel
theorem dX4_teach_29 : decode cX4_teach 29 = .ok (.invokevirtual 95, 3) := by decide +kernel
theorem dX4_teach_32 : decode cX4_teach 32 = .ok (.ifCond .eq 13, 3) := by decide +kernel
theorem dX4_teach_35 : decode cX4_teach 35 = .ok (.new 65, 3) := by decide +kernel
theorem dX4_teach_38 : decode cX4_teach 38 = .ok (.dup, 1) := by decide +kernel
theorem dX4_teach_39 : decode cX4_teach 39 = .ok (.ldc 99, 2) := by decide +kernel
theorem dX4_teach_41 : decode cX4_teach 41 = .ok (.invokespecial 69, 3) := by decide +kernel
theorem dX4_teach_44 : decode cX4_teach 44 = .ok (.athrow, 1) := by decide +kernel
theorem dX4_teach_45 : decode cX4_teach 45 = .ok (.aload_n 0, 1) := by decide +kernel
theorem dX4_teach_46 : decode cX4_teach 46 = .ok (.iload_n 1, 1) := by decide +kernel
theorem dX4_teach_47 : decode cX4_teach 47 = .ok (.iconst 0, 1) := by decide +kernel
theorem dX4_teach_48 : decode cX4_teach 48 = .ok (.aload_n 0, 1) := by decide +kernel
theorem dX4_teach_49 : decode cX4_teach 49 = .ok (.getfield 10, 3) := by decide +kernel
theorem dX4_teach_52 : decode cX4_teach 52 = .ok (.invokevirtual 74, 3) := by decide +kernel
theorem dX4_teach_55 : decode cX4_teach 55 = .ok (.invokevirtual 101, 3) := by decide +kernel
theorem dX4_teach_58 : decode cX4_teach 58 = .ok (.ireturn, 1) := by decide +kernel
set_option maxRecDepth 20000 in
theorem ggX4_withdraw_X4_slotOfTaught : GoodIn wsX4_withdraw wsX4_slotOfTaught := goodIn_ca (goodIn_r _ [10, 11, 12, 2, 13, 14, 15, 16, 17, 18, 19, 20, 21, 22, 34, 35, 36, 37, 38, 39, 40, 41, 42, 43, 44, 45, 46] (by decide +kernel) (by decide +kernel)) (goodIn_sub (fun _ h => List.mem_cons_of_mem _ (List.mem_append_right _ h)) (by decide +kernel))
set_option maxRecDepth 20000 in
theorem gX4_withdraw_X4_slotOfTaught : GoodIn wsX4_withdraw (wsV RX4 105 RX4 yX4_slotOfTaught wsX4_slotOfTaught) := goodIn_app (goodIn_of _ (by decide +kernel)) ggX4_withdraw_X4_slotOfTaught
set_option maxRecDepth 20000 in
theorem ggX4_withdraw_X3_remove : GoodIn wsX4_withdraw wsX3_remove := goodIn_r _ [27, 28, 29, 47, 48] (by decide +kernel) (by decide +kernel)
set_option maxRecDepth 20000 in
theorem gX4_withdraw_X3_remove : GoodIn wsX4_withdraw (wsV RX4 119 RX3 yX3_remove wsX3_remove) := goodIn_app (goodIn_of _ (by decide +kernel)) ggX4_withdraw_X3_remove
set_option maxRecDepth 20000 in
theorem ggX4_withdraw_X1_free : GoodIn wsX4_withdraw wsX1_free := goodIn_r _ [33, 22, 42, 43, 44, 45, 46] (by decide +kernel) (by decide +kernel)
set_option maxRecDepth 20000 in
theorem gX4_withdraw_X1_free : GoodIn wsX4_withdraw (wsV RX4 122 RX1 yX1_free wsX1_free) := goodIn_app (goodIn_of _ (by decide +kernel)) ggX4_withdraw_X1_free
theorem dX4_withdraw_0 : decode cX4_withdraw 0 = .ok (.aload_n 0, 1) := by decide +kernel
theorem dX4_withdraw_1 : decode cX4_withdraw 1 = .ok (.iload_n 1, 1) := by decide +kernel
theorem dX4_withdraw_2 : decode cX4_withdraw 2 = .ok (.invokevirtual 105, 3) := by decide +kernel
theorem dX4_withdraw_5 : decode cX4_withdraw 5 = .ok (.istore_n 2, 1) := by decide +kernel
theorem dX4_withdraw_6 : decode cX4_withdraw 6 = .ok (.aload_n 0, 1) := by decide +kernel
theorem dX4_withdraw_7 : decode cX4_withdraw 7 = .ok (.getfield 23, 3) := by decide +kernel
theorem dX4_withdraw_10 : decode cX4_withdraw 10 = .ok (.aload_n 0, 1) := by decide +kernel
theorem dX4_withdraw_11 : decode cX4_withdraw 11 = .ok (.getfield 30, 3) := by decide +kernel
theorem dX4_withdraw_14 : decode cX4_withdraw 14 = .ok (.getfield 108, 3) := by decide +kernel
theorem dX4_withdraw_17 : decode cX4_withdraw 17 = .ok (.iload_n 2, 1) := by decide +kernel
theorem dX4_withdraw_18 : decode cX4_withdraw 18 = .ok (.iaload, 1) := by decide +kernel
theorem dX4_withdraw_19 : decode cX4_withdraw 19 = .ok (.aaload, 1) := by decide +kernel
theorem dX4_withdraw_20 : decode cX4_withdraw 20 = .ok (.astore_n 3, 1) := by decide +kernel
theorem dX4_withdraw_21 : decode cX4_withdraw 21 = .ok (.aload_n 0, 1) := by decide +kernel
theorem dX4_withdraw_22 : decode cX4_withdraw 22 = .ok (.getfield 30, 3) := by decide +kernel
theorem dX4_withdraw_25 : decode cX4_withdraw 25 = .ok (.getfield 112, 3) := by decide +kernel
theorem dX4_withdraw_28 : decode cX4_withdraw 28 = .ok (.iload_n 2, 1) := by decide +kernel
theorem dX4_withdraw_29 : decode cX4_withdraw 29 = .ok (.iaload, 1) := by decide +kernel
theorem dX4_withdraw_30 : decode cX4_withdraw 30 = .ok (.istore 4, 2) := by decide +kernel
theorem dX4_withdraw_32 : decode cX4_withdraw 32 = .ok (.iconst 0, 1) := by decide +kernel
theorem dX4_withdraw_33 : decode cX4_withdraw 33 = .ok (.istore 5, 2) := by decide +kernel
theorem dX4_withdraw_35 : decode cX4_withdraw 35 = .ok (.iload 5, 2) := by decide +kernel
theorem dX4_withdraw_37 : decode cX4_withdraw 37 = .ok (.iload 4, 2) := by decide +kernel
theorem dX4_withdraw_39 : decode cX4_withdraw 39 = .ok (.if_icmp .ge 25, 3) := by decide +kernel
theorem dX4_withdraw_42 : decode cX4_withdraw 42 = .ok (.aload_n 3, 1) := by decide +kernel
theorem dX4_withdraw_43 : decode cX4_withdraw 43 = .ok (.aload_n 0, 1) := by decide +kernel
theorem dX4_withdraw_44 : decode cX4_withdraw 44 = .ok (.getfield 30, 3) := by decide +kernel
theorem dX4_withdraw_47 : decode cX4_withdraw 47 = .ok (.getfield 115, 3) := by decide +kernel
theorem dX4_withdraw_50 : decode cX4_withdraw 50 = .ok (.iload_n 2, 1) := by decide +kernel
theorem dX4_withdraw_51 : decode cX4_withdraw 51 = .ok (.aaload, 1) := by decide +kernel
theorem dX4_withdraw_52 : decode cX4_withdraw 52 = .ok (.iload 5, 2) := by decide +kernel
theorem dX4_withdraw_54 : decode cX4_withdraw 54 = .ok (.iaload, 1) := by decide +kernel
theorem dX4_withdraw_55 : decode cX4_withdraw 55 = .ok (.invokevirtual 119, 3) := by decide +kernel
theorem dX4_withdraw_58 : decode cX4_withdraw 58 = .ok (.iinc 5 1, 3) := by decide +kernel
theorem dX4_withdraw_61 : decode cX4_withdraw 61 = .ok (.goto (-26), 3) := by decide +kernel
theorem dX4_withdraw_64 : decode cX4_withdraw 64 = .ok (.aload_n 0, 1) := by decide +kernel
theorem dX4_withdraw_65 : decode cX4_withdraw 65 = .ok (.getfield 30, 3) := by decide +kernel
theorem dX4_withdraw_68 : decode cX4_withdraw 68 = .ok (.iload_n 2, 1) := by decide +kernel
theorem dX4_withdraw_69 : decode cX4_withdraw 69 = .ok (.invokevirtual 122, 3) := by decide +kernel
theorem dX4_withdraw_72 : decode cX4_withdraw 72 = .ok (.iload 4, 2) := by decide +kernel
theorem dX4_withdraw_74 : decode cX4_withdraw 74 = .ok (.ireturn, 1) := by decide +kernel
set_option maxRecDepth 20000 in
theorem ggX4_tongueOf_X4_slotOfTaught : GoodIn wsX4_tongueOf wsX4_slotOfTaught := goodIn_ca (goodIn_r _ [7, 8, 9, 1, 10, 11, 12, 13, 14, 15, 16, 17, 18, 19, 20, 21, 22, 23, 24, 25, 26, 27, 28, 29, 30, 31, 32] (by decide +kernel) (by decide +kernel)) (goodIn_sub (fun _ h => List.mem_cons_of_mem _ (List.mem_append_right _ h)) (by decide +kernel))
set_option maxRecDepth 20000 in
theorem gX4_tongueOf_X4_slotOfTaught : GoodIn wsX4_tongueOf (wsV RX4 105 RX4 yX4_slotOfTaught wsX4_slotOfTaught) := goodIn_app (goodIn_of _ (by decide +kernel)) ggX4_tongueOf_X4_slotOfTaught
theorem dX4_tongueOf_0 : decode cX4_tongueOf 0 = .ok (.aload_n 0, 1) := by decide +kernel
theorem dX4_tongueOf_1 : decode cX4_tongueOf 1 = .ok (.getfield 30, 3) := by decide +kernel
theorem dX4_tongueOf_4 : decode cX4_tongueOf 4 = .ok (.getfield 108, 3) := by decide +kernel
theorem dX4_tongueOf_7 : decode cX4_tongueOf 7 = .ok (.aload_n 0, 1) := by decide +kernel
theorem dX4_tongueOf_8 : decode cX4_tongueOf 8 = .ok (.iload_n 1, 1) := by decide +kernel
theorem dX4_tongueOf_9 : decode cX4_tongueOf 9 = .ok (.invokevirtual 105, 3) := by decide +kernel
theorem dX4_tongueOf_12 : decode cX4_tongueOf 12 = .ok (.iaload, 1) := by decide +kernel
theorem dX4_tongueOf_13 : decode cX4_tongueOf 13 = .ok (.ireturn, 1) := by decide +kernel
set_option maxRecDepth 20000 in
theorem ggX4_total_X4_requireTongue : GoodIn wsX4_total wsX4_requireTongue := goodIn_ca (goodIn_r _ [7, 8, 9, 10, 11, 12, 13, 14, 15, 16, 17, 18] (by decide +kernel) (by decide +kernel)) (goodIn_sub (fun _ h => List.mem_cons_of_mem _ (List.mem_append_right _ h)) (by decide +kernel))
set_option maxRecDepth 20000 in
theorem gX4_total_X4_requireTongue : GoodIn wsX4_total (wsV RX4 90 RX4 yX4_requireTongue wsX4_requireTongue) := goodIn_app (goodIn_of _ (by decide +kernel)) ggX4_total_X4_requireTongue
theorem dX4_total_0 : decode cX4_total 0 = .ok (.aload_n 0, 1) := by decide +kernel
theorem dX4_total_1 : decode cX4_total 1 = .ok (.iload_n 1, 1) := by decide +kernel
theorem dX4_total_2 : decode cX4_total 2 = .ok (.invokevirtual 90, 3) := by decide +kernel
theorem dX4_total_5 : decode cX4_total 5 = .ok (.aload_n 0, 1) := by decide +kernel
theorem dX4_total_6 : decode cX4_total 6 = .ok (.getfield 23, 3) := by decide +kernel
theorem dX4_total_9 : decode cX4_total 9 = .ok (.iload_n 1, 1) := by decide +kernel
theorem dX4_total_10 : decode cX4_total 10 = .ok (.aaload, 1) := by decide +kernel
theorem dX4_total_11 : decode cX4_total 11 = .ok (.getfield 125, 3) := by decide +kernel
theorem dX4_total_14 : decode cX4_total 14 = .ok (.ireturn, 1) := by decide +kernel
set_option maxRecDepth 20000 in
theorem ggX4_count_X4_requireTongue : GoodIn wsX4_count wsX4_requireTongue := goodIn_ca (goodIn_r _ [7, 8, 9, 10, 14, 15, 16, 17, 18, 19, 20, 21] (by decide +kernel) (by decide +kernel)) (goodIn_sub (fun _ h => List.mem_cons_of_mem _ (List.mem_append_right _ h)) (by decide +kernel))
set_option maxRecDepth 20000 in
theorem gX4_count_X4_requireTongue : GoodIn wsX4_count (wsV RX4 90 RX4 yX4_requireTongue wsX4_requireTongue) := goodIn_app (goodIn_of _ (by decide +kernel)) ggX4_count_X4_requireTongue
set_option maxRecDepth 20000 in
theorem ggX4_count_X4_requireRunKind : GoodIn wsX4_count wsX4_requireRunKind := goodIn_ca (goodIn_r _ [13, 8, 9] (by decide +kernel) (by decide +kernel)) (goodIn_sub (fun _ h => List.mem_cons_of_mem _ (List.mem_append_right _ h)) (by decide +kernel))
set_option maxRecDepth 20000 in
theorem gX4_count_X4_requireRunKind : GoodIn wsX4_count (va_wsS RX4 128 yX4_requireRunKind wsX4_requireRunKind) := goodIn_app (goodIn_of _ (by decide +kernel)) ggX4_count_X4_requireRunKind
theorem dX4_count_0 : decode cX4_count 0 = .ok (.aload_n 0, 1) := by decide +kernel
theorem dX4_count_1 : decode cX4_count 1 = .ok (.iload_n 1, 1) := by decide +kernel
theorem dX4_count_2 : decode cX4_count 2 = .ok (.invokevirtual 90, 3) := by decide +kernel
theorem dX4_count_5 : decode cX4_count 5 = .ok (.iload_n 2, 1) := by decide +kernel
theorem dX4_count_6 : decode cX4_count 6 = .ok (.invokestatic 128, 3) := by decide +kernel
theorem dX4_count_9 : decode cX4_count 9 = .ok (.aload_n 0, 1) := by decide +kernel
theorem dX4_count_10 : decode cX4_count 10 = .ok (.getfield 23, 3) := by decide +kernel
theorem dX4_count_13 : decode cX4_count 13 = .ok (.iload_n 1, 1) := by decide +kernel
theorem dX4_count_14 : decode cX4_count 14 = .ok (.aaload, 1) := by decide +kernel
theorem dX4_count_15 : decode cX4_count 15 = .ok (.getfield 131, 3) := by decide +kernel
theorem dX4_count_18 : decode cX4_count 18 = .ok (.iload_n 2, 1) := by decide +kernel
theorem dX4_count_19 : decode cX4_count 19 = .ok (.iaload, 1) := by decide +kernel
theorem dX4_count_20 : decode cX4_count 20 = .ok (.ireturn, 1) := by decide +kernel
set_option maxRecDepth 20000 in
theorem ggX4_cost_X4_requireTongue : GoodIn wsX4_cost wsX4_requireTongue := goodIn_ca (goodIn_r _ [6, 7, 8, 9, 20, 21, 22, 23, 24, 25, 26, 27] (by decide +kernel) (by decide +kernel)) (goodIn_sub (fun _ h => List.mem_cons_of_mem _ (List.mem_append_right _ h)) (by decide +kernel))
set_option maxRecDepth 20000 in
theorem gX4_cost_X4_requireTongue : GoodIn wsX4_cost (wsV RX4 90 RX4 yX4_requireTongue wsX4_requireTongue) := goodIn_app (goodIn_of _ (by decide +kernel)) ggX4_cost_X4_requireTongue
set_option maxRecDepth 20000 in
theorem ggX4_cost_X4_requireRunKind : GoodIn wsX4_cost wsX4_requireRunKind := goodIn_ca (goodIn_r _ [12, 7, 8] (by decide +kernel) (by decide +kernel)) (goodIn_sub (fun _ h => List.mem_cons_of_mem _ (List.mem_append_right _ h)) (by decide +kernel))
set_option maxRecDepth 20000 in
theorem gX4_cost_X4_requireRunKind : GoodIn wsX4_cost (va_wsS RX4 128 yX4_requireRunKind wsX4_requireRunKind) := goodIn_app (goodIn_of _ (by decide +kernel)) ggX4_cost_X4_requireRunKind
set_option maxRecDepth 20000 in
theorem ggX4_cost_X3_costOf : GoodIn wsX4_cost wsX3_costOf := goodIn_r _ [17, 18, 19, 28, 29] (by decide +kernel) (by decide +kernel)
set_option maxRecDepth 20000 in
theorem gX4_cost_X3_costOf : GoodIn wsX4_cost (wsV RX4 134 RX3 yX3_costOf wsX3_costOf) := goodIn_app (goodIn_of _ (by decide +kernel)) ggX4_cost_X3_costOf
theorem dX4_cost_0 : decode cX4_cost 0 = .ok (.aload_n 0, 1) := by decide +kernel
theorem dX4_cost_1 : decode cX4_cost 1 = .ok (.iload_n 1, 1) := by decide +kernel
theorem dX4_cost_2 : decode cX4_cost 2 = .ok (.invokevirtual 90, 3) := by decide +kernel
theorem dX4_cost_5 : decode cX4_cost 5 = .ok (.iload_n 2, 1) := by decide +kernel
theorem dX4_cost_6 : decode cX4_cost 6 = .ok (.invokestatic 128, 3) := by decide +kernel
theorem dX4_cost_9 : decode cX4_cost 9 = .ok (.aload_n 0, 1) := by decide +kernel
theorem dX4_cost_10 : decode cX4_cost 10 = .ok (.getfield 23, 3) := by decide +kernel
theorem dX4_cost_13 : decode cX4_cost 13 = .ok (.iload_n 1, 1) := by decide +kernel
theorem dX4_cost_14 : decode cX4_cost 14 = .ok (.aaload, 1) := by decide +kernel
theorem dX4_cost_15 : decode cX4_cost 15 = .ok (.iload_n 2, 1) := by decide +kernel
theorem dX4_cost_16 : decode cX4_cost 16 = .ok (.invokevirtual 134, 3) := by decide +kernel
theorem dX4_cost_19 : decode cX4_cost 19 = .ok (.ireturn, 1) := by decide +kernel
set_option maxRecDepth 20000 in
theorem ggX4_textCost_X4_requireTongue : GoodIn wsX4_textCost wsX4_requireTongue := goodIn_ca (goodIn_r _ [5, 6, 7, 8, 37, 38, 39, 40, 41, 42, 43, 44] (by decide +kernel) (by decide +kernel)) (goodIn_sub (fun _ h => List.mem_cons_of_mem _ (List.mem_append_right _ h)) (by decide +kernel))
set_option maxRecDepth 20000 in
theorem gX4_textCost_X4_requireTongue : GoodIn wsX4_textCost (wsV RX4 90 RX4 yX4_requireTongue wsX4_requireTongue) := goodIn_app (goodIn_of _ (by decide +kernel)) ggX4_textCost_X4_requireTongue
set_option maxRecDepth 20000 in
theorem ggX4_textCost_X4_costOfSpelled : GoodIn wsX4_textCost wsX4_costOfSpelled := goodIn_r _ [12, 13, 14, 15, 16, 17, 18, 19, 20, 21, 22, 23, 24, 25, 26, 27, 28, 29, 30, 31, 32, 33, 34, 35, 36, 37, 38, 39, 40, 41, 42, 43, 44, 45, 46, 47, 48] (by decide +kernel) (by decide +kernel)
set_option maxRecDepth 20000 in
theorem gX4_textCost_X4_costOfSpelled : GoodIn wsX4_textCost (wsV RX4 140 RX4 yX4_costOfSpelled wsX4_costOfSpelled) := goodIn_app (goodIn_of _ (by decide +kernel)) ggX4_textCost_X4_costOfSpelled
theorem dX4_textCost_0 : decode cX4_textCost 0 = .ok (.aload_n 0, 1) := by decide +kernel
theorem dX4_textCost_1 : decode cX4_textCost 1 = .ok (.iload_n 1, 1) := by decide +kernel
theorem dX4_textCost_2 : decode cX4_textCost 2 = .ok (.invokevirtual 90, 3) := by decide +kernel
theorem dX4_textCost_5 : decode cX4_textCost 5 = .ok (.aload_n 0, 1) := by decide +kernel
theorem dX4_textCost_6 : decode cX4_textCost 6 = .ok (.iload_n 1, 1) := by decide +kernel
theorem dX4_textCost_7 : decode cX4_textCost 7 = .ok (.invokevirtual 140, 3) := by decide +kernel
theorem dX4_textCost_10 : decode cX4_textCost 10 = .ok (.ireturn, 1) := by decide +kernel
theorem dX4_setPrice_0 : decode cX4_setPrice 0 = .ok (.iload_n 1, 1) := by decide +kernel
theorem dX4_setPrice_1 : decode cX4_setPrice 1 = .ok (.ifCond .lt 9, 3) := by decide +kernel
theorem dX4_setPrice_4 : decode cX4_setPrice 4 = .ok (.iload_n 1, 1) := by decide +kernel
theorem dX4_setPrice_5 : decode cX4_setPrice 5 = .ok (.bipush 100, 2) := by decide +kernel
theorem dX4_setPrice_7 : decode cX4_setPrice 7 = .ok (.if_icmp .le 13, 3) := by decide +kernel
theorem dX4_setPrice_10 : decode cX4_setPrice 10 = .ok (.new 55, 3) := by decide +kernel
theorem dX4_setPrice_13 : decode cX4_setPrice 13 = .ok (.dup, 1) := by decide +kernel
theorem dX4_setPrice_14 : decode cX4_setPrice 14 = .ok (.ldc 155, 2) := by decide +kernel
theorem dX4_setPrice_16 : decode cX4_setPrice 16 = .ok (.invokespecial 59, 3) := by decide +kernel
theorem dX4_setPrice_19 : decode cX4_setPrice 19 = .ok (.athrow, 1) := by decide +kernel
theorem dX4_setPrice_20 : decode cX4_setPrice 20 = .ok (.aload_n 0, 1) := by decide +kernel
theorem dX4_setPrice_21 : decode cX4_setPrice 21 = .ok (.getfield 48, 3) := by decide +kernel
theorem dX4_setPrice_24 : decode cX4_setPrice 24 = .ok (.istore_n 2, 1) := by decide +kernel
theorem dX4_setPrice_25 : decode cX4_setPrice 25 = .ok (.aload_n 0, 1) := by decide +kernel
theorem dX4_setPrice_26 : decode cX4_setPrice 26 = .ok (.iload_n 1, 1) := by decide +kernel
theorem dX4_setPrice_27 : decode cX4_setPrice 27 = .ok (.putfield 48, 3) := by decide +kernel
theorem dX4_setPrice_30 : decode cX4_setPrice 30 = .ok (.iload_n 2, 1) := by decide +kernel
theorem dX4_setPrice_31 : decode cX4_setPrice 31 = .ok (.ireturn, 1) := by decide +kernel
set_option maxRecDepth 20000 in
theorem ggX4_cutCost_X4_requireSomeTongue : GoodIn wsX4_cutCost wsX4_requireSomeTongue := goodIn_ca (goodIn_r _ [6, 7, 8, 9, 74, 75, 76, 77, 78, 79, 80, 81] (by decide +kernel) (by decide +kernel)) (goodIn_sub (fun _ h => List.mem_cons_of_mem _ (List.mem_append_right _ h)) (by decide +kernel))
set_option maxRecDepth 20000 in
theorem gX4_cutCost_X4_requireSomeTongue : GoodIn wsX4_cutCost (wsV RX4 157 RX4 yX4_requireSomeTongue wsX4_requireSomeTongue) := goodIn_app (goodIn_of _ (by decide +kernel)) ggX4_cutCost_X4_requireSomeTongue
set_option maxRecDepth 20000 in
theorem ggX4_cutCost_X4_layCostsForCut : GoodIn wsX4_cutCost wsX4_layCostsForCut := goodIn_r _ [13, 1, 14, 9, 15, 16, 17, 18, 19, 20, 21, 22, 23, 24, 25, 26, 27, 28, 29, 30, 31, 32, 33, 34, 35, 36, 37, 38, 39, 40, 41, 42, 43, 44, 45, 46, 47, 74, 75, 76, 77, 78, 79, 80, 81, 82, 83, 84, 85, 86, 87, 88, 89, 90, 91] (by decide +kernel) (by decide +kernel)
set_option maxRecDepth 20000 in
theorem gX4_cutCost_X4_layCostsForCut : GoodIn wsX4_cutCost (wsV RX4 160 RX4 yX4_layCostsForCut wsX4_layCostsForCut) := goodIn_app (goodIn_of _ (by decide +kernel)) ggX4_cutCost_X4_layCostsForCut
set_option maxRecDepth 20000 in
theorem ggX4_cutCost_X0_leastCost : GoodIn wsX4_cutCost wsX0_leastCost := goodIn_r _ [51, 29, 52, 53, 54, 55, 27, 56, 30, 57, 58, 59, 60, 61, 62, 63, 64, 65, 66, 67, 68, 69, 70, 71, 72, 73, 31, 82, 83, 84, 85, 86, 87] (by decide +kernel) (by decide +kernel)
set_option maxRecDepth 20000 in
theorem gX4_cutCost_X0_leastCost : GoodIn wsX4_cutCost (wsV RX4 163 RX0 yX0_leastCost wsX0_leastCost) := goodIn_app (goodIn_of _ (by decide +kernel)) ggX4_cutCost_X0_leastCost
theorem dX4_cutCost_0 : decode cX4_cutCost 0 = .ok (.aload_n 0, 1) := by decide +kernel
theorem dX4_cutCost_1 : decode cX4_cutCost 1 = .ok (.invokevirtual 157, 3) := by decide +kernel
theorem dX4_cutCost_4 : decode cX4_cutCost 4 = .ok (.aload_n 0, 1) := by decide +kernel
theorem dX4_cutCost_5 : decode cX4_cutCost 5 = .ok (.invokevirtual 160, 3) := by decide +kernel
theorem dX4_cutCost_8 : decode cX4_cutCost 8 = .ok (.aload_n 0, 1) := by decide +kernel
theorem dX4_cutCost_9 : decode cX4_cutCost 9 = .ok (.getfield 37, 3) := by decide +kernel
theorem dX4_cutCost_12 : decode cX4_cutCost 12 = .ok (.invokevirtual 163, 3) := by decide +kernel
theorem dX4_cutCost_15 : decode cX4_cutCost 15 = .ok (.ireturn, 1) := by decide +kernel
set_option maxRecDepth 20000 in
theorem ggX4_cutCostByTrying_X4_requireSomeTongue : GoodIn wsX4_cutCostByTrying wsX4_requireSomeTongue := goodIn_ca (goodIn_r _ [10, 1, 2, 11, 66, 67, 68, 69, 70, 71, 72, 73] (by decide +kernel) (by decide +kernel)) (goodIn_sub (fun _ h => List.mem_cons_of_mem _ (List.mem_append_right _ h)) (by decide +kernel))
set_option maxRecDepth 20000 in
theorem gX4_cutCostByTrying_X4_requireSomeTongue : GoodIn wsX4_cutCostByTrying (wsV RX4 157 RX4 yX4_requireSomeTongue wsX4_requireSomeTongue) := goodIn_app (goodIn_of _ (by decide +kernel)) ggX4_cutCostByTrying_X4_requireSomeTongue
set_option maxRecDepth 20000 in
theorem ggX4_cutCostByTrying_X4_layCostsForCut : GoodIn wsX4_cutCostByTrying wsX4_layCostsForCut := goodIn_r _ [15, 5, 3, 11, 16, 17, 18, 19, 20, 21, 22, 23, 24, 25, 26, 27, 28, 29, 30, 31, 32, 33, 34, 35, 36, 37, 38, 39, 40, 41, 42, 43, 44, 45, 46, 47, 48, 66, 67, 68, 69, 70, 71, 72, 73, 76, 77, 78, 79, 80, 81, 74, 75, 82, 83] (by decide +kernel) (by decide +kernel)
set_option maxRecDepth 20000 in
theorem gX4_cutCostByTrying_X4_layCostsForCut : GoodIn wsX4_cutCostByTrying (wsV RX4 160 RX4 yX4_layCostsForCut wsX4_layCostsForCut) := goodIn_app (goodIn_of _ (by decide +kernel)) ggX4_cutCostByTrying_X4_layCostsForCut
set_option maxRecDepth 20000 in
theorem ggX4_cutCostByTrying_X0_leastCostByTrying : GoodIn wsX4_cutCostByTrying wsX0_leastCostByTrying := goodIn_r _ [52, 53, 54, 28, 55, 30, 56, 31, 57, 58, 59, 60, 61, 62, 63, 64, 65, 32, 76, 77, 78, 79, 80, 81] (by decide +kernel) (by decide +kernel)
set_option maxRecDepth 20000 in
theorem gX4_cutCostByTrying_X0_leastCostByTrying : GoodIn wsX4_cutCostByTrying (wsV RX4 168 RX0 yX0_leastCostByTrying wsX0_leastCostByTrying) := goodIn_app (goodIn_of _ (by decide +kernel)) ggX4_cutCostByTrying_X0_leastCostByTrying
theorem dX4_cutCostByTrying_0 : decode cX4_cutCostByTrying 0 = .ok (.aload_n 0, 1) := by decide +kernel
theorem dX4_cutCostByTrying_1 : decode cX4_cutCostByTrying 1 = .ok (.invokevirtual 157, 3) := by decide +kernel
theorem dX4_cutCostByTrying_4 : decode cX4_cutCostByTrying 4 = .ok (.aload_n 0, 1) := by decide +kernel
theorem dX4_cutCostByTrying_5 : decode cX4_cutCostByTrying 5 = .ok (.getfield 10, 3) := by decide +kernel
theorem dX4_cutCostByTrying_8 : decode cX4_cutCostByTrying 8 = .ok (.getfield 62, 3) := by decide +kernel
theorem dX4_cutCostByTrying_11 : decode cX4_cutCostByTrying 11 = .ok (.iconst 5, 1) := by decide +kernel
theorem dX4_cutCostByTrying_12 : decode cX4_cutCostByTrying 12 = .ok (.if_icmp .le 13, 3) := by decide +kernel
theorem dX4_cutCostByTrying_15 : decode cX4_cutCostByTrying 15 = .ok (.new 65, 3) := by decide +kernel
theorem dX4_cutCostByTrying_18 : decode cX4_cutCostByTrying 18 = .ok (.dup, 1) := by decide +kernel
theorem dX4_cutCostByTrying_19 : decode cX4_cutCostByTrying 19 = .ok (.ldc 166, 2) := by decide +kernel
theorem dX4_cutCostByTrying_21 : decode cX4_cutCostByTrying 21 = .ok (.invokespecial 69, 3) := by decide +kernel
theorem dX4_cutCostByTrying_24 : decode cX4_cutCostByTrying 24 = .ok (.athrow, 1) := by decide +kernel
theorem dX4_cutCostByTrying_25 : decode cX4_cutCostByTrying 25 = .ok (.aload_n 0, 1) := by decide +kernel
theorem dX4_cutCostByTrying_26 : decode cX4_cutCostByTrying 26 = .ok (.invokevirtual 160, 3) := by decide +kernel
theorem dX4_cutCostByTrying_29 : decode cX4_cutCostByTrying 29 = .ok (.aload_n 0, 1) := by decide +kernel
theorem dX4_cutCostByTrying_30 : decode cX4_cutCostByTrying 30 = .ok (.getfield 37, 3) := by decide +kernel
theorem dX4_cutCostByTrying_33 : decode cX4_cutCostByTrying 33 = .ok (.invokevirtual 168, 3) := by decide +kernel
theorem dX4_cutCostByTrying_36 : decode cX4_cutCostByTrying 36 = .ok (.ireturn, 1) := by decide +kernel
set_option maxRecDepth 20000 in
theorem ggX4_cutTongue_X4_requireSomeTongue : GoodIn wsX4_cutTongue wsX4_requireSomeTongue := goodIn_ca (goodIn_r _ [7, 8, 9, 10, 82, 83, 84, 85, 86, 87, 88, 89] (by decide +kernel) (by decide +kernel)) (goodIn_sub (fun _ h => List.mem_cons_of_mem _ (List.mem_append_left _ (List.mem_append_right _ h))) (by decide +kernel))
set_option maxRecDepth 20000 in
theorem gX4_cutTongue_X4_requireSomeTongue : GoodIn wsX4_cutTongue (wsV RX4 157 RX4 yX4_requireSomeTongue wsX4_requireSomeTongue) := goodIn_app (goodIn_of _ (by decide +kernel)) ggX4_cutTongue_X4_requireSomeTongue
set_option maxRecDepth 20000 in
theorem ggX4_cutTongue_X4_requireRunPlace : GoodIn wsX4_cutTongue wsX4_requireRunPlace := goodIn_ca (goodIn_r _ [14, 15, 16, 17, 18, 19, 20, 21, 22, 23, 82, 83, 84, 85, 86, 87, 88, 89, 96, 97] (by decide +kernel) (by decide +kernel)) (goodIn_sub (fun _ h => List.mem_cons_of_mem _ (List.mem_append_right _ h)) (by decide +kernel))
set_option maxRecDepth 20000 in
theorem gX4_cutTongue_X4_requireRunPlace : GoodIn wsX4_cutTongue (wsV RX4 78 RX4 yX4_requireRunPlace wsX4_requireRunPlace) := goodIn_app (goodIn_of _ (by decide +kernel)) ggX4_cutTongue_X4_requireRunPlace
set_option maxRecDepth 20000 in
theorem ggX4_cutTongue_X4_layCostsForCut : GoodIn wsX4_cutTongue wsX4_layCostsForCut := goodIn_r _ [27, 1, 17, 10, 28, 29, 30, 18, 19, 20, 21, 22, 23, 31, 32, 33, 34, 35, 36, 37, 38, 39, 40, 41, 42, 43, 44, 45, 46, 47, 48, 49, 50, 51, 52, 53, 54, 82, 83, 84, 85, 86, 87, 88, 89, 90, 91, 92, 93, 94, 95, 96, 97, 98, 99] (by decide +kernel) (by decide +kernel)
set_option maxRecDepth 20000 in
theorem gX4_cutTongue_X4_layCostsForCut : GoodIn wsX4_cutTongue (wsV RX4 160 RX4 yX4_layCostsForCut wsX4_layCostsForCut) := goodIn_app (goodIn_of _ (by decide +kernel)) ggX4_cutTongue_X4_layCostsForCut
set_option maxRecDepth 20000 in
theorem ggX4_cutTongue_X0_findToldCut : GoodIn wsX4_cutTongue wsX0_findToldCut := goodIn_r _ [58, 36, 59, 60, 61, 62, 34, 63, 37, 64, 65, 66, 67, 68, 69, 70, 71, 72, 73, 74, 75, 76, 77, 78, 79, 80, 81, 38, 90, 91, 92, 93, 94, 95] (by decide +kernel) (by decide +kernel)
set_option maxRecDepth 20000 in
theorem gX4_cutTongue_X0_findToldCut : GoodIn wsX4_cutTongue (wsV RX4 171 RX0 yX0_findToldCut wsX0_findToldCut) := goodIn_app (goodIn_of _ (by decide +kernel)) ggX4_cutTongue_X0_findToldCut
theorem dX4_cutTongue_0 : decode cX4_cutTongue 0 = .ok (.aload_n 0, 1) := by decide +kernel
theorem dX4_cutTongue_1 : decode cX4_cutTongue 1 = .ok (.invokevirtual 157, 3) := by decide +kernel
theorem dX4_cutTongue_4 : decode cX4_cutTongue 4 = .ok (.aload_n 0, 1) := by decide +kernel
theorem dX4_cutTongue_5 : decode cX4_cutTongue 5 = .ok (.iload_n 1, 1) := by decide +kernel
theorem dX4_cutTongue_6 : decode cX4_cutTongue 6 = .ok (.invokevirtual 78, 3) := by decide +kernel
theorem dX4_cutTongue_9 : decode cX4_cutTongue 9 = .ok (.aload_n 0, 1) := by decide +kernel
theorem dX4_cutTongue_10 : decode cX4_cutTongue 10 = .ok (.invokevirtual 160, 3) := by decide +kernel
theorem dX4_cutTongue_13 : decode cX4_cutTongue 13 = .ok (.aload_n 0, 1) := by decide +kernel
theorem dX4_cutTongue_14 : decode cX4_cutTongue 14 = .ok (.getfield 37, 3) := by decide +kernel
theorem dX4_cutTongue_17 : decode cX4_cutTongue 17 = .ok (.invokevirtual 171, 3) := by decide +kernel
theorem dX4_cutTongue_20 : decode cX4_cutTongue 20 = .ok (.aload_n 0, 1) := by decide +kernel
theorem dX4_cutTongue_21 : decode cX4_cutTongue 21 = .ok (.getfield 37, 3) := by decide +kernel
theorem dX4_cutTongue_24 : decode cX4_cutTongue 24 = .ok (.getfield 174, 3) := by decide +kernel
theorem dX4_cutTongue_27 : decode cX4_cutTongue 27 = .ok (.iload_n 1, 1) := by decide +kernel
theorem dX4_cutTongue_28 : decode cX4_cutTongue 28 = .ok (.iaload, 1) := by decide +kernel
theorem dX4_cutTongue_29 : decode cX4_cutTongue 29 = .ok (.ireturn, 1) := by decide +kernel
set_option maxRecDepth 20000 in
theorem ggX4_stretches_X4_requireSomeTongue : GoodIn wsX4_stretches wsX4_requireSomeTongue := goodIn_ca (goodIn_r _ [6, 7, 8, 9, 79, 80, 81, 82, 83, 84, 85, 86] (by decide +kernel) (by decide +kernel)) (goodIn_sub (fun _ h => List.mem_cons_of_mem _ (List.mem_append_right _ h)) (by decide +kernel))
set_option maxRecDepth 20000 in
theorem gX4_stretches_X4_requireSomeTongue : GoodIn wsX4_stretches (wsV RX4 157 RX4 yX4_requireSomeTongue wsX4_requireSomeTongue) := goodIn_app (goodIn_of _ (by decide +kernel)) ggX4_stretches_X4_requireSomeTongue
set_option maxRecDepth 20000 in
theorem ggX4_stretches_X4_layCostsForCut : GoodIn wsX4_stretches wsX4_layCostsForCut := goodIn_r _ [13, 1, 14, 9, 15, 16, 17, 18, 19, 20, 21, 22, 23, 24, 25, 26, 27, 28, 29, 30, 31, 32, 33, 34, 35, 36, 37, 38, 39, 40, 41, 42, 43, 44, 45, 46, 47, 79, 80, 81, 82, 83, 84, 85, 86, 87, 88, 89, 90, 91, 92, 93, 94, 95, 96] (by decide +kernel) (by decide +kernel)
set_option maxRecDepth 20000 in
theorem gX4_stretches_X4_layCostsForCut : GoodIn wsX4_stretches (wsV RX4 160 RX4 yX4_layCostsForCut wsX4_layCostsForCut) := goodIn_app (goodIn_of _ (by decide +kernel)) ggX4_stretches_X4_layCostsForCut
set_option maxRecDepth 20000 in
theorem ggX4_stretches_X0_findToldCut : GoodIn wsX4_stretches wsX0_findToldCut := goodIn_r _ [51, 29, 52, 53, 54, 55, 27, 56, 30, 57, 58, 59, 60, 61, 62, 63, 64, 65, 66, 67, 68, 69, 70, 71, 72, 73, 74, 31, 87, 88, 89, 90, 91, 92] (by decide +kernel) (by decide +kernel)
set_option maxRecDepth 20000 in
theorem gX4_stretches_X0_findToldCut : GoodIn wsX4_stretches (wsV RX4 171 RX0 yX0_findToldCut wsX0_findToldCut) := goodIn_app (goodIn_of _ (by decide +kernel)) ggX4_stretches_X0_findToldCut
set_option maxRecDepth 20000 in
theorem ggX4_stretches_X0_stretchCount : GoodIn wsX4_stretches wsX0_stretchCount := goodIn_r _ [78, 29, 52, 87, 88, 89, 90, 91, 92] (by decide +kernel) (by decide +kernel)
set_option maxRecDepth 20000 in
theorem gX4_stretches_X0_stretchCount : GoodIn wsX4_stretches (wsV RX4 177 RX0 yX0_stretchCount wsX0_stretchCount) := goodIn_app (goodIn_of _ (by decide +kernel)) ggX4_stretches_X0_stretchCount
theorem dX4_stretches_0 : decode cX4_stretches 0 = .ok (.aload_n 0, 1) := by decide +kernel
theorem dX4_stretches_1 : decode cX4_stretches 1 = .ok (.invokevirtual 157, 3) := by decide +kernel
theorem dX4_stretches_4 : decode cX4_stretches 4 = .ok (.aload_n 0, 1) := by decide +kernel
theorem dX4_stretches_5 : decode cX4_stretches 5 = .ok (.invokevirtual 160, 3) := by decide +kernel
theorem dX4_stretches_8 : decode cX4_stretches 8 = .ok (.aload_n 0, 1) := by decide +kernel
theorem dX4_stretches_9 : decode cX4_stretches 9 = .ok (.getfield 37, 3) := by decide +kernel
theorem dX4_stretches_12 : decode cX4_stretches 12 = .ok (.invokevirtual 171, 3) := by decide +kernel
theorem dX4_stretches_15 : decode cX4_stretches 15 = .ok (.aload_n 0, 1) := by decide +kernel
theorem dX4_stretches_16 : decode cX4_stretches 16 = .ok (.getfield 37, 3) := by decide +kernel
theorem dX4_stretches_19 : decode cX4_stretches 19 = .ok (.invokevirtual 177, 3) := by decide +kernel
theorem dX4_stretches_22 : decode cX4_stretches 22 = .ok (.ireturn, 1) := by decide +kernel
theorem dX4_letterNumber_0 : decode cX4_letterNumber 0 = .ok (.iload_n 0, 1) := by decide +kernel
theorem dX4_letterNumber_1 : decode cX4_letterNumber 1 = .ok (.bipush 32, 2) := by decide +kernel
theorem dX4_letterNumber_3 : decode cX4_letterNumber 3 = .ok (.if_icmp .ne 5, 3) := by decide +kernel
theorem dX4_letterNumber_6 : decode cX4_letterNumber 6 = .ok (.iconst 0, 1) := by decide +kernel
theorem dX4_letterNumber_7 : decode cX4_letterNumber 7 = .ok (.ireturn, 1) := by decide +kernel
theorem dX4_letterNumber_8 : decode cX4_letterNumber 8 = .ok (.iload_n 0, 1) := by decide +kernel
theorem dX4_letterNumber_9 : decode cX4_letterNumber 9 = .ok (.bipush 97, 2) := by decide +kernel
theorem dX4_letterNumber_11 : decode cX4_letterNumber 11 = .ok (.if_icmp .lt 16, 3) := by decide +kernel
theorem dX4_letterNumber_14 : decode cX4_letterNumber 14 = .ok (.iload_n 0, 1) := by decide +kernel
theorem dX4_letterNumber_15 : decode cX4_letterNumber 15 = .ok (.bipush 101, 2) := by decide +kernel
theorem dX4_letterNumber_17 : decode cX4_letterNumber 17 = .ok (.if_icmp .gt 10, 3) := by decide +kernel
theorem dX4_letterNumber_20 : decode cX4_letterNumber 20 = .ok (.iload_n 0, 1) := by decide +kernel
theorem dX4_letterNumber_21 : decode cX4_letterNumber 21 = .ok (.bipush 97, 2) := by decide +kernel
theorem dX4_letterNumber_23 : decode cX4_letterNumber 23 = .ok (.isub, 1) := by decide +kernel
theorem dX4_letterNumber_24 : decode cX4_letterNumber 24 = .ok (.iconst 1, 1) := by decide +kernel
theorem dX4_letterNumber_25 : decode cX4_letterNumber 25 = .ok (.iadd, 1) := by decide +kernel
theorem dX4_letterNumber_26 : decode cX4_letterNumber 26 = .ok (.ireturn, 1) := by decide +kernel
theorem dX4_letterNumber_27 : decode cX4_letterNumber 27 = .ok (.iconst (-1), 1) := by decide +kernel
theorem dX4_letterNumber_28 : decode cX4_letterNumber 28 = .ok (.ireturn, 1) := by decide +kernel
set_option maxRecDepth 20000 in
theorem ggX4_requireRunPlace_X2_runCount : GoodIn wsX4_requireRunPlace wsX2_runCount := goodIn_r _ [8, 9, 18, 19] (by decide +kernel) (by decide +kernel)
set_option maxRecDepth 20000 in
theorem gX4_requireRunPlace_X2_runCount : GoodIn wsX4_requireRunPlace (wsV RX4 74 RX2 yX2_runCount wsX2_runCount) := goodIn_app (goodIn_of _ (by decide +kernel)) ggX4_requireRunPlace_X2_runCount
theorem dX4_requireRunPlace_0 : decode cX4_requireRunPlace 0 = .ok (.iload_n 1, 1) := by decide +kernel
theorem dX4_requireRunPlace_1 : decode cX4_requireRunPlace 1 = .ok (.ifCond .lt 14, 3) := by decide +kernel
theorem dX4_requireRunPlace_4 : decode cX4_requireRunPlace 4 = .ok (.iload_n 1, 1) := by decide +kernel
theorem dX4_requireRunPlace_5 : decode cX4_requireRunPlace 5 = .ok (.aload_n 0, 1) := by decide +kernel
theorem dX4_requireRunPlace_6 : decode cX4_requireRunPlace 6 = .ok (.getfield 10, 3) := by decide +kernel
theorem dX4_requireRunPlace_9 : decode cX4_requireRunPlace 9 = .ok (.invokevirtual 74, 3) := by decide +kernel
theorem dX4_requireRunPlace_12 : decode cX4_requireRunPlace 12 = .ok (.if_icmp .lt 13, 3) := by decide +kernel
theorem dX4_requireRunPlace_15 : decode cX4_requireRunPlace 15 = .ok (.new 185, 3) := by decide +kernel
theorem dX4_requireRunPlace_18 : decode cX4_requireRunPlace 18 = .ok (.dup, 1) := by decide +kernel
theorem dX4_requireRunPlace_19 : decode cX4_requireRunPlace 19 = .ok (.ldc 187, 2) := by decide +kernel
theorem dX4_requireRunPlace_21 : decode cX4_requireRunPlace 21 = .ok (.invokespecial 189, 3) := by decide +kernel
theorem dX4_requireRunPlace_24 : decode cX4_requireRunPlace 24 = .ok (.athrow, 1) := by decide +kernel
theorem dX4_requireRunPlace_25 : decode cX4_requireRunPlace 25 = .ok (.return_, 1) := by decide +kernel
theorem dX4_requireTongue_0 : decode cX4_requireTongue 0 = .ok (.iload_n 1, 1) := by decide +kernel
theorem dX4_requireTongue_1 : decode cX4_requireTongue 1 = .ok (.ifCond .lt 11, 3) := by decide +kernel
theorem dX4_requireTongue_4 : decode cX4_requireTongue 4 = .ok (.iload_n 1, 1) := by decide +kernel
theorem dX4_requireTongue_5 : decode cX4_requireTongue 5 = .ok (.aload_n 0, 1) := by decide +kernel
theorem dX4_requireTongue_6 : decode cX4_requireTongue 6 = .ok (.getfield 41, 3) := by decide +kernel
theorem dX4_requireTongue_9 : decode cX4_requireTongue 9 = .ok (.if_icmp .lt 13, 3) := by decide +kernel
theorem dX4_requireTongue_12 : decode cX4_requireTongue 12 = .ok (.new 185, 3) := by decide +kernel
theorem dX4_requireTongue_15 : decode cX4_requireTongue 15 = .ok (.dup, 1) := by decide +kernel
theorem dX4_requireTongue_16 : decode cX4_requireTongue 16 = .ok (.ldc 190, 2) := by decide +kernel
theorem dX4_requireTongue_18 : decode cX4_requireTongue 18 = .ok (.invokespecial 189, 3) := by decide +kernel
theorem dX4_requireTongue_21 : decode cX4_requireTongue 21 = .ok (.athrow, 1) := by decide +kernel
theorem dX4_requireTongue_22 : decode cX4_requireTongue 22 = .ok (.return_, 1) := by decide +kernel
theorem dX4_requireSomeTongue_0 : decode cX4_requireSomeTongue 0 = .ok (.aload_n 0, 1) := by decide +kernel
theorem dX4_requireSomeTongue_1 : decode cX4_requireSomeTongue 1 = .ok (.getfield 41, 3) := by decide +kernel
theorem dX4_requireSomeTongue_4 : decode cX4_requireSomeTongue 4 = .ok (.ifCond .ne 13, 3) := by decide +kernel
theorem dX4_requireSomeTongue_7 : decode cX4_requireSomeTongue 7 = .ok (.new 65, 3) := by decide +kernel
theorem dX4_requireSomeTongue_10 : decode cX4_requireSomeTongue 10 = .ok (.dup, 1) := by decide +kernel
theorem dX4_requireSomeTongue_11 : decode cX4_requireSomeTongue 11 = .ok (.ldc 192, 2) := by decide +kernel
theorem dX4_requireSomeTongue_13 : decode cX4_requireSomeTongue 13 = .ok (.invokespecial 69, 3) := by decide +kernel
theorem dX4_requireSomeTongue_16 : decode cX4_requireSomeTongue 16 = .ok (.athrow, 1) := by decide +kernel
theorem dX4_requireSomeTongue_17 : decode cX4_requireSomeTongue 17 = .ok (.return_, 1) := by decide +kernel
theorem dX4_requireRunKind_0 : decode cX4_requireRunKind 0 = .ok (.iload_n 0, 1) := by decide +kernel
theorem dX4_requireRunKind_1 : decode cX4_requireRunKind 1 = .ok (.ifCond .lt 9, 3) := by decide +kernel
theorem dX4_requireRunKind_4 : decode cX4_requireRunKind 4 = .ok (.iload_n 0, 1) := by decide +kernel
theorem dX4_requireRunKind_5 : decode cX4_requireRunKind 5 = .ok (.bipush 36, 2) := by decide +kernel
theorem dX4_requireRunKind_7 : decode cX4_requireRunKind 7 = .ok (.if_icmp .lt 13, 3) := by decide +kernel
theorem dX4_requireRunKind_10 : decode cX4_requireRunKind 10 = .ok (.new 185, 3) := by decide +kernel
theorem dX4_requireRunKind_13 : decode cX4_requireRunKind 13 = .ok (.dup, 1) := by decide +kernel
theorem dX4_requireRunKind_14 : decode cX4_requireRunKind 14 = .ok (.ldc 194, 2) := by decide +kernel
theorem dX4_requireRunKind_16 : decode cX4_requireRunKind 16 = .ok (.invokespecial 189, 3) := by decide +kernel
theorem dX4_requireRunKind_19 : decode cX4_requireRunKind 19 = .ok (.athrow, 1) := by decide +kernel
theorem dX4_requireRunKind_20 : decode cX4_requireRunKind 20 = .ok (.return_, 1) := by decide +kernel
set_option maxRecDepth 20000 in
theorem ggX4_slotOfTaught_X1_slotOf : GoodIn wsX4_slotOfTaught wsX1_slotOf := goodIn_r _ [8, 9, 10, 11, 7, 12, 13, 22, 23, 24, 25, 26] (by decide +kernel) (by decide +kernel)
set_option maxRecDepth 20000 in
theorem gX4_slotOfTaught_X1_slotOf : GoodIn wsX4_slotOfTaught (wsV RX4 196 RX1 yX1_slotOf wsX1_slotOf) := goodIn_app (goodIn_of _ (by decide +kernel)) ggX4_slotOfTaught_X1_slotOf
theorem dX4_slotOfTaught_0 : decode cX4_slotOfTaught 0 = .ok (.aload_n 0, 1) := by decide +kernel
theorem dX4_slotOfTaught_1 : decode cX4_slotOfTaught 1 = .ok (.getfield 30, 3) := by decide +kernel
theorem dX4_slotOfTaught_4 : decode cX4_slotOfTaught 4 = .ok (.iload_n 1, 1) := by decide +kernel
theorem dX4_slotOfTaught_5 : decode cX4_slotOfTaught 5 = .ok (.invokevirtual 196, 3) := by decide +kernel
theorem dX4_slotOfTaught_8 : decode cX4_slotOfTaught 8 = .ok (.istore_n 2, 1) := by decide +kernel
theorem dX4_slotOfTaught_9 : decode cX4_slotOfTaught 9 = .ok (.iload_n 2, 1) := by decide +kernel
theorem dX4_slotOfTaught_10 : decode cX4_slotOfTaught 10 = .ok (.iconst (-1), 1) := by decide +kernel
theorem dX4_slotOfTaught_11 : decode cX4_slotOfTaught 11 = .ok (.if_icmp .ne 13, 3) := by decide +kernel
theorem dX4_slotOfTaught_14 : decode cX4_slotOfTaught 14 = .ok (.new 199, 3) := by decide +kernel
theorem dX4_slotOfTaught_17 : decode cX4_slotOfTaught 17 = .ok (.dup, 1) := by decide +kernel
theorem dX4_slotOfTaught_18 : decode cX4_slotOfTaught 18 = .ok (.ldc 201, 2) := by decide +kernel
theorem dX4_slotOfTaught_20 : decode cX4_slotOfTaught 20 = .ok (.invokespecial 203, 3) := by decide +kernel
theorem dX4_slotOfTaught_23 : decode cX4_slotOfTaught 23 = .ok (.athrow, 1) := by decide +kernel
theorem dX4_slotOfTaught_24 : decode cX4_slotOfTaught 24 = .ok (.iload_n 2, 1) := by decide +kernel
theorem dX4_slotOfTaught_25 : decode cX4_slotOfTaught 25 = .ok (.ireturn, 1) := by decide +kernel
theorem dX4_newTongue_0 : decode cX4_newTongue 0 = .ok (.aload_n 0, 1) := by decide +kernel
theorem dX4_newTongue_1 : decode cX4_newTongue 1 = .ok (.getfield 41, 3) := by decide +kernel
theorem dX4_newTongue_4 : decode cX4_newTongue 4 = .ok (.istore_n 1, 1) := by decide +kernel
theorem dX4_newTongue_5 : decode cX4_newTongue 5 = .ok (.aload_n 0, 1) := by decide +kernel
theorem dX4_newTongue_6 : decode cX4_newTongue 6 = .ok (.iload_n 1, 1) := by decide +kernel
theorem dX4_newTongue_7 : decode cX4_newTongue 7 = .ok (.iconst 1, 1) := by decide +kernel
theorem dX4_newTongue_8 : decode cX4_newTongue 8 = .ok (.iadd, 1) := by decide +kernel
theorem dX4_newTongue_9 : decode cX4_newTongue 9 = .ok (.putfield 41, 3) := by decide +kernel
theorem dX4_newTongue_12 : decode cX4_newTongue 12 = .ok (.iload_n 1, 1) := by decide +kernel
theorem dX4_newTongue_13 : decode cX4_newTongue 13 = .ok (.ireturn, 1) := by decide +kernel
set_option maxRecDepth 20000 in
theorem ggX4_teachRuns_X1_take : GoodIn wsX4_teachRuns wsX1_take := goodIn_r _ [10, 11, 12, 13, 14, 15, 16, 17, 9, 18, 45, 46, 47, 48, 49] (by decide +kernel) (by decide +kernel)
set_option maxRecDepth 20000 in
theorem gX4_teachRuns_X1_take : GoodIn wsX4_teachRuns (wsV RX4 204 RX1 yX1_take wsX1_take) := goodIn_app (goodIn_of _ (by decide +kernel)) ggX4_teachRuns_X1_take
set_option maxRecDepth 20000 in
theorem ggX4_teachRuns_X2_runNumber : GoodIn wsX4_teachRuns wsX2_runNumber := goodIn_r _ [23, 24, 25, 26, 22, 27, 28, 29, 50, 51] (by decide +kernel) (by decide +kernel)
set_option maxRecDepth 20000 in
theorem gX4_teachRuns_X2_runNumber : GoodIn wsX4_teachRuns (wsV RX4 81 RX2 yX2_runNumber wsX2_runNumber) := goodIn_app (goodIn_of _ (by decide +kernel)) ggX4_teachRuns_X2_runNumber
set_option maxRecDepth 20000 in
theorem ggX4_teachRuns_X3_add : GoodIn wsX4_teachRuns wsX3_add := goodIn_r _ [34, 35, 36, 52, 53] (by decide +kernel) (by decide +kernel)
set_option maxRecDepth 20000 in
theorem gX4_teachRuns_X3_add : GoodIn wsX4_teachRuns (wsV RX4 208 RX3 yX3_add wsX3_add) := goodIn_app (goodIn_of _ (by decide +kernel)) ggX4_teachRuns_X3_add
theorem dX4_teachRuns_0 : decode cX4_teachRuns 0 = .ok (.aload_n 0, 1) := by decide +kernel
theorem dX4_teachRuns_1 : decode cX4_teachRuns 1 = .ok (.getfield 30, 3) := by decide +kernel
theorem dX4_teachRuns_4 : decode cX4_teachRuns 4 = .ok (.iload_n 1, 1) := by decide +kernel
theorem dX4_teachRuns_5 : decode cX4_teachRuns 5 = .ok (.iload_n 3, 1) := by decide +kernel
theorem dX4_teachRuns_6 : decode cX4_teachRuns 6 = .ok (.invokevirtual 204, 3) := by decide +kernel
theorem dX4_teachRuns_9 : decode cX4_teachRuns 9 = .ok (.istore 4, 2) := by decide +kernel
theorem dX4_teachRuns_11 : decode cX4_teachRuns 11 = .ok (.iconst 0, 1) := by decide +kernel
theorem dX4_teachRuns_12 : decode cX4_teachRuns 12 = .ok (.istore 5, 2) := by decide +kernel
theorem dX4_teachRuns_14 : decode cX4_teachRuns 14 = .ok (.iload 5, 2) := by decide +kernel
theorem dX4_teachRuns_16 : decode cX4_teachRuns 16 = .ok (.iload_n 3, 1) := by decide +kernel
theorem dX4_teachRuns_17 : decode cX4_teachRuns 17 = .ok (.if_icmp .ge 48, 3) := by decide +kernel
theorem dX4_teachRuns_20 : decode cX4_teachRuns 20 = .ok (.aload_n 0, 1) := by decide +kernel
theorem dX4_teachRuns_21 : decode cX4_teachRuns 21 = .ok (.getfield 10, 3) := by decide +kernel
theorem dX4_teachRuns_24 : decode cX4_teachRuns 24 = .ok (.iload_n 2, 1) := by decide +kernel
theorem dX4_teachRuns_25 : decode cX4_teachRuns 25 = .ok (.iload 5, 2) := by decide +kernel
theorem dX4_teachRuns_27 : decode cX4_teachRuns 27 = .ok (.iadd, 1) := by decide +kernel
theorem dX4_teachRuns_28 : decode cX4_teachRuns 28 = .ok (.invokevirtual 81, 3) := by decide +kernel
theorem dX4_teachRuns_31 : decode cX4_teachRuns 31 = .ok (.istore 6, 2) := by decide +kernel
theorem dX4_teachRuns_33 : decode cX4_teachRuns 33 = .ok (.aload_n 0, 1) := by decide +kernel
theorem dX4_teachRuns_34 : decode cX4_teachRuns 34 = .ok (.getfield 30, 3) := by decide +kernel
theorem dX4_teachRuns_37 : decode cX4_teachRuns 37 = .ok (.getfield 115, 3) := by decide +kernel
theorem dX4_teachRuns_40 : decode cX4_teachRuns 40 = .ok (.iload 4, 2) := by decide +kernel
theorem dX4_teachRuns_42 : decode cX4_teachRuns 42 = .ok (.aaload, 1) := by decide +kernel
theorem dX4_teachRuns_43 : decode cX4_teachRuns 43 = .ok (.iload 5, 2) := by decide +kernel
theorem dX4_teachRuns_45 : decode cX4_teachRuns 45 = .ok (.iload 6, 2) := by decide +kernel
theorem dX4_teachRuns_47 : decode cX4_teachRuns 47 = .ok (.iastore, 1) := by decide +kernel
theorem dX4_teachRuns_48 : decode cX4_teachRuns 48 = .ok (.aload_n 0, 1) := by decide +kernel
theorem dX4_teachRuns_49 : decode cX4_teachRuns 49 = .ok (.getfield 23, 3) := by decide +kernel
theorem dX4_teachRuns_52 : decode cX4_teachRuns 52 = .ok (.iload_n 1, 1) := by decide +kernel
theorem dX4_teachRuns_53 : decode cX4_teachRuns 53 = .ok (.aaload, 1) := by decide +kernel
theorem dX4_teachRuns_54 : decode cX4_teachRuns 54 = .ok (.iload 6, 2) := by decide +kernel
theorem dX4_teachRuns_56 : decode cX4_teachRuns 56 = .ok (.invokevirtual 208, 3) := by decide +kernel
theorem dX4_teachRuns_59 : decode cX4_teachRuns 59 = .ok (.iinc 5 1, 3) := by decide +kernel
theorem dX4_teachRuns_62 : decode cX4_teachRuns 62 = .ok (.goto (-48), 3) := by decide +kernel
theorem dX4_teachRuns_65 : decode cX4_teachRuns 65 = .ok (.aload_n 0, 1) := by decide +kernel
theorem dX4_teachRuns_66 : decode cX4_teachRuns 66 = .ok (.getfield 30, 3) := by decide +kernel
theorem dX4_teachRuns_69 : decode cX4_teachRuns 69 = .ok (.getfield 211, 3) := by decide +kernel
theorem dX4_teachRuns_72 : decode cX4_teachRuns 72 = .ok (.iload 4, 2) := by decide +kernel
theorem dX4_teachRuns_74 : decode cX4_teachRuns 74 = .ok (.iaload, 1) := by decide +kernel
theorem dX4_teachRuns_75 : decode cX4_teachRuns 75 = .ok (.ireturn, 1) := by decide +kernel
set_option maxRecDepth 20000 in
theorem ggX4_costOfSpelled_X2_runCount : GoodIn wsX4_costOfSpelled wsX2_runCount := goodIn_r _ [7, 8, 33, 34] (by decide +kernel) (by decide +kernel)
set_option maxRecDepth 20000 in
theorem gX4_costOfSpelled_X2_runCount : GoodIn wsX4_costOfSpelled (wsV RX4 74 RX2 yX2_runCount wsX2_runCount) := goodIn_app (goodIn_of _ (by decide +kernel)) ggX4_costOfSpelled_X2_runCount
set_option maxRecDepth 20000 in
theorem ggX4_costOfSpelled_X2_runNumber : GoodIn wsX4_costOfSpelled wsX2_runNumber := goodIn_r _ [12, 13, 14, 15, 6, 16, 8, 17, 33, 34] (by decide +kernel) (by decide +kernel)
set_option maxRecDepth 20000 in
theorem gX4_costOfSpelled_X2_runNumber : GoodIn wsX4_costOfSpelled (wsV RX4 81 RX2 yX2_runNumber wsX2_runNumber) := goodIn_app (goodIn_of _ (by decide +kernel)) ggX4_costOfSpelled_X2_runNumber
set_option maxRecDepth 20000 in
theorem ggX4_costOfSpelled_X3_costOf : GoodIn wsX4_costOfSpelled wsX3_costOf := goodIn_r _ [22, 23, 24, 35, 36] (by decide +kernel) (by decide +kernel)
set_option maxRecDepth 20000 in
theorem gX4_costOfSpelled_X3_costOf : GoodIn wsX4_costOfSpelled (wsV RX4 134 RX3 yX3_costOf wsX3_costOf) := goodIn_app (goodIn_of _ (by decide +kernel)) ggX4_costOfSpelled_X3_costOf
theorem dX4_costOfSpelled_0 : decode cX4_costOfSpelled 0 = .ok (.iconst 0, 1) := by decide +kernel
theorem dX4_costOfSpelled_1 : decode cX4_costOfSpelled 1 = .ok (.istore_n 2, 1) := by decide +kernel
theorem dX4_costOfSpelled_2 : decode cX4_costOfSpelled 2 = .ok (.iconst 0, 1) := by decide +kernel
theorem dX4_costOfSpelled_3 : decode cX4_costOfSpelled 3 = .ok (.istore_n 3, 1) := by decide +kernel
theorem dX4_costOfSpelled_4 : decode cX4_costOfSpelled 4 = .ok (.iload_n 3, 1) := by decide +kernel
theorem dX4_costOfSpelled_5 : decode cX4_costOfSpelled 5 = .ok (.aload_n 0, 1) := by decide +kernel
theorem dX4_costOfSpelled_6 : decode cX4_costOfSpelled 6 = .ok (.getfield 10, 3) := by decide +kernel
theorem dX4_costOfSpelled_9 : decode cX4_costOfSpelled 9 = .ok (.invokevirtual 74, 3) := by decide +kernel
theorem dX4_costOfSpelled_12 : decode cX4_costOfSpelled 12 = .ok (.if_icmp .ge 29, 3) := by decide +kernel
theorem dX4_costOfSpelled_15 : decode cX4_costOfSpelled 15 = .ok (.iload_n 2, 1) := by decide +kernel
theorem dX4_costOfSpelled_16 : decode cX4_costOfSpelled 16 = .ok (.aload_n 0, 1) := by decide +kernel
theorem dX4_costOfSpelled_17 : decode cX4_costOfSpelled 17 = .ok (.getfield 23, 3) := by decide +kernel
theorem dX4_costOfSpelled_20 : decode cX4_costOfSpelled 20 = .ok (.iload_n 1, 1) := by decide +kernel
theorem dX4_costOfSpelled_21 : decode cX4_costOfSpelled 21 = .ok (.aaload, 1) := by decide +kernel
theorem dX4_costOfSpelled_22 : decode cX4_costOfSpelled 22 = .ok (.aload_n 0, 1) := by decide +kernel
theorem dX4_costOfSpelled_23 : decode cX4_costOfSpelled 23 = .ok (.getfield 10, 3) := by decide +kernel
theorem dX4_costOfSpelled_26 : decode cX4_costOfSpelled 26 = .ok (.iload_n 3, 1) := by decide +kernel
theorem dX4_costOfSpelled_27 : decode cX4_costOfSpelled 27 = .ok (.invokevirtual 81, 3) := by decide +kernel
theorem dX4_costOfSpelled_30 : decode cX4_costOfSpelled 30 = .ok (.invokevirtual 134, 3) := by decide +kernel
theorem dX4_costOfSpelled_33 : decode cX4_costOfSpelled 33 = .ok (.iadd, 1) := by decide +kernel
theorem dX4_costOfSpelled_34 : decode cX4_costOfSpelled 34 = .ok (.istore_n 2, 1) := by decide +kernel
theorem dX4_costOfSpelled_35 : decode cX4_costOfSpelled 35 = .ok (.iinc 3 1, 3) := by decide +kernel
theorem dX4_costOfSpelled_38 : decode cX4_costOfSpelled 38 = .ok (.goto (-34), 3) := by decide +kernel
theorem dX4_costOfSpelled_41 : decode cX4_costOfSpelled 41 = .ok (.iload_n 2, 1) := by decide +kernel
theorem dX4_costOfSpelled_42 : decode cX4_costOfSpelled 42 = .ok (.ireturn, 1) := by decide +kernel
set_option maxRecDepth 20000 in
theorem ggX4_layCostsForCut_X2_runCount : GoodIn wsX4_layCostsForCut wsX2_runCount := goodIn_r _ [11, 12, 51, 52] (by decide +kernel) (by decide +kernel)
set_option maxRecDepth 20000 in
theorem gX4_layCostsForCut_X2_runCount : GoodIn wsX4_layCostsForCut (wsV RX4 74 RX2 yX2_runCount wsX2_runCount) := goodIn_app (goodIn_of _ (by decide +kernel)) ggX4_layCostsForCut_X2_runCount
set_option maxRecDepth 20000 in
theorem ggX4_layCostsForCut_X0_begin : GoodIn wsX4_layCostsForCut wsX0_begin := goodIn_r _ [17, 18, 19, 20, 45, 46, 47, 48, 49, 50] (by decide +kernel) (by decide +kernel)
set_option maxRecDepth 20000 in
theorem gX4_layCostsForCut_X0_begin : GoodIn wsX4_layCostsForCut (wsV RX4 222 RX0 yX0_begin wsX0_begin) := goodIn_app (goodIn_of _ (by decide +kernel)) ggX4_layCostsForCut_X0_begin
set_option maxRecDepth 20000 in
theorem ggX4_layCostsForCut_X2_runNumber : GoodIn wsX4_layCostsForCut wsX2_runNumber := goodIn_r _ [24, 25, 26, 27, 10, 28, 12, 29, 51, 52] (by decide +kernel) (by decide +kernel)
set_option maxRecDepth 20000 in
theorem gX4_layCostsForCut_X2_runNumber : GoodIn wsX4_layCostsForCut (wsV RX4 81 RX2 yX2_runNumber wsX2_runNumber) := goodIn_app (goodIn_of _ (by decide +kernel)) ggX4_layCostsForCut_X2_runNumber
set_option maxRecDepth 20000 in
theorem ggX4_layCostsForCut_X3_costOf : GoodIn wsX4_layCostsForCut wsX3_costOf := goodIn_r _ [34, 35, 36, 53, 54] (by decide +kernel) (by decide +kernel)
set_option maxRecDepth 20000 in
theorem gX4_layCostsForCut_X3_costOf : GoodIn wsX4_layCostsForCut (wsV RX4 134 RX3 yX3_costOf wsX3_costOf) := goodIn_app (goodIn_of _ (by decide +kernel)) ggX4_layCostsForCut_X3_costOf
theorem dX4_layCostsForCut_0 : decode cX4_layCostsForCut 0 = .ok (.aload_n 0, 1) := by decide +kernel
theorem dX4_layCostsForCut_1 : decode cX4_layCostsForCut 1 = .ok (.getfield 37, 3) := by decide +kernel
theorem dX4_layCostsForCut_4 : decode cX4_layCostsForCut 4 = .ok (.aload_n 0, 1) := by decide +kernel
theorem dX4_layCostsForCut_5 : decode cX4_layCostsForCut 5 = .ok (.getfield 10, 3) := by decide +kernel
theorem dX4_layCostsForCut_8 : decode cX4_layCostsForCut 8 = .ok (.invokevirtual 74, 3) := by decide +kernel
theorem dX4_layCostsForCut_11 : decode cX4_layCostsForCut 11 = .ok (.aload_n 0, 1) := by decide +kernel
theorem dX4_layCostsForCut_12 : decode cX4_layCostsForCut 12 = .ok (.getfield 41, 3) := by decide +kernel
theorem dX4_layCostsForCut_15 : decode cX4_layCostsForCut 15 = .ok (.aload_n 0, 1) := by decide +kernel
theorem dX4_layCostsForCut_16 : decode cX4_layCostsForCut 16 = .ok (.getfield 48, 3) := by decide +kernel
theorem dX4_layCostsForCut_19 : decode cX4_layCostsForCut 19 = .ok (.invokevirtual 222, 3) := by decide +kernel
theorem dX4_layCostsForCut_22 : decode cX4_layCostsForCut 22 = .ok (.iconst 0, 1) := by decide +kernel
theorem dX4_layCostsForCut_23 : decode cX4_layCostsForCut 23 = .ok (.istore_n 1, 1) := by decide +kernel
theorem dX4_layCostsForCut_24 : decode cX4_layCostsForCut 24 = .ok (.iload_n 1, 1) := by decide +kernel
theorem dX4_layCostsForCut_25 : decode cX4_layCostsForCut 25 = .ok (.aload_n 0, 1) := by decide +kernel
theorem dX4_layCostsForCut_26 : decode cX4_layCostsForCut 26 = .ok (.getfield 10, 3) := by decide +kernel
theorem dX4_layCostsForCut_29 : decode cX4_layCostsForCut 29 = .ok (.invokevirtual 74, 3) := by decide +kernel
theorem dX4_layCostsForCut_32 : decode cX4_layCostsForCut 32 = .ok (.if_icmp .ge 55, 3) := by decide +kernel
theorem dX4_layCostsForCut_35 : decode cX4_layCostsForCut 35 = .ok (.aload_n 0, 1) := by decide +kernel
theorem dX4_layCostsForCut_36 : decode cX4_layCostsForCut 36 = .ok (.getfield 10, 3) := by decide +kernel
theorem dX4_layCostsForCut_39 : decode cX4_layCostsForCut 39 = .ok (.iload_n 1, 1) := by decide +kernel
theorem dX4_layCostsForCut_40 : decode cX4_layCostsForCut 40 = .ok (.invokevirtual 81, 3) := by decide +kernel
theorem dX4_layCostsForCut_43 : decode cX4_layCostsForCut 43 = .ok (.istore_n 2, 1) := by decide +kernel
theorem dX4_layCostsForCut_44 : decode cX4_layCostsForCut 44 = .ok (.iconst 0, 1) := by decide +kernel
theorem dX4_layCostsForCut_45 : decode cX4_layCostsForCut 45 = .ok (.istore_n 3, 1) := by decide +kernel
theorem dX4_layCostsForCut_46 : decode cX4_layCostsForCut 46 = .ok (.iload_n 3, 1) := by decide +kernel
theorem dX4_layCostsForCut_47 : decode cX4_layCostsForCut 47 = .ok (.aload_n 0, 1) := by decide +kernel
theorem dX4_layCostsForCut_48 : decode cX4_layCostsForCut 48 = .ok (.getfield 41, 3) := by decide +kernel
theorem dX4_layCostsForCut_51 : decode cX4_layCostsForCut 51 = .ok (.if_icmp .ge 30, 3) := by decide +kernel
theorem dX4_layCostsForCut_54 : decode cX4_layCostsForCut 54 = .ok (.aload_n 0, 1) := by decide +kernel
theorem dX4_layCostsForCut_55 : decode cX4_layCostsForCut 55 = .ok (.getfield 37, 3) := by decide +kernel
theorem dX4_layCostsForCut_58 : decode cX4_layCostsForCut 58 = .ok (.getfield 226, 3) := by decide +kernel
theorem dX4_layCostsForCut_61 : decode cX4_layCostsForCut 61 = .ok (.iload_n 1, 1) := by decide +kernel
theorem dX4_layCostsForCut_62 : decode cX4_layCostsForCut 62 = .ok (.aaload, 1) := by decide +kernel
theorem dX4_layCostsForCut_63 : decode cX4_layCostsForCut 63 = .ok (.iload_n 3, 1) := by decide +kernel
theorem dX4_layCostsForCut_64 : decode cX4_layCostsForCut 64 = .ok (.aload_n 0, 1) := by decide +kernel
theorem dX4_layCostsForCut_65 : decode cX4_layCostsForCut 65 = .ok (.getfield 23, 3) := by decide +kernel
theorem dX4_layCostsForCut_68 : decode cX4_layCostsForCut 68 = .ok (.iload_n 3, 1) := by decide +kernel
theorem dX4_layCostsForCut_69 : decode cX4_layCostsForCut 69 = .ok (.aaload, 1) := by decide +kernel
theorem dX4_layCostsForCut_70 : decode cX4_layCostsForCut 70 = .ok (.iload_n 2, 1) := by decide +kernel
theorem dX4_layCostsForCut_71 : decode cX4_layCostsForCut 71 = .ok (.invokevirtual 134, 3) := by decide +kernel
theorem dX4_layCostsForCut_74 : decode cX4_layCostsForCut 74 = .ok (.iastore, 1) := by decide +kernel
theorem dX4_layCostsForCut_75 : decode cX4_layCostsForCut 75 = .ok (.iinc 3 1, 3) := by decide +kernel
theorem dX4_layCostsForCut_78 : decode cX4_layCostsForCut 78 = .ok (.goto (-32), 3) := by decide +kernel
theorem dX4_layCostsForCut_81 : decode cX4_layCostsForCut 81 = .ok (.iinc 1 1, 3) := by decide +kernel
theorem dX4_layCostsForCut_84 : decode cX4_layCostsForCut 84 = .ok (.goto (-60), 3) := by decide +kernel
theorem dX4_layCostsForCut_87 : decode cX4_layCostsForCut 87 = .ok (.return_, 1) := by decide +kernel
end
section
/-! ===== the world of a run: 89 cells at the addresses ad i; what cell i holds is told by its ints σ i ===== -/
abbrev sS : Type := Nat → Nat → Int32
def ent (ad : Nat → Nat) (cy : Nat → ClassId) (i : Nat) (f : Nat → Int32) : va_E :=
  if i = 0 then .inr (4, [.ref (ad 1), .ref (ad 3), .ref (ad 5), .ref (ad 16), .ref (ad 51), .int (f 5), .int (f 6), .int (f 7)])
  else if i = 1 then .inr (2, [.ref (ad 2), .int (f 1)])
  else if i = 2 then .inl (cy 0, 16, .inl f)
  else if i = 3 then .inr (3, [.ref (ad 4), .int (f 1)])
  else if i = 4 then .inl (cy 0, 36, .inl f)
  else if i = 5 then .inl (cy 1, 5, .inr (.inr (.inr (.inr (fun t => some (ad (6 + t)))))))
  else if i < 11 then .inr (3, [.ref (ad (i + 5)), .int (f 1)])
  else if i < 16 then .inl (cy 0, 36, .inl f)
  else if i = 16 then .inr (1, [.ref (ad 17), .ref (ad 18), .ref (ad 19), .ref (ad 20), .int (f 4)])
  else if i < 20 then .inl (cy 0, 30, .inl f)
  else if i = 20 then .inl (cy 2, 30, .inr (.inr (.inr (.inr (fun t => some (ad (21 + t)))))))
  else if i < 51 then .inl (cy 0, 17, .inl f)
  else if i = 51 then .inr (0, [.ref (ad 52), .ref (ad 70), .ref (ad 71), .int (f 3), .int (f 4), .int (f 5)])
  else if i = 52 then .inl (cy 2, 17, .inr (.inr (.inr (.inr (fun t => some (ad (53 + t)))))))
  else if i < 70 then .inl (cy 0, 5, .inl f)
  else if i = 70 then .inl (cy 0, 17, .inl f)
  else if i = 71 then .inl (cy 2, 17, .inr (.inr (.inr (.inr (fun t => some (ad (72 + t)))))))
  else if i < 89 then .inl (cy 0, 5, .inl f)
  else .inl (cy 0, 5, .inl f)
def wld (ad : Nat → Nat) (cy : Nat → ClassId) (σ : sS) : va_W := (List.range 89).map (fun i => (ad i, ent ad cy i (σ i)))
theorem wld_len (ad : Nat → Nat) (cy : Nat → ClassId) (σ : sS) : (wld ad cy σ).length = 89 := by simp [wld]
theorem wld_at (ad : Nat → Nat) (cy : Nat → ClassId) (σ : sS) {i : Nat} (h : i < 89) : (wld ad cy σ)[i]? = some (ad i, ent ad cy i (σ i)) := by
  simp [wld, h]
theorem wld_of {ad : Nat → Nat} {cy : Nat → ClassId} {σ : sS} {i : Nat} {q : Nat × va_E} (h : (wld ad cy σ)[i]? = some q) : i < 89 ∧ q = (ad i, ent ad cy i (σ i)) := by
  have h1 : i < 89 := by
    have := (List.getElem?_eq_some_iff.mp h).1
    rw [wld_len] at this
    exact this
  exact ⟨h1, Option.some.inj (h.symm.trans (wld_at ad cy σ h1))⟩
theorem wld_set (ad : Nat → Nat) (cy : Nat → ClassId) (σ : sS) {i : Nat} (f : Nat → Int32) : (wld ad cy σ).set i (ad i, ent ad cy i f) = wld ad cy (va_up σ i f) := by
  apply List.ext_getElem?
  intro j
  rw [List.getElem?_set, wld_len]
  by_cases hj : i = j
  · subst hj
    by_cases h : i < 89
    · rw [if_pos rfl, if_pos h, wld_at _ _ _ h, va_up_self]
    · rw [if_pos rfl, if_neg h, List.getElem?_eq_none (by rw [wld_len]; omega)]
  · rw [if_neg hj]
    by_cases h : j < 89
    · rw [wld_at _ _ _ h, wld_at _ _ _ h, va_up_ne _ _ (fun q => hj q.symm)]
    · rw [List.getElem?_eq_none (by rw [wld_len]; omega), List.getElem?_eq_none (by rw [wld_len]; omega)]
/-- place k of cell i gets x -/
def su (σ : sS) (i k : Nat) (x : Int32) : sS := va_up σ i (upd (σ i) k x)
theorem su_eq (σ : sS) (i k : Nat) (x : Int32) : su σ i k x i k = x := by simp [su, va_up, upd]
theorem su_ni (σ : sS) {i j : Nat} (k : Nat) (x : Int32) (h : j ≠ i) : su σ i k x j = σ j := by simp [su, va_up, h]
theorem su_nk (σ : sS) (i : Nat) {k n : Nat} (x : Int32) (h : n ≠ k) : su σ i k x i n = σ i n := by simp [su, va_up, upd, h]
theorem su_ap (σ : sS) (i k j n : Nat) (x : Int32) : su σ i k x j n = if j = i ∧ n = k then x else σ j n := by
  by_cases h : j = i
  · subst h
    by_cases h2 : n = k
    · subst h2; rw [su_eq, if_pos ⟨rfl, rfl⟩]
    · rw [su_nk _ _ _ h2, if_neg (fun q => h2 q.2)]
  · rw [su_ni _ _ _ h, if_neg (fun q => h q.1)]
abbrev tysO (cy : Nat → ClassId) : List (ClassId × FieldType) := [(cy 0, .int), (cy 1, .object RX3), (cy 2, .array .int)]
def Dis (ad : Nat → Nat) : Prop := ∀ i j, i < 89 → j < 89 → ad i = ad j → i = j
theorem Dis.D {ad : Nat → Nat} (h : Dis ad) {A : Nat → Prop} (hA : ∀ i, i < 89 → A (ad i)) (cy : Nat → ClassId) (σ : sS) : va_D A (wld ad cy σ) := by
  refine ⟨fun i j p q hp hq e => ?_, fun k q hq => ?_⟩
  · obtain ⟨h1, rfl⟩ := wld_of hp
    obtain ⟨h2, rfl⟩ := wld_of hq
    exact h i j h1 h2 e
  · obtain ⟨h1, rfl⟩ := wld_of hq
    exact hA k h1
/-- what a method may write: the world's cells, and new ones -/
def Aw (ad : Nat → Nat) (sz : Nat) : Nat → Prop := fun q => (∃ i, i < 89 ∧ q = ad i) ∨ sz ≤ q
/-- the fixed facts of a walk -/
def Cx (p : Program) (s : State) (m : MethodId) (args : Array Value) (c : Code) (cc : ByteArray) (nL : Nat) (own : String) (Ts : List Cond) (D : va_G) (cy : Nat → ClassId) (ad : Nat → Nat) (A : Nat → Prop) : Prop :=
  p.tables.exec = Jvm.exec ∧ c.code = cc ∧ c.maxLocals = nL ∧ s.vm.findClass own = some m.cls ∧ (∀ w ∈ Ts, w.before args s = true) ∧ va_K D vwCl (tysO cy) s ∧ Dis ad ∧ (∀ i, i < 89 → A (ad i)) ∧ ∀ q, s.heap.size ≤ q → A q
/-- from here, in every heap that holds the world σ, the machine comes to Q -/
def TT (p : Program) (l : Launch) (e : Env) (R : Room) (s : State) (m : MethodId) (args : Array Value) (below : List Frame) (meth : Method) (c : Code) (D : va_G) (cy : Nat → ClassId) (ad : Nat → Nat) (A : Nat → Prop) (nL : Nat) (cells slots : Nat) (Q : State → Prop) (σ : sS) (pc : Nat) (lv : List (Nat × Value)) (st : List Value) : Prop :=
  ∀ (H : Heap) (locs : List Loc) (ls : Array Slot), va_P D vwCl (wld ad cy σ) H → va_S A s.heap H locs → lv_has ls nL lv → W p l e R s m args below meth c H locs cells slots Q (F0 m pc ls st)
section TTS
variable {p : Program} {l : Launch} {e : Env} {R : Room} {s : State} {m : MethodId} {args : Array Value} {below : List Frame} {meth : Method} {c : Code} {D : va_G} {cy : Nat → ClassId} {ad : Nat → Nat} {A : Nat → Prop} {nL : Nat} {cells slots : Nat} {Q : State → Prop}
variable {cc : ByteArray} {own : String} {Ts : List Cond} {σ : sS} {pc : Nat} {lv : List (Nat × Value)} {st : List Value}

theorem tg_iconst (C : Cx p s m args c cc nL own Ts D cy ad A) {n : Int} (v : Int32) (hdg : decode cc pc = .ok (.iconst n, 1)) (pc' : Nat) (hp : pc + 1 = pc') (hv : Int32.ofInt n = v) (k : TT p l e R s m args below meth c D cy ad A nL cells slots Q σ pc' lv (.int v :: st)) : TT p l e R s m args below meth c D cy ad A nL cells slots Q σ pc lv st := by
  subst hp
  intro H locs ls hP hS hl
  exact lv_iconst C.1 C.2.1 hdg hv (k H locs ls hP hS hl)
theorem tg_bipush (C : Cx p s m args c cc nL own Ts D cy ad A) {n : Int} (v : Int32) (hdg : decode cc pc = .ok (.bipush n, 2)) (pc' : Nat) (hp : pc + 2 = pc') (hv : (Int8.ofInt n).toInt32 = v) (k : TT p l e R s m args below meth c D cy ad A nL cells slots Q σ pc' lv (.int v :: st)) : TT p l e R s m args below meth c D cy ad A nL cells slots Q σ pc lv st := by
  subst hp
  intro H locs ls hP hS hl
  exact lv_bipush C.1 C.2.1 hdg hv (k H locs ls hP hS hl)
theorem tg_sipush (C : Cx p s m args c cc nL own Ts D cy ad A) {n : Int} (v : Int32) (hdg : decode cc pc = .ok (.sipush n, 3)) (pc' : Nat) (hp : pc + 3 = pc') (hv : (Int16.ofInt n).toInt32 = v) (k : TT p l e R s m args below meth c D cy ad A nL cells slots Q σ pc' lv (.int v :: st)) : TT p l e R s m args below meth c D cy ad A nL cells slots Q σ pc lv st := by
  subst hp
  intro H locs ls hP hS hl
  exact lv_sipush C.1 C.2.1 hdg hv (k H locs ls hP hS hl)
theorem tg_ldc (C : Cx p s m args c cc nL own Ts D cy ad A) {index : Nat} (v : Int32) (hdg : decode cc pc = .ok (.ldc index, 2)) (pc' : Nat) (hp : pc + 2 = pc') (hv : Jvm.Cond.constant own index v ∈ Ts) (k : TT p l e R s m args below meth c D cy ad A nL cells slots Q σ pc' lv (.int v :: st)) : TT p l e R s m args below meth c D cy ad A nL cells slots Q σ pc lv st := by
  subst hp
  intro H locs ls hP hS hl
  exact lv_ldc C.1 C.2.1 C.2.2.2.1 (C.2.2.2.2.1 _ hv) hdg (k H locs ls hP hS hl)
theorem tg_iload_n (C : Cx p s m args c cc nL own Ts D cy ad A) {k4 : Fin 4} {i : Nat} {x : Int32} (hdg : decode cc pc = .ok (.iload_n k4, 1)) (pc' : Nat) (hp : pc + 1 = pc') (hi : (k4 : Nat) = i) (j : Nat) (hj : lv[j]? = some (i, .int x)) (k : TT p l e R s m args below meth c D cy ad A nL cells slots Q σ pc' lv (.int x :: st)) : TT p l e R s m args below meth c D cy ad A nL cells slots Q σ pc lv st := by
  subst hp
  intro H locs ls hP hS hl
  exact lv_iload_n C.1 C.2.1 hdg hi (lv_at hl j hj) (k H locs ls hP hS hl)
theorem tg_iload (C : Cx p s m args c cc nL own Ts D cy ad A) {i : Nat} {x : Int32} (hdg : decode cc pc = .ok (.iload i, 2)) (pc' : Nat) (hp : pc + 2 = pc') (j : Nat) (hj : lv[j]? = some (i, .int x)) (k : TT p l e R s m args below meth c D cy ad A nL cells slots Q σ pc' lv (.int x :: st)) : TT p l e R s m args below meth c D cy ad A nL cells slots Q σ pc lv st := by
  subst hp
  intro H locs ls hP hS hl
  exact lv_iload C.1 C.2.1 hdg (lv_at hl j hj) (k H locs ls hP hS hl)
theorem tg_aload_n (C : Cx p s m args c cc nL own Ts D cy ad A) {k4 : Fin 4} {i : Nat} {x : Nat} (hdg : decode cc pc = .ok (.aload_n k4, 1)) (pc' : Nat) (hp : pc + 1 = pc') (hi : (k4 : Nat) = i) (j : Nat) (hj : lv[j]? = some (i, .ref x)) (k : TT p l e R s m args below meth c D cy ad A nL cells slots Q σ pc' lv (.ref x :: st)) : TT p l e R s m args below meth c D cy ad A nL cells slots Q σ pc lv st := by
  subst hp
  intro H locs ls hP hS hl
  exact lv_aload_n C.1 C.2.1 hdg hi (lv_at hl j hj) (k H locs ls hP hS hl)
theorem tg_aload (C : Cx p s m args c cc nL own Ts D cy ad A) {i : Nat} {x : Nat} (hdg : decode cc pc = .ok (.aload i, 2)) (pc' : Nat) (hp : pc + 2 = pc') (j : Nat) (hj : lv[j]? = some (i, .ref x)) (k : TT p l e R s m args below meth c D cy ad A nL cells slots Q σ pc' lv (.ref x :: st)) : TT p l e R s m args below meth c D cy ad A nL cells slots Q σ pc lv st := by
  subst hp
  intro H locs ls hP hS hl
  exact lv_aload C.1 C.2.1 hdg (lv_at hl j hj) (k H locs ls hP hS hl)
theorem tg_istore_n (C : Cx p s m args c cc nL own Ts D cy ad A) {k4 : Fin 4} {i : Nat} {x : Int32} (hdg : decode cc pc = .ok (.istore_n k4, 1)) (pc' : Nat) (hp : pc + 1 = pc') (hi : (k4 : Nat) = i) (lv' : List (Nat × Value)) (hn : i < nL) (hl0 : (i, Value.int x) :: lv.filter (fun q => !(q.1 == i) && !(q.1 + 1 == i && q.2.category == 2)) = lv') (k : TT p l e R s m args below meth c D cy ad A nL cells slots Q σ pc' lv' st) : TT p l e R s m args below meth c D cy ad A nL cells slots Q σ pc lv (.int x :: st) := by
  subst hp
  intro H locs ls hP hS hl
  exact lv_istore_n C.1 C.2.1 hdg hi hl hn hl0 (fun ls' hl' => k H locs ls' hP hS hl')
theorem tg_istore (C : Cx p s m args c cc nL own Ts D cy ad A) {i : Nat} {x : Int32} (hdg : decode cc pc = .ok (.istore i, 2)) (pc' : Nat) (hp : pc + 2 = pc') (lv' : List (Nat × Value)) (hn : i < nL) (hl0 : (i, Value.int x) :: lv.filter (fun q => !(q.1 == i) && !(q.1 + 1 == i && q.2.category == 2)) = lv') (k : TT p l e R s m args below meth c D cy ad A nL cells slots Q σ pc' lv' st) : TT p l e R s m args below meth c D cy ad A nL cells slots Q σ pc lv (.int x :: st) := by
  subst hp
  intro H locs ls hP hS hl
  exact lv_istore C.1 C.2.1 hdg hl hn hl0 (fun ls' hl' => k H locs ls' hP hS hl')
theorem tg_astore_n (C : Cx p s m args c cc nL own Ts D cy ad A) {k4 : Fin 4} {i : Nat} {x : Nat} (hdg : decode cc pc = .ok (.astore_n k4, 1)) (pc' : Nat) (hp : pc + 1 = pc') (hi : (k4 : Nat) = i) (lv' : List (Nat × Value)) (hn : i < nL) (hl0 : (i, Value.ref x) :: lv.filter (fun q => !(q.1 == i) && !(q.1 + 1 == i && q.2.category == 2)) = lv') (k : TT p l e R s m args below meth c D cy ad A nL cells slots Q σ pc' lv' st) : TT p l e R s m args below meth c D cy ad A nL cells slots Q σ pc lv (.ref x :: st) := by
  subst hp
  intro H locs ls hP hS hl
  exact lv_astore_n C.1 C.2.1 hdg hi hl hn hl0 (fun ls' hl' => k H locs ls' hP hS hl')
theorem tg_astore (C : Cx p s m args c cc nL own Ts D cy ad A) {i : Nat} {x : Nat} (hdg : decode cc pc = .ok (.astore i, 2)) (pc' : Nat) (hp : pc + 2 = pc') (lv' : List (Nat × Value)) (hn : i < nL) (hl0 : (i, Value.ref x) :: lv.filter (fun q => !(q.1 == i) && !(q.1 + 1 == i && q.2.category == 2)) = lv') (k : TT p l e R s m args below meth c D cy ad A nL cells slots Q σ pc' lv' st) : TT p l e R s m args below meth c D cy ad A nL cells slots Q σ pc lv (.ref x :: st) := by
  subst hp
  intro H locs ls hP hS hl
  exact lv_astore C.1 C.2.1 hdg hl hn hl0 (fun ls' hl' => k H locs ls' hP hS hl')
theorem tg_iinc (C : Cx p s m args c cc nL own Ts D cy ad A) {i : Nat} {n : Int} {x : Int32} (v : Int32) (hdg : decode cc pc = .ok (.iinc i n, 3)) (pc' : Nat) (hp : pc + 3 = pc') (j : Nat) (hj : lv[j]? = some (i, .int x)) (hv : x + Int32.ofInt n = v) (lv' : List (Nat × Value)) (hn : i < nL) (hl0 : (i, Value.int v) :: lv.filter (fun q => !(q.1 == i) && !(q.1 + 1 == i && q.2.category == 2)) = lv') (k : TT p l e R s m args below meth c D cy ad A nL cells slots Q σ pc' lv' st) : TT p l e R s m args below meth c D cy ad A nL cells slots Q σ pc lv st := by
  subst hp
  intro H locs ls hP hS hl
  exact lv_iinc C.1 C.2.1 hdg hl hj hv hn hl0 (fun ls' hl' => k H locs ls' hP hS hl')
theorem tg_iadd (C : Cx p s m args c cc nL own Ts D cy ad A) {x y : Int32} (z : Int32) (hdg : decode cc pc = .ok (.iadd, 1)) (pc' : Nat) (hp : pc + 1 = pc') (hz : x + y = z) (k : TT p l e R s m args below meth c D cy ad A nL cells slots Q σ pc' lv (.int z :: st)) : TT p l e R s m args below meth c D cy ad A nL cells slots Q σ pc lv (.int y :: .int x :: st) := by
  subst hp
  subst hz
  intro H locs ls hP hS hl
  exact lv_iadd C.1 C.2.1 hdg (k H locs ls hP hS hl)
theorem tg_isub (C : Cx p s m args c cc nL own Ts D cy ad A) {x y : Int32} (z : Int32) (hdg : decode cc pc = .ok (.isub, 1)) (pc' : Nat) (hp : pc + 1 = pc') (hz : x - y = z) (k : TT p l e R s m args below meth c D cy ad A nL cells slots Q σ pc' lv (.int z :: st)) : TT p l e R s m args below meth c D cy ad A nL cells slots Q σ pc lv (.int y :: .int x :: st) := by
  subst hp
  subst hz
  intro H locs ls hP hS hl
  exact lv_isub C.1 C.2.1 hdg (k H locs ls hP hS hl)
theorem tg_imul (C : Cx p s m args c cc nL own Ts D cy ad A) {x y : Int32} (z : Int32) (hdg : decode cc pc = .ok (.imul, 1)) (pc' : Nat) (hp : pc + 1 = pc') (hz : x * y = z) (k : TT p l e R s m args below meth c D cy ad A nL cells slots Q σ pc' lv (.int z :: st)) : TT p l e R s m args below meth c D cy ad A nL cells slots Q σ pc lv (.int y :: .int x :: st) := by
  subst hp
  subst hz
  intro H locs ls hP hS hl
  exact lv_imul C.1 C.2.1 hdg (k H locs ls hP hS hl)
theorem tg_iand (C : Cx p s m args c cc nL own Ts D cy ad A) {x y : Int32} (z : Int32) (hdg : decode cc pc = .ok (.iand, 1)) (pc' : Nat) (hp : pc + 1 = pc') (hz : x &&& y = z) (k : TT p l e R s m args below meth c D cy ad A nL cells slots Q σ pc' lv (.int z :: st)) : TT p l e R s m args below meth c D cy ad A nL cells slots Q σ pc lv (.int y :: .int x :: st) := by
  subst hp
  subst hz
  intro H locs ls hP hS hl
  exact lv_iand C.1 C.2.1 hdg (k H locs ls hP hS hl)
theorem tg_dup (C : Cx p s m args c cc nL own Ts D cy ad A) {v : Value} (hdg : decode cc pc = .ok (.dup, 1)) (pc' : Nat) (hp : pc + 1 = pc') (hc : v.category = 1) (k : TT p l e R s m args below meth c D cy ad A nL cells slots Q σ pc' lv (v :: v :: st)) : TT p l e R s m args below meth c D cy ad A nL cells slots Q σ pc lv (v :: st) := by
  subst hp
  intro H locs ls hP hS hl
  exact lv_dup C.1 C.2.1 hdg hc (k H locs ls hP hS hl)
theorem tg_pop (C : Cx p s m args c cc nL own Ts D cy ad A) {v : Value} (hdg : decode cc pc = .ok (.pop, 1)) (pc' : Nat) (hp : pc + 1 = pc') (hc : v.category = 1) (k : TT p l e R s m args below meth c D cy ad A nL cells slots Q σ pc' lv st) : TT p l e R s m args below meth c D cy ad A nL cells slots Q σ pc lv (v :: st) := by
  subst hp
  intro H locs ls hP hS hl
  exact lv_pop C.1 C.2.1 hdg hc (k H locs ls hP hS hl)
theorem tg_dup2 (C : Cx p s m args c cc nL own Ts D cy ad A) {v w : Value} (hdg : decode cc pc = .ok (.dup2, 1)) (pc' : Nat) (hp : pc + 1 = pc') (hc : v.category = 1) (hd : w.category = 1) (k : TT p l e R s m args below meth c D cy ad A nL cells slots Q σ pc' lv (v :: w :: v :: w :: st)) : TT p l e R s m args below meth c D cy ad A nL cells slots Q σ pc lv (v :: w :: st) := by
  subst hp
  intro H locs ls hP hS hl
  exact lv_dup2_11 C.1 C.2.1 hdg hc hd (k H locs ls hP hS hl)
theorem tg_i2l (C : Cx p s m args c cc nL own Ts D cy ad A) {x : Int32} (hdg : decode cc pc = .ok (.i2l, 1)) (pc' : Nat) (hp : pc + 1 = pc')  (k : TT p l e R s m args below meth c D cy ad A nL cells slots Q σ pc' lv (.long x.toInt64 :: st)) : TT p l e R s m args below meth c D cy ad A nL cells slots Q σ pc lv (.int x :: st) := by
  subst hp
  intro H locs ls hP hS hl
  exact lv_i2l C.1 C.2.1 hdg rfl (k H locs ls hP hS hl)
theorem tg_i2c (C : Cx p s m args c cc nL own Ts D cy ad A) {x : Int32} (hdg : decode cc pc = .ok (.i2c, 1)) (pc' : Nat) (hp : pc + 1 = pc')  (k : TT p l e R s m args below meth c D cy ad A nL cells slots Q σ pc' lv (.int (x.toUInt32 % 65536).toInt32 :: st)) : TT p l e R s m args below meth c D cy ad A nL cells slots Q σ pc lv (.int x :: st) := by
  subst hp
  intro H locs ls hP hS hl
  exact lv_i2c C.1 C.2.1 hdg rfl (k H locs ls hP hS hl)
theorem tg_lcmp (C : Cx p s m args c cc nL own Ts D cy ad A) {x y : Int64} (hdg : decode cc pc = .ok (.lcmp, 1)) (pc' : Nat) (hp : pc + 1 = pc')  (k : TT p l e R s m args below meth c D cy ad A nL cells slots Q σ pc' lv (.int (lg_cmp x y) :: st)) : TT p l e R s m args below meth c D cy ad A nL cells slots Q σ pc lv (.long y :: .long x :: st) := by
  subst hp
  intro H locs ls hP hS hl
  exact W.lcmp C.1 C.2.1 hdg (k H locs ls hP hS hl)
theorem tg_goto (C : Cx p s m args c cc nL own Ts D cy ad A) {off : Int} (tgt : Nat) (hdg : decode cc pc = .ok (.goto off, 3)) (ht : (pc : Int) + off = (tgt : Int)) (k : TT p l e R s m args below meth c D cy ad A nL cells slots Q σ tgt lv st) : TT p l e R s m args below meth c D cy ad A nL cells slots Q σ pc lv st := fun H locs ls hP hS hl => lv_goto C.1 C.2.1 hdg ht (k H locs ls hP hS hl)
theorem tg_icmp_eq (C : Cx p s m args c cc nL own Ts D cy ad A) {x y : Int32} {off : Int} (tgt : Nat) (hdg : decode cc pc = .ok (.if_icmp .eq off, 3)) (ht : (pc : Int) + off = (tgt : Int)) (pc' : Nat) (hp : pc + 3 = pc') (kt : x = y → TT p l e R s m args below meth c D cy ad A nL cells slots Q σ tgt lv st) (kf : ¬ x = y → TT p l e R s m args below meth c D cy ad A nL cells slots Q σ pc' lv st) : TT p l e R s m args below meth c D cy ad A nL cells slots Q σ pc lv (.int y :: .int x :: st) := by
  subst hp
  intro H locs ls hP hS hl
  exact lv_icmp_eq C.1 C.2.1 hdg ht (fun h => kt h H locs ls hP hS hl) (fun h => kf h H locs ls hP hS hl)
theorem tg_icmp_lt (C : Cx p s m args c cc nL own Ts D cy ad A) {x y : Int32} {off : Int} (tgt : Nat) (hdg : decode cc pc = .ok (.if_icmp .lt off, 3)) (ht : (pc : Int) + off = (tgt : Int)) (pc' : Nat) (hp : pc + 3 = pc') (kt : x < y → TT p l e R s m args below meth c D cy ad A nL cells slots Q σ tgt lv st) (kf : ¬ x < y → TT p l e R s m args below meth c D cy ad A nL cells slots Q σ pc' lv st) : TT p l e R s m args below meth c D cy ad A nL cells slots Q σ pc lv (.int y :: .int x :: st) := by
  subst hp
  intro H locs ls hP hS hl
  exact lv_icmp_lt C.1 C.2.1 hdg ht (fun h => kt h H locs ls hP hS hl) (fun h => kf h H locs ls hP hS hl)
theorem tg_icmp_ge (C : Cx p s m args c cc nL own Ts D cy ad A) {x y : Int32} {off : Int} (tgt : Nat) (hdg : decode cc pc = .ok (.if_icmp .ge off, 3)) (ht : (pc : Int) + off = (tgt : Int)) (pc' : Nat) (hp : pc + 3 = pc') (kt : y ≤ x → TT p l e R s m args below meth c D cy ad A nL cells slots Q σ tgt lv st) (kf : ¬ y ≤ x → TT p l e R s m args below meth c D cy ad A nL cells slots Q σ pc' lv st) : TT p l e R s m args below meth c D cy ad A nL cells slots Q σ pc lv (.int y :: .int x :: st) := by
  subst hp
  intro H locs ls hP hS hl
  exact lv_icmp_ge C.1 C.2.1 hdg ht (fun h => kt h H locs ls hP hS hl) (fun h => kf h H locs ls hP hS hl)
theorem tg_icmp_gt (C : Cx p s m args c cc nL own Ts D cy ad A) {x y : Int32} {off : Int} (tgt : Nat) (hdg : decode cc pc = .ok (.if_icmp .gt off, 3)) (ht : (pc : Int) + off = (tgt : Int)) (pc' : Nat) (hp : pc + 3 = pc') (kt : y < x → TT p l e R s m args below meth c D cy ad A nL cells slots Q σ tgt lv st) (kf : ¬ y < x → TT p l e R s m args below meth c D cy ad A nL cells slots Q σ pc' lv st) : TT p l e R s m args below meth c D cy ad A nL cells slots Q σ pc lv (.int y :: .int x :: st) := by
  subst hp
  intro H locs ls hP hS hl
  exact lv_icmp_gt C.1 C.2.1 hdg ht (fun h => kt h H locs ls hP hS hl) (fun h => kf h H locs ls hP hS hl)
theorem tg_icmp_le (C : Cx p s m args c cc nL own Ts D cy ad A) {x y : Int32} {off : Int} (tgt : Nat) (hdg : decode cc pc = .ok (.if_icmp .le off, 3)) (ht : (pc : Int) + off = (tgt : Int)) (pc' : Nat) (hp : pc + 3 = pc') (kt : x ≤ y → TT p l e R s m args below meth c D cy ad A nL cells slots Q σ tgt lv st) (kf : ¬ x ≤ y → TT p l e R s m args below meth c D cy ad A nL cells slots Q σ pc' lv st) : TT p l e R s m args below meth c D cy ad A nL cells slots Q σ pc lv (.int y :: .int x :: st) := by
  subst hp
  intro H locs ls hP hS hl
  exact lv_icmp_le C.1 C.2.1 hdg ht (fun h => kt h H locs ls hP hS hl) (fun h => kf h H locs ls hP hS hl)
theorem tg_icmp_ne (C : Cx p s m args c cc nL own Ts D cy ad A) {x y : Int32} {off : Int} (tgt : Nat) (hdg : decode cc pc = .ok (.if_icmp .ne off, 3)) (ht : (pc : Int) + off = (tgt : Int)) (pc' : Nat) (hp : pc + 3 = pc') (kt : ¬ x = y → TT p l e R s m args below meth c D cy ad A nL cells slots Q σ tgt lv st) (kf : x = y → TT p l e R s m args below meth c D cy ad A nL cells slots Q σ pc' lv st) : TT p l e R s m args below meth c D cy ad A nL cells slots Q σ pc lv (.int y :: .int x :: st) := by
  subst hp
  intro H locs ls hP hS hl
  exact lv_icmp_ne C.1 C.2.1 hdg ht (fun h => kt h H locs ls hP hS hl) (fun h => kf h H locs ls hP hS hl)
theorem tg_if_eq (C : Cx p s m args c cc nL own Ts D cy ad A) {x : Int32} {off : Int} (tgt : Nat) (hdg : decode cc pc = .ok (.ifCond .eq off, 3)) (ht : (pc : Int) + off = (tgt : Int)) (pc' : Nat) (hp : pc + 3 = pc') (kt : x = 0 → TT p l e R s m args below meth c D cy ad A nL cells slots Q σ tgt lv st) (kf : ¬ x = 0 → TT p l e R s m args below meth c D cy ad A nL cells slots Q σ pc' lv st) : TT p l e R s m args below meth c D cy ad A nL cells slots Q σ pc lv (.int x :: st) := by
  subst hp
  intro H locs ls hP hS hl
  exact lv_if_eq C.1 C.2.1 hdg ht (fun h => kt h H locs ls hP hS hl) (fun h => kf h H locs ls hP hS hl)
theorem tg_if_lt (C : Cx p s m args c cc nL own Ts D cy ad A) {x : Int32} {off : Int} (tgt : Nat) (hdg : decode cc pc = .ok (.ifCond .lt off, 3)) (ht : (pc : Int) + off = (tgt : Int)) (pc' : Nat) (hp : pc + 3 = pc') (kt : x < 0 → TT p l e R s m args below meth c D cy ad A nL cells slots Q σ tgt lv st) (kf : ¬ x < 0 → TT p l e R s m args below meth c D cy ad A nL cells slots Q σ pc' lv st) : TT p l e R s m args below meth c D cy ad A nL cells slots Q σ pc lv (.int x :: st) := by
  subst hp
  intro H locs ls hP hS hl
  exact lv_if_lt C.1 C.2.1 hdg ht (fun h => kt h H locs ls hP hS hl) (fun h => kf h H locs ls hP hS hl)
theorem tg_if_ge (C : Cx p s m args c cc nL own Ts D cy ad A) {x : Int32} {off : Int} (tgt : Nat) (hdg : decode cc pc = .ok (.ifCond .ge off, 3)) (ht : (pc : Int) + off = (tgt : Int)) (pc' : Nat) (hp : pc + 3 = pc') (kt : 0 ≤ x → TT p l e R s m args below meth c D cy ad A nL cells slots Q σ tgt lv st) (kf : ¬ 0 ≤ x → TT p l e R s m args below meth c D cy ad A nL cells slots Q σ pc' lv st) : TT p l e R s m args below meth c D cy ad A nL cells slots Q σ pc lv (.int x :: st) := by
  subst hp
  intro H locs ls hP hS hl
  exact lv_if_ge C.1 C.2.1 hdg ht (fun h => kt h H locs ls hP hS hl) (fun h => kf h H locs ls hP hS hl)
theorem tg_if_gt (C : Cx p s m args c cc nL own Ts D cy ad A) {x : Int32} {off : Int} (tgt : Nat) (hdg : decode cc pc = .ok (.ifCond .gt off, 3)) (ht : (pc : Int) + off = (tgt : Int)) (pc' : Nat) (hp : pc + 3 = pc') (kt : 0 < x → TT p l e R s m args below meth c D cy ad A nL cells slots Q σ tgt lv st) (kf : ¬ 0 < x → TT p l e R s m args below meth c D cy ad A nL cells slots Q σ pc' lv st) : TT p l e R s m args below meth c D cy ad A nL cells slots Q σ pc lv (.int x :: st) := by
  subst hp
  intro H locs ls hP hS hl
  exact lv_if_gt C.1 C.2.1 hdg ht (fun h => kt h H locs ls hP hS hl) (fun h => kf h H locs ls hP hS hl)
theorem tg_if_le (C : Cx p s m args c cc nL own Ts D cy ad A) {x : Int32} {off : Int} (tgt : Nat) (hdg : decode cc pc = .ok (.ifCond .le off, 3)) (ht : (pc : Int) + off = (tgt : Int)) (pc' : Nat) (hp : pc + 3 = pc') (kt : x ≤ 0 → TT p l e R s m args below meth c D cy ad A nL cells slots Q σ tgt lv st) (kf : ¬ x ≤ 0 → TT p l e R s m args below meth c D cy ad A nL cells slots Q σ pc' lv st) : TT p l e R s m args below meth c D cy ad A nL cells slots Q σ pc lv (.int x :: st) := by
  subst hp
  intro H locs ls hP hS hl
  exact lv_if_le C.1 C.2.1 hdg ht (fun h => kt h H locs ls hP hS hl) (fun h => kf h H locs ls hP hS hl)
theorem tg_if_ne (C : Cx p s m args c cc nL own Ts D cy ad A) {x : Int32} {off : Int} (tgt : Nat) (hdg : decode cc pc = .ok (.ifCond .ne off, 3)) (ht : (pc : Int) + off = (tgt : Int)) (pc' : Nat) (hp : pc + 3 = pc') (kt : ¬ x = 0 → TT p l e R s m args below meth c D cy ad A nL cells slots Q σ tgt lv st) (kf : x = 0 → TT p l e R s m args below meth c D cy ad A nL cells slots Q σ pc' lv st) : TT p l e R s m args below meth c D cy ad A nL cells slots Q σ pc lv (.int x :: st) := by
  subst hp
  intro H locs ls hP hS hl
  exact lv_if_ne C.1 C.2.1 hdg ht (fun h => kt h H locs ls hP hS hl) (fun h => kf h H locs ls hP hS hl)
theorem tg_sub {lv' : List (Nat × Value)} (ks : List Nat) (hl0 : lv_pick lv ks = lv') (k : TT p l e R s m args below meth c D cy ad A nL cells slots Q σ pc lv' st) : TT p l e R s m args below meth c D cy ad A nL cells slots Q σ pc lv st := fun H locs ls hP hS hl => k H locs ls hP hS (lv_sub hl ks hl0)
theorem tg_widen {k n : Nat} (h1 : cells ≤ k) (h2 : slots ≤ n) (kk : TT p l e R s m args below meth c D cy ad A nL k n Q σ pc lv st) : TT p l e R s m args below meth c D cy ad A nL cells slots Q σ pc lv st := fun H locs ls hP hS hl => W.widen h1 h2 (kk H locs ls hP hS hl)
theorem tg_get (C : Cx p s m args c cc nL own Ts D cy ad A) {ci N : Nat} {Cn ref : String} {T : u_T} (i : Nat) {fs : List Value} {v : Value} {index : Nat} (hi : i < 89) (he : ent ad cy i (σ i) = .inr (ci, fs)) (hc : vwCl[ci]? = some (Cn, T, N)) (hin : ∀ w ∈ u_ws Cn T N, w ∈ Ts) (k : Nat) (hk : k < N) (hlink : Cond.fieldLink own index ref (T k).2.1 (T k).2.2.1 ∈ Ts) (hsame : (T k).1 = ref) (hv : fs[k]? = some v) (hdg : decode cc pc = .ok (.getfield index, 3)) (pc' : Nat) (hp : pc + 3 = pc') (kk : TT p l e R s m args below meth c D cy ad A nL cells slots Q σ pc' lv (v :: st)) : TT p l e R s m args below meth c D cy ad A nL cells slots Q σ pc lv (.ref (ad i) :: st) := by
  subst hp
  intro H locs ls hP hS hl
  exact va_get (own := own) (C := Cn) (T := T) (N := N) (ci := ci) (Ts := Ts) C.1 C.2.1 C.2.2.2.2.1 hin C.2.2.2.1 C.2.2.2.2.2.1 hP i (by rw [wld_at _ _ _ hi, he]) hc k hk (C.2.2.2.2.1 _ hlink) (fun _ h9 => by rw [hsame] at h9; exact h9) hv hdg (kk H locs ls hP hS hl)
theorem tg_put (C : Cx p s m args c cc nL own Ts D cy ad A) {ci N : Nat} {Cn ref : String} {T : u_T} (ty0 : Nat → FieldType) (hty : ∀ k, k < N → parseFieldDescriptor (T k).2.2.1 = some (ty0 k)) (hnm : ∀ a, a < N → ∀ b, b < N → a ≠ b → (T a).2.1 ≠ (T b).2.1) (i : Nat) {fs : List Value} {x : Int32} {index : Nat} (hi : i < 89) (he : ent ad cy i (σ i) = .inr (ci, fs)) (hc : vwCl[ci]? = some (Cn, T, N)) (hin : ∀ w ∈ u_ws Cn T N, w ∈ Ts) (k : Nat) (hk : k < N) (hlink : Cond.fieldLink own index ref (T k).2.1 (T k).2.2.1 ∈ Ts) (hsame : (T k).1 = ref) (hfin : (T k).2.2.2 = false) (hd : parseFieldDescriptor (T k).2.2.1 = some .int) (hl9 : k < fs.length) (he2 : ent ad cy i (upd (σ i) k x) = .inr (ci, fs.set k (.int x))) (hdg : decode cc pc = .ok (.putfield index, 3)) (pc' : Nat) (hp : pc + 3 = pc') (kk : TT p l e R s m args below meth c D cy ad A nL cells slots Q (su σ i k x) pc' lv st) : TT p l e R s m args below meth c D cy ad A nL cells slots Q σ pc lv (.int x :: .ref (ad i) :: st) := by
  subst hp
  intro H locs ls hP hS hl
  refine va_put (own := own) (C := Cn) (T := T) (N := N) (ci := ci) (Ts := Ts) (ty := .int) C.1 C.2.1 C.2.2.2.2.1 hin ty0 hty hnm C.2.2.2.1 C.2.2.2.2.2.1 hP (C.2.2.2.2.2.2.1.D C.2.2.2.2.2.2.2.1 cy σ) hS i (by rw [wld_at _ _ _ hi, he]) hc k hk (C.2.2.2.2.1 _ hlink) (fun _ h9 => by rw [hsame] at h9; exact h9) hfin hd rfl rfl hl9 hdg (fun H1 locs1 hP1 _ hS1 => kk H1 locs1 ls ?_ hS1 hl)
  rw [← he2, wld_set] at hP1
  exact hP1
theorem tg_iald (C : Cx p s m args c cc nL own Ts D cy ad A) (i : Nat) {n : Nat} {x : Int32} (hi : i < 89) (he : ent ad cy i (σ i) = .inl (cy 0, n, .inl (σ i))) (j : Nat) (hx : x = nI j) (hj : j < n) (hn : n < 1000) (hdg : decode cc pc = .ok (.iaload, 1)) (pc' : Nat) (hp : pc + 1 = pc') (kk : TT p l e R s m args below meth c D cy ad A nL cells slots Q σ pc' lv (.int (σ i j) :: st)) : TT p l e R s m args below meth c D cy ad A nL cells slots Q σ pc lv (.int x :: .ref (ad i) :: st) := by
  subst hp
  subst hx
  intro H locs ls hP hS hl
  refine va_iald C.1 C.2.1 C.2.2.2.2.2.1 hP i 0 (by rw [wld_at _ _ _ hi, he]) rfl (vp_in_nI hj (by omega)) hdg ?_
  rw [nI_clamp (by omega)]
  exact kk H locs ls hP hS hl
theorem tg_iast (C : Cx p s m args c cc nL own Ts D cy ad A) (i : Nat) {n : Nat} {x v : Int32} (hi : i < 89) (he : ∀ f, ent ad cy i f = .inl (cy 0, n, .inl f)) (j : Nat) (hx : x = nI j) (hj : j < n) (hn : n < 1000) (hdg : decode cc pc = .ok (.iastore, 1)) (pc' : Nat) (hp : pc + 1 = pc') (kk : TT p l e R s m args below meth c D cy ad A nL cells slots Q (su σ i j v) pc' lv st) : TT p l e R s m args below meth c D cy ad A nL cells slots Q σ pc lv (.int v :: .int x :: .ref (ad i) :: st) := by
  subst hp
  subst hx
  intro H locs ls hP hS hl
  refine va_iast C.1 C.2.1 C.2.2.2.2.2.1 hP (C.2.2.2.2.2.2.1.D C.2.2.2.2.2.2.2.1 cy σ) hS i 0 (by rw [wld_at _ _ _ hi, he]) rfl (vp_in_nI hj (by omega)) hdg (fun H1 locs1 hP1 _ hS1 => kk H1 locs1 ls ?_ hS1 hl)
  rw [← he, wld_set, nI_clamp (by omega)] at hP1
  exact hP1
theorem tg_aald (C : Cx p s m args c cc nL own Ts D cy ad A) (i : Nat) {n b : Nat} (t0 : Nat) {cA : ClassId} {ty : FieldType} {x : Int32} (hi : i < 89) (he : ent ad cy i (σ i) = .inl (cA, n, .inr (.inr (.inr (.inr (fun t => some (ad (b + t)))))))) (ht : (tysO cy)[t0]? = some (cA, ty)) (hty : ty.isReference = true) (j : Nat) (hx : x = nI j) (hj : j < n) (hn : n < 1000) (hdg : decode cc pc = .ok (.aaload, 1)) (pc' : Nat) (hp : pc + 1 = pc') (kk : TT p l e R s m args below meth c D cy ad A nL cells slots Q σ pc' lv (.ref (ad (b + j)) :: st)) : TT p l e R s m args below meth c D cy ad A nL cells slots Q σ pc lv (.int x :: .ref (ad i) :: st) := by
  subst hp
  subst hx
  intro H locs ls hP hS hl
  have hin : vp_in (nI j) n := vp_in_nI hj (by omega)
  have h0 := hP i _ (wld_at ad cy σ hi)
  rw [he] at h0
  exact W.aald (v := .ref (ad (b + j))) (ty := ty) C.1 C.2.1 h0 ((C.2.2.2.2.2.1.2 t0 _ ht).1 n (fun t => va_rf (some (ad (b + t))))) hty (fun q => by cases q) (by show ¬ (nI j < 0 ∨ (arrV _ _ _).slots.size ≤ _); rw [arrV_size]; exact hin) (by show (arrV _ _ _).slots[_]? = _; rw [nI_clamp (by omega), arrV_read _ _ hj]; rfl) rfl rfl hdg (kk H locs ls hP hS hl)

/-! contracts over the whole world: start in σ, end in some σ' -/
def Pr (D : va_G) (cy : Nat → ClassId) (ad : Nat → Nat) (a : List Value) (σ : sS) (sz : Nat) : Array Value → State → Prop := va_Pc a (fun U => U.heap.size = sz ∧ va_P D vwCl (wld ad cy σ) U.heap ∧ va_K D vwCl (tysO cy) U)
def Bw (D : va_G) (cy : Nat → ClassId) (ad : Nat → Nat) (σ : sS) (t : State) : Prop := va_P D vwCl (wld ad cy σ) t.heap ∧ va_K D vwCl (tysO cy) t
abbrev Rm (fr lo : Nat) : Room := { frames := fr, cells := 0, slots := 0, locals := lo }
/-- a method that answers an int (or a truth value) -/
def Mi (l : Launch) (y : MethodName) (ws : List Cond) (fr lo : Nat) (D : va_G) (cy : Nat → ClassId) (ad : Nat → Nat) (a : List Value) (σ : sS) (post : Int32 → sS → Prop) : Prop := ∀ sz, Met l y ws (Rm fr lo) (Pr D cy ad a σ sz) (va_Qi post (Bw D cy ad) (Aw ad sz)) 0 0 (Aw ad sz)
/-- a method without an answer -/
def Mv (l : Launch) (y : MethodName) (ws : List Cond) (fr lo : Nat) (D : va_G) (cy : Nat → ClassId) (ad : Nat → Nat) (a : List Value) (σ : sS) (post : sS → Prop) : Prop := ∀ sz, Met l y ws (Rm fr lo) (Pr D cy ad a σ sz) (va_Qv post (Bw D cy ad) (Aw ad sz)) 0 0 (Aw ad sz)
theorem Pr.blind {a : List Value} {sz : Nat} : FrameBlind (Pr D cy ad a σ sz) := fun a U g mk q => by
  obtain ⟨q0, q1, qP, qK⟩ := q
  exact ⟨q0, q1, qP, va_K.moved (u := U) (U := U.calling g mk a) (Vm.Alike.refl U.vm) qK⟩
theorem Aw.cx (C : Cx p s m args c cc nL own Ts D cy ad A) {sz q : Nat} (hs : s.heap.size ≤ sz) (h : Aw ad sz q) : A q := by
  rcases h with ⟨i, hi, rfl⟩ | h
  · exact C.2.2.2.2.2.2.2.1 i hi
  · exact C.2.2.2.2.2.2.2.2 q (Nat.le_trans hs h)
theorem Mi.of0 {y : MethodName} {ws ws' : List Cond} {fr lo : Nat} {a : List Value} {Qc : Array Value → State → Outcome → State → Prop} {sz : Nat} {ret : Option FieldType} (hDis : Dis ad) (hy : plainName y.cls = true) (hw : ws = Cond.code y cc nL ret :: ws') (lv0 : List (Nat × Value)) (hlv : lv_args 0 a = lv0) (hle : (lg_sl a).length ≤ nL) (hown : y.cls = own)
    (body : ∀ (p : Program) (e : Env) (s : State) (m : MethodId) (below : List Frame) (meth : Method) (c : Code), s.heap.size = sz → Cx p s m a.toArray c cc nL own ws D cy ad (Aw ad sz) → meth.sig.returnType = ret → meth.locks = false → TT p l e (Rm fr lo) s m a.toArray below meth c D cy ad (Aw ad sz) nL 0 0 (MQ below Qc a.toArray s 0 0 (Aw ad sz)) σ 0 lv0 []) : Met l y ws (Rm fr lo) (Pr D cy ad a σ sz) Qc 0 0 (Aw ad sz) := by
  refine Met.ofW (cc := cc) (maxL := nL) (ret := ret) hy hw ?_
  intro p e s m args below meth c s₁ B hml hv
  obtain ⟨rfl, hsz, hP, hK⟩ := hv
  have hts := atoms_spec (ws := ws) B.pre
  have hown' : s.vm.findClass own = some m.cls := hown ▸ findClass_of_methodNamed B.named
  rw [lg_entry_eq]
  exact body p e s m below meth c hsz ⟨B.exec, B.bytes, hml, hown', hts, hK, hDis, fun i hi => Or.inl ⟨i, hi, rfl⟩, fun q hq => Or.inr (hsz ▸ hq)⟩ B.returns B.notSynchronized s.heap [] _ hP va_S.rf (hlv ▸ lv_entry a hle)
theorem tg_iret (C : Cx p s m args c cc nL own Ts D cy ad A) {post : Int32 → sS → Prop} {v : Int32} (hr : meth.sig.returnType = some .int) (hlk : meth.locks = false) (hdg : decode cc pc = .ok (.ireturn, 1)) (hpost : post v σ) : TT p l e R s m args below meth c D cy ad A nL cells slots (MQ below (va_Qi post (Bw D cy ad) A) args s cells slots A) σ pc lv [.int v] := by
  intro H locs ls hP hS hl
  exact W.iret (v := v) C.1 C.2.1 hr (fun t ht hW => ⟨⟨v, σ, rfl, hpost, by rw [ht]; exact hP, va_K.moved hW.alike C.2.2.2.2.2.1⟩, hS.F ht⟩) hS.2.2 hdg hlk
theorem tg_zret (C : Cx p s m args c cc nL own Ts D cy ad A) {post : Int32 → sS → Prop} {v : Int32} (hr : meth.sig.returnType = some .boolean) (hlk : meth.locks = false) (hn : narrow .boolean (.int v) = .int v) (hdg : decode cc pc = .ok (.ireturn, 1)) (hpost : post v σ) : TT p l e R s m args below meth c D cy ad A nL cells slots (MQ below (va_Qi post (Bw D cy ad) A) args s cells slots A) σ pc lv [.int v] := by
  intro H locs ls hP hS hl
  exact W.zret (v := v) (ty := .boolean) C.1 C.2.1 hr hn (fun t ht hW => ⟨⟨v, σ, rfl, hpost, by rw [ht]; exact hP, va_K.moved hW.alike C.2.2.2.2.2.1⟩, hS.F ht⟩) hS.2.2 hdg hlk
theorem tg_vret (C : Cx p s m args c cc nL own Ts D cy ad A) {post : sS → Prop} (hr : meth.sig.returnType = none) (hlk : meth.locks = false) (hdg : decode cc pc = .ok (.return_, 1)) (hpost : post σ) : TT p l e R s m args below meth c D cy ad A nL cells slots (MQ below (va_Qv post (Bw D cy ad) A) args s cells slots A) σ pc lv [] := by
  intro H locs ls hP hS hl
  exact W.vret C.1 C.2.1 hr (fun t ht hW => ⟨⟨σ, rfl, hpost, by rw [ht]; exact hP, va_K.moved hW.alike C.2.2.2.2.2.1⟩, hS.F ht⟩) hS.2.2 hdg hlk

theorem tg_callVi (C : Cx p s m args c cc nL own Ts D cy ad A) {y : MethodName} {ws : List Cond} {fr lo index maxL n : Nat} {bytes : ByteArray} {ret : Option FieldType} (i : Nat) {ci N : Nat} {Cn : String} {T : u_T} {fs : List Value} (hi : i < 89) (he : ent ad cy i (σ i) = .inr (ci, fs)) (hc : vwCl[ci]? = some (Cn, T, N)) {As : List Value} {post : Int32 → sS → Prop} (hM : Mi l y ws fr lo D cy ad (Value.ref (ad i) :: As) σ post) (cw : CallW R s args own Cn index y bytes maxL ret ws (Rm fr lo) 0 0 n) (hn : As.length = n) {stk : List Value} (hst : stk = As.reverse ++ .ref (ad i) :: st) (hcat : (st.map fun v => v.category).sum ≤ 8) (hcl : cells ≤ R.cells ∧ slots ≤ R.slots) (hdg : decode cc pc = .ok (.invokevirtual index, 3)) (pc' : Nat) (hp : pc + 3 = pc')
    (kk : ∀ (r : Int32) (τ : sS), post r τ → TT p l e R s m args below meth c D cy ad A nL cells slots Q τ pc' lv (.int r :: st)) : TT p l e R s m args below meth c D cy ad A nL cells slots Q σ pc lv stk := by
  subst hp
  subst hst
  intro H locs ls hP hS hl
  exact va_calli (va_runV (As := As) (rest := st) ⟨C.1, C.2.1, C.2.2.1, C.2.2.2.1, C.2.2.2.2.1⟩ (hM H.size) cw ⟨Pr.blind, va_recv C.2.2.2.2.2.1 hP hc (q0 := i) (by rw [wld_at _ _ _ hi, he]), fun U hU hW => ⟨rfl, by rw [hU], by rw [hU]; exact hP, va_K.moved hW.alike C.2.2.2.2.2.1⟩⟩ rfl hn hl.1 rfl (lv_room hcat) hdg hcl) hS (fun q _ h => Aw.cx C hS.1 h) (fun q h => Aw.cx C hS.1 h) (fun r u t H1 locs1 ht hvm hw hB _ _ hS1 => kk r u hw H1 locs1 ls (by rw [← ht]; exact hB.1) hS1 hl)
theorem tg_callVv (C : Cx p s m args c cc nL own Ts D cy ad A) {y : MethodName} {ws : List Cond} {fr lo index maxL n : Nat} {bytes : ByteArray} {ret : Option FieldType} (i : Nat) {ci N : Nat} {Cn : String} {T : u_T} {fs : List Value} (hi : i < 89) (he : ent ad cy i (σ i) = .inr (ci, fs)) (hc : vwCl[ci]? = some (Cn, T, N)) {As : List Value} {post : sS → Prop} (hM : Mv l y ws fr lo D cy ad (Value.ref (ad i) :: As) σ post) (cw : CallW R s args own Cn index y bytes maxL ret ws (Rm fr lo) 0 0 n) (hn : As.length = n) {stk : List Value} (hst : stk = As.reverse ++ .ref (ad i) :: st) (hcat : (st.map fun v => v.category).sum ≤ 8) (hcl : cells ≤ R.cells ∧ slots ≤ R.slots) (hdg : decode cc pc = .ok (.invokevirtual index, 3)) (pc' : Nat) (hp : pc + 3 = pc')
    (kk : ∀ (τ : sS), post τ → TT p l e R s m args below meth c D cy ad A nL cells slots Q τ pc' lv st) : TT p l e R s m args below meth c D cy ad A nL cells slots Q σ pc lv stk := by
  subst hp
  subst hst
  intro H locs ls hP hS hl
  exact va_callv (va_runV (As := As) (rest := st) ⟨C.1, C.2.1, C.2.2.1, C.2.2.2.1, C.2.2.2.2.1⟩ (hM H.size) cw ⟨Pr.blind, va_recv C.2.2.2.2.2.1 hP hc (q0 := i) (by rw [wld_at _ _ _ hi, he]), fun U hU hW => ⟨rfl, by rw [hU], by rw [hU]; exact hP, va_K.moved hW.alike C.2.2.2.2.2.1⟩⟩ rfl hn hl.1 rfl (lv_room hcat) hdg hcl) hS (fun q _ h => Aw.cx C hS.1 h) (fun q h => Aw.cx C hS.1 h) (fun u t H1 locs1 ht hvm hw hB _ _ hS1 => kk u hw H1 locs1 ls (by rw [← ht]; exact hB.1) hS1 hl)
theorem tg_callSi (C : Cx p s m args c cc nL own Ts D cy ad A) {y : MethodName} {ws : List Cond} {fr lo index maxL n : Nat} {bytes : ByteArray} {ret : Option FieldType} {As : List Value} {post : Int32 → sS → Prop} (hM : Mi l y ws fr lo D cy ad As σ post) (cw : CallB R s args own index y bytes maxL ret ws (Rm fr lo) 0 0 n ∧ (Cond.static y).before args s = true) (hn : As.length = n) {stk : List Value} (hst : stk = As.reverse ++ st) (hcat : (st.map fun v => v.category).sum ≤ 8) (hcl : cells ≤ R.cells ∧ slots ≤ R.slots) (hdg : decode cc pc = .ok (.invokestatic index, 3)) (pc' : Nat) (hp : pc + 3 = pc')
    (kk : ∀ (r : Int32) (τ : sS), post r τ → TT p l e R s m args below meth c D cy ad A nL cells slots Q τ pc' lv (.int r :: st)) : TT p l e R s m args below meth c D cy ad A nL cells slots Q σ pc lv stk := by
  subst hp
  subst hst
  intro H locs ls hP hS hl
  exact va_calli (va_runS (As := As) (rest := st) ⟨C.1, C.2.1, C.2.2.1, C.2.2.2.1, C.2.2.2.2.1⟩ (hM H.size) cw ⟨Pr.blind, fun U hU hW => ⟨rfl, by rw [hU], by rw [hU]; exact hP, va_K.moved hW.alike C.2.2.2.2.2.1⟩⟩ rfl hn hl.1 rfl (lv_room hcat) hdg hcl) hS (fun q _ h => Aw.cx C hS.1 h) (fun q h => Aw.cx C hS.1 h) (fun r u t H1 locs1 ht hvm hw hB _ _ hS1 => kk r u hw H1 locs1 ls (by rw [← ht]; exact hB.1) hS1 hl)
theorem tg_callSv (C : Cx p s m args c cc nL own Ts D cy ad A) {y : MethodName} {ws : List Cond} {fr lo index maxL n : Nat} {bytes : ByteArray} {ret : Option FieldType} {As : List Value} {post : sS → Prop} (hM : Mv l y ws fr lo D cy ad As σ post) (cw : CallB R s args own index y bytes maxL ret ws (Rm fr lo) 0 0 n ∧ (Cond.static y).before args s = true) (hn : As.length = n) {stk : List Value} (hst : stk = As.reverse ++ st) (hcat : (st.map fun v => v.category).sum ≤ 8) (hcl : cells ≤ R.cells ∧ slots ≤ R.slots) (hdg : decode cc pc = .ok (.invokestatic index, 3)) (pc' : Nat) (hp : pc + 3 = pc')
    (kk : ∀ (τ : sS), post τ → TT p l e R s m args below meth c D cy ad A nL cells slots Q τ pc' lv st) : TT p l e R s m args below meth c D cy ad A nL cells slots Q σ pc lv stk := by
  subst hp
  subst hst
  intro H locs ls hP hS hl
  exact va_callv (va_runS (As := As) (rest := st) ⟨C.1, C.2.1, C.2.2.1, C.2.2.2.1, C.2.2.2.2.1⟩ (hM H.size) cw ⟨Pr.blind, fun U hU hW => ⟨rfl, by rw [hU], by rw [hU]; exact hP, va_K.moved hW.alike C.2.2.2.2.2.1⟩⟩ rfl hn hl.1 rfl (lv_room hcat) hdg hcl) hS (fun q _ h => Aw.cx C hS.1 h) (fun q h => Aw.cx C hS.1 h) (fun u t H1 locs1 ht hvm hw hB _ _ hS1 => kk u hw H1 locs1 ls (by rw [← ht]; exact hB.1) hS1 hl)
theorem Mi.of {y : MethodName} {ws ws' : List Cond} {fr lo : Nat} {a : List Value} {post : Int32 → sS → Prop} (hDis : Dis ad) (hy : plainName y.cls = true) (hw : ws = Cond.code y cc nL (some .int) :: ws') (lv0 : List (Nat × Value)) (hlv : lv_args 0 a = lv0) (hle : (lg_sl a).length ≤ nL) (hown : y.cls = own)
    (body : ∀ (p : Program) (e : Env) (s : State) (m : MethodId) (args : Array Value) (below : List Frame) (meth : Method) (c : Code) (A : Nat → Prop) (Q : State → Prop), Cx p s m args c cc nL own ws D cy ad A → (∀ {pc : Nat} {lv : List (Nat × Value)} {v : Int32} {τ : sS}, decode cc pc = .ok (.ireturn, 1) → post v τ → TT p l e (Rm fr lo) s m args below meth c D cy ad A nL 0 0 Q τ pc lv [.int v]) → TT p l e (Rm fr lo) s m args below meth c D cy ad A nL 0 0 Q σ 0 lv0 []) : Mi l y ws fr lo D cy ad a σ post := by
  intro sz
  refine Mi.of0 hDis hy hw lv0 hlv hle hown ?_
  intro p e s m below meth c hsz C hr hlk
  subst hsz
  exact body p e s m a.toArray below meth c _ _ C (fun hdg hp => tg_iret C hr hlk hdg hp)
theorem Mz.of {y : MethodName} {ws ws' : List Cond} {fr lo : Nat} {a : List Value} {post : Int32 → sS → Prop} (hDis : Dis ad) (hy : plainName y.cls = true) (hw : ws = Cond.code y cc nL (some .boolean) :: ws') (lv0 : List (Nat × Value)) (hlv : lv_args 0 a = lv0) (hle : (lg_sl a).length ≤ nL) (hown : y.cls = own)
    (body : ∀ (p : Program) (e : Env) (s : State) (m : MethodId) (args : Array Value) (below : List Frame) (meth : Method) (c : Code) (A : Nat → Prop) (Q : State → Prop), Cx p s m args c cc nL own ws D cy ad A → (∀ {pc : Nat} {lv : List (Nat × Value)} {v : Int32} {τ : sS}, decode cc pc = .ok (.ireturn, 1) → narrow .boolean (.int v) = .int v → post v τ → TT p l e (Rm fr lo) s m args below meth c D cy ad A nL 0 0 Q τ pc lv [.int v]) → TT p l e (Rm fr lo) s m args below meth c D cy ad A nL 0 0 Q σ 0 lv0 []) : Mi l y ws fr lo D cy ad a σ post := by
  intro sz
  refine Mi.of0 hDis hy hw lv0 hlv hle hown ?_
  intro p e s m below meth c hsz C hr hlk
  subst hsz
  exact body p e s m a.toArray below meth c _ _ C (fun hdg hn hp => tg_zret C hr hlk hn hdg hp)
theorem Mv.of {y : MethodName} {ws ws' : List Cond} {fr lo : Nat} {a : List Value} {post : sS → Prop} (hDis : Dis ad) (hy : plainName y.cls = true) (hw : ws = Cond.code y cc nL none :: ws') (lv0 : List (Nat × Value)) (hlv : lv_args 0 a = lv0) (hle : (lg_sl a).length ≤ nL) (hown : y.cls = own)
    (body : ∀ (p : Program) (e : Env) (s : State) (m : MethodId) (args : Array Value) (below : List Frame) (meth : Method) (c : Code) (A : Nat → Prop) (Q : State → Prop), Cx p s m args c cc nL own ws D cy ad A → (∀ {pc : Nat} {lv : List (Nat × Value)} {τ : sS}, decode cc pc = .ok (.return_, 1) → post τ → TT p l e (Rm fr lo) s m args below meth c D cy ad A nL 0 0 Q τ pc lv []) → TT p l e (Rm fr lo) s m args below meth c D cy ad A nL 0 0 Q σ 0 lv0 []) : Mv l y ws fr lo D cy ad a σ post := by
  intro sz
  refine Mi.of0 hDis hy hw lv0 hlv hle hown ?_
  intro p e s m below meth c hsz C hr hlk
  subst hsz
  exact body p e s m a.toArray below meth c _ _ C (fun hdg hp => tg_vret C hr hlk hdg hp)
theorem tg_top {x y : Int32} (h : x = y) (k : TT p l e R s m args below meth c D cy ad A nL cells slots Q σ pc lv (.int y :: st)) : TT p l e R s m args below meth c D cy ad A nL cells slots Q σ pc lv (.int x :: st) := h ▸ k
theorem tg_nm {x : Int32} (k : ∀ y : Int32, y = x → TT p l e R s m args below meth c D cy ad A nL cells slots Q σ pc lv (.int y :: st)) : TT p l e R s m args below meth c D cy ad A nL cells slots Q σ pc lv (.int x :: st) := k x rfl
theorem tg_sig {τ : sS} (h : σ = τ) (k : TT p l e R s m args below meth c D cy ad A nL cells slots Q τ pc lv st) : TT p l e R s m args below meth c D cy ad A nL cells slots Q σ pc lv st := h ▸ k
theorem tg_mmin (C : Cx p s m args c cc nL own Ts D cy ad A) {index : Nat} (hlink : Cond.methodLink own index Lib.Math.min.name ∈ Ts) (hstat : Cond.static Lib.Math.min.name ∈ Ts) (hini : Cond.initialized "java/lang/Math" ∈ Ts) (hcode : Cond.code Lib.Math.min.name Lib.Math.min.code 2 (some .int) ∈ Ts) (hframes : 1 ≤ R.frames) (hlocals : (st.map fun v => v.category).sum + 13 ≤ R.locals) (hcl : cells ≤ R.cells ∧ slots ≤ R.slots) {x y : Int32} (hdg : decode cc pc = .ok (.invokestatic index, 3)) (pc' : Nat) (hp : pc + 3 = pc') (k : TT p l e R s m args below meth c D cy ad A nL cells slots Q σ pc' lv (.int (if y < x then y else x) :: st)) : TT p l e R s m args below meth c D cy ad A nL cells slots Q σ pc lv (.int y :: .int x :: st) := by
  subst hp
  intro H locs ls hP hS hl
  exact va_mmin C.1 C.2.1 (C.2.2.1.trans hl.1.symm) C.2.2.2.1 (C.2.2.2.2.1 _ hlink) (C.2.2.2.2.1 _ hstat) (C.2.2.2.2.1 _ hini) (C.2.2.2.2.1 _ hcode) hframes hlocals hcl.1 hcl.2 hdg (k H locs ls hP hS hl)
theorem tg_mabs (C : Cx p s m args c cc nL own Ts D cy ad A) {index : Nat} (hlink : Cond.methodLink own index Lib.Math.abs.name ∈ Ts) (hstat : Cond.static Lib.Math.abs.name ∈ Ts) (hini : Cond.initialized "java/lang/Math" ∈ Ts) (hcode : Cond.code Lib.Math.abs.name Lib.Math.abs.code 1 (some .int) ∈ Ts) (hframes : 1 ≤ R.frames) (hlocals : (st.map fun v => v.category).sum + 13 ≤ R.locals) (hcl : cells ≤ R.cells ∧ slots ≤ R.slots) {x : Int32} (hdg : decode cc pc = .ok (.invokestatic index, 3)) (pc' : Nat) (hp : pc + 3 = pc') (k : TT p l e R s m args below meth c D cy ad A nL cells slots Q σ pc' lv (.int (if 0 ≤ x then x else 0 - x) :: st)) : TT p l e R s m args below meth c D cy ad A nL cells slots Q σ pc lv (.int x :: st) := by
  subst hp
  intro H locs ls hP hS hl
  exact va_mabs C.1 C.2.1 (C.2.2.1.trans hl.1.symm) C.2.2.2.1 (C.2.2.2.2.1 _ hlink) (C.2.2.2.2.1 _ hstat) (C.2.2.2.2.1 _ hini) (C.2.2.2.2.1 _ hcode) hframes hlocals hcl.1 hcl.2 hdg (k H locs ls hP hS hl)
end TTS
/-! what lies where -/
theorem e_0 (ad : Nat → Nat) (cy : Nat → ClassId) (f : Nat → Int32) : ent ad cy 0 f = .inr (4, [.ref (ad 1), .ref (ad 3), .ref (ad 5), .ref (ad 16), .ref (ad 51), .int (f 5), .int (f 6), .int (f 7)]) := rfl
theorem e_1 (ad : Nat → Nat) (cy : Nat → ClassId) (f : Nat → Int32) : ent ad cy 1 f = .inr (2, [.ref (ad 2), .int (f 1)]) := rfl
theorem e_2 (ad : Nat → Nat) (cy : Nat → ClassId) (f : Nat → Int32) : ent ad cy 2 f = .inl (cy 0, 16, .inl f) := rfl
theorem e_5 (ad : Nat → Nat) (cy : Nat → ClassId) (f : Nat → Int32) : ent ad cy 5 f = .inl (cy 1, 5, .inr (.inr (.inr (.inr (fun t => some (ad (6 + t))))))) := rfl
theorem e_16 (ad : Nat → Nat) (cy : Nat → ClassId) (f : Nat → Int32) : ent ad cy 16 f = .inr (1, [.ref (ad 17), .ref (ad 18), .ref (ad 19), .ref (ad 20), .int (f 4)]) := rfl
theorem e_17 (ad : Nat → Nat) (cy : Nat → ClassId) (f : Nat → Int32) : ent ad cy 17 f = .inl (cy 0, 30, .inl f) := rfl
theorem e_18 (ad : Nat → Nat) (cy : Nat → ClassId) (f : Nat → Int32) : ent ad cy 18 f = .inl (cy 0, 30, .inl f) := rfl
theorem e_19 (ad : Nat → Nat) (cy : Nat → ClassId) (f : Nat → Int32) : ent ad cy 19 f = .inl (cy 0, 30, .inl f) := rfl
theorem e_20 (ad : Nat → Nat) (cy : Nat → ClassId) (f : Nat → Int32) : ent ad cy 20 f = .inl (cy 2, 30, .inr (.inr (.inr (.inr (fun t => some (ad (21 + t))))))) := rfl
theorem e_51 (ad : Nat → Nat) (cy : Nat → ClassId) (f : Nat → Int32) : ent ad cy 51 f = .inr (0, [.ref (ad 52), .ref (ad 70), .ref (ad 71), .int (f 3), .int (f 4), .int (f 5)]) := rfl
theorem e_52 (ad : Nat → Nat) (cy : Nat → ClassId) (f : Nat → Int32) : ent ad cy 52 f = .inl (cy 2, 17, .inr (.inr (.inr (.inr (fun t => some (ad (53 + t))))))) := rfl
theorem e_70 (ad : Nat → Nat) (cy : Nat → ClassId) (f : Nat → Int32) : ent ad cy 70 f = .inl (cy 0, 17, .inl f) := rfl
theorem e_71 (ad : Nat → Nat) (cy : Nat → ClassId) (f : Nat → Int32) : ent ad cy 71 f = .inl (cy 2, 17, .inr (.inr (.inr (.inr (fun t => some (ad (72 + t))))))) := rfl
/-- cell a is a Tally, its counts in cell b -/
def isTy (a b : Nat) : Prop := (a = 3 ∧ b = 4) ∨ (6 ≤ a ∧ a < 11 ∧ b = a + 5)
theorem isTy.own : isTy 3 4 := Or.inl ⟨rfl, rfl⟩
theorem isTy.at {t : Nat} (h : t < 5) : isTy (6 + t) (11 + t) := Or.inr ⟨by omega, by omega, by omega⟩
theorem isTy.lt {a b : Nat} (h : isTy a b) : a < 89 := by rcases h with h | h <;> omega
theorem isTy.lt2 {a b : Nat} (h : isTy a b) : b < 89 := by rcases h with h | h <;> omega
theorem isTy.ne {a b : Nat} (h : isTy a b) : b ≠ a := by rcases h with h | h <;> omega
theorem isTy.e (ad : Nat → Nat) (cy : Nat → ClassId) {a b : Nat} (h : isTy a b) (f : Nat → Int32) : ent ad cy a f = .inr (3, [.ref (ad b), .int (f 1)]) := by
  rcases h with ⟨rfl, rfl⟩ | ⟨h1, h2, rfl⟩
  · rfl
  · unfold ent
    rw [if_neg (by omega), if_neg (by omega), if_neg (by omega), if_neg (by omega), if_neg (by omega), if_neg (by omega), if_pos h2]
theorem isTy.e2 (ad : Nat → Nat) (cy : Nat → ClassId) {a b : Nat} (h : isTy a b) (f : Nat → Int32) : ent ad cy b f = .inl (cy 0, 36, .inl f) := by
  rcases h with ⟨rfl, rfl⟩ | ⟨h1, h2, rfl⟩
  · rfl
  · unfold ent
    rw [if_neg (by omega), if_neg (by omega), if_neg (by omega), if_neg (by omega), if_neg (by omega), if_neg (by omega), if_neg (by omega), if_pos (by omega)]
theorem e_rowR (ad : Nat → Nat) (cy : Nat → ClassId) {t : Nat} (h : t < 30) (f : Nat → Int32) : ent ad cy (21 + t) f = .inl (cy 0, 17, .inl f) := by
  unfold ent
  repeat rw [if_neg (by omega)]
  rw [if_pos (by omega)]
theorem e_rowC (ad : Nat → Nat) (cy : Nat → ClassId) {t : Nat} (h : t < 17) (f : Nat → Int32) : ent ad cy (53 + t) f = .inl (cy 0, 5, .inl f) := by
  unfold ent
  repeat rw [if_neg (by omega)]
  rw [if_pos (by omega)]
theorem e_rowB (ad : Nat → Nat) (cy : Nat → ClassId) {t : Nat} (h : t < 17) (f : Nat → Int32) : ent ad cy (72 + t) f = .inl (cy 0, 5, .inl f) := by
  unfold ent
  repeat rw [if_neg (by omega)]
  rw [if_pos (by omega)]
end
section
/-! ===== plain words: a text's runs, costs, ranks, sums ===== -/
theorem z_eq {a : Nat} (h : a < 2 ^ 31) : nI a = 0 ↔ a = 0 := by rw [← nI_0, nI_eq h (by decide)]
theorem z_gt {a : Nat} (h : a < 2 ^ 31) : 0 < nI a ↔ 0 < a := by rw [← nI_0, nI_ltI (by decide) h]
theorem z_le {a : Nat} (h : a < 2 ^ 31) : nI a ≤ 0 ↔ a = 0 := by rw [← nI_0, nI_leI h (by decide)]; omega
theorem z_nlt {a : Nat} (h : a < 2 ^ 31) : ¬ nI a < 0 := nI_pos h
theorem z_ge {a : Nat} (h : a < 2 ^ 31) : 0 ≤ nI a := nI_pos' h
theorem m1_lt : (-1 : Int32) < 0 := by decide
theorem m1_ne {a : Nat} (h : a < 2 ^ 31) : ¬ nI a = -1 := fun q => nI_pos h (by rw [q]; decide)
/-- the letter at place k of a text of n letters w, a gap (0) behind it -/
def ltr (n : Nat) (w : Nat → Nat) (k : Nat) : Nat := if k < n then w k else 0
/-- the run at place k -/
def rn (n : Nat) (w : Nat → Nat) (k : Nat) : Nat := 6 * (if k = 0 then 0 else ltr n w (k - 1)) + ltr n w k
/-- how many runs -/
def rc (n : Nat) : Nat := if n = 0 then 0 else n + 1
def Sp (σ : sS) (n : Nat) (w : Nat → Nat) : Prop := σ 1 1 = nI n ∧ n ≤ 16 ∧ ∀ k, k < n → σ 2 k = nI (w k) ∧ w k < 6
theorem ltr_lt {n : Nat} {w : Nat → Nat} (h : ∀ k, k < n → w k < 6) (k : Nat) : ltr n w k < 6 := by
  unfold ltr
  split
  · exact h k (by assumption)
  · omega
theorem rn_lt {n : Nat} {w : Nat → Nat} (h : ∀ k, k < n → w k < 6) (k : Nat) : rn n w k < 36 := by
  unfold rn
  have h1 := ltr_lt h k
  have h2 := ltr_lt h (k - 1)
  split <;> omega
theorem rc_le {n : Nat} (h : n ≤ 16) : rc n ≤ 17 := by unfold rc; split <;> omega
/-- cell a, with b its counts, counts c, and m in all -/
def Tl (σ : sS) (a b : Nat) (c : Nat → Nat) (m : Nat) : Prop := σ a 1 = nI m ∧ m ≤ 600 ∧ ∀ r, r < 36 → σ b r = nI (c r) ∧ c r ≤ 600
/-- how often a is doubled till it is b or more, at most f times -/
def dbl : Nat → Nat → Nat → Nat
  | 0, _, _ => 0
  | f + 1, a, b => if a < b then dbl f (a * 2) b + 1 else 0
theorem dbl_le : ∀ (f a b : Nat), dbl f a b ≤ f
  | 0, _, _ => Nat.le_refl 0
  | f + 1, a, b => by
    unfold dbl
    split
    · exact Nat.succ_le_succ (dbl_le f _ _)
    · exact Nat.zero_le _
/-- the cost of a run that was counted c times, of m in all -/
def costN (c m : Nat) : Nat := dbl 10 (c + 1) (m + 36)
theorem costN_le (c m : Nat) : costN c m ≤ 10 := dbl_le _ _ _
def sm (f : Nat → Nat) : Nat → Nat
  | 0 => 0
  | n + 1 => sm f n + f n
theorem sm_le {f : Nat → Nat} {B : Nat} : ∀ (n : Nat), (∀ k, k < n → f k ≤ B) → sm f n ≤ n * B
  | 0, _ => by simp [sm]
  | n + 1, h => by
    have h1 := sm_le n (fun k hk => h k (by omega))
    have h2 := h n (by omega)
    rw [Nat.succ_mul]
    exact Nat.add_le_add h1 h2
theorem sm_congr {f g : Nat → Nat} : ∀ (n : Nat), (∀ k, k < n → f k = g k) → sm f n = sm g n
  | 0, _ => rfl
  | n + 1, h => by
    show sm f n + f n = sm g n + g n
    rw [sm_congr n (fun k hk => h k (by omega)), h n (by omega)]
/-- ahead of run r stands run o -/
def ahd (c : Nat → Nat) (r o : Nat) : Nat := if c r < c o ∨ (c o = c r ∧ o < r) then 1 else 0
theorem ahd_le (c : Nat → Nat) (r o : Nat) : ahd c r o ≤ 1 := by unfold ahd; split <;> omega
def rkN (c : Nat → Nat) (r : Nat) : Nat := sm (ahd c r) 36
theorem rkN_le (c : Nat → Nat) (r : Nat) : rkN c r ≤ 36 := by
  exact Nat.le_trans (sm_le (f := ahd c r) (B := 1) 36 (fun k _ => ahd_le c r k)) (by decide)
/-- a rank as it is answered -/
def rkI (c : Nat → Nat) (r : Nat) : Int32 := if c r = 0 then -1 else nI (rkN c r)
/-- the first place from i on, of k, where f has x -/
def fsw (f : Nat → Int32) (x : Int32) : Nat → Nat → Nat
  | 0, i => i
  | k + 1, i => if f i = x then i else fsw f x k (i + 1)
theorem fsw_ge (f : Nat → Int32) (x : Int32) : ∀ (k i : Nat), i ≤ fsw f x k i ∧ fsw f x k i ≤ i + k
  | 0, i => ⟨Nat.le_refl _, Nat.le_refl _⟩
  | k + 1, i => by
    unfold fsw
    split
    · omega
    · have := fsw_ge f x k (i + 1)
      omega
theorem fsw_at (f : Nat → Int32) (x : Int32) : ∀ (k i : Nat), fsw f x k i < i + k → f (fsw f x k i) = x
  | 0, i => fun h => by simp [fsw] at h
  | k + 1, i => by
    unfold fsw
    split
    · intro _; assumption
    · intro h
      exact fsw_at f x k (i + 1) (by omega)
theorem fsw_no (f : Nat → Int32) (x : Int32) : ∀ (k i j : Nat), i ≤ j → j < fsw f x k i → f j ≠ x
  | 0, i, j => fun h1 h2 => by simp [fsw] at h2; omega
  | k + 1, i, j => by
    unfold fsw
    split
    · intro h1 h2; omega
    · intro h1 h2 e
      rcases Nat.eq_or_lt_of_le h1 with h | h
      · subst h; contradiction
      · exact fsw_no f x k (i + 1) j h h2 e
/-- its answer: -1 if there is none among the 30 -/
def fsI (f : Nat → Int32) (x : Int32) : Int32 := if fsw f x 30 0 = 30 then -1 else nI (fsw f x 30 0)
theorem fsw_30 (f : Nat → Int32) (x : Int32) : fsw f x 30 0 ≤ 30 := by have := (fsw_ge f x 30 0).2; omega
theorem fsI_m1 {f : Nat → Int32} {x : Int32} : fsI f x = -1 ↔ fsw f x 30 0 = 30 := by
  unfold fsI
  split
  · simp [*]
  · have h := fsw_30 f x
    exact ⟨fun q => absurd q (m1_ne (by omega)), fun q => by contradiction⟩
/-- a tongue before: none (0), or t (t + 1) -/
def bv : Nat → Int32
  | 0 => -1
  | t + 1 => nI t
theorem bv_m1 {b : Nat} (h : b ≤ 100) : bv b = -1 ↔ b = 0 := by
  cases b with
  | zero => exact ⟨fun _ => rfl, fun _ => rfl⟩
  | succ t => exact ⟨fun q => absurd q (m1_ne (by omega)), fun q => by omega⟩
theorem bv_t {b t : Nat} (h : b ≤ 100) (ht : t ≤ 100) : bv b = nI t ↔ b = t + 1 := by
  cases b with
  | zero => exact ⟨fun q => absurd q.symm (m1_ne (by omega)), fun q => by omega⟩
  | succ u =>
    show nI u = nI t ↔ _
    rw [nI_eq (by omega) (by omega)]
    omega
theorem bv_lt {b : Nat} (h : b ≤ 100) : bv b < 0 ↔ b = 0 := by
  cases b with
  | zero => exact ⟨fun _ => rfl, fun _ => by decide⟩
  | succ u => exact ⟨fun q => absurd q (nI_pos (by omega)), fun q => by omega⟩
def chg (pr b t : Nat) : Nat := if b = 0 ∨ b = t + 1 then 0 else pr
theorem chg_le (pr b t : Nat) : chg pr b t ≤ pr := by unfold chg; split <;> omega
/-- the first of n places where g is least -/
def amin (g : Nat → Nat) : Nat → Nat
  | 0 => 0
  | n + 1 => if g n < g (amin g n) then n else amin g n
theorem amin_lt (g : Nat → Nat) : ∀ (n : Nat), 0 < n → amin g n < n
  | 0, h => absurd h (Nat.lt_irrefl _)
  | n + 1, _ => by
    unfold amin
    split
    · omega
    · cases n with
      | zero => simp [amin]
      | succ k => have := amin_lt g (k + 1) (by omega); omega
theorem amin_min (g : Nat → Nat) : ∀ (n k : Nat), k < n → g (amin g n) ≤ g k
  | 0, k, h => absurd h (Nat.not_lt_zero _)
  | n + 1, k, h => by
    unfold amin
    rcases Nat.lt_or_ge k n with h1 | h1
    · have := amin_min g n k h1
      split <;> omega
    · have e : k = n := by omega
      subst e
      split <;> omega
theorem amin_first (g : Nat → Nat) : ∀ (n k : Nat), k < amin g n → g (amin g n) < g k
  | 0, k, h => by simp [amin] at h
  | n + 1, k, h => by
    unfold amin at h ⊢
    split
    · rename_i hc
      rw [if_pos hc] at h
      have := amin_min g n k h
      omega
    · rename_i hc
      rw [if_neg hc] at h
      exact amin_first g n k h
theorem amin_congr {g h : Nat → Nat} : ∀ (n : Nat), (∀ k, k < n → g k = h k) → amin g n = amin h n
  | 0, _ => rfl
  | n + 1, e => by
    have h1 := amin_congr n (fun k hk => e k (by omega))
    unfold amin
    rw [h1, e n (by omega)]
    cases n with
    | zero => rw [show amin h 0 = 0 from rfl, e 0 (by omega)]
    | succ k => rw [e (amin h (k + 1)) (by have := amin_lt h (k + 1) (by omega); omega)]
/-- the least cost of the last j runs of N, the first of them in tongue t: k p t their costs, pr the price -/
def rb (k : Nat → Nat → Nat) (pr tc N : Nat) : Nat → Nat → Nat
  | 0, _ => 0
  | j + 1, t => k (N - (j + 1)) t + (if j = 0 then 0 else (fun g : Nat → Nat => g (amin g tc)) (fun u => rb k pr tc N j u + chg pr (t + 1) u))
/-- .. behind a run in tongue b - 1, or behind none (0) -/
def lb (k : Nat → Nat → Nat) (pr tc N j b : Nat) : Nat := if j = 0 then 0 else (fun g : Nat → Nat => g (amin g tc)) (fun u => rb k pr tc N j u + chg pr b u)
theorem rb_succ (k : Nat → Nat → Nat) (pr tc N j t : Nat) : rb k pr tc N (j + 1) t = k (N - (j + 1)) t + lb k pr tc N j (t + 1) := by
  unfold lb
  rw [rb]
theorem rb_le {k : Nat → Nat → Nat} {pr tc N : Nat} (hk : ∀ p t, p < N → t < tc → k p t ≤ 10) (hpr : pr ≤ 100) (htc : 0 < tc) : ∀ (j t : Nat), j ≤ N → t < tc → rb k pr tc N j t ≤ 110 * j
  | 0, t, _, _ => by simp [rb]
  | j + 1, t, hj, ht => by
    rw [rb_succ]
    have h1 := hk (N - (j + 1)) t (by omega) ht
    have h2 : lb k pr tc N j (t + 1) ≤ 110 * j + 100 := by
      unfold lb
      split
      · omega
      · have h3 := rb_le hk hpr htc j (amin (fun u => rb k pr tc N j u + chg pr (t + 1) u) tc) (by omega) (amin_lt _ _ htc)
        have h4 := chg_le pr (t + 1) (amin (fun u => rb k pr tc N j u + chg pr (t + 1) u) tc)
        show rb k pr tc N j _ + chg pr (t + 1) _ ≤ _
        omega
    omega
/-- the told cut: what stands ahead of place i (0: none; t + 1: tongue t) -/
def tdb (k : Nat → Nat → Nat) (pr tc N : Nat) : Nat → Nat
  | 0 => 0
  | i + 1 => amin (fun u => rb k pr tc N (N - i) u + chg pr (tdb k pr tc N i) u) tc + 1
theorem tdb_le {k : Nat → Nat → Nat} {pr tc N : Nat} (htc : 0 < tc) (i : Nat) : tdb k pr tc N i ≤ tc := by
  cases i with
  | zero => exact Nat.zero_le _
  | succ i => exact amin_lt _ _ htc
/-- the cutter's numbers -/
def Ct (σ : sS) (N tc pr : Nat) : Prop := σ 51 3 = nI N ∧ σ 51 4 = nI tc ∧ σ 51 5 = nI pr ∧ N ≤ 17 ∧ tc ≤ 5 ∧ pr ≤ 100 ∧ 0 < tc
def Cs (σ : sS) (N tc : Nat) (k : Nat → Nat → Nat) : Prop := ∀ p t, p < N → t < tc → σ (53 + p) t = nI (k p t) ∧ k p t ≤ 10
/-- the rows of rest from place q on -/
def Rs (σ : sS) (N tc q : Nat) (k : Nat → Nat → Nat) (pr : Nat) : Prop := ∀ p t, q ≤ p → p < N → t < tc → σ (72 + p) t = nI (rb k pr tc N (N - p) t)
end
section
/-! ===== the smallest methods ===== -/
set_option maxHeartbeats 4000000 in
set_option maxRecDepth 100000 in
theorem c_X2_runCount (l : Launch) (D : va_G) (cy : Nat → ClassId) (ad : Nat → Nat) (hDis : Dis ad) (σ : sS) {n : Nat} {w : Nat → Nat} (hS : Sp σ n w) : Mi l yX2_runCount wsX2_runCount 0 0 D cy ad [.ref (ad 1)] σ (fun r τ => r = nI (rc n) ∧ σ = τ) := by
  have w0 : Cond.fieldLink RX2 15 "Tonguetell$Spelling" "length" "I" ∈ wsX2_runCount := by decide +kernel
  have w1 : ∀ w ∈ wsX20, w ∈ wsX2_runCount := by decide +kernel
  obtain ⟨hs1, hs2, hs3⟩ := hS
  refine Mi.of (cc := cX2_runCount) (nL := 1) (own := RX2) hDis (by decide) rfl [(0, .ref (ad 1))] rfl (Nat.le_of_ble_eq_true rfl) rfl ?_
  intro p e s m args below meth c A Q C hret
  refine tg_aload_n C dX2_runCount_0 1 rfl rfl 0 rfl ?_
  refine tg_get (T := TX2) (N := 2) (Cn := RX2) C 1 (by decide) (e_1 ad cy _) rfl w1 1 (by decide) w0 rfl rfl dX2_runCount_1 4 rfl ?_
  refine tg_top (y := nI n) (hs1) ?_
  refine tg_if_ne C 11 dX2_runCount_4 (by decide) 7 rfl (fun c4 => ?_) (fun c4 => ?_)
  · -- to 11
    replace c4 : ¬ n = 0 := fun q => c4 ((z_eq (by omega)).mpr q)
    refine tg_aload_n C dX2_runCount_11 12 rfl rfl 0 rfl ?_
    refine tg_get (T := TX2) (N := 2) (Cn := RX2) C 1 (by decide) (e_1 ad cy _) rfl w1 1 (by decide) w0 rfl rfl dX2_runCount_12 15 rfl ?_
    refine tg_top (y := nI n) (hs1) ?_
    refine tg_iconst C (nI 1) dX2_runCount_15 16 rfl (by decide) ?_
    refine tg_iadd C (nI (n + 1)) dX2_runCount_16 17 rfl (nI_add n 1) ?_
    exact hret dX2_runCount_17 ⟨by first | (rw [show rc n = n + 1 from if_neg c4]) | (rw [show rc n = 0 from if_pos c4]), rfl⟩
  · -- on
    replace c4 : n = 0 := (z_eq (by omega)).mp c4
    refine tg_iconst C (nI 0) dX2_runCount_7 8 rfl (by decide) ?_
    refine tg_goto C 17 dX2_runCount_8 (by decide) ?_
    exact hret dX2_runCount_17 ⟨by first | (rw [show rc n = n + 1 from if_neg c4]) | (rw [show rc n = 0 from if_pos c4]), rfl⟩
set_option maxHeartbeats 4000000 in
set_option maxRecDepth 100000 in
theorem c_X2_letterOrGap_m (l : Launch) (D : va_G) (cy : Nat → ClassId) (ad : Nat → Nat) (hDis : Dis ad) (σ : sS) {n : Nat} {w : Nat → Nat} (hS : Sp σ n w) : Mi l yX2_letterOrGap wsX2_letterOrGap 0 0 D cy ad [.ref (ad 1), .int ((-1))] σ (fun r τ => r = nI 0 ∧ σ = τ) := by
  obtain ⟨hs1, hs2, hs3⟩ := hS
  refine Mi.of (cc := cX2_letterOrGap) (nL := 2) (own := RX2) hDis (by decide) rfl [(0, .ref (ad 1)), (1, .int ((-1)))] rfl (Nat.le_of_ble_eq_true rfl) rfl ?_
  intro p e s m args below meth c A Q C hret
  refine tg_iload_n C dX2_letterOrGap_0 1 rfl rfl 1 rfl ?_
  refine tg_if_lt C 12 dX2_letterOrGap_1 (by decide) 4 rfl (fun c1 => ?_) (fun c1 => absurd (m1_lt) c1)
  refine tg_iconst C (nI 0) dX2_letterOrGap_12 13 rfl (by decide) ?_
  refine tg_goto C 22 dX2_letterOrGap_13 (by decide) ?_
  exact hret dX2_letterOrGap_22 ⟨rfl, rfl⟩
set_option maxHeartbeats 4000000 in
set_option maxRecDepth 100000 in
theorem c_X2_letterOrGap_k (l : Launch) (D : va_G) (cy : Nat → ClassId) (ad : Nat → Nat) (hDis : Dis ad) (σ : sS) {n : Nat} {w : Nat → Nat} (hS : Sp σ n w) {k : Nat} (hk : k ≤ 100) : Mi l yX2_letterOrGap wsX2_letterOrGap 0 0 D cy ad [.ref (ad 1), .int (nI k)] σ (fun r τ => r = nI (ltr n w k) ∧ σ = τ) := by
  have w0 : Cond.fieldLink RX2 15 "Tonguetell$Spelling" "length" "I" ∈ wsX2_letterOrGap := by decide +kernel
  have w1 : ∀ w ∈ wsX20, w ∈ wsX2_letterOrGap := by decide +kernel
  have w2 : Cond.fieldLink RX2 9 "Tonguetell$Spelling" "letters" "[I" ∈ wsX2_letterOrGap := by decide +kernel
  obtain ⟨hs1, hs2, hs3⟩ := hS
  refine Mi.of (cc := cX2_letterOrGap) (nL := 2) (own := RX2) hDis (by decide) rfl [(0, .ref (ad 1)), (1, .int (nI k))] rfl (Nat.le_of_ble_eq_true rfl) rfl ?_
  intro p e s m args below meth c A Q C hret
  refine tg_iload_n C dX2_letterOrGap_0 1 rfl rfl 1 rfl ?_
  refine tg_if_lt C 12 dX2_letterOrGap_1 (by decide) 4 rfl (fun c1 => absurd c1 (z_nlt (by omega))) (fun c1 => ?_)
  refine tg_iload_n C dX2_letterOrGap_4 5 rfl rfl 1 rfl ?_
  refine tg_aload_n C dX2_letterOrGap_5 6 rfl rfl 0 rfl ?_
  refine tg_get (T := TX2) (N := 2) (Cn := RX2) C 1 (by decide) (e_1 ad cy _) rfl w1 1 (by decide) w0 rfl rfl dX2_letterOrGap_6 9 rfl ?_
  refine tg_top (y := nI n) (hs1) ?_
  refine tg_icmp_lt C 16 dX2_letterOrGap_9 (by decide) 12 rfl (fun c9 => ?_) (fun c9 => ?_)
  · -- to 16
    replace c9 : k < n := (nI_ltI (by omega) (by omega)).mp c9
    refine tg_aload_n C dX2_letterOrGap_16 17 rfl rfl 0 rfl ?_
    refine tg_get (T := TX2) (N := 2) (Cn := RX2) C 1 (by decide) (e_1 ad cy _) rfl w1 0 (by decide) w2 rfl rfl dX2_letterOrGap_17 20 rfl ?_
    refine tg_iload_n C dX2_letterOrGap_20 21 rfl rfl 1 rfl ?_
    refine tg_iald C 2 (by decide) ((e_2 ad cy) _) k rfl (by omega) (by decide) dX2_letterOrGap_21 22 rfl ?_
    refine tg_top (y := nI (w k)) ((hs3 k (by omega)).1) ?_
    exact hret dX2_letterOrGap_22 ⟨by first | (rw [show ltr n w k = w k from if_pos (by omega)]) | (rw [show ltr n w k = 0 from if_neg (by omega)]), rfl⟩
  · -- on
    replace c9 : ¬ k < n := fun q => c9 ((nI_ltI (by omega) (by omega)).mpr q)
    refine tg_iconst C (nI 0) dX2_letterOrGap_12 13 rfl (by decide) ?_
    refine tg_goto C 22 dX2_letterOrGap_13 (by decide) ?_
    exact hret dX2_letterOrGap_22 ⟨by first | (rw [show ltr n w k = w k from if_pos (by omega)]) | (rw [show ltr n w k = 0 from if_neg (by omega)]), rfl⟩
theorem c_X2_letterOrGap (l : Launch) (D : va_G) (cy : Nat → ClassId) (ad : Nat → Nat) (hDis : Dis ad) (σ : sS) {n : Nat} {w : Nat → Nat} (hS : Sp σ n w) {x : Int32} {v : Nat} (hx : (x = -1 ∧ v = 0) ∨ ∃ k, k ≤ 100 ∧ x = nI k ∧ v = ltr n w k) : Mi l yX2_letterOrGap wsX2_letterOrGap 0 0 D cy ad [.ref (ad 1), .int x] σ (fun r τ => r = nI v ∧ σ = τ) := by
  rcases hx with ⟨rfl, rfl⟩ | ⟨k, hk, rfl, rfl⟩
  · exact c_X2_letterOrGap_m l D cy ad hDis σ hS
  · exact c_X2_letterOrGap_k l D cy ad hDis σ hS hk
theorem prevArg {n : Nat} {w : Nat → Nat} {k : Nat} (hk : k ≤ 100) : (nI k - nI 1 = -1 ∧ (if k = 0 then 0 else ltr n w (k - 1)) = 0) ∨ ∃ j, j ≤ 100 ∧ nI k - nI 1 = nI j ∧ (if k = 0 then 0 else ltr n w (k - 1)) = ltr n w j := by
  by_cases h : k = 0
  · subst h
    exact Or.inl ⟨by decide, rfl⟩
  · exact Or.inr ⟨k - 1, by omega, pk_sub (by omega), if_neg h⟩
set_option maxHeartbeats 4000000 in
set_option maxRecDepth 100000 in
theorem c_X2_runNumber (l : Launch) (D : va_G) (cy : Nat → ClassId) (ad : Nat → Nat) (hDis : Dis ad) (σ : sS) {n : Nat} {w : Nat → Nat} (hS : Sp σ n w) {k : Nat} (hk : k ≤ 100) : Mi l yX2_runNumber wsX2_runNumber 1 21 D cy ad [.ref (ad 1), .int (nI k)] σ (fun r τ => r = nI (rn n w k) ∧ σ = τ) := by
  refine Mi.of (cc := cX2_runNumber) (nL := 2) (own := RX2) hDis (by decide) rfl [(0, .ref (ad 1)), (1, .int (nI k))] rfl (Nat.le_of_ble_eq_true rfl) rfl ?_
  intro p e s m args below meth c A Q C hret
  refine tg_bipush C (nI 6) dX2_runNumber_0 2 rfl (by decide) ?_
  refine tg_aload_n C dX2_runNumber_2 3 rfl rfl 0 rfl ?_
  refine tg_iload_n C dX2_runNumber_3 4 rfl rfl 1 rfl ?_
  refine tg_iconst C (nI 1) dX2_runNumber_4 5 rfl (by decide) ?_
  refine tg_isub C (nI k - nI 1) dX2_runNumber_5 6 rfl (rfl) ?_
  refine tg_callVi C 1 (by decide) (e_1 ad cy _) rfl (c_X2_letterOrGap l D cy ad hDis σ hS (x := nI k - nI 1) (v := if k = 0 then 0 else ltr n w (k - 1)) (prevArg hk)) (cwV 1 C.2.2.2.2.1 gX2_runNumber_X2_letterOrGap rfl rfl rfl (by decide +kernel) ⟨Nat.le_of_ble_eq_true rfl, Nat.le_of_ble_eq_true rfl⟩) rfl rfl (Nat.le_of_ble_eq_true rfl) ⟨Nat.le_of_ble_eq_true rfl, Nat.le_of_ble_eq_true rfl⟩ dX2_runNumber_6 9 rfl (fun r6 τ6 h6 => ?_)
  obtain ⟨h6, h6s⟩ := h6
  subst h6s
  subst h6
  refine tg_imul C (nI (6 * ((if k = 0 then 0 else ltr n w (k - 1))))) dX2_runNumber_9 10 rfl (pk_mul 6 ((if k = 0 then 0 else ltr n w (k - 1)))) ?_
  refine tg_aload_n C dX2_runNumber_10 11 rfl rfl 0 rfl ?_
  refine tg_iload_n C dX2_runNumber_11 12 rfl rfl 1 rfl ?_
  refine tg_callVi C 1 (by decide) (e_1 ad cy _) rfl (c_X2_letterOrGap l D cy ad hDis σ hS (x := nI k) (v := ltr n w k) (Or.inr ⟨k, hk, rfl, rfl⟩)) (cwV 1 C.2.2.2.2.1 gX2_runNumber_X2_letterOrGap rfl rfl rfl (by decide +kernel) ⟨Nat.le_of_ble_eq_true rfl, Nat.le_of_ble_eq_true rfl⟩) rfl rfl (Nat.le_of_ble_eq_true rfl) ⟨Nat.le_of_ble_eq_true rfl, Nat.le_of_ble_eq_true rfl⟩ dX2_runNumber_12 15 rfl (fun r12 τ12 h12 => ?_)
  obtain ⟨h12, h12s⟩ := h12
  subst h12s
  subst h12
  refine tg_iadd C (nI ((6 * ((if k = 0 then 0 else ltr n w (k - 1)))) + (ltr n w k))) dX2_runNumber_15 16 rfl (nI_add (6 * ((if k = 0 then 0 else ltr n w (k - 1)))) (ltr n w k)) ?_
  exact hret dX2_runNumber_16 ⟨rfl, rfl⟩
set_option maxHeartbeats 4000000 in
set_option maxRecDepth 100000 in
theorem c_X2_append (l : Launch) (D : va_G) (cy : Nat → ClassId) (ad : Nat → Nat) (hDis : Dis ad) (σ : sS) {n : Nat} (h1 : σ 1 1 = nI n) (hn : n < 16) {x : Int32} : Mv l yX2_append wsX2_append 0 0 D cy ad [.ref (ad 1), .int x] σ (fun τ => τ = su (su σ 2 n x) 1 1 (nI (n + 1))) := by
  have w0 : Cond.fieldLink RX2 9 "Tonguetell$Spelling" "letters" "[I" ∈ wsX2_append := by decide +kernel
  have w1 : ∀ w ∈ wsX20, w ∈ wsX2_append := by decide +kernel
  have w2 : Cond.fieldLink RX2 15 "Tonguetell$Spelling" "length" "I" ∈ wsX2_append := by decide +kernel
  refine Mv.of (cc := cX2_append) (nL := 2) (own := RX2) hDis (by decide) rfl [(0, .ref (ad 1)), (1, .int x)] rfl (Nat.le_of_ble_eq_true rfl) rfl ?_
  intro p e s m args below meth c A Q C hret
  refine tg_aload_n C dX2_append_0 1 rfl rfl 0 rfl ?_
  refine tg_get (T := TX2) (N := 2) (Cn := RX2) C 1 (by decide) (e_1 ad cy _) rfl w1 0 (by decide) w0 rfl rfl dX2_append_1 4 rfl ?_
  refine tg_aload_n C dX2_append_4 5 rfl rfl 0 rfl ?_
  refine tg_get (T := TX2) (N := 2) (Cn := RX2) C 1 (by decide) (e_1 ad cy _) rfl w1 1 (by decide) w2 rfl rfl dX2_append_5 8 rfl ?_
  refine tg_top (y := nI n) (h1) ?_
  refine tg_iload_n C dX2_append_8 9 rfl rfl 1 rfl ?_
  refine tg_iast C 2 (by decide) (e_2 ad cy) n rfl (by omega) (by decide) dX2_append_9 10 rfl ?_
  refine tg_aload_n C dX2_append_10 11 rfl rfl 0 rfl ?_
  refine tg_dup C dX2_append_11 12 rfl rfl ?_
  refine tg_get (T := TX2) (N := 2) (Cn := RX2) C 1 (by decide) (e_1 ad cy _) rfl w1 1 (by decide) w2 rfl rfl dX2_append_12 15 rfl ?_
  refine tg_top (y := nI n) (by rw [su_ni _ _ _ (by decide)]; exact h1) ?_
  refine tg_iconst C (nI 1) dX2_append_15 16 rfl (by decide) ?_
  refine tg_iadd C (nI (n + 1)) dX2_append_16 17 rfl (nI_add n 1) ?_
  refine tg_put (T := TX2) (N := 2) (Cn := RX2) C tyX2 tyX2_ok nmX2 1 (by decide) (e_1 ad cy _) rfl w1 1 (by decide) w2 rfl rfl (by decide +kernel) (Nat.le_of_ble_eq_true rfl) (e_1 ad cy _) dX2_append_17 20 rfl ?_
  exact hret dX2_append_20 rfl
set_option maxHeartbeats 4000000 in
set_option maxRecDepth 100000 in
theorem c_X3_costOf (l : Launch) (D : va_G) (cy : Nat → ClassId) (ad : Nat → Nat) (hDis : Dis ad) (σ : sS) {a b : Nat} (hT : isTy a b) {c9 : Nat → Nat} {mm : Nat} (hL : Tl σ a b c9 mm) {r9 : Nat} (hr9 : r9 < 36) : Mi l yX3_costOf wsX3_costOf 0 0 D cy ad [.ref (ad a), .int (nI r9)] σ (fun r τ => r = nI (costN (c9 r9) mm) ∧ σ = τ) := by
  have w0 : Cond.fieldLink RX3 15 "Tonguetell$Tally" "sum" "I" ∈ wsX3_costOf := by decide +kernel
  have w1 : ∀ w ∈ wsX30, w ∈ wsX3_costOf := by decide +kernel
  have w2 : Cond.fieldLink RX3 9 "Tonguetell$Tally" "counts" "[I" ∈ wsX3_costOf := by decide +kernel
  obtain ⟨ht1, ht2, ht3⟩ := hL
  have hc9 := (ht3 r9 hr9).2
  refine Mi.of (cc := cX3_costOf) (nL := 5) (own := RX3) hDis (by decide) rfl [(0, .ref (ad a)), (1, .int (nI r9))] rfl (Nat.le_of_ble_eq_true rfl) rfl ?_
  intro p e s m args below meth c A Q C hret
  refine tg_aload_n C dX3_costOf_0 1 rfl rfl 0 rfl ?_
  refine tg_get (T := TX3) (N := 2) (Cn := RX3) C a hT.lt (hT.e ad cy _) rfl w1 1 (by decide) w0 rfl rfl dX3_costOf_1 4 rfl ?_
  refine tg_top (y := nI mm) (ht1) ?_
  refine tg_bipush C (nI 36) dX3_costOf_4 6 rfl (by decide) ?_
  refine tg_iadd C (nI (mm + 36)) dX3_costOf_6 7 rfl (nI_add mm 36) ?_
  refine tg_istore_n C dX3_costOf_7 8 rfl rfl [(2, .int (nI (mm + 36))), (0, .ref (ad a)), (1, .int (nI r9))] (by decide) rfl ?_
  refine tg_aload_n C dX3_costOf_8 9 rfl rfl 1 rfl ?_
  refine tg_get (T := TX3) (N := 2) (Cn := RX3) C a hT.lt (hT.e ad cy _) rfl w1 0 (by decide) w2 rfl rfl dX3_costOf_9 12 rfl ?_
  refine tg_iload_n C dX3_costOf_12 13 rfl rfl 2 rfl ?_
  refine tg_iald C b hT.lt2 ((hT.e2 ad cy) _) r9 rfl (by omega) (by decide) dX3_costOf_13 14 rfl ?_
  refine tg_top (y := nI (c9 r9)) ((ht3 r9 (by omega)).1) ?_
  refine tg_iconst C (nI 1) dX3_costOf_14 15 rfl (by decide) ?_
  refine tg_iadd C (nI ((c9 r9) + 1)) dX3_costOf_15 16 rfl (nI_add (c9 r9) 1) ?_
  refine tg_istore_n C dX3_costOf_16 17 rfl rfl [(3, .int (nI ((c9 r9) + 1))), (2, .int (nI (mm + 36))), (0, .ref (ad a)), (1, .int (nI r9))] (by decide) rfl ?_
  refine tg_iconst C (nI 0) dX3_costOf_17 18 rfl (by decide) ?_
  refine tg_istore C dX3_costOf_18 20 rfl [(4, .int (nI 0)), (3, .int (nI ((c9 r9) + 1))), (2, .int (nI (mm + 36))), (0, .ref (ad a)), (1, .int (nI r9))] (by decide) rfl ?_
  have L20 : ∀ (n20 : Nat) (k its : Nat), (k ≤ 10 ∧ its ≤ 601 * 2 ^ k ∧ costN (c9 r9) mm = k + dbl (10 - k) its (mm + 36)) → 10 - k < n20 → TT p l e (Rm 0 0) s m args below meth c D cy ad A 5 0 0 Q σ 20 [(0, .ref (ad a)), (1, .int (nI r9)), (2, .int (nI (mm + 36))), (3, .int (nI its)), (4, .int (nI k))] [] := by
    intro n20
    induction n20 with
    | zero => intro k its _ hn20; exact absurd hn20 (Nat.not_lt_zero _)
    | succ n20 ih20 =>
      intro k its ⟨hk, hb, he⟩ hn20
      have hp : 601 * 2 ^ k ≤ 601 * 2 ^ 10 := Nat.mul_le_mul_left _ (Nat.pow_le_pow_right (by decide) hk)
      refine tg_iload_n C dX3_costOf_20 21 rfl rfl 3 rfl ?_
      refine tg_iload_n C dX3_costOf_21 22 rfl rfl 2 rfl ?_
      refine tg_icmp_ge C 42 dX3_costOf_22 (by decide) 25 rfl (fun c22 => ?_) (fun c22 => ?_)
      · -- to 42
        replace c22 : (mm + 36) ≤ its := (nI_leI (by omega) (by omega)).mp c22
        refine tg_iload C dX3_costOf_42 44 rfl 4 rfl ?_
        exact hret dX3_costOf_44 ⟨by rw [he]; congr 1; first | (rw [show 10 - k = 0 by omega]; rfl) | (rw [show 10 - k = (10 - k - 1) + 1 by omega, dbl, if_neg (by omega)]; rfl) | (cases hz : 10 - k <;> simp [dbl] <;> omega), rfl⟩
      · -- on
        replace c22 : ¬ (mm + 36) ≤ its := fun q => c22 ((nI_leI (by omega) (by omega)).mpr q)
        refine tg_iload C dX3_costOf_25 27 rfl 4 rfl ?_
        refine tg_bipush C (nI 10) dX3_costOf_27 29 rfl (by decide) ?_
        refine tg_icmp_ge C 42 dX3_costOf_29 (by decide) 32 rfl (fun c29 => ?_) (fun c29 => ?_)
        · -- to 42
          replace c29 : 10 ≤ k := (nI_leI (by omega) (by omega)).mp c29
          refine tg_iload C dX3_costOf_42 44 rfl 4 rfl ?_
          exact hret dX3_costOf_44 ⟨by rw [he]; congr 1; first | (rw [show 10 - k = 0 by omega]; rfl) | (rw [show 10 - k = (10 - k - 1) + 1 by omega, dbl, if_neg (by omega)]; rfl) | (cases hz : 10 - k <;> simp [dbl] <;> omega), rfl⟩
        · -- on
          replace c29 : ¬ 10 ≤ k := fun q => c29 ((nI_leI (by omega) (by omega)).mpr q)
          refine tg_iload_n C dX3_costOf_32 33 rfl rfl 3 rfl ?_
          refine tg_iconst C (nI 2) dX3_costOf_33 34 rfl (by decide) ?_
          refine tg_imul C (nI (its * 2)) dX3_costOf_34 35 rfl (pk_mul its 2) ?_
          refine tg_istore_n C dX3_costOf_35 36 rfl rfl [(3, .int (nI (its * 2))), (0, .ref (ad a)), (1, .int (nI r9)), (2, .int (nI (mm + 36))), (4, .int (nI k))] (by decide) rfl ?_
          refine tg_iinc C (nI (k + 1)) dX3_costOf_36 39 rfl 4 rfl (nI_add k 1) [(4, .int (nI (k + 1))), (3, .int (nI (its * 2))), (0, .ref (ad a)), (1, .int (nI r9)), (2, .int (nI (mm + 36)))] (by decide) rfl ?_
          refine tg_goto C 20 dX3_costOf_39 (by decide) ?_
          refine tg_sub [2, 3, 4, 1, 0] rfl ?_
          exact ih20 (k + 1) (its * 2) ⟨by omega, by rw [Nat.pow_succ]; omega, by rw [he, show 10 - k = (10 - (k + 1)) + 1 by omega, dbl, if_pos (by omega)]; omega⟩ (by omega)
  refine tg_sub [3, 4, 2, 1, 0] rfl ?_
  exact L20 _ 0 (c9 r9 + 1) ⟨by omega, by omega, by simp [costN]⟩ (Nat.lt_succ_self _)
end
section
/-! ===== the inner classes ===== -/
set_option maxHeartbeats 4000000 in
set_option maxRecDepth 100000 in
theorem c_X3_add (l : Launch) (D : va_G) (cy : Nat → ClassId) (ad : Nat → Nat) (hDis : Dis ad) (σ : sS) {a b : Nat} (hT : isTy a b) {c9 : Nat → Nat} {mm : Nat} (hL : Tl σ a b c9 mm) {r9 : Nat} (hr9 : r9 < 36) : Mv l yX3_add wsX3_add 0 0 D cy ad [.ref (ad a), .int (nI r9)] σ (fun τ => τ = su (su σ b r9 (nI (c9 r9 + 1))) a 1 (nI (mm + 1))) := by
  have w0 : Cond.fieldLink RX3 9 "Tonguetell$Tally" "counts" "[I" ∈ wsX3_add := by decide +kernel
  have w1 : ∀ w ∈ wsX30, w ∈ wsX3_add := by decide +kernel
  have w2 : Cond.fieldLink RX3 15 "Tonguetell$Tally" "sum" "I" ∈ wsX3_add := by decide +kernel
  obtain ⟨ht1, ht2, ht3⟩ := hL
  have hc9 := (ht3 r9 hr9).2
  refine Mv.of (cc := cX3_add) (nL := 2) (own := RX3) hDis (by decide) rfl [(0, .ref (ad a)), (1, .int (nI r9))] rfl (Nat.le_of_ble_eq_true rfl) rfl ?_
  intro p e s m args below meth c A Q C hret
  refine tg_aload_n C dX3_add_0 1 rfl rfl 0 rfl ?_
  refine tg_get (T := TX3) (N := 2) (Cn := RX3) C a hT.lt (hT.e ad cy _) rfl w1 0 (by decide) w0 rfl rfl dX3_add_1 4 rfl ?_
  refine tg_iload_n C dX3_add_4 5 rfl rfl 1 rfl ?_
  refine tg_dup2 C dX3_add_5 6 rfl rfl rfl ?_
  refine tg_iald C b hT.lt2 ((hT.e2 ad cy) _) r9 rfl (by omega) (by decide) dX3_add_6 7 rfl ?_
  refine tg_top (y := nI (c9 r9)) ((ht3 r9 (by omega)).1) ?_
  refine tg_iconst C (nI 1) dX3_add_7 8 rfl (by decide) ?_
  refine tg_iadd C (nI ((c9 r9) + 1)) dX3_add_8 9 rfl (nI_add (c9 r9) 1) ?_
  refine tg_iast C b hT.lt2 (hT.e2 ad cy) r9 rfl (by omega) (by decide) dX3_add_9 10 rfl ?_
  refine tg_aload_n C dX3_add_10 11 rfl rfl 0 rfl ?_
  refine tg_dup C dX3_add_11 12 rfl rfl ?_
  refine tg_get (T := TX3) (N := 2) (Cn := RX3) C a hT.lt (hT.e ad cy _) rfl w1 1 (by decide) w2 rfl rfl dX3_add_12 15 rfl ?_
  refine tg_top (y := nI mm) (by rw [su_ni _ _ _ hT.ne.symm]; exact ht1) ?_
  refine tg_iconst C (nI 1) dX3_add_15 16 rfl (by decide) ?_
  refine tg_iadd C (nI (mm + 1)) dX3_add_16 17 rfl (nI_add mm 1) ?_
  refine tg_put (T := TX3) (N := 2) (Cn := RX3) C tyX3 tyX3_ok nmX3 a hT.lt (hT.e ad cy _) rfl w1 1 (by decide) w2 rfl rfl (by decide +kernel) (Nat.le_of_ble_eq_true rfl) (hT.e ad cy _) dX3_add_17 20 rfl ?_
  exact hret dX3_add_20 rfl
set_option maxHeartbeats 4000000 in
set_option maxRecDepth 100000 in
theorem c_X3_remove (l : Launch) (D : va_G) (cy : Nat → ClassId) (ad : Nat → Nat) (hDis : Dis ad) (σ : sS) {a b : Nat} (hT : isTy a b) {c9 : Nat → Nat} {mm : Nat} (hL : Tl σ a b c9 mm) {r9 : Nat} (hr9 : r9 < 36) (hc1 : 0 < c9 r9) (hm1 : 0 < mm) : Mv l yX3_remove wsX3_remove 0 0 D cy ad [.ref (ad a), .int (nI r9)] σ (fun τ => τ = su (su σ b r9 (nI (c9 r9 - 1))) a 1 (nI (mm - 1))) := by
  have w0 : Cond.fieldLink RX3 9 "Tonguetell$Tally" "counts" "[I" ∈ wsX3_remove := by decide +kernel
  have w1 : ∀ w ∈ wsX30, w ∈ wsX3_remove := by decide +kernel
  have w2 : Cond.fieldLink RX3 15 "Tonguetell$Tally" "sum" "I" ∈ wsX3_remove := by decide +kernel
  obtain ⟨ht1, ht2, ht3⟩ := hL
  have hc9 := (ht3 r9 hr9).2
  refine Mv.of (cc := cX3_remove) (nL := 2) (own := RX3) hDis (by decide) rfl [(0, .ref (ad a)), (1, .int (nI r9))] rfl (Nat.le_of_ble_eq_true rfl) rfl ?_
  intro p e s m args below meth c A Q C hret
  refine tg_aload_n C dX3_remove_0 1 rfl rfl 0 rfl ?_
  refine tg_get (T := TX3) (N := 2) (Cn := RX3) C a hT.lt (hT.e ad cy _) rfl w1 0 (by decide) w0 rfl rfl dX3_remove_1 4 rfl ?_
  refine tg_iload_n C dX3_remove_4 5 rfl rfl 1 rfl ?_
  refine tg_dup2 C dX3_remove_5 6 rfl rfl rfl ?_
  refine tg_iald C b hT.lt2 ((hT.e2 ad cy) _) r9 rfl (by omega) (by decide) dX3_remove_6 7 rfl ?_
  refine tg_top (y := nI (c9 r9)) ((ht3 r9 (by omega)).1) ?_
  refine tg_iconst C (nI 1) dX3_remove_7 8 rfl (by decide) ?_
  refine tg_isub C (nI ((c9 r9) - 1)) dX3_remove_8 9 rfl (pk_sub (by omega)) ?_
  refine tg_iast C b hT.lt2 (hT.e2 ad cy) r9 rfl (by omega) (by decide) dX3_remove_9 10 rfl ?_
  refine tg_aload_n C dX3_remove_10 11 rfl rfl 0 rfl ?_
  refine tg_dup C dX3_remove_11 12 rfl rfl ?_
  refine tg_get (T := TX3) (N := 2) (Cn := RX3) C a hT.lt (hT.e ad cy _) rfl w1 1 (by decide) w2 rfl rfl dX3_remove_12 15 rfl ?_
  refine tg_top (y := nI mm) (by rw [su_ni _ _ _ hT.ne.symm]; exact ht1) ?_
  refine tg_iconst C (nI 1) dX3_remove_15 16 rfl (by decide) ?_
  refine tg_isub C (nI (mm - 1)) dX3_remove_16 17 rfl (pk_sub (by omega)) ?_
  refine tg_put (T := TX3) (N := 2) (Cn := RX3) C tyX3 tyX3_ok nmX3 a hT.lt (hT.e ad cy _) rfl w1 1 (by decide) w2 rfl rfl (by decide +kernel) (Nat.le_of_ble_eq_true rfl) (hT.e ad cy _) dX3_remove_17 20 rfl ?_
  exact hret dX3_remove_20 rfl
set_option maxHeartbeats 4000000 in
set_option maxRecDepth 100000 in
theorem c_X1_firstSlotWith (l : Launch) (D : va_G) (cy : Nat → ClassId) (ad : Nat → Nat) (hDis : Dis ad) (σ : sS) {x : Int32} : Mi l yX1_firstSlotWith wsX1_firstSlotWith 0 0 D cy ad [.ref (ad 16), .int x] σ (fun r τ => r = fsI (σ 17) x ∧ σ = τ) := by
  have w0 : Cond.fieldLink RX1 9 "Tonguetell$Shelf" "numberIn" "[I" ∈ wsX1_firstSlotWith := by decide +kernel
  have w1 : ∀ w ∈ wsX10, w ∈ wsX1_firstSlotWith := by decide +kernel
  refine Mi.of (cc := cX1_firstSlotWith) (nL := 3) (own := RX1) hDis (by decide) rfl [(0, .ref (ad 16)), (1, .int x)] rfl (Nat.le_of_ble_eq_true rfl) rfl ?_
  intro p e s m args below meth c A Q C hret
  refine tg_iconst C (nI 0) dX1_firstSlotWith_0 1 rfl (by decide) ?_
  refine tg_istore_n C dX1_firstSlotWith_1 2 rfl rfl [(2, .int (nI 0)), (0, .ref (ad 16)), (1, .int x)] (by decide) rfl ?_
  have L2 : ∀ (n2 : Nat) (i : Nat), (i ≤ 30 ∧ fsw (σ 17) x 30 0 = fsw (σ 17) x (30 - i) i) → 30 - i < n2 → TT p l e (Rm 0 0) s m args below meth c D cy ad A 3 0 0 Q σ 2 [(0, .ref (ad 16)), (1, .int x), (2, .int (nI i))] [] := by
    intro n2
    induction n2 with
    | zero => intro i _ hn2; exact absurd hn2 (Nat.not_lt_zero _)
    | succ n2 ih2 =>
      intro i ⟨hi, he⟩ hn2
      refine tg_iload_n C dX1_firstSlotWith_2 3 rfl rfl 2 rfl ?_
      refine tg_bipush C (nI 30) dX1_firstSlotWith_3 5 rfl (by decide) ?_
      refine tg_icmp_ge C 26 dX1_firstSlotWith_5 (by decide) 8 rfl (fun c5 => ?_) (fun c5 => ?_)
      · -- to 26
        replace c5 : 30 ≤ i := (nI_leI (by omega) (by omega)).mp c5
        refine tg_iconst C (-1) dX1_firstSlotWith_26 27 rfl (by decide) ?_
        exact hret dX1_firstSlotWith_27 ⟨by unfold fsI; rw [he, show 30 - i = 0 by omega, fsw, if_pos (by omega)], rfl⟩
      · -- on
        replace c5 : ¬ 30 ≤ i := fun q => c5 ((nI_leI (by omega) (by omega)).mpr q)
        refine tg_aload_n C dX1_firstSlotWith_8 9 rfl rfl 0 rfl ?_
        refine tg_get (T := TX1) (N := 5) (Cn := RX1) C 16 (by decide) (e_16 ad cy _) rfl w1 0 (by decide) w0 rfl rfl dX1_firstSlotWith_9 12 rfl ?_
        refine tg_iload_n C dX1_firstSlotWith_12 13 rfl rfl 2 rfl ?_
        refine tg_iald C 17 (by decide) ((e_17 ad cy) _) i rfl (by omega) (by decide) dX1_firstSlotWith_13 14 rfl ?_
        refine tg_iload_n C dX1_firstSlotWith_14 15 rfl rfl 1 rfl ?_
        refine tg_icmp_ne C 20 dX1_firstSlotWith_15 (by decide) 18 rfl (fun c15 => ?_) (fun c15 => ?_)
        · -- to 20
          refine tg_iinc C (nI (i + 1)) dX1_firstSlotWith_20 23 rfl 2 rfl (nI_add i 1) [(2, .int (nI (i + 1))), (0, .ref (ad 16)), (1, .int x)] (by decide) rfl ?_
          refine tg_goto C 2 dX1_firstSlotWith_23 (by decide) ?_
          refine tg_sub [1, 2, 0] rfl ?_
          exact ih2 (i + 1) ⟨by omega, by rw [he, show 30 - i = (30 - (i + 1)) + 1 by omega, fsw, if_neg c15]⟩ (by omega)
        · -- on
          refine tg_iload_n C dX1_firstSlotWith_18 19 rfl rfl 2 rfl ?_
          exact hret dX1_firstSlotWith_19 ⟨by unfold fsI; rw [he, show 30 - i = (30 - (i + 1)) + 1 by omega, fsw, if_pos c15, if_neg (by omega)], rfl⟩
  refine tg_sub [1, 2, 0] rfl ?_
  exact L2 _ 0 ⟨by omega, rfl⟩ (Nat.lt_succ_self _)
set_option maxHeartbeats 4000000 in
set_option maxRecDepth 100000 in
theorem c_X1_isFull (l : Launch) (D : va_G) (cy : Nat → ClassId) (ad : Nat → Nat) (hDis : Dis ad) (σ : sS) : Mi l yX1_isFull wsX1_isFull 1 22 D cy ad [.ref (ad 16)] σ (fun r τ => r = (if fsw (σ 17) (-1) 30 0 = 30 then 1 else 0) ∧ σ = τ) := by
  refine Mz.of (cc := cX1_isFull) (nL := 1) (own := RX1) hDis (by decide) rfl [(0, .ref (ad 16))] rfl (Nat.le_of_ble_eq_true rfl) rfl ?_
  intro p e s m args below meth c A Q C hret
  refine tg_aload_n C dX1_isFull_0 1 rfl rfl 0 rfl ?_
  refine tg_iconst C (-1) dX1_isFull_1 2 rfl (by decide) ?_
  refine tg_callVi C 16 (by decide) (e_16 ad cy _) rfl (c_X1_firstSlotWith l D cy ad hDis σ (x := -1)) (cwV 1 C.2.2.2.2.1 gX1_isFull_X1_firstSlotWith rfl rfl rfl (by decide +kernel) ⟨Nat.le_of_ble_eq_true rfl, Nat.le_of_ble_eq_true rfl⟩) rfl rfl (Nat.le_of_ble_eq_true rfl) ⟨Nat.le_of_ble_eq_true rfl, Nat.le_of_ble_eq_true rfl⟩ dX1_isFull_2 5 rfl (fun r2 τ2 h2 => ?_)
  obtain ⟨h2, h2s⟩ := h2
  subst h2s
  subst h2
  refine tg_iconst C (-1) dX1_isFull_5 6 rfl (by decide) ?_
  refine tg_icmp_ne C 13 dX1_isFull_6 (by decide) 9 rfl (fun c6 => ?_) (fun c6 => ?_)
  · -- to 13
    refine tg_iconst C (nI 0) dX1_isFull_13 14 rfl (by decide) ?_
    exact hret dX1_isFull_14 rfl ⟨by first | (rw [if_pos (fsI_m1.mp c6)]; rfl) | (rw [if_neg (fun q => c6 (fsI_m1.mpr q))]; rfl), rfl⟩
  · -- on
    refine tg_iconst C (nI 1) dX1_isFull_9 10 rfl (by decide) ?_
    refine tg_goto C 14 dX1_isFull_10 (by decide) ?_
    exact hret dX1_isFull_14 rfl ⟨by first | (rw [if_pos (fsI_m1.mp c6)]; rfl) | (rw [if_neg (fun q => c6 (fsI_m1.mpr q))]; rfl), rfl⟩
set_option maxHeartbeats 4000000 in
set_option maxRecDepth 100000 in
theorem c_X1_slotOf (l : Launch) (D : va_G) (cy : Nat → ClassId) (ad : Nat → Nat) (hDis : Dis ad) (σ : sS) {x : Int32} : Mi l yX1_slotOf wsX1_slotOf 1 22 D cy ad [.ref (ad 16), .int x] σ (fun r τ => r = (if x < 0 then -1 else fsI (σ 17) x) ∧ σ = τ) := by
  refine Mi.of (cc := cX1_slotOf) (nL := 2) (own := RX1) hDis (by decide) rfl [(0, .ref (ad 16)), (1, .int x)] rfl (Nat.le_of_ble_eq_true rfl) rfl ?_
  intro p e s m args below meth c A Q C hret
  refine tg_iload_n C dX1_slotOf_0 1 rfl rfl 1 rfl ?_
  refine tg_if_ge C 8 dX1_slotOf_1 (by decide) 4 rfl (fun c1 => ?_) (fun c1 => ?_)
  · -- to 8
    refine tg_aload_n C dX1_slotOf_8 9 rfl rfl 0 rfl ?_
    refine tg_iload_n C dX1_slotOf_9 10 rfl rfl 1 rfl ?_
    refine tg_callVi C 16 (by decide) (e_16 ad cy _) rfl (c_X1_firstSlotWith l D cy ad hDis σ (x := x)) (cwV 1 C.2.2.2.2.1 gX1_slotOf_X1_firstSlotWith rfl rfl rfl (by decide +kernel) ⟨Nat.le_of_ble_eq_true rfl, Nat.le_of_ble_eq_true rfl⟩) rfl rfl (Nat.le_of_ble_eq_true rfl) ⟨Nat.le_of_ble_eq_true rfl, Nat.le_of_ble_eq_true rfl⟩ dX1_slotOf_10 13 rfl (fun r10 τ10 h10 => ?_)
    obtain ⟨h10, h10s⟩ := h10
    subst h10s
    subst h10
    exact hret dX1_slotOf_13 ⟨by first | (rw [if_neg (fun q => absurd c1 (Int32.not_le.mpr q))]) | (rw [if_pos (Int32.not_le.mp c1)]), rfl⟩
  · -- on
    refine tg_iconst C (-1) dX1_slotOf_4 5 rfl (by decide) ?_
    refine tg_goto C 13 dX1_slotOf_5 (by decide) ?_
    exact hret dX1_slotOf_13 ⟨by first | (rw [if_neg (fun q => absurd c1 (Int32.not_le.mpr q))]) | (rw [if_pos (Int32.not_le.mp c1)]), rfl⟩
set_option maxHeartbeats 4000000 in
set_option maxRecDepth 100000 in
theorem c_X1_take (l : Launch) (D : va_G) (cy : Nat → ClassId) (ad : Nat → Nat) (hDis : Dis ad) (σ : sS) {s9 nx t ln : Nat} (hs : fsw (σ 17) (-1) 30 0 = s9) (hs9 : s9 < 30) (h4 : σ 16 4 = nI nx) (hnx : nx ≤ 10000) : Mi l yX1_take wsX1_take 1 22 D cy ad [.ref (ad 16), .int (nI t), .int (nI ln)] σ (fun r τ => r = nI s9 ∧ τ = su (su (su (su σ 17 s9 (nI nx)) 18 s9 (nI t)) 19 s9 (nI ln)) 16 4 (nI (nx + 1))) := by
  have w0 : Cond.fieldLink RX1 9 "Tonguetell$Shelf" "numberIn" "[I" ∈ wsX1_take := by decide +kernel
  have w1 : ∀ w ∈ wsX10, w ∈ wsX1_take := by decide +kernel
  have w2 : Cond.fieldLink RX1 26 "Tonguetell$Shelf" "nextNumber" "I" ∈ wsX1_take := by decide +kernel
  have w3 : Cond.fieldLink RX1 15 "Tonguetell$Shelf" "tongueIn" "[I" ∈ wsX1_take := by decide +kernel
  have w4 : Cond.fieldLink RX1 18 "Tonguetell$Shelf" "lengthIn" "[I" ∈ wsX1_take := by decide +kernel
  refine Mi.of (cc := cX1_take) (nL := 4) (own := RX1) hDis (by decide) rfl [(0, .ref (ad 16)), (1, .int (nI t)), (2, .int (nI ln))] rfl (Nat.le_of_ble_eq_true rfl) rfl ?_
  intro p e s m args below meth c A Q C hret
  refine tg_aload_n C dX1_take_0 1 rfl rfl 0 rfl ?_
  refine tg_iconst C (-1) dX1_take_1 2 rfl (by decide) ?_
  refine tg_callVi C 16 (by decide) (e_16 ad cy _) rfl (c_X1_firstSlotWith l D cy ad hDis σ (x := -1)) (cwV 1 C.2.2.2.2.1 gX1_take_X1_firstSlotWith rfl rfl rfl (by decide +kernel) ⟨Nat.le_of_ble_eq_true rfl, Nat.le_of_ble_eq_true rfl⟩) rfl rfl (Nat.le_of_ble_eq_true rfl) ⟨Nat.le_of_ble_eq_true rfl, Nat.le_of_ble_eq_true rfl⟩ dX1_take_2 5 rfl (fun r2 τ2 h2 => ?_)
  obtain ⟨h2, h2s⟩ := h2
  subst h2s
  subst h2
  refine tg_top (y := nI s9) (by unfold fsI; rw [hs, if_neg (by omega)]) ?_
  refine tg_istore_n C dX1_take_5 6 rfl rfl [(3, .int (nI s9)), (0, .ref (ad 16)), (1, .int (nI t)), (2, .int (nI ln))] (by decide) rfl ?_
  refine tg_aload_n C dX1_take_6 7 rfl rfl 1 rfl ?_
  refine tg_get (T := TX1) (N := 5) (Cn := RX1) C 16 (by decide) (e_16 ad cy _) rfl w1 0 (by decide) w0 rfl rfl dX1_take_7 10 rfl ?_
  refine tg_iload_n C dX1_take_10 11 rfl rfl 0 rfl ?_
  refine tg_aload_n C dX1_take_11 12 rfl rfl 1 rfl ?_
  refine tg_get (T := TX1) (N := 5) (Cn := RX1) C 16 (by decide) (e_16 ad cy _) rfl w1 4 (by decide) w2 rfl rfl dX1_take_12 15 rfl ?_
  refine tg_top (y := nI nx) (h4) ?_
  refine tg_iast C 17 (by decide) (e_17 ad cy) s9 rfl (by omega) (by decide) dX1_take_15 16 rfl ?_
  refine tg_aload_n C dX1_take_16 17 rfl rfl 1 rfl ?_
  refine tg_get (T := TX1) (N := 5) (Cn := RX1) C 16 (by decide) (e_16 ad cy _) rfl w1 1 (by decide) w3 rfl rfl dX1_take_17 20 rfl ?_
  refine tg_iload_n C dX1_take_20 21 rfl rfl 0 rfl ?_
  refine tg_iload_n C dX1_take_21 22 rfl rfl 2 rfl ?_
  refine tg_iast C 18 (by decide) (e_18 ad cy) s9 rfl (by omega) (by decide) dX1_take_22 23 rfl ?_
  refine tg_aload_n C dX1_take_23 24 rfl rfl 1 rfl ?_
  refine tg_get (T := TX1) (N := 5) (Cn := RX1) C 16 (by decide) (e_16 ad cy _) rfl w1 2 (by decide) w4 rfl rfl dX1_take_24 27 rfl ?_
  refine tg_iload_n C dX1_take_27 28 rfl rfl 0 rfl ?_
  refine tg_iload_n C dX1_take_28 29 rfl rfl 3 rfl ?_
  refine tg_iast C 19 (by decide) (e_19 ad cy) s9 rfl (by omega) (by decide) dX1_take_29 30 rfl ?_
  refine tg_aload_n C dX1_take_30 31 rfl rfl 1 rfl ?_
  refine tg_dup C dX1_take_31 32 rfl rfl ?_
  refine tg_get (T := TX1) (N := 5) (Cn := RX1) C 16 (by decide) (e_16 ad cy _) rfl w1 4 (by decide) w2 rfl rfl dX1_take_32 35 rfl ?_
  refine tg_top (y := nI nx) (by rw [su_ni _ _ _ (by decide)]; rw [su_ni _ _ _ (by decide)]; rw [su_ni _ _ _ (by decide)]; exact h4) ?_
  refine tg_iconst C (nI 1) dX1_take_35 36 rfl (by decide) ?_
  refine tg_iadd C (nI (nx + 1)) dX1_take_36 37 rfl (nI_add nx 1) ?_
  refine tg_put (T := TX1) (N := 5) (Cn := RX1) C tyX1 tyX1_ok nmX1 16 (by decide) (e_16 ad cy _) rfl w1 4 (by decide) w2 rfl rfl (by decide +kernel) (Nat.le_of_ble_eq_true rfl) (e_16 ad cy _) dX1_take_37 40 rfl ?_
  refine tg_iload_n C dX1_take_40 41 rfl rfl 0 rfl ?_
  exact hret dX1_take_41 ⟨rfl, rfl⟩
set_option maxHeartbeats 4000000 in
set_option maxRecDepth 100000 in
theorem c_X1_free (l : Launch) (D : va_G) (cy : Nat → ClassId) (ad : Nat → Nat) (hDis : Dis ad) (σ : sS) {s9 : Nat} (hs9 : s9 < 30) : Mv l yX1_free wsX1_free 0 0 D cy ad [.ref (ad 16), .int (nI s9)] σ (fun τ => τ = su σ 17 s9 (-1)) := by
  have w0 : Cond.fieldLink RX1 9 "Tonguetell$Shelf" "numberIn" "[I" ∈ wsX1_free := by decide +kernel
  have w1 : ∀ w ∈ wsX10, w ∈ wsX1_free := by decide +kernel
  refine Mv.of (cc := cX1_free) (nL := 2) (own := RX1) hDis (by decide) rfl [(0, .ref (ad 16)), (1, .int (nI s9))] rfl (Nat.le_of_ble_eq_true rfl) rfl ?_
  intro p e s m args below meth c A Q C hret
  refine tg_aload_n C dX1_free_0 1 rfl rfl 0 rfl ?_
  refine tg_get (T := TX1) (N := 5) (Cn := RX1) C 16 (by decide) (e_16 ad cy _) rfl w1 0 (by decide) w0 rfl rfl dX1_free_1 4 rfl ?_
  refine tg_iload_n C dX1_free_4 5 rfl rfl 1 rfl ?_
  refine tg_iconst C (-1) dX1_free_5 6 rfl (by decide) ?_
  refine tg_iast C 17 (by decide) (e_17 ad cy) s9 rfl (by omega) (by decide) dX1_free_6 7 rfl ?_
  exact hret dX1_free_7 rfl
set_option maxHeartbeats 4000000 in
set_option maxRecDepth 100000 in
theorem c_X0_begin (l : Launch) (D : va_G) (cy : Nat → ClassId) (ad : Nat → Nat) (hDis : Dis ad) (σ : sS) {x y z : Int32} : Mv l yX0_begin wsX0_begin 0 0 D cy ad [.ref (ad 51), .int x, .int y, .int z] σ (fun τ => τ = su (su (su σ 51 3 x) 51 4 y) 51 5 z) := by
  have w0 : Cond.fieldLink RX0 23 "Tonguetell$Cutter" "runCount" "I" ∈ wsX0_begin := by decide +kernel
  have w1 : ∀ w ∈ wsX00, w ∈ wsX0_begin := by decide +kernel
  have w2 : Cond.fieldLink RX0 27 "Tonguetell$Cutter" "choices" "I" ∈ wsX0_begin := by decide +kernel
  have w3 : Cond.fieldLink RX0 30 "Tonguetell$Cutter" "changePrice" "I" ∈ wsX0_begin := by decide +kernel
  refine Mv.of (cc := cX0_begin) (nL := 4) (own := RX0) hDis (by decide) rfl [(0, .ref (ad 51)), (1, .int x), (2, .int y), (3, .int z)] rfl (Nat.le_of_ble_eq_true rfl) rfl ?_
  intro p e s m args below meth c A Q C hret
  refine tg_aload_n C dX0_begin_0 1 rfl rfl 0 rfl ?_
  refine tg_iload_n C dX0_begin_1 2 rfl rfl 1 rfl ?_
  refine tg_put (T := TX0) (N := 6) (Cn := RX0) C tyX0 tyX0_ok nmX0 51 (by decide) (e_51 ad cy _) rfl w1 3 (by decide) w0 rfl rfl (by decide +kernel) (Nat.le_of_ble_eq_true rfl) (e_51 ad cy _) dX0_begin_2 5 rfl ?_
  refine tg_aload_n C dX0_begin_5 6 rfl rfl 0 rfl ?_
  refine tg_iload_n C dX0_begin_6 7 rfl rfl 2 rfl ?_
  refine tg_put (T := TX0) (N := 6) (Cn := RX0) C tyX0 tyX0_ok nmX0 51 (by decide) (e_51 ad cy _) rfl w1 4 (by decide) w2 rfl rfl (by decide +kernel) (Nat.le_of_ble_eq_true rfl) (e_51 ad cy _) dX0_begin_7 10 rfl ?_
  refine tg_aload_n C dX0_begin_10 11 rfl rfl 0 rfl ?_
  refine tg_iload_n C dX0_begin_11 12 rfl rfl 3 rfl ?_
  refine tg_put (T := TX0) (N := 6) (Cn := RX0) C tyX0 tyX0_ok nmX0 51 (by decide) (e_51 ad cy _) rfl w1 5 (by decide) w3 rfl rfl (by decide +kernel) (Nat.le_of_ble_eq_true rfl) (e_51 ad cy _) dX0_begin_12 15 rfl ?_
  exact hret dX0_begin_15 rfl
set_option maxHeartbeats 4000000 in
set_option maxRecDepth 100000 in
theorem c_X0_priceOfChange (l : Launch) (D : va_G) (cy : Nat → ClassId) (ad : Nat → Nat) (hDis : Dis ad) (σ : sS) {N tc pr : Nat} (hC : Ct σ N tc pr) {b t : Nat} (hb : b ≤ 5) (ht : t ≤ 5) : Mi l yX0_priceOfChange wsX0_priceOfChange 0 0 D cy ad [.ref (ad 51), .int (bv b), .int (nI t)] σ (fun r τ => r = nI (chg pr b t) ∧ σ = τ) := by
  have w0 : Cond.fieldLink RX0 30 "Tonguetell$Cutter" "changePrice" "I" ∈ wsX0_priceOfChange := by decide +kernel
  have w1 : ∀ w ∈ wsX00, w ∈ wsX0_priceOfChange := by decide +kernel
  obtain ⟨hc1, hc2, hc3, hc4, hc5, hc6, hc7⟩ := hC
  refine Mi.of (cc := cX0_priceOfChange) (nL := 3) (own := RX0) hDis (by decide) rfl [(0, .ref (ad 51)), (1, .int (bv b)), (2, .int (nI t))] rfl (Nat.le_of_ble_eq_true rfl) rfl ?_
  intro p e s m args below meth c A Q C hret
  refine tg_iload_n C dX0_priceOfChange_0 1 rfl rfl 1 rfl ?_
  refine tg_iconst C (-1) dX0_priceOfChange_1 2 rfl (by decide) ?_
  refine tg_icmp_eq C 10 dX0_priceOfChange_2 (by decide) 5 rfl (fun c2 => ?_) (fun c2 => ?_)
  · -- to 10
    replace c2 := (bv_m1 (by omega)).mp c2
    refine tg_iconst C (nI 0) dX0_priceOfChange_10 11 rfl (by decide) ?_
    refine tg_goto C 18 dX0_priceOfChange_11 (by decide) ?_
    exact hret dX0_priceOfChange_18 ⟨by unfold chg; first | rw [if_pos (by omega)] | rw [if_neg (by omega)], rfl⟩
  · -- on
    replace c2 : ¬ b = 0 := fun q => c2 ((bv_m1 (by omega)).mpr q)
    refine tg_iload_n C dX0_priceOfChange_5 6 rfl rfl 1 rfl ?_
    refine tg_iload_n C dX0_priceOfChange_6 7 rfl rfl 2 rfl ?_
    refine tg_icmp_ne C 14 dX0_priceOfChange_7 (by decide) 10 rfl (fun c7 => ?_) (fun c7 => ?_)
    · -- to 14
      replace c7 : ¬ b = t + 1 := fun q => c7 ((bv_t (by omega) (by omega)).mpr q)
      refine tg_aload_n C dX0_priceOfChange_14 15 rfl rfl 0 rfl ?_
      refine tg_get (T := TX0) (N := 6) (Cn := RX0) C 51 (by decide) (e_51 ad cy _) rfl w1 5 (by decide) w0 rfl rfl dX0_priceOfChange_15 18 rfl ?_
      refine tg_top (y := nI pr) (hc3) ?_
      exact hret dX0_priceOfChange_18 ⟨by unfold chg; first | rw [if_pos (by omega)] | rw [if_neg (by omega)], rfl⟩
    · -- on
      replace c7 := (bv_t (by omega) (by omega)).mp c7
      refine tg_iconst C (nI 0) dX0_priceOfChange_10 11 rfl (by decide) ?_
      refine tg_goto C 18 dX0_priceOfChange_11 (by decide) ?_
      exact hret dX0_priceOfChange_18 ⟨by unfold chg; first | rw [if_pos (by omega)] | rw [if_neg (by omega)], rfl⟩
set_option maxHeartbeats 4000000 in
set_option maxRecDepth 100000 in
theorem c_X0_restAfter (l : Launch) (D : va_G) (cy : Nat → ClassId) (ad : Nat → Nat) (hDis : Dis ad) (σ : sS) {N tc pr : Nat} (hC : Ct σ N tc pr) {p9 t b v : Nat} (hp : p9 < 17) (ht : t < 5) (hb : b ≤ 5) (hv : σ (72 + p9) t = nI v) : Mi l yX0_restAfter wsX0_restAfter 1 22 D cy ad [.ref (ad 51), .int (nI p9), .int (nI t), .int (bv b)] σ (fun r τ => r = nI (v + chg pr b t) ∧ σ = τ) := by
  have w0 : Cond.fieldLink RX0 20 "Tonguetell$Cutter" "rest" "[[I" ∈ wsX0_restAfter := by decide +kernel
  have w1 : ∀ w ∈ wsX00, w ∈ wsX0_restAfter := by decide +kernel
  refine Mi.of (cc := cX0_restAfter) (nL := 4) (own := RX0) hDis (by decide) rfl [(0, .ref (ad 51)), (1, .int (nI p9)), (2, .int (nI t)), (3, .int (bv b))] rfl (Nat.le_of_ble_eq_true rfl) rfl ?_
  intro p e s m args below meth c A Q C hret
  refine tg_aload_n C dX0_restAfter_0 1 rfl rfl 0 rfl ?_
  refine tg_get (T := TX0) (N := 6) (Cn := RX0) C 51 (by decide) (e_51 ad cy _) rfl w1 2 (by decide) w0 rfl rfl dX0_restAfter_1 4 rfl ?_
  refine tg_iload_n C dX0_restAfter_4 5 rfl rfl 1 rfl ?_
  refine tg_aald C 71 2 (by decide) ((e_71 ad cy) _) rfl rfl p9 rfl (by omega) (by decide) dX0_restAfter_5 6 rfl ?_
  refine tg_iload_n C dX0_restAfter_6 7 rfl rfl 2 rfl ?_
  refine tg_iald C (72 + p9) (by omega) ((e_rowB ad cy (show p9 < 17 by omega)) _) t rfl (by omega) (by decide) dX0_restAfter_7 8 rfl ?_
  refine tg_top (y := nI v) (hv) ?_
  refine tg_aload_n C dX0_restAfter_8 9 rfl rfl 0 rfl ?_
  refine tg_iload_n C dX0_restAfter_9 10 rfl rfl 3 rfl ?_
  refine tg_iload_n C dX0_restAfter_10 11 rfl rfl 2 rfl ?_
  refine tg_callVi C 51 (by decide) (e_51 ad cy _) rfl (c_X0_priceOfChange l D cy ad hDis σ hC (b := b) (t := t) hb (by omega)) (cwV 2 C.2.2.2.2.1 gX0_restAfter_X0_priceOfChange rfl rfl rfl (by decide +kernel) ⟨Nat.le_of_ble_eq_true rfl, Nat.le_of_ble_eq_true rfl⟩) rfl rfl (Nat.le_of_ble_eq_true rfl) ⟨Nat.le_of_ble_eq_true rfl, Nat.le_of_ble_eq_true rfl⟩ dX0_restAfter_11 14 rfl (fun r11 τ11 h11 => ?_)
  obtain ⟨h11, h11s⟩ := h11
  subst h11s
  subst h11
  refine tg_iadd C (nI (v + (chg pr b t))) dX0_restAfter_14 15 rfl (nI_add v (chg pr b t)) ?_
  exact hret dX0_restAfter_15 ⟨rfl, rfl⟩
set_option maxHeartbeats 4000000 in
set_option maxRecDepth 100000 in
theorem c_X0_cheapest (l : Launch) (D : va_G) (cy : Nat → ClassId) (ad : Nat → Nat) (hDis : Dis ad) (σ : sS) {N tc pr : Nat} (hC : Ct σ N tc pr) {p9 b : Nat} {f : Nat → Nat} (hp : p9 < 17) (hb : b ≤ 5) (hv : ∀ t, t < tc → σ (72 + p9) t = nI (f t) ∧ f t ≤ 100000) : Mi l yX0_cheapest wsX0_cheapest 2 45 D cy ad [.ref (ad 51), .int (nI p9), .int (bv b)] σ (fun r τ => r = nI (amin (fun t => f t + chg pr b t) tc) ∧ σ = τ) := by
  have w0 : Cond.fieldLink RX0 27 "Tonguetell$Cutter" "choices" "I" ∈ wsX0_cheapest := by decide +kernel
  have w1 : ∀ w ∈ wsX00, w ∈ wsX0_cheapest := by decide +kernel
  have hC0 := hC
  obtain ⟨hc1, hc2, hc3, hc4, hc5, hc6, hc7⟩ := hC
  refine Mi.of (cc := cX0_cheapest) (nL := 5) (own := RX0) hDis (by decide) rfl [(0, .ref (ad 51)), (1, .int (nI p9)), (2, .int (bv b))] rfl (Nat.le_of_ble_eq_true rfl) rfl ?_
  intro p e s m args below meth c A Q C hret
  refine tg_iconst C (nI 0) dX0_cheapest_0 1 rfl (by decide) ?_
  refine tg_istore_n C dX0_cheapest_1 2 rfl rfl [(3, .int (nI 0)), (0, .ref (ad 51)), (1, .int (nI p9)), (2, .int (bv b))] (by decide) rfl ?_
  refine tg_iconst C (nI 1) dX0_cheapest_2 3 rfl (by decide) ?_
  refine tg_istore C dX0_cheapest_3 5 rfl [(4, .int (nI 1)), (3, .int (nI 0)), (0, .ref (ad 51)), (1, .int (nI p9)), (2, .int (bv b))] (by decide) rfl ?_
  have L5 : ∀ (n5 : Nat) (t a9 : Nat), (t ≤ tc ∧ a9 = amin (fun t => f t + chg pr b t) t ∧ a9 < t) → tc - t < n5 → TT p l e (Rm 2 45) s m args below meth c D cy ad A 5 0 0 Q σ 5 [(0, .ref (ad 51)), (1, .int (nI p9)), (2, .int (bv b)), (3, .int (nI a9)), (4, .int (nI t))] [] := by
    intro n5
    induction n5 with
    | zero => intro t a9 _ hn5; exact absurd hn5 (Nat.not_lt_zero _)
    | succ n5 ih5 =>
      intro t a9 ⟨hi, he, hl⟩ hn5
      refine tg_iload C dX0_cheapest_5 7 rfl 4 rfl ?_
      refine tg_aload_n C dX0_cheapest_7 8 rfl rfl 0 rfl ?_
      refine tg_get (T := TX0) (N := 6) (Cn := RX0) C 51 (by decide) (e_51 ad cy _) rfl w1 4 (by decide) w0 rfl rfl dX0_cheapest_8 11 rfl ?_
      refine tg_top (y := nI tc) (hc2) ?_
      refine tg_icmp_ge C 41 dX0_cheapest_11 (by decide) 14 rfl (fun c11 => ?_) (fun c11 => ?_)
      · -- to 41
        replace c11 : tc ≤ t := (nI_leI (by omega) (by omega)).mp c11
        refine tg_iload_n C dX0_cheapest_41 42 rfl rfl 3 rfl ?_
        exact hret dX0_cheapest_42 ⟨by rw [he, show t = tc by omega], rfl⟩
      · -- on
        replace c11 : ¬ tc ≤ t := fun q => c11 ((nI_leI (by omega) (by omega)).mpr q)
        refine tg_aload_n C dX0_cheapest_14 15 rfl rfl 0 rfl ?_
        refine tg_iload_n C dX0_cheapest_15 16 rfl rfl 1 rfl ?_
        refine tg_iload C dX0_cheapest_16 18 rfl 4 rfl ?_
        refine tg_iload_n C dX0_cheapest_18 19 rfl rfl 2 rfl ?_
        refine tg_callVi C 51 (by decide) (e_51 ad cy _) rfl (c_X0_restAfter l D cy ad hDis σ hC0 (p9 := p9) (t := t) (b := b) hp (by omega) hb (hv t (by omega)).1) (cwV 3 C.2.2.2.2.1 gX0_cheapest_X0_restAfter rfl rfl rfl (by decide +kernel) ⟨Nat.le_of_ble_eq_true rfl, Nat.le_of_ble_eq_true rfl⟩) rfl rfl (Nat.le_of_ble_eq_true rfl) ⟨Nat.le_of_ble_eq_true rfl, Nat.le_of_ble_eq_true rfl⟩ dX0_cheapest_19 22 rfl (fun r19 τ19 h19 => ?_)
        obtain ⟨h19, h19s⟩ := h19
        subst h19s
        subst h19
        refine tg_aload_n C dX0_cheapest_22 23 rfl rfl 0 rfl ?_
        refine tg_iload_n C dX0_cheapest_23 24 rfl rfl 1 rfl ?_
        refine tg_iload_n C dX0_cheapest_24 25 rfl rfl 3 rfl ?_
        refine tg_iload_n C dX0_cheapest_25 26 rfl rfl 2 rfl ?_
        refine tg_callVi C 51 (by decide) (e_51 ad cy _) rfl (c_X0_restAfter l D cy ad hDis σ hC0 (p9 := p9) (t := a9) (b := b) hp (by omega) hb (hv a9 (by omega)).1) (cwV 3 C.2.2.2.2.1 gX0_cheapest_X0_restAfter rfl rfl rfl (by decide +kernel) ⟨Nat.le_of_ble_eq_true rfl, Nat.le_of_ble_eq_true rfl⟩) rfl rfl (Nat.le_of_ble_eq_true rfl) ⟨Nat.le_of_ble_eq_true rfl, Nat.le_of_ble_eq_true rfl⟩ dX0_cheapest_26 29 rfl (fun r26 τ26 h26 => ?_)
        obtain ⟨h26, h26s⟩ := h26
        subst h26s
        subst h26
        have hv1 := (hv t (by omega)).2
        have hv2 := (hv a9 (by omega)).2
        have hg1 := chg_le pr b t
        have hg2 := chg_le pr b a9
        refine tg_icmp_ge C 35 dX0_cheapest_29 (by decide) 32 rfl (fun c29 => ?_) (fun c29 => ?_)
        · -- to 35
          replace c29 : (f a9 + chg pr b a9) ≤ (f t + chg pr b t) := (nI_leI (by omega) (by omega)).mp c29
          refine tg_iinc C (nI (t + 1)) dX0_cheapest_35 38 rfl 4 rfl (nI_add t 1) [(4, .int (nI (t + 1))), (0, .ref (ad 51)), (1, .int (nI p9)), (2, .int (bv b)), (3, .int (nI a9))] (by decide) rfl ?_
          refine tg_goto C 5 dX0_cheapest_38 (by decide) ?_
          refine tg_sub [1, 2, 3, 4, 0] rfl ?_
          exact ih5 (t + 1) (a9) ⟨by omega, by rw [amin, ← he]; exact (if_neg (by omega)).symm, by omega⟩ (by omega)
        · -- on
          replace c29 : ¬ (f a9 + chg pr b a9) ≤ (f t + chg pr b t) := fun q => c29 ((nI_leI (by omega) (by omega)).mpr q)
          refine tg_iload C dX0_cheapest_32 34 rfl 4 rfl ?_
          refine tg_istore_n C dX0_cheapest_34 35 rfl rfl [(3, .int (nI t)), (0, .ref (ad 51)), (1, .int (nI p9)), (2, .int (bv b)), (4, .int (nI t))] (by decide) rfl ?_
          refine tg_iinc C (nI (t + 1)) dX0_cheapest_35 38 rfl 4 rfl (nI_add t 1) [(4, .int (nI (t + 1))), (3, .int (nI t)), (0, .ref (ad 51)), (1, .int (nI p9)), (2, .int (bv b))] (by decide) rfl ?_
          refine tg_goto C 5 dX0_cheapest_38 (by decide) ?_
          refine tg_sub [2, 3, 4, 1, 0] rfl ?_
          exact ih5 (t + 1) (t) ⟨by omega, by rw [amin, ← he]; exact (if_pos (by omega)).symm, by omega⟩ (by omega)
  refine tg_sub [2, 3, 4, 1, 0] rfl ?_
  exact L5 _ 1 0 ⟨by omega, by simp [amin], by omega⟩ (Nat.lt_succ_self _)
set_option maxHeartbeats 4000000 in
set_option maxRecDepth 100000 in
theorem c_X0_leastBehind (l : Launch) (D : va_G) (cy : Nat → ClassId) (ad : Nat → Nat) (hDis : Dis ad) (σ : sS) {N tc pr : Nat} (hC : Ct σ N tc pr) {k9 : Nat → Nat → Nat} (hk : ∀ p t, p < N → t < tc → k9 p t ≤ 10) {p9 t : Nat} (hR : Rs σ N tc (p9 + 1) k9 pr) (hp : p9 < N) (ht : t < tc) : Mi l yX0_leastBehind wsX0_leastBehind 3 69 D cy ad [.ref (ad 51), .int (nI p9), .int (nI t)] σ (fun r τ => r = nI (lb k9 pr tc N (N - (p9 + 1)) (t + 1)) ∧ σ = τ) := by
  have w0 : Cond.fieldLink RX0 23 "Tonguetell$Cutter" "runCount" "I" ∈ wsX0_leastBehind := by decide +kernel
  have w1 : ∀ w ∈ wsX00, w ∈ wsX0_leastBehind := by decide +kernel
  have hC0 := hC
  obtain ⟨hc1, hc2, hc3, hc4, hc5, hc6, hc7⟩ := hC
  refine Mi.of (cc := cX0_leastBehind) (nL := 4) (own := RX0) hDis (by decide) rfl [(0, .ref (ad 51)), (1, .int (nI p9)), (2, .int (nI t))] rfl (Nat.le_of_ble_eq_true rfl) rfl ?_
  intro p e s m args below meth c A Q C hret
  refine tg_iload_n C dX0_leastBehind_0 1 rfl rfl 1 rfl ?_
  refine tg_iconst C (nI 1) dX0_leastBehind_1 2 rfl (by decide) ?_
  refine tg_iadd C (nI (p9 + 1)) dX0_leastBehind_2 3 rfl (nI_add p9 1) ?_
  refine tg_istore_n C dX0_leastBehind_3 4 rfl rfl [(3, .int (nI (p9 + 1))), (0, .ref (ad 51)), (1, .int (nI p9)), (2, .int (nI t))] (by decide) rfl ?_
  refine tg_iload_n C dX0_leastBehind_4 5 rfl rfl 0 rfl ?_
  refine tg_aload_n C dX0_leastBehind_5 6 rfl rfl 1 rfl ?_
  refine tg_get (T := TX0) (N := 6) (Cn := RX0) C 51 (by decide) (e_51 ad cy _) rfl w1 3 (by decide) w0 rfl rfl dX0_leastBehind_6 9 rfl ?_
  refine tg_top (y := nI N) (hc1) ?_
  refine tg_icmp_lt C 16 dX0_leastBehind_9 (by decide) 12 rfl (fun c9 => ?_) (fun c9 => ?_)
  · -- to 16
    replace c9 : (p9 + 1) < N := (nI_ltI (by omega) (by omega)).mp c9
    refine tg_aload_n C dX0_leastBehind_16 17 rfl rfl 1 rfl ?_
    refine tg_iload_n C dX0_leastBehind_17 18 rfl rfl 0 rfl ?_
    refine tg_aload_n C dX0_leastBehind_18 19 rfl rfl 1 rfl ?_
    refine tg_iload_n C dX0_leastBehind_19 20 rfl rfl 0 rfl ?_
    refine tg_iload_n C dX0_leastBehind_20 21 rfl rfl 3 rfl ?_
    have hrow : ∀ t, t < tc → σ (72 + (p9 + 1)) t = nI (rb k9 pr tc N (N - (p9 + 1)) t) ∧ rb k9 pr tc N (N - (p9 + 1)) t ≤ 100000 := fun t h => ⟨hR (p9 + 1) t (Nat.le_refl _) (by omega) h, by have := rb_le hk hc6 hc7 (N - (p9 + 1)) t (by omega) h; omega⟩
    have ham := amin_lt (fun u => rb k9 pr tc N (N - (p9 + 1)) u + chg pr (t + 1) u) tc hc7
    refine tg_callVi C 51 (by decide) (e_51 ad cy _) rfl (c_X0_cheapest l D cy ad hDis σ hC0 (p9 := p9 + 1) (b := t + 1) (f := rb k9 pr tc N (N - (p9 + 1))) (by omega) (by omega) hrow) (cwV 2 C.2.2.2.2.1 gX0_leastBehind_X0_cheapest rfl rfl rfl (by decide +kernel) ⟨Nat.le_of_ble_eq_true rfl, Nat.le_of_ble_eq_true rfl⟩) rfl rfl (Nat.le_of_ble_eq_true rfl) ⟨Nat.le_of_ble_eq_true rfl, Nat.le_of_ble_eq_true rfl⟩ dX0_leastBehind_21 24 rfl (fun r21 τ21 h21 => ?_)
    obtain ⟨h21, h21s⟩ := h21
    subst h21s
    subst h21
    refine tg_iload_n C dX0_leastBehind_24 25 rfl rfl 3 rfl ?_
    refine tg_callVi C 51 (by decide) (e_51 ad cy _) rfl (c_X0_restAfter l D cy ad hDis σ hC0 (p9 := p9 + 1) (t := amin (fun u => rb k9 pr tc N (N - (p9 + 1)) u + chg pr (t + 1) u) tc) (b := t + 1) (by omega) (by omega) (by omega) (hrow _ ham).1) (cwV 3 C.2.2.2.2.1 gX0_leastBehind_X0_restAfter rfl rfl rfl (by decide +kernel) ⟨Nat.le_of_ble_eq_true rfl, Nat.le_of_ble_eq_true rfl⟩) rfl rfl (Nat.le_of_ble_eq_true rfl) ⟨Nat.le_of_ble_eq_true rfl, Nat.le_of_ble_eq_true rfl⟩ dX0_leastBehind_25 28 rfl (fun r25 τ25 h25 => ?_)
    obtain ⟨h25, h25s⟩ := h25
    subst h25s
    subst h25
    exact hret dX0_leastBehind_28 ⟨by unfold lb; first | (rw [if_pos (by omega)]; done) | (rw [if_neg (by omega)]), rfl⟩
  · -- on
    replace c9 : ¬ (p9 + 1) < N := fun q => c9 ((nI_ltI (by omega) (by omega)).mpr q)
    refine tg_iconst C (nI 0) dX0_leastBehind_12 13 rfl (by decide) ?_
    refine tg_goto C 28 dX0_leastBehind_13 (by decide) ?_
    exact hret dX0_leastBehind_28 ⟨by unfold lb; first | (rw [if_pos (by omega)]; done) | (rw [if_neg (by omega)]), rfl⟩
end
section
/-! ===== the cutter ===== -/
/-! ===== more of the cuts ===== -/
theorem bv_pred (n : Nat) : nI n - nI 1 = bv n := by
  cases n with
  | zero => decide
  | succ k => rw [pk_sub (by omega)]; rfl
theorem bv_dec (n : Nat) : nI n + Int32.ofInt (-1) = bv n := by
  have h : Int32.ofInt (-1) = -1 := by decide
  rw [h]
  cases n with
  | zero => decide
  | succ k => exact pk_m1 k
theorem Ct.fr {σ τ : sS} {N tc pr : Nat} (h : Ct σ N tc pr) (e : τ 51 = σ 51) : Ct τ N tc pr := by
  unfold Ct at h ⊢
  rw [e]
  exact h
theorem Cs.fr {σ τ : sS} {N tc : Nat} {k : Nat → Nat → Nat} (h : Cs σ N tc k) (e : ∀ p, p < N → τ (53 + p) = σ (53 + p)) : Cs τ N tc k := fun p t hp ht => by rw [e p hp]; exact h p t hp ht
theorem Rs.fr {σ τ : sS} {N tc q pr : Nat} {k : Nat → Nat → Nat} (h : Rs σ N tc q k pr) (e : ∀ p, q ≤ p → p < N → τ (72 + p) = σ (72 + p)) : Rs τ N tc q k pr := fun p t hq hp ht => by rw [e p hq hp]; exact h p t hq hp ht
theorem min_nI {a b : Nat} (ha : a < 2 ^ 31) (hb : b < 2 ^ 31) : (if nI b < nI a then nI b else nI a) = nI (min a b) := by
  by_cases h : b < a
  · rw [if_pos ((nI_ltI hb ha).mpr h), Nat.min_eq_right (by omega)]
  · rw [if_neg (fun q => h ((nI_ltI hb ha).mp q)), Nat.min_eq_left (by omega)]
theorem stepMin {g : Nat → Nat} {t lv own : Nat} (h : (t = 0 ∧ lv = 1000000) ∨ (0 < t ∧ lv = g (amin g t))) (ho : own = g t) (hb : own ≤ 1000000) : min lv own = g (amin g (t + 1)) := by
  rcases h with ⟨rfl, rfl⟩ | ⟨h, rfl⟩
  · rw [show amin g (0 + 1) = 0 by simp [amin], ← ho, Nat.min_eq_right hb]
  · rw [amin, ho]
    split
    · exact Nat.min_eq_right (by omega)
    · exact Nat.min_eq_left (by omega)
/-- the least cost of the last j runs, behind b: bounded -/
theorem lb_le {k : Nat → Nat → Nat} {pr tc N : Nat} (hk : ∀ p t, p < N → t < tc → k p t ≤ 10) (hpr : pr ≤ 100) (htc : 0 < tc) {j : Nat} (b : Nat) (hj : j ≤ N) : lb k pr tc N j b ≤ 110 * j + 100 := by
  unfold lb
  split
  · omega
  · have h3 := rb_le hk hpr htc j (amin (fun u => rb k pr tc N j u + chg pr b u) tc) hj (amin_lt _ _ htc)
    have h4 := chg_le pr b (amin (fun u => rb k pr tc N j u + chg pr b u) tc)
    show rb k pr tc N j _ + chg pr b _ ≤ _
    omega
set_option maxHeartbeats 4000000 in
set_option maxRecDepth 100000 in
theorem c_X0_fillRest (l : Launch) (D : va_G) (cy : Nat → ClassId) (ad : Nat → Nat) (hDis : Dis ad) (σ : sS) {N tc pr : Nat} (hC : Ct σ N tc pr) {k9 : Nat → Nat → Nat} (hK9 : Cs σ N tc k9) : Mv l yX0_fillRest wsX0_fillRest 4 92 D cy ad [.ref (ad 51)] σ (fun τ => Rs τ N tc 0 k9 pr ∧ ∀ j, (j < 72 ∨ 89 ≤ j) → τ j = σ j) := by
  have w0 : Cond.fieldLink RX0 23 "Tonguetell$Cutter" "runCount" "I" ∈ wsX0_fillRest := by decide +kernel
  have w1 : ∀ w ∈ wsX00, w ∈ wsX0_fillRest := by decide +kernel
  have w2 : Cond.fieldLink RX0 27 "Tonguetell$Cutter" "choices" "I" ∈ wsX0_fillRest := by decide +kernel
  have w3 : Cond.fieldLink RX0 20 "Tonguetell$Cutter" "rest" "[[I" ∈ wsX0_fillRest := by decide +kernel
  have w4 : Cond.fieldLink RX0 11 "Tonguetell$Cutter" "costs" "[[I" ∈ wsX0_fillRest := by decide +kernel
  have hC0 := hC
  obtain ⟨hc1, hc2, hc3, hc4, hc5, hc6, hc7⟩ := hC
  have hk : ∀ p t, p < N → t < tc → k9 p t ≤ 10 := fun p t h1 h2 => (hK9 p t h1 h2).2
  refine Mv.of (cc := cX0_fillRest) (nL := 3) (own := RX0) hDis (by decide) rfl [(0, .ref (ad 51))] rfl (Nat.le_of_ble_eq_true rfl) rfl ?_
  intro p e s m args below meth c A Q C hret
  refine tg_aload_n C dX0_fillRest_0 1 rfl rfl 0 rfl ?_
  refine tg_get (T := TX0) (N := 6) (Cn := RX0) C 51 (by decide) (e_51 ad cy _) rfl w1 3 (by decide) w0 rfl rfl dX0_fillRest_1 4 rfl ?_
  refine tg_top (y := nI N) (hC0.1) ?_
  refine tg_iconst C (nI 1) dX0_fillRest_4 5 rfl (by decide) ?_
  refine tg_isub C (bv N) dX0_fillRest_5 6 rfl (bv_pred N) ?_
  refine tg_istore_n C dX0_fillRest_6 7 rfl rfl [(1, .int (bv N)), (0, .ref (ad 51))] (by decide) rfl ?_
  have L7 : ∀ (n7 : Nat) (q : Nat) (σ1 : sS), (q ≤ N ∧ Rs σ1 N tc q k9 pr ∧ ∀ j, (j < 72 ∨ 89 ≤ j) → σ1 j = σ j) → q < n7 → TT p l e (Rm 4 92) s m args below meth c D cy ad A 3 0 0 Q σ1 7 [(0, .ref (ad 51)), (1, .int (bv q))] [] := by
    intro n7
    induction n7 with
    | zero => intro q σ1 _ hn7; exact absurd hn7 (Nat.not_lt_zero _)
    | succ n7 ih7 =>
      intro q σ1 ⟨hq, hR, hf⟩ hn7
      have hC1 : Ct σ1 N tc pr := hC0.fr (hf 51 (by omega))
      refine tg_iload_n C dX0_fillRest_7 8 rfl rfl 1 rfl ?_
      refine tg_if_lt C 56 dX0_fillRest_8 (by decide) 11 rfl (fun c8 => ?_) (fun c8 => ?_)
      · -- to 56
        replace c8 := (bv_lt (by omega)).mp c8
        subst c8
        exact hret dX0_fillRest_56 ⟨hR, hf⟩
      · -- on
        obtain ⟨p9, rfl⟩ : ∃ p9, q = p9 + 1 := ⟨q - 1, by have : q ≠ 0 := fun h => c8 ((bv_lt (by omega)).mpr h); omega⟩
        refine tg_sub (lv' := [(0, .ref (ad 51)), (1, .int (nI p9))]) [0, 1] rfl ?_
        refine tg_iconst C (nI 0) dX0_fillRest_11 12 rfl (by decide) ?_
        refine tg_istore_n C dX0_fillRest_12 13 rfl rfl [(2, .int (nI 0)), (0, .ref (ad 51)), (1, .int (nI p9))] (by decide) rfl ?_
        have L13 : ∀ (n13 : Nat) (t : Nat) (σ2 : sS), (t ≤ tc ∧ (∀ u, u < t → σ2 (72 + p9) u = nI (rb k9 pr tc N (N - p9) u)) ∧ ∀ j, j ≠ 72 + p9 → σ2 j = σ1 j) → tc - t < n13 → TT p l e (Rm 4 92) s m args below meth c D cy ad A 3 0 0 Q σ2 13 [(0, .ref (ad 51)), (1, .int (nI p9)), (2, .int (nI t))] [] := by
          intro n13
          induction n13 with
          | zero => intro t σ2 _ hn13; exact absurd hn13 (Nat.not_lt_zero _)
          | succ n13 ih13 =>
            intro t σ2 ⟨ht, hr, hf2⟩ hn13
            have hC2 : Ct σ2 N tc pr := hC1.fr (hf2 51 (by omega))
            have hR2 : Rs σ2 N tc (p9 + 1) k9 pr := hR.fr (fun p h1 _ => hf2 (72 + p) (by omega))
            refine tg_iload_n C dX0_fillRest_13 14 rfl rfl 2 rfl ?_
            refine tg_aload_n C dX0_fillRest_14 15 rfl rfl 0 rfl ?_
            refine tg_get (T := TX0) (N := 6) (Cn := RX0) C 51 (by decide) (e_51 ad cy _) rfl w1 4 (by decide) w2 rfl rfl dX0_fillRest_15 18 rfl ?_
            refine tg_top (y := nI tc) (hC2.2.1) ?_
            refine tg_icmp_ge C 50 dX0_fillRest_18 (by decide) 21 rfl (fun c18 => ?_) (fun c18 => ?_)
            · -- to 50
              replace c18 : tc ≤ t := (nI_leI (by omega) (by omega)).mp c18
              refine tg_iinc C (bv p9) dX0_fillRest_50 53 rfl 1 rfl (bv_dec p9) [(1, .int (bv p9)), (0, .ref (ad 51)), (2, .int (nI t))] (by decide) rfl ?_
              refine tg_goto C 7 dX0_fillRest_53 (by decide) ?_
              refine tg_sub [1, 0] rfl ?_
              refine ih7 p9 σ2 ⟨by omega, fun p t h1 h2 h3 => ?_, fun j hj => by rw [hf2 j (by omega)]; exact hf j hj⟩ (by omega)
              by_cases hp : p = p9
              · rw [hp]; exact hr t (by omega)
              · rw [hf2 (72 + p) (by omega)]; exact hR p t (by omega) h2 h3
            · -- on
              replace c18 : ¬ tc ≤ t := fun q => c18 ((nI_leI (by omega) (by omega)).mpr q)
              have hrow : σ2 (53 + p9) t = nI (k9 p9 t) := by rw [hf2 _ (by omega), hf _ (by omega)]; exact (hK9 p9 t (by omega) (by omega)).1
              have hk1 := hk p9 t (by omega) (by omega)
              have hl1 := lb_le hk hc6 hc7 (j := N - (p9 + 1)) (t + 1) (by omega)
              refine tg_aload_n C dX0_fillRest_21 22 rfl rfl 0 rfl ?_
              refine tg_get (T := TX0) (N := 6) (Cn := RX0) C 51 (by decide) (e_51 ad cy _) rfl w1 2 (by decide) w3 rfl rfl dX0_fillRest_22 25 rfl ?_
              refine tg_iload_n C dX0_fillRest_25 26 rfl rfl 1 rfl ?_
              refine tg_aald C 71 2 (by decide) ((e_71 ad cy) _) rfl rfl p9 rfl (by omega) (by decide) dX0_fillRest_26 27 rfl ?_
              refine tg_iload_n C dX0_fillRest_27 28 rfl rfl 2 rfl ?_
              refine tg_aload_n C dX0_fillRest_28 29 rfl rfl 0 rfl ?_
              refine tg_get (T := TX0) (N := 6) (Cn := RX0) C 51 (by decide) (e_51 ad cy _) rfl w1 0 (by decide) w4 rfl rfl dX0_fillRest_29 32 rfl ?_
              refine tg_iload_n C dX0_fillRest_32 33 rfl rfl 1 rfl ?_
              refine tg_aald C 52 2 (by decide) ((e_52 ad cy) _) rfl rfl p9 rfl (by omega) (by decide) dX0_fillRest_33 34 rfl ?_
              refine tg_iload_n C dX0_fillRest_34 35 rfl rfl 2 rfl ?_
              refine tg_iald C (53 + p9) (by omega) ((e_rowC ad cy (show p9 < 17 by omega)) _) t rfl (by omega) (by decide) dX0_fillRest_35 36 rfl ?_
              refine tg_top (y := nI (k9 p9 t)) (hrow) ?_
              refine tg_aload_n C dX0_fillRest_36 37 rfl rfl 0 rfl ?_
              refine tg_iload_n C dX0_fillRest_37 38 rfl rfl 1 rfl ?_
              refine tg_iload_n C dX0_fillRest_38 39 rfl rfl 2 rfl ?_
              refine tg_callVi C 51 (by decide) (e_51 ad cy _) rfl (c_X0_leastBehind l D cy ad hDis σ2 hC2 hk (p9 := p9) (t := t) hR2 (by omega) (by omega)) (cwV 2 C.2.2.2.2.1 gX0_fillRest_X0_leastBehind rfl rfl rfl (by decide +kernel) ⟨Nat.le_of_ble_eq_true rfl, Nat.le_of_ble_eq_true rfl⟩) rfl rfl (Nat.le_of_ble_eq_true rfl) ⟨Nat.le_of_ble_eq_true rfl, Nat.le_of_ble_eq_true rfl⟩ dX0_fillRest_39 42 rfl (fun r39 τ39 h39 => ?_)
              obtain ⟨h39, h39s⟩ := h39
              subst h39s
              subst h39
              refine tg_iadd C (nI ((k9 p9 t) + (lb k9 pr tc N (N - (p9 + 1)) (t + 1)))) dX0_fillRest_42 43 rfl (nI_add (k9 p9 t) (lb k9 pr tc N (N - (p9 + 1)) (t + 1))) ?_
              refine tg_iast C (72 + p9) (by omega) (e_rowB ad cy (show p9 < 17 by omega)) t rfl (by omega) (by decide) dX0_fillRest_43 44 rfl ?_
              refine tg_iinc C (nI (t + 1)) dX0_fillRest_44 47 rfl 2 rfl (nI_add t 1) [(2, .int (nI (t + 1))), (0, .ref (ad 51)), (1, .int (nI p9))] (by decide) rfl ?_
              refine tg_goto C 13 dX0_fillRest_47 (by decide) ?_
              refine tg_sub [1, 2, 0] rfl ?_
              refine ih13 (t + 1) (su σ2 (72 + p9) t (nI ((k9 p9 t) + (lb k9 pr tc N (N - (p9 + 1)) (t + 1))))) ⟨by omega, fun u hu => ?_, fun j hj => by rw [su_ni _ _ _ hj]; exact hf2 j hj⟩ (by omega)
              rw [su_ap]
              split
              · rename_i hh
                have e := rb_succ k9 pr tc N (N - (p9 + 1)) t
                rw [show N - (p9 + 1) + 1 = N - p9 by omega, show N - (N - p9) = p9 by omega] at e
                rw [hh.2, e]
              · exact hr u (by omega)
        refine tg_sub [1, 2, 0] rfl ?_
        exact L13 _ 0 σ1 ⟨by omega, fun u h => by omega, fun j _ => rfl⟩ (Nat.lt_succ_self _)
  refine tg_sub [1, 0] rfl ?_
  exact L7 _ N σ ⟨Nat.le_refl _, fun p t h1 h2 => by omega, fun j _ => rfl⟩ (Nat.lt_succ_self _)
set_option maxHeartbeats 4000000 in
set_option maxRecDepth 100000 in
theorem c_X0_leastCost (l : Launch) (D : va_G) (cy : Nat → ClassId) (ad : Nat → Nat) (hDis : Dis ad) (σ : sS) {N tc pr : Nat} (hC : Ct σ N tc pr) {k9 : Nat → Nat → Nat} (hK9 : Cs σ N tc k9) : Mi l yX0_leastCost wsX0_leastCost 5 114 D cy ad [.ref (ad 51)] σ (fun r τ => r = nI (lb k9 pr tc N N 0) ∧ ∀ j, (j < 72 ∨ 89 ≤ j) → τ j = σ j) := by
  have w0 : Cond.fieldLink RX0 23 "Tonguetell$Cutter" "runCount" "I" ∈ wsX0_leastCost := by decide +kernel
  have w1 : ∀ w ∈ wsX00, w ∈ wsX0_leastCost := by decide +kernel
  have w2 : Cond.fieldLink RX0 20 "Tonguetell$Cutter" "rest" "[[I" ∈ wsX0_leastCost := by decide +kernel
  have hC0 := hC
  obtain ⟨hc1, hc2, hc3, hc4, hc5, hc6, hc7⟩ := hC
  have hk : ∀ p t, p < N → t < tc → k9 p t ≤ 10 := fun p t h1 h2 => (hK9 p t h1 h2).2
  refine Mi.of (cc := cX0_leastCost) (nL := 1) (own := RX0) hDis (by decide) rfl [(0, .ref (ad 51))] rfl (Nat.le_of_ble_eq_true rfl) rfl ?_
  intro p e s m args below meth c A Q C hret
  refine tg_aload_n C dX0_leastCost_0 1 rfl rfl 0 rfl ?_
  refine tg_get (T := TX0) (N := 6) (Cn := RX0) C 51 (by decide) (e_51 ad cy _) rfl w1 3 (by decide) w0 rfl rfl dX0_leastCost_1 4 rfl ?_
  refine tg_top (y := nI N) (hC0.1) ?_
  refine tg_if_ne C 9 dX0_leastCost_4 (by decide) 7 rfl (fun c4 => ?_) (fun c4 => ?_)
  · -- to 9
    replace c4 : ¬ N = 0 := fun q => c4 ((z_eq (by omega)).mpr q)
    refine tg_aload_n C dX0_leastCost_9 10 rfl rfl 0 rfl ?_
    refine tg_callVv C 51 (by decide) (e_51 ad cy _) rfl (c_X0_fillRest l D cy ad hDis σ hC0 hK9) (cwV 0 C.2.2.2.2.1 gX0_leastCost_X0_fillRest rfl rfl rfl (by decide +kernel) ⟨Nat.le_of_ble_eq_true rfl, Nat.le_of_ble_eq_true rfl⟩) rfl rfl (Nat.le_of_ble_eq_true rfl) ⟨Nat.le_of_ble_eq_true rfl, Nat.le_of_ble_eq_true rfl⟩ dX0_leastCost_10 13 rfl (fun τ10 h10 => ?_)
    obtain ⟨hR, hf⟩ := h10
    have hC1 : Ct τ10 N tc pr := hC0.fr (hf 51 (by omega))
    have hrow : ∀ t, t < tc → τ10 (72 + 0) t = nI (rb k9 pr tc N N t) ∧ rb k9 pr tc N N t ≤ 100000 := fun t h => ⟨hR 0 t (Nat.le_refl _) (by omega) h, by have := rb_le hk hc6 hc7 N t (by omega) h; omega⟩
    have ham := amin_lt (fun u => rb k9 pr tc N N u + chg pr 0 u) tc hc7
    refine tg_aload_n C dX0_leastCost_13 14 rfl rfl 0 rfl ?_
    refine tg_get (T := TX0) (N := 6) (Cn := RX0) C 51 (by decide) (e_51 ad cy _) rfl w1 2 (by decide) w2 rfl rfl dX0_leastCost_14 17 rfl ?_
    refine tg_iconst C (nI 0) dX0_leastCost_17 18 rfl (by decide) ?_
    refine tg_aald C 71 2 (by decide) ((e_71 ad cy) _) rfl rfl 0 rfl (by omega) (by decide) dX0_leastCost_18 19 rfl ?_
    refine tg_aload_n C dX0_leastCost_19 20 rfl rfl 0 rfl ?_
    refine tg_iconst C (nI 0) dX0_leastCost_20 21 rfl (by decide) ?_
    refine tg_iconst C (-1) dX0_leastCost_21 22 rfl (by decide) ?_
    refine tg_callVi C 51 (by decide) (e_51 ad cy _) rfl (c_X0_cheapest l D cy ad hDis τ10 hC1 (p9 := 0) (b := 0) (f := rb k9 pr tc N N) (by omega) (by omega) hrow) (cwV 2 C.2.2.2.2.1 gX0_leastCost_X0_cheapest rfl rfl rfl (by decide +kernel) ⟨Nat.le_of_ble_eq_true rfl, Nat.le_of_ble_eq_true rfl⟩) rfl rfl (Nat.le_of_ble_eq_true rfl) ⟨Nat.le_of_ble_eq_true rfl, Nat.le_of_ble_eq_true rfl⟩ dX0_leastCost_22 25 rfl (fun r22 τ22 h22 => ?_)
    obtain ⟨h22, h22s⟩ := h22
    subst h22s
    subst h22
    refine tg_iald C (72 + 0) (by omega) ((e_rowB ad cy (show 0 < 17 by omega)) _) (amin (fun u => rb k9 pr tc N N u + chg pr 0 u) tc) rfl (by omega) (by decide) dX0_leastCost_25 26 rfl ?_
    refine tg_top (y := nI (rb k9 pr tc N N (amin (fun u => rb k9 pr tc N N u + chg pr 0 u) tc))) ((hrow _ ham).1) ?_
    exact hret dX0_leastCost_26 ⟨by unfold lb; rw [if_neg c4]; simp [chg], hf⟩
  · -- on
    replace c4 : N = 0 := (z_eq (by omega)).mp c4
    refine tg_iconst C (nI 0) dX0_leastCost_7 8 rfl (by decide) ?_
    exact hret dX0_leastCost_8 ⟨by unfold lb; rw [if_pos c4], fun _ _ => rfl⟩
set_option maxHeartbeats 4000000 in
set_option maxRecDepth 100000 in
theorem c_X0_findToldCut (l : Launch) (D : va_G) (cy : Nat → ClassId) (ad : Nat → Nat) (hDis : Dis ad) (σ : sS) {N tc pr : Nat} (hC : Ct σ N tc pr) {k9 : Nat → Nat → Nat} (hK9 : Cs σ N tc k9) : Mv l yX0_findToldCut wsX0_findToldCut 5 114 D cy ad [.ref (ad 51)] σ (fun τ => (∀ i, i < N → τ 70 i = nI (tdb k9 pr tc N (i + 1) - 1)) ∧ ∀ j, (j < 70 ∨ j = 71 ∨ 89 ≤ j) → j ≠ 71 → τ j = σ j) := by
  have w0 : Cond.fieldLink RX0 23 "Tonguetell$Cutter" "runCount" "I" ∈ wsX0_findToldCut := by decide +kernel
  have w1 : ∀ w ∈ wsX00, w ∈ wsX0_findToldCut := by decide +kernel
  have w2 : Cond.fieldLink RX0 16 "Tonguetell$Cutter" "told" "[I" ∈ wsX0_findToldCut := by decide +kernel
  have hC0 := hC
  obtain ⟨hc1, hc2, hc3, hc4, hc5, hc6, hc7⟩ := hC
  have hk : ∀ p t, p < N → t < tc → k9 p t ≤ 10 := fun p t h1 h2 => (hK9 p t h1 h2).2
  refine Mv.of (cc := cX0_findToldCut) (nL := 3) (own := RX0) hDis (by decide) rfl [(0, .ref (ad 51))] rfl (Nat.le_of_ble_eq_true rfl) rfl ?_
  intro p e s m args below meth c A Q C hret
  refine tg_aload_n C dX0_findToldCut_0 1 rfl rfl 0 rfl ?_
  refine tg_callVv C 51 (by decide) (e_51 ad cy _) rfl (c_X0_fillRest l D cy ad hDis σ hC0 hK9) (cwV 0 C.2.2.2.2.1 gX0_findToldCut_X0_fillRest rfl rfl rfl (by decide +kernel) ⟨Nat.le_of_ble_eq_true rfl, Nat.le_of_ble_eq_true rfl⟩) rfl rfl (Nat.le_of_ble_eq_true rfl) ⟨Nat.le_of_ble_eq_true rfl, Nat.le_of_ble_eq_true rfl⟩ dX0_findToldCut_1 4 rfl (fun τ1 h1 => ?_)
  refine tg_iconst C (-1) dX0_findToldCut_4 5 rfl (by decide) ?_
  refine tg_istore_n C dX0_findToldCut_5 6 rfl rfl [(1, .int ((-1))), (0, .ref (ad 51))] (by decide) rfl ?_
  refine tg_iconst C (nI 0) dX0_findToldCut_6 7 rfl (by decide) ?_
  refine tg_istore_n C dX0_findToldCut_7 8 rfl rfl [(2, .int (nI 0)), (1, .int ((-1))), (0, .ref (ad 51))] (by decide) rfl ?_
  have L8 : ∀ (n8 : Nat) (i : Nat) (σ1 : sS), (i ≤ N ∧ (∀ u, u < i → σ1 70 u = nI (tdb k9 pr tc N (u + 1) - 1)) ∧ Rs σ1 N tc 0 k9 pr ∧ ∀ j, (j < 70 ∨ 89 ≤ j) → σ1 j = σ j) → N - i < n8 → TT p l e (Rm 5 114) s m args below meth c D cy ad A 3 0 0 Q σ1 8 [(0, .ref (ad 51)), (1, .int (bv (tdb k9 pr tc N i))), (2, .int (nI i))] [] := by
    intro n8
    induction n8 with
    | zero => intro i σ1 _ hn8; exact absurd hn8 (Nat.not_lt_zero _)
    | succ n8 ih8 =>
      intro i σ1 ⟨hi, hu, hR, hf⟩ hn8
      have hC1 : Ct σ1 N tc pr := hC0.fr (hf 51 (by omega))
      have htd := tdb_le (k := k9) (pr := pr) (N := N) hc7 i
      refine tg_iload_n C dX0_findToldCut_8 9 rfl rfl 2 rfl ?_
      refine tg_aload_n C dX0_findToldCut_9 10 rfl rfl 0 rfl ?_
      refine tg_get (T := TX0) (N := 6) (Cn := RX0) C 51 (by decide) (e_51 ad cy _) rfl w1 3 (by decide) w0 rfl rfl dX0_findToldCut_10 13 rfl ?_
      refine tg_top (y := nI N) (hC1.1) ?_
      refine tg_icmp_ge C 41 dX0_findToldCut_13 (by decide) 16 rfl (fun c13 => ?_) (fun c13 => ?_)
      · -- to 41
        replace c13 : N ≤ i := (nI_leI (by omega) (by omega)).mp c13
        exact hret dX0_findToldCut_41 ⟨fun i9 h => hu i9 (by omega), fun j hj h71 => hf j (by omega)⟩
      · -- on
        replace c13 : ¬ N ≤ i := fun q => c13 ((nI_leI (by omega) (by omega)).mpr q)
        have hrow : ∀ t, t < tc → σ1 (72 + i) t = nI (rb k9 pr tc N (N - i) t) ∧ rb k9 pr tc N (N - i) t ≤ 100000 := fun t h => ⟨hR i t (Nat.zero_le _) (by omega) h, by have := rb_le hk hc6 hc7 (N - i) t (by omega) h; omega⟩
        have ham := amin_lt (fun u => rb k9 pr tc N (N - i) u + chg pr (tdb k9 pr tc N i) u) tc hc7
        refine tg_aload_n C dX0_findToldCut_16 17 rfl rfl 0 rfl ?_
        refine tg_get (T := TX0) (N := 6) (Cn := RX0) C 51 (by decide) (e_51 ad cy _) rfl w1 1 (by decide) w2 rfl rfl dX0_findToldCut_17 20 rfl ?_
        refine tg_iload_n C dX0_findToldCut_20 21 rfl rfl 2 rfl ?_
        refine tg_aload_n C dX0_findToldCut_21 22 rfl rfl 0 rfl ?_
        refine tg_iload_n C dX0_findToldCut_22 23 rfl rfl 2 rfl ?_
        refine tg_iload_n C dX0_findToldCut_23 24 rfl rfl 1 rfl ?_
        refine tg_callVi C 51 (by decide) (e_51 ad cy _) rfl (c_X0_cheapest l D cy ad hDis σ1 hC1 (p9 := i) (b := tdb k9 pr tc N i) (f := rb k9 pr tc N (N - i)) (by omega) (by omega) hrow) (cwV 2 C.2.2.2.2.1 gX0_findToldCut_X0_cheapest rfl rfl rfl (by decide +kernel) ⟨Nat.le_of_ble_eq_true rfl, Nat.le_of_ble_eq_true rfl⟩) rfl rfl (Nat.le_of_ble_eq_true rfl) ⟨Nat.le_of_ble_eq_true rfl, Nat.le_of_ble_eq_true rfl⟩ dX0_findToldCut_24 27 rfl (fun r24 τ24 h24 => ?_)
        obtain ⟨h24, h24s⟩ := h24
        subst h24s
        subst h24
        refine tg_iast C 70 (by decide) (e_70 ad cy) i rfl (by omega) (by decide) dX0_findToldCut_27 28 rfl ?_
        refine tg_aload_n C dX0_findToldCut_28 29 rfl rfl 0 rfl ?_
        refine tg_get (T := TX0) (N := 6) (Cn := RX0) C 51 (by decide) (e_51 ad cy _) rfl w1 1 (by decide) w2 rfl rfl dX0_findToldCut_29 32 rfl ?_
        refine tg_iload_n C dX0_findToldCut_32 33 rfl rfl 2 rfl ?_
        refine tg_iald C 70 (by decide) ((e_70 ad cy) _) i rfl (by omega) (by decide) dX0_findToldCut_33 34 rfl ?_
        refine tg_top (y := nI (amin (fun u => rb k9 pr tc N (N - i) u + chg pr (tdb k9 pr tc N i) u) tc)) (su_eq _ _ _ _) ?_
        refine tg_istore_n C dX0_findToldCut_34 35 rfl rfl [(1, .int (nI (amin (fun u => rb k9 pr tc N (N - i) u + chg pr (tdb k9 pr tc N i) u) tc))), (0, .ref (ad 51)), (2, .int (nI i))] (by decide) rfl ?_
        refine tg_iinc C (nI (i + 1)) dX0_findToldCut_35 38 rfl 2 rfl (nI_add i 1) [(2, .int (nI (i + 1))), (1, .int (nI (amin (fun u => rb k9 pr tc N (N - i) u + chg pr (tdb k9 pr tc N i) u) tc))), (0, .ref (ad 51))] (by decide) rfl ?_
        refine tg_goto C 8 dX0_findToldCut_38 (by decide) ?_
        refine tg_sub [2, 1, 0] rfl ?_
        exact ih8 (i + 1) (su σ1 70 i (nI (amin (fun u => rb k9 pr tc N (N - i) u + chg pr (tdb k9 pr tc N i) u) tc))) ⟨by omega, fun u hu9 => by
            rw [su_ap]
            split
            · rename_i hh; rw [hh.2]; rfl
            · exact hu u (by omega), hR.fr (fun p _ _ => su_ni _ _ _ (by omega)), fun j hj => by rw [su_ni _ _ _ (by omega)]; exact hf j hj⟩ (by omega)
  refine tg_sub [2, 1, 0] rfl ?_
  exact L8 _ 0 τ1 ⟨by omega, fun u h => by omega, h1.1, fun j hj => h1.2 j (by omega)⟩ (Nat.lt_succ_self _)
def stc (u9 : Nat → Nat) (n : Nat) : Nat := sm (fun i => if i = 0 ∨ u9 i ≠ u9 (i - 1) then 1 else 0) n
set_option maxHeartbeats 4000000 in
set_option maxRecDepth 100000 in
theorem c_X0_stretchCount (l : Launch) (D : va_G) (cy : Nat → ClassId) (ad : Nat → Nat) (hDis : Dis ad) (σ : sS) {N tc pr : Nat} (hC : Ct σ N tc pr) {u9 : Nat → Nat} (hu : ∀ i, i < N → σ 70 i = nI (u9 i) ∧ u9 i ≤ 5) : Mi l yX0_stretchCount wsX0_stretchCount 0 0 D cy ad [.ref (ad 51)] σ (fun r τ => r = nI (stc u9 N) ∧ σ = τ) := by
  have w0 : Cond.fieldLink RX0 23 "Tonguetell$Cutter" "runCount" "I" ∈ wsX0_stretchCount := by decide +kernel
  have w1 : ∀ w ∈ wsX00, w ∈ wsX0_stretchCount := by decide +kernel
  have w2 : Cond.fieldLink RX0 16 "Tonguetell$Cutter" "told" "[I" ∈ wsX0_stretchCount := by decide +kernel
  obtain ⟨hc1, hc2, hc3, hc4, hc5, hc6, hc7⟩ := hC
  refine Mi.of (cc := cX0_stretchCount) (nL := 3) (own := RX0) hDis (by decide) rfl [(0, .ref (ad 51))] rfl (Nat.le_of_ble_eq_true rfl) rfl ?_
  intro p e s m args below meth c A Q C hret
  refine tg_iconst C (nI 0) dX0_stretchCount_0 1 rfl (by decide) ?_
  refine tg_istore_n C dX0_stretchCount_1 2 rfl rfl [(1, .int (nI 0)), (0, .ref (ad 51))] (by decide) rfl ?_
  refine tg_iconst C (nI 0) dX0_stretchCount_2 3 rfl (by decide) ?_
  refine tg_istore_n C dX0_stretchCount_3 4 rfl rfl [(2, .int (nI 0)), (1, .int (nI 0)), (0, .ref (ad 51))] (by decide) rfl ?_
  have L4 : ∀ (n4 : Nat) (i a9 : Nat), (i ≤ N ∧ a9 = stc u9 i ∧ a9 ≤ i) → N - i < n4 → TT p l e (Rm 0 0) s m args below meth c D cy ad A 3 0 0 Q σ 4 [(0, .ref (ad 51)), (1, .int (nI a9)), (2, .int (nI i))] [] := by
    intro n4
    induction n4 with
    | zero => intro i a9 _ hn4; exact absurd hn4 (Nat.not_lt_zero _)
    | succ n4 ih4 =>
      intro i a9 ⟨hi, ha, hb⟩ hn4
      refine tg_iload_n C dX0_stretchCount_4 5 rfl rfl 2 rfl ?_
      refine tg_aload_n C dX0_stretchCount_5 6 rfl rfl 0 rfl ?_
      refine tg_get (T := TX0) (N := 6) (Cn := RX0) C 51 (by decide) (e_51 ad cy _) rfl w1 3 (by decide) w0 rfl rfl dX0_stretchCount_6 9 rfl ?_
      refine tg_top (y := nI N) (hc1) ?_
      refine tg_icmp_ge C 42 dX0_stretchCount_9 (by decide) 12 rfl (fun c9 => ?_) (fun c9 => ?_)
      · -- to 42
        replace c9 : N ≤ i := (nI_leI (by omega) (by omega)).mp c9
        refine tg_iload_n C dX0_stretchCount_42 43 rfl rfl 1 rfl ?_
        exact hret dX0_stretchCount_43 ⟨by rw [ha, show i = N by omega], rfl⟩
      · -- on
        replace c9 : ¬ N ≤ i := fun q => c9 ((nI_leI (by omega) (by omega)).mpr q)
        refine tg_iload_n C dX0_stretchCount_12 13 rfl rfl 2 rfl ?_
        refine tg_if_eq C 33 dX0_stretchCount_13 (by decide) 16 rfl (fun c13 => ?_) (fun c13 => ?_)
        · -- to 33
          replace c13 : i = 0 := (z_eq (by omega)).mp c13
          refine tg_iinc C (nI (a9 + 1)) dX0_stretchCount_33 36 rfl 1 rfl (nI_add a9 1) [(1, .int (nI (a9 + 1))), (0, .ref (ad 51)), (2, .int (nI i))] (by decide) rfl ?_
          refine tg_iinc C (nI (i + 1)) dX0_stretchCount_36 39 rfl 2 rfl (nI_add i 1) [(2, .int (nI (i + 1))), (1, .int (nI (a9 + 1))), (0, .ref (ad 51))] (by decide) rfl ?_
          refine tg_goto C 4 dX0_stretchCount_39 (by decide) ?_
          refine tg_sub [2, 1, 0] rfl ?_
          exact ih4 (i + 1) (a9 + 1) ⟨by omega, by show _ = stc u9 i + (if i = 0 ∨ u9 i ≠ u9 (i - 1) then 1 else 0); rw [if_pos (by omega)]; omega, by omega⟩ (by omega)
        · -- on
          replace c13 : ¬ i = 0 := fun q => c13 ((z_eq (by omega)).mpr q)
          have hu1 := (hu i (by omega)).2
          have hu2 := (hu (i - 1) (by omega)).2
          refine tg_aload_n C dX0_stretchCount_16 17 rfl rfl 0 rfl ?_
          refine tg_get (T := TX0) (N := 6) (Cn := RX0) C 51 (by decide) (e_51 ad cy _) rfl w1 1 (by decide) w2 rfl rfl dX0_stretchCount_17 20 rfl ?_
          refine tg_iload_n C dX0_stretchCount_20 21 rfl rfl 2 rfl ?_
          refine tg_iald C 70 (by decide) ((e_70 ad cy) _) i rfl (by omega) (by decide) dX0_stretchCount_21 22 rfl ?_
          refine tg_top (y := nI (u9 i)) ((hu i (by omega)).1) ?_
          refine tg_aload_n C dX0_stretchCount_22 23 rfl rfl 0 rfl ?_
          refine tg_get (T := TX0) (N := 6) (Cn := RX0) C 51 (by decide) (e_51 ad cy _) rfl w1 1 (by decide) w2 rfl rfl dX0_stretchCount_23 26 rfl ?_
          refine tg_iload_n C dX0_stretchCount_26 27 rfl rfl 2 rfl ?_
          refine tg_iconst C (nI 1) dX0_stretchCount_27 28 rfl (by decide) ?_
          refine tg_isub C (nI (i - 1)) dX0_stretchCount_28 29 rfl (pk_sub (by omega)) ?_
          refine tg_iald C 70 (by decide) ((e_70 ad cy) _) (i - 1) rfl (by omega) (by decide) dX0_stretchCount_29 30 rfl ?_
          refine tg_top (y := nI (u9 (i - 1))) ((hu (i - 1) (by omega)).1) ?_
          refine tg_icmp_eq C 36 dX0_stretchCount_30 (by decide) 33 rfl (fun c30 => ?_) (fun c30 => ?_)
          · -- to 36
            replace c30 : (u9 i) = (u9 (i - 1)) := (nI_eq (by omega) (by omega)).mp c30
            refine tg_iinc C (nI (i + 1)) dX0_stretchCount_36 39 rfl 2 rfl (nI_add i 1) [(2, .int (nI (i + 1))), (0, .ref (ad 51)), (1, .int (nI a9))] (by decide) rfl ?_
            refine tg_goto C 4 dX0_stretchCount_39 (by decide) ?_
            refine tg_sub [1, 2, 0] rfl ?_
            exact ih4 (i + 1) (a9) ⟨by omega, by show _ = stc u9 i + (if i = 0 ∨ u9 i ≠ u9 (i - 1) then 1 else 0); rw [if_neg (by omega)]; omega, by omega⟩ (by omega)
          · -- on
            replace c30 : ¬ (u9 i) = (u9 (i - 1)) := fun q => c30 ((nI_eq (by omega) (by omega)).mpr q)
            refine tg_iinc C (nI (a9 + 1)) dX0_stretchCount_33 36 rfl 1 rfl (nI_add a9 1) [(1, .int (nI (a9 + 1))), (0, .ref (ad 51)), (2, .int (nI i))] (by decide) rfl ?_
            refine tg_iinc C (nI (i + 1)) dX0_stretchCount_36 39 rfl 2 rfl (nI_add i 1) [(2, .int (nI (i + 1))), (1, .int (nI (a9 + 1))), (0, .ref (ad 51))] (by decide) rfl ?_
            refine tg_goto C 4 dX0_stretchCount_39 (by decide) ?_
            refine tg_sub [2, 1, 0] rfl ?_
            exact ih4 (i + 1) (a9 + 1) ⟨by omega, by show _ = stc u9 i + (if i = 0 ∨ u9 i ≠ u9 (i - 1) then 1 else 0); rw [if_pos (by omega)]; omega, by omega⟩ (by omega)
  refine tg_sub [2, 1, 0] rfl ?_
  exact L4 _ 0 0 ⟨by omega, rfl, by omega⟩ (Nat.lt_succ_self _)
set_option maxHeartbeats 4000000 in
set_option maxRecDepth 100000 in
theorem c_X0_lbt_0 (l : Launch) (D : va_G) (cy : Nat → ClassId) (ad : Nat → Nat) (hDis : Dis ad) (σ : sS) {N tc pr : Nat} (hC : Ct σ N tc pr) {k9 : Nat → Nat → Nat} (hK9 : Cs σ N tc k9) (hN6 : N ≤ 6) {p9 b : Nat} (hpj : p9 + 0 = N) (hb : b ≤ tc) : Mi l yX0_leastByTrying wsX0_leastByTrying 0 0 D cy ad [.ref (ad 51), .int (nI p9), .int (bv b)] σ (fun r τ => r = nI (lb k9 pr tc N 0 b) ∧ σ = τ) := by
  have w0 : Cond.fieldLink RX0 23 "Tonguetell$Cutter" "runCount" "I" ∈ wsX0_leastByTrying := by decide +kernel
  have w1 : ∀ w ∈ wsX00, w ∈ wsX0_leastByTrying := by decide +kernel
  have hC0 := hC
  obtain ⟨hc1, hc2, hc3, hc4, hc5, hc6, hc7⟩ := hC
  have hk : ∀ p t, p < N → t < tc → k9 p t ≤ 10 := fun p t h1 h2 => (hK9 p t h1 h2).2
  refine Mi.of (cc := cX0_leastByTrying) (nL := 6) (own := RX0) hDis (by decide) rfl [(0, .ref (ad 51)), (1, .int (nI p9)), (2, .int (bv b))] rfl (Nat.le_of_ble_eq_true rfl) rfl ?_
  intro p e s m args below meth c A Q C hret
  refine tg_iload_n C dX0_leastByTrying_0 1 rfl rfl 1 rfl ?_
  refine tg_aload_n C dX0_leastByTrying_1 2 rfl rfl 0 rfl ?_
  refine tg_get (T := TX0) (N := 6) (Cn := RX0) C 51 (by decide) (e_51 ad cy _) rfl w1 3 (by decide) w0 rfl rfl dX0_leastByTrying_2 5 rfl ?_
  refine tg_top (y := nI N) (hC0.1) ?_
  refine tg_icmp_ge C 13 dX0_leastByTrying_5 (by decide) 8 rfl (fun c5 => ?_) (fun c5 => absurd ((nI_leI (by omega) (by omega)).mpr (by omega)) c5)
  refine tg_iconst C (nI 0) dX0_leastByTrying_13 14 rfl (by decide) ?_
  exact hret dX0_leastByTrying_14 ⟨rfl, rfl⟩
set_option maxHeartbeats 4000000 in
set_option maxRecDepth 100000 in
theorem c_X0_lbt_1 (l : Launch) (D : va_G) (cy : Nat → ClassId) (ad : Nat → Nat) (hDis : Dis ad) (σ : sS) {N tc pr : Nat} (hC : Ct σ N tc pr) {k9 : Nat → Nat → Nat} (hK9 : Cs σ N tc k9) (hN6 : N ≤ 6) {p9 b : Nat} (hpj : p9 + 1 = N) (hb : b ≤ tc) : Mi l yX0_leastByTrying wsX0_leastByTrying 1 25 D cy ad [.ref (ad 51), .int (nI p9), .int (bv b)] σ (fun r τ => r = nI (lb k9 pr tc N 1 b) ∧ σ = τ) := by
  have w0 : Cond.fieldLink RX0 23 "Tonguetell$Cutter" "runCount" "I" ∈ wsX0_leastByTrying := by decide +kernel
  have w1 : ∀ w ∈ wsX00, w ∈ wsX0_leastByTrying := by decide +kernel
  have w2 : Cond.constant RX0 54 (1000000) ∈ wsX0_leastByTrying := by decide +kernel
  have w3 : Cond.fieldLink RX0 27 "Tonguetell$Cutter" "choices" "I" ∈ wsX0_leastByTrying := by decide +kernel
  have w4 : Cond.fieldLink RX0 11 "Tonguetell$Cutter" "costs" "[[I" ∈ wsX0_leastByTrying := by decide +kernel
  have w5 : Cond.methodLink RX0 55 Lib.Math.min.name ∈ wsX0_leastByTrying := by decide +kernel
  have w6 : Cond.static Lib.Math.min.name ∈ wsX0_leastByTrying := by decide +kernel
  have w7 : Cond.initialized "java/lang/Math" ∈ wsX0_leastByTrying := by decide +kernel
  have w8 : Cond.code Lib.Math.min.name Lib.Math.min.code 2 (some .int) ∈ wsX0_leastByTrying := by decide +kernel
  have hC0 := hC
  obtain ⟨hc1, hc2, hc3, hc4, hc5, hc6, hc7⟩ := hC
  have hk : ∀ p t, p < N → t < tc → k9 p t ≤ 10 := fun p t h1 h2 => (hK9 p t h1 h2).2
  refine Mi.of (cc := cX0_leastByTrying) (nL := 6) (own := RX0) hDis (by decide) rfl [(0, .ref (ad 51)), (1, .int (nI p9)), (2, .int (bv b))] rfl (Nat.le_of_ble_eq_true rfl) rfl ?_
  intro p e s m args below meth c A Q C hret
  refine tg_iload_n C dX0_leastByTrying_0 1 rfl rfl 1 rfl ?_
  refine tg_aload_n C dX0_leastByTrying_1 2 rfl rfl 0 rfl ?_
  refine tg_get (T := TX0) (N := 6) (Cn := RX0) C 51 (by decide) (e_51 ad cy _) rfl w1 3 (by decide) w0 rfl rfl dX0_leastByTrying_2 5 rfl ?_
  refine tg_top (y := nI N) (hC0.1) ?_
  refine tg_icmp_ge C 13 dX0_leastByTrying_5 (by decide) 8 rfl (fun c5 => absurd c5 (fun q => absurd ((nI_leI (by omega) (by omega)).mp q) (by omega))) (fun c5 => ?_)
  refine tg_iload_n C dX0_leastByTrying_8 9 rfl rfl 1 rfl ?_
  refine tg_iconst C (nI 5) dX0_leastByTrying_9 10 rfl (by decide) ?_
  refine tg_icmp_le C 15 dX0_leastByTrying_10 (by decide) 13 rfl (fun c10 => ?_) (fun c10 => absurd ((nI_leI (by omega) (by omega)).mpr (by omega)) c10)
  refine tg_ldc C (nI 1000000) dX0_leastByTrying_15 17 rfl w2 ?_
  refine tg_istore_n C dX0_leastByTrying_17 18 rfl rfl [(3, .int (nI 1000000)), (0, .ref (ad 51)), (1, .int (nI p9)), (2, .int (bv b))] (by decide) rfl ?_
  refine tg_iconst C (nI 0) dX0_leastByTrying_18 19 rfl (by decide) ?_
  refine tg_istore C dX0_leastByTrying_19 21 rfl [(4, .int (nI 0)), (3, .int (nI 1000000)), (0, .ref (ad 51)), (1, .int (nI p9)), (2, .int (bv b))] (by decide) rfl ?_
  have L21 : ∀ (n21 : Nat) (t v9 : Nat), (t ≤ tc ∧ ((t = 0 ∧ v9 = 1000000) ∨ (0 < t ∧ v9 = (fun u => rb k9 pr tc N 1 u + chg pr b u) (amin (fun u => rb k9 pr tc N 1 u + chg pr b u) t))) ∧ v9 ≤ 1000000) → tc - t < n21 → TT p l e (Rm 1 25) s m args below meth c D cy ad A 6 0 0 Q σ 21 [(0, .ref (ad 51)), (1, .int (nI p9)), (2, .int (bv b)), (3, .int (nI v9)), (4, .int (nI t))] [] := by
    intro n21
    induction n21 with
    | zero => intro t v9 _ hn21; exact absurd hn21 (Nat.not_lt_zero _)
    | succ n21 ih21 =>
      intro t v9 ⟨ht, hv, hv2⟩ hn21
      refine tg_iload C dX0_leastByTrying_21 23 rfl 4 rfl ?_
      refine tg_aload_n C dX0_leastByTrying_23 24 rfl rfl 0 rfl ?_
      refine tg_get (T := TX0) (N := 6) (Cn := RX0) C 51 (by decide) (e_51 ad cy _) rfl w1 4 (by decide) w3 rfl rfl dX0_leastByTrying_24 27 rfl ?_
      refine tg_top (y := nI tc) (hC0.2.1) ?_
      refine tg_icmp_ge C 72 dX0_leastByTrying_27 (by decide) 30 rfl (fun c27 => ?_) (fun c27 => ?_)
      · -- to 72
        replace c27 : tc ≤ t := (nI_leI (by omega) (by omega)).mp c27
        refine tg_iload_n C dX0_leastByTrying_72 73 rfl rfl 3 rfl ?_
        exact hret dX0_leastByTrying_73 ⟨by rcases hv with hv | hv; omega; rw [hv.2, show t = tc by omega]; unfold lb; rw [if_neg (by decide)], rfl⟩
      · -- on
        replace c27 : ¬ tc ≤ t := fun q => c27 ((nI_leI (by omega) (by omega)).mpr q)
        have hrow : σ (53 + p9) t = nI (k9 p9 t) := (hK9 p9 t (by omega) (by omega)).1
        have hk1 := hk p9 t (by omega) (by omega)
        have hl1 := lb_le hk hc6 hc7 (j := 0) (t + 1) (by omega)
        have hg1 := chg_le pr b t
        refine tg_aload_n C dX0_leastByTrying_30 31 rfl rfl 0 rfl ?_
        refine tg_iload_n C dX0_leastByTrying_31 32 rfl rfl 2 rfl ?_
        refine tg_iload C dX0_leastByTrying_32 34 rfl 4 rfl ?_
        refine tg_callVi C 51 (by decide) (e_51 ad cy _) rfl (c_X0_priceOfChange l D cy ad hDis σ hC0 (b := b) (t := t) (by omega) (by omega)) (cwV 2 C.2.2.2.2.1 gX0_leastByTrying_X0_priceOfChange rfl rfl rfl (by decide +kernel) ⟨Nat.le_of_ble_eq_true rfl, Nat.le_of_ble_eq_true rfl⟩) rfl rfl (Nat.le_of_ble_eq_true rfl) ⟨Nat.le_of_ble_eq_true rfl, Nat.le_of_ble_eq_true rfl⟩ dX0_leastByTrying_34 37 rfl (fun r34 τ34 h34 => ?_)
        obtain ⟨h34, h34s⟩ := h34
        subst h34s
        subst h34
        refine tg_aload_n C dX0_leastByTrying_37 38 rfl rfl 0 rfl ?_
        refine tg_get (T := TX0) (N := 6) (Cn := RX0) C 51 (by decide) (e_51 ad cy _) rfl w1 0 (by decide) w4 rfl rfl dX0_leastByTrying_38 41 rfl ?_
        refine tg_iload_n C dX0_leastByTrying_41 42 rfl rfl 1 rfl ?_
        refine tg_aald C 52 2 (by decide) ((e_52 ad cy) _) rfl rfl p9 rfl (by omega) (by decide) dX0_leastByTrying_42 43 rfl ?_
        refine tg_iload C dX0_leastByTrying_43 45 rfl 4 rfl ?_
        refine tg_iald C (53 + p9) (by omega) ((e_rowC ad cy (show p9 < 17 by omega)) _) t rfl (by omega) (by decide) dX0_leastByTrying_45 46 rfl ?_
        refine tg_top (y := nI (k9 p9 t)) (hrow) ?_
        refine tg_iadd C (nI ((chg pr b t) + (k9 p9 t))) dX0_leastByTrying_46 47 rfl (nI_add (chg pr b t) (k9 p9 t)) ?_
        refine tg_istore C dX0_leastByTrying_47 49 rfl [(5, .int (nI ((chg pr b t) + (k9 p9 t)))), (0, .ref (ad 51)), (1, .int (nI p9)), (2, .int (bv b)), (3, .int (nI v9)), (4, .int (nI t))] (by decide) rfl ?_
        refine tg_iload_n C dX0_leastByTrying_49 50 rfl rfl 4 rfl ?_
        refine tg_iload C dX0_leastByTrying_50 52 rfl 0 rfl ?_
        refine tg_aload_n C dX0_leastByTrying_52 53 rfl rfl 1 rfl ?_
        refine tg_iload_n C dX0_leastByTrying_53 54 rfl rfl 2 rfl ?_
        refine tg_iconst C (nI 1) dX0_leastByTrying_54 55 rfl (by decide) ?_
        refine tg_iadd C (nI (p9 + 1)) dX0_leastByTrying_55 56 rfl (nI_add p9 1) ?_
        refine tg_iload C dX0_leastByTrying_56 58 rfl 5 rfl ?_
        refine tg_callSi C (c_X0_lbt_0 l D cy ad hDis σ hC0 hK9 hN6 (p9 := p9 + 1) (b := t + 1) (by omega) (by omega)) (cwS 3 C.2.2.2.2.1 gX0_leastByTrying_X0_leastByTrying rfl rfl rfl (by decide +kernel) ⟨Nat.le_of_ble_eq_true rfl, Nat.le_of_ble_eq_true rfl⟩) rfl rfl (Nat.le_of_ble_eq_true rfl) ⟨Nat.le_of_ble_eq_true rfl, Nat.le_of_ble_eq_true rfl⟩ dX0_leastByTrying_58 61 rfl (fun r58 τ58 h58 => ?_)
        obtain ⟨h58, h58s⟩ := h58
        subst h58s
        subst h58
        refine tg_iadd C (nI (((chg pr b t) + (k9 p9 t)) + (lb k9 pr tc N 0 (t + 1)))) dX0_leastByTrying_61 62 rfl (nI_add ((chg pr b t) + (k9 p9 t)) (lb k9 pr tc N 0 (t + 1))) ?_
        refine tg_mmin C w5 w6 w7 w8 (Nat.le_of_ble_eq_true rfl) (Nat.le_of_ble_eq_true rfl) ⟨Nat.le_of_ble_eq_true rfl, Nat.le_of_ble_eq_true rfl⟩ dX0_leastByTrying_62 65 rfl ?_
        refine tg_top (y := nI (min v9 (chg pr b t + k9 p9 t + lb k9 pr tc N 0 (t + 1)))) (min_nI (by omega) (by omega)) ?_
        refine tg_istore_n C dX0_leastByTrying_65 66 rfl rfl [(3, .int (nI (min v9 (chg pr b t + k9 p9 t + lb k9 pr tc N 0 (t + 1))))), (5, .int (nI ((chg pr b t) + (k9 p9 t)))), (0, .ref (ad 51)), (1, .int (nI p9)), (2, .int (bv b)), (4, .int (nI t))] (by decide) rfl ?_
        refine tg_iinc C (nI (t + 1)) dX0_leastByTrying_66 69 rfl 5 rfl (nI_add t 1) [(4, .int (nI (t + 1))), (3, .int (nI (min v9 (chg pr b t + k9 p9 t + lb k9 pr tc N 0 (t + 1))))), (5, .int (nI ((chg pr b t) + (k9 p9 t)))), (0, .ref (ad 51)), (1, .int (nI p9)), (2, .int (bv b))] (by decide) rfl ?_
        refine tg_goto C 21 dX0_leastByTrying_69 (by decide) ?_
        refine tg_sub [3, 4, 5, 1, 0] rfl ?_
        have e : rb k9 pr tc N 1 t = k9 p9 t + lb k9 pr tc N 0 (t + 1) := by
          have e := rb_succ k9 pr tc N 0 t
          rw [show N - (0 + 1) = p9 by omega] at e
          exact e
        have ho : chg pr b t + k9 p9 t + lb k9 pr tc N 0 (t + 1) = (fun u => rb k9 pr tc N 1 u + chg pr b u) t := by show _ = rb k9 pr tc N 1 t + chg pr b t; omega
        exact ih21 (t + 1) (min v9 (chg pr b t + k9 p9 t + lb k9 pr tc N 0 (t + 1))) ⟨by omega, Or.inr ⟨by omega, stepMin (g := (fun u => rb k9 pr tc N 1 u + chg pr b u)) hv ho (by omega)⟩, by omega⟩ (by omega)
  refine tg_sub [2, 3, 4, 1, 0] rfl ?_
  exact L21 _ 0 1000000 ⟨by omega, Or.inl ⟨rfl, rfl⟩, Nat.le_refl _⟩ (Nat.lt_succ_self _)
set_option maxHeartbeats 4000000 in
set_option maxRecDepth 100000 in
theorem c_X0_lbt_2 (l : Launch) (D : va_G) (cy : Nat → ClassId) (ad : Nat → Nat) (hDis : Dis ad) (σ : sS) {N tc pr : Nat} (hC : Ct σ N tc pr) {k9 : Nat → Nat → Nat} (hK9 : Cs σ N tc k9) (hN6 : N ≤ 6) {p9 b : Nat} (hpj : p9 + 2 = N) (hb : b ≤ tc) : Mi l yX0_leastByTrying wsX0_leastByTrying 2 50 D cy ad [.ref (ad 51), .int (nI p9), .int (bv b)] σ (fun r τ => r = nI (lb k9 pr tc N 2 b) ∧ σ = τ) := by
  have w0 : Cond.fieldLink RX0 23 "Tonguetell$Cutter" "runCount" "I" ∈ wsX0_leastByTrying := by decide +kernel
  have w1 : ∀ w ∈ wsX00, w ∈ wsX0_leastByTrying := by decide +kernel
  have w2 : Cond.constant RX0 54 (1000000) ∈ wsX0_leastByTrying := by decide +kernel
  have w3 : Cond.fieldLink RX0 27 "Tonguetell$Cutter" "choices" "I" ∈ wsX0_leastByTrying := by decide +kernel
  have w4 : Cond.fieldLink RX0 11 "Tonguetell$Cutter" "costs" "[[I" ∈ wsX0_leastByTrying := by decide +kernel
  have w5 : Cond.methodLink RX0 55 Lib.Math.min.name ∈ wsX0_leastByTrying := by decide +kernel
  have w6 : Cond.static Lib.Math.min.name ∈ wsX0_leastByTrying := by decide +kernel
  have w7 : Cond.initialized "java/lang/Math" ∈ wsX0_leastByTrying := by decide +kernel
  have w8 : Cond.code Lib.Math.min.name Lib.Math.min.code 2 (some .int) ∈ wsX0_leastByTrying := by decide +kernel
  have hC0 := hC
  obtain ⟨hc1, hc2, hc3, hc4, hc5, hc6, hc7⟩ := hC
  have hk : ∀ p t, p < N → t < tc → k9 p t ≤ 10 := fun p t h1 h2 => (hK9 p t h1 h2).2
  refine Mi.of (cc := cX0_leastByTrying) (nL := 6) (own := RX0) hDis (by decide) rfl [(0, .ref (ad 51)), (1, .int (nI p9)), (2, .int (bv b))] rfl (Nat.le_of_ble_eq_true rfl) rfl ?_
  intro p e s m args below meth c A Q C hret
  refine tg_iload_n C dX0_leastByTrying_0 1 rfl rfl 1 rfl ?_
  refine tg_aload_n C dX0_leastByTrying_1 2 rfl rfl 0 rfl ?_
  refine tg_get (T := TX0) (N := 6) (Cn := RX0) C 51 (by decide) (e_51 ad cy _) rfl w1 3 (by decide) w0 rfl rfl dX0_leastByTrying_2 5 rfl ?_
  refine tg_top (y := nI N) (hC0.1) ?_
  refine tg_icmp_ge C 13 dX0_leastByTrying_5 (by decide) 8 rfl (fun c5 => absurd c5 (fun q => absurd ((nI_leI (by omega) (by omega)).mp q) (by omega))) (fun c5 => ?_)
  refine tg_iload_n C dX0_leastByTrying_8 9 rfl rfl 1 rfl ?_
  refine tg_iconst C (nI 5) dX0_leastByTrying_9 10 rfl (by decide) ?_
  refine tg_icmp_le C 15 dX0_leastByTrying_10 (by decide) 13 rfl (fun c10 => ?_) (fun c10 => absurd ((nI_leI (by omega) (by omega)).mpr (by omega)) c10)
  refine tg_ldc C (nI 1000000) dX0_leastByTrying_15 17 rfl w2 ?_
  refine tg_istore_n C dX0_leastByTrying_17 18 rfl rfl [(3, .int (nI 1000000)), (0, .ref (ad 51)), (1, .int (nI p9)), (2, .int (bv b))] (by decide) rfl ?_
  refine tg_iconst C (nI 0) dX0_leastByTrying_18 19 rfl (by decide) ?_
  refine tg_istore C dX0_leastByTrying_19 21 rfl [(4, .int (nI 0)), (3, .int (nI 1000000)), (0, .ref (ad 51)), (1, .int (nI p9)), (2, .int (bv b))] (by decide) rfl ?_
  have L21 : ∀ (n21 : Nat) (t v9 : Nat), (t ≤ tc ∧ ((t = 0 ∧ v9 = 1000000) ∨ (0 < t ∧ v9 = (fun u => rb k9 pr tc N 2 u + chg pr b u) (amin (fun u => rb k9 pr tc N 2 u + chg pr b u) t))) ∧ v9 ≤ 1000000) → tc - t < n21 → TT p l e (Rm 2 50) s m args below meth c D cy ad A 6 0 0 Q σ 21 [(0, .ref (ad 51)), (1, .int (nI p9)), (2, .int (bv b)), (3, .int (nI v9)), (4, .int (nI t))] [] := by
    intro n21
    induction n21 with
    | zero => intro t v9 _ hn21; exact absurd hn21 (Nat.not_lt_zero _)
    | succ n21 ih21 =>
      intro t v9 ⟨ht, hv, hv2⟩ hn21
      refine tg_iload C dX0_leastByTrying_21 23 rfl 4 rfl ?_
      refine tg_aload_n C dX0_leastByTrying_23 24 rfl rfl 0 rfl ?_
      refine tg_get (T := TX0) (N := 6) (Cn := RX0) C 51 (by decide) (e_51 ad cy _) rfl w1 4 (by decide) w3 rfl rfl dX0_leastByTrying_24 27 rfl ?_
      refine tg_top (y := nI tc) (hC0.2.1) ?_
      refine tg_icmp_ge C 72 dX0_leastByTrying_27 (by decide) 30 rfl (fun c27 => ?_) (fun c27 => ?_)
      · -- to 72
        replace c27 : tc ≤ t := (nI_leI (by omega) (by omega)).mp c27
        refine tg_iload_n C dX0_leastByTrying_72 73 rfl rfl 3 rfl ?_
        exact hret dX0_leastByTrying_73 ⟨by rcases hv with hv | hv; omega; rw [hv.2, show t = tc by omega]; unfold lb; rw [if_neg (by decide)], rfl⟩
      · -- on
        replace c27 : ¬ tc ≤ t := fun q => c27 ((nI_leI (by omega) (by omega)).mpr q)
        have hrow : σ (53 + p9) t = nI (k9 p9 t) := (hK9 p9 t (by omega) (by omega)).1
        have hk1 := hk p9 t (by omega) (by omega)
        have hl1 := lb_le hk hc6 hc7 (j := 1) (t + 1) (by omega)
        have hg1 := chg_le pr b t
        refine tg_aload_n C dX0_leastByTrying_30 31 rfl rfl 0 rfl ?_
        refine tg_iload_n C dX0_leastByTrying_31 32 rfl rfl 2 rfl ?_
        refine tg_iload C dX0_leastByTrying_32 34 rfl 4 rfl ?_
        refine tg_callVi C 51 (by decide) (e_51 ad cy _) rfl (c_X0_priceOfChange l D cy ad hDis σ hC0 (b := b) (t := t) (by omega) (by omega)) (cwV 2 C.2.2.2.2.1 gX0_leastByTrying_X0_priceOfChange rfl rfl rfl (by decide +kernel) ⟨Nat.le_of_ble_eq_true rfl, Nat.le_of_ble_eq_true rfl⟩) rfl rfl (Nat.le_of_ble_eq_true rfl) ⟨Nat.le_of_ble_eq_true rfl, Nat.le_of_ble_eq_true rfl⟩ dX0_leastByTrying_34 37 rfl (fun r34 τ34 h34 => ?_)
        obtain ⟨h34, h34s⟩ := h34
        subst h34s
        subst h34
        refine tg_aload_n C dX0_leastByTrying_37 38 rfl rfl 0 rfl ?_
        refine tg_get (T := TX0) (N := 6) (Cn := RX0) C 51 (by decide) (e_51 ad cy _) rfl w1 0 (by decide) w4 rfl rfl dX0_leastByTrying_38 41 rfl ?_
        refine tg_iload_n C dX0_leastByTrying_41 42 rfl rfl 1 rfl ?_
        refine tg_aald C 52 2 (by decide) ((e_52 ad cy) _) rfl rfl p9 rfl (by omega) (by decide) dX0_leastByTrying_42 43 rfl ?_
        refine tg_iload C dX0_leastByTrying_43 45 rfl 4 rfl ?_
        refine tg_iald C (53 + p9) (by omega) ((e_rowC ad cy (show p9 < 17 by omega)) _) t rfl (by omega) (by decide) dX0_leastByTrying_45 46 rfl ?_
        refine tg_top (y := nI (k9 p9 t)) (hrow) ?_
        refine tg_iadd C (nI ((chg pr b t) + (k9 p9 t))) dX0_leastByTrying_46 47 rfl (nI_add (chg pr b t) (k9 p9 t)) ?_
        refine tg_istore C dX0_leastByTrying_47 49 rfl [(5, .int (nI ((chg pr b t) + (k9 p9 t)))), (0, .ref (ad 51)), (1, .int (nI p9)), (2, .int (bv b)), (3, .int (nI v9)), (4, .int (nI t))] (by decide) rfl ?_
        refine tg_iload_n C dX0_leastByTrying_49 50 rfl rfl 4 rfl ?_
        refine tg_iload C dX0_leastByTrying_50 52 rfl 0 rfl ?_
        refine tg_aload_n C dX0_leastByTrying_52 53 rfl rfl 1 rfl ?_
        refine tg_iload_n C dX0_leastByTrying_53 54 rfl rfl 2 rfl ?_
        refine tg_iconst C (nI 1) dX0_leastByTrying_54 55 rfl (by decide) ?_
        refine tg_iadd C (nI (p9 + 1)) dX0_leastByTrying_55 56 rfl (nI_add p9 1) ?_
        refine tg_iload C dX0_leastByTrying_56 58 rfl 5 rfl ?_
        refine tg_callSi C (c_X0_lbt_1 l D cy ad hDis σ hC0 hK9 hN6 (p9 := p9 + 1) (b := t + 1) (by omega) (by omega)) (cwS 3 C.2.2.2.2.1 gX0_leastByTrying_X0_leastByTrying rfl rfl rfl (by decide +kernel) ⟨Nat.le_of_ble_eq_true rfl, Nat.le_of_ble_eq_true rfl⟩) rfl rfl (Nat.le_of_ble_eq_true rfl) ⟨Nat.le_of_ble_eq_true rfl, Nat.le_of_ble_eq_true rfl⟩ dX0_leastByTrying_58 61 rfl (fun r58 τ58 h58 => ?_)
        obtain ⟨h58, h58s⟩ := h58
        subst h58s
        subst h58
        refine tg_iadd C (nI (((chg pr b t) + (k9 p9 t)) + (lb k9 pr tc N 1 (t + 1)))) dX0_leastByTrying_61 62 rfl (nI_add ((chg pr b t) + (k9 p9 t)) (lb k9 pr tc N 1 (t + 1))) ?_
        refine tg_mmin C w5 w6 w7 w8 (Nat.le_of_ble_eq_true rfl) (Nat.le_of_ble_eq_true rfl) ⟨Nat.le_of_ble_eq_true rfl, Nat.le_of_ble_eq_true rfl⟩ dX0_leastByTrying_62 65 rfl ?_
        refine tg_top (y := nI (min v9 (chg pr b t + k9 p9 t + lb k9 pr tc N 1 (t + 1)))) (min_nI (by omega) (by omega)) ?_
        refine tg_istore_n C dX0_leastByTrying_65 66 rfl rfl [(3, .int (nI (min v9 (chg pr b t + k9 p9 t + lb k9 pr tc N 1 (t + 1))))), (5, .int (nI ((chg pr b t) + (k9 p9 t)))), (0, .ref (ad 51)), (1, .int (nI p9)), (2, .int (bv b)), (4, .int (nI t))] (by decide) rfl ?_
        refine tg_iinc C (nI (t + 1)) dX0_leastByTrying_66 69 rfl 5 rfl (nI_add t 1) [(4, .int (nI (t + 1))), (3, .int (nI (min v9 (chg pr b t + k9 p9 t + lb k9 pr tc N 1 (t + 1))))), (5, .int (nI ((chg pr b t) + (k9 p9 t)))), (0, .ref (ad 51)), (1, .int (nI p9)), (2, .int (bv b))] (by decide) rfl ?_
        refine tg_goto C 21 dX0_leastByTrying_69 (by decide) ?_
        refine tg_sub [3, 4, 5, 1, 0] rfl ?_
        have e : rb k9 pr tc N 2 t = k9 p9 t + lb k9 pr tc N 1 (t + 1) := by
          have e := rb_succ k9 pr tc N 1 t
          rw [show N - (1 + 1) = p9 by omega] at e
          exact e
        have ho : chg pr b t + k9 p9 t + lb k9 pr tc N 1 (t + 1) = (fun u => rb k9 pr tc N 2 u + chg pr b u) t := by show _ = rb k9 pr tc N 2 t + chg pr b t; omega
        exact ih21 (t + 1) (min v9 (chg pr b t + k9 p9 t + lb k9 pr tc N 1 (t + 1))) ⟨by omega, Or.inr ⟨by omega, stepMin (g := (fun u => rb k9 pr tc N 2 u + chg pr b u)) hv ho (by omega)⟩, by omega⟩ (by omega)
  refine tg_sub [2, 3, 4, 1, 0] rfl ?_
  exact L21 _ 0 1000000 ⟨by omega, Or.inl ⟨rfl, rfl⟩, Nat.le_refl _⟩ (Nat.lt_succ_self _)
set_option maxHeartbeats 4000000 in
set_option maxRecDepth 100000 in
theorem c_X0_lbt_3 (l : Launch) (D : va_G) (cy : Nat → ClassId) (ad : Nat → Nat) (hDis : Dis ad) (σ : sS) {N tc pr : Nat} (hC : Ct σ N tc pr) {k9 : Nat → Nat → Nat} (hK9 : Cs σ N tc k9) (hN6 : N ≤ 6) {p9 b : Nat} (hpj : p9 + 3 = N) (hb : b ≤ tc) : Mi l yX0_leastByTrying wsX0_leastByTrying 3 75 D cy ad [.ref (ad 51), .int (nI p9), .int (bv b)] σ (fun r τ => r = nI (lb k9 pr tc N 3 b) ∧ σ = τ) := by
  have w0 : Cond.fieldLink RX0 23 "Tonguetell$Cutter" "runCount" "I" ∈ wsX0_leastByTrying := by decide +kernel
  have w1 : ∀ w ∈ wsX00, w ∈ wsX0_leastByTrying := by decide +kernel
  have w2 : Cond.constant RX0 54 (1000000) ∈ wsX0_leastByTrying := by decide +kernel
  have w3 : Cond.fieldLink RX0 27 "Tonguetell$Cutter" "choices" "I" ∈ wsX0_leastByTrying := by decide +kernel
  have w4 : Cond.fieldLink RX0 11 "Tonguetell$Cutter" "costs" "[[I" ∈ wsX0_leastByTrying := by decide +kernel
  have w5 : Cond.methodLink RX0 55 Lib.Math.min.name ∈ wsX0_leastByTrying := by decide +kernel
  have w6 : Cond.static Lib.Math.min.name ∈ wsX0_leastByTrying := by decide +kernel
  have w7 : Cond.initialized "java/lang/Math" ∈ wsX0_leastByTrying := by decide +kernel
  have w8 : Cond.code Lib.Math.min.name Lib.Math.min.code 2 (some .int) ∈ wsX0_leastByTrying := by decide +kernel
  have hC0 := hC
  obtain ⟨hc1, hc2, hc3, hc4, hc5, hc6, hc7⟩ := hC
  have hk : ∀ p t, p < N → t < tc → k9 p t ≤ 10 := fun p t h1 h2 => (hK9 p t h1 h2).2
  refine Mi.of (cc := cX0_leastByTrying) (nL := 6) (own := RX0) hDis (by decide) rfl [(0, .ref (ad 51)), (1, .int (nI p9)), (2, .int (bv b))] rfl (Nat.le_of_ble_eq_true rfl) rfl ?_
  intro p e s m args below meth c A Q C hret
  refine tg_iload_n C dX0_leastByTrying_0 1 rfl rfl 1 rfl ?_
  refine tg_aload_n C dX0_leastByTrying_1 2 rfl rfl 0 rfl ?_
  refine tg_get (T := TX0) (N := 6) (Cn := RX0) C 51 (by decide) (e_51 ad cy _) rfl w1 3 (by decide) w0 rfl rfl dX0_leastByTrying_2 5 rfl ?_
  refine tg_top (y := nI N) (hC0.1) ?_
  refine tg_icmp_ge C 13 dX0_leastByTrying_5 (by decide) 8 rfl (fun c5 => absurd c5 (fun q => absurd ((nI_leI (by omega) (by omega)).mp q) (by omega))) (fun c5 => ?_)
  refine tg_iload_n C dX0_leastByTrying_8 9 rfl rfl 1 rfl ?_
  refine tg_iconst C (nI 5) dX0_leastByTrying_9 10 rfl (by decide) ?_
  refine tg_icmp_le C 15 dX0_leastByTrying_10 (by decide) 13 rfl (fun c10 => ?_) (fun c10 => absurd ((nI_leI (by omega) (by omega)).mpr (by omega)) c10)
  refine tg_ldc C (nI 1000000) dX0_leastByTrying_15 17 rfl w2 ?_
  refine tg_istore_n C dX0_leastByTrying_17 18 rfl rfl [(3, .int (nI 1000000)), (0, .ref (ad 51)), (1, .int (nI p9)), (2, .int (bv b))] (by decide) rfl ?_
  refine tg_iconst C (nI 0) dX0_leastByTrying_18 19 rfl (by decide) ?_
  refine tg_istore C dX0_leastByTrying_19 21 rfl [(4, .int (nI 0)), (3, .int (nI 1000000)), (0, .ref (ad 51)), (1, .int (nI p9)), (2, .int (bv b))] (by decide) rfl ?_
  have L21 : ∀ (n21 : Nat) (t v9 : Nat), (t ≤ tc ∧ ((t = 0 ∧ v9 = 1000000) ∨ (0 < t ∧ v9 = (fun u => rb k9 pr tc N 3 u + chg pr b u) (amin (fun u => rb k9 pr tc N 3 u + chg pr b u) t))) ∧ v9 ≤ 1000000) → tc - t < n21 → TT p l e (Rm 3 75) s m args below meth c D cy ad A 6 0 0 Q σ 21 [(0, .ref (ad 51)), (1, .int (nI p9)), (2, .int (bv b)), (3, .int (nI v9)), (4, .int (nI t))] [] := by
    intro n21
    induction n21 with
    | zero => intro t v9 _ hn21; exact absurd hn21 (Nat.not_lt_zero _)
    | succ n21 ih21 =>
      intro t v9 ⟨ht, hv, hv2⟩ hn21
      refine tg_iload C dX0_leastByTrying_21 23 rfl 4 rfl ?_
      refine tg_aload_n C dX0_leastByTrying_23 24 rfl rfl 0 rfl ?_
      refine tg_get (T := TX0) (N := 6) (Cn := RX0) C 51 (by decide) (e_51 ad cy _) rfl w1 4 (by decide) w3 rfl rfl dX0_leastByTrying_24 27 rfl ?_
      refine tg_top (y := nI tc) (hC0.2.1) ?_
      refine tg_icmp_ge C 72 dX0_leastByTrying_27 (by decide) 30 rfl (fun c27 => ?_) (fun c27 => ?_)
      · -- to 72
        replace c27 : tc ≤ t := (nI_leI (by omega) (by omega)).mp c27
        refine tg_iload_n C dX0_leastByTrying_72 73 rfl rfl 3 rfl ?_
        exact hret dX0_leastByTrying_73 ⟨by rcases hv with hv | hv; omega; rw [hv.2, show t = tc by omega]; unfold lb; rw [if_neg (by decide)], rfl⟩
      · -- on
        replace c27 : ¬ tc ≤ t := fun q => c27 ((nI_leI (by omega) (by omega)).mpr q)
        have hrow : σ (53 + p9) t = nI (k9 p9 t) := (hK9 p9 t (by omega) (by omega)).1
        have hk1 := hk p9 t (by omega) (by omega)
        have hl1 := lb_le hk hc6 hc7 (j := 2) (t + 1) (by omega)
        have hg1 := chg_le pr b t
        refine tg_aload_n C dX0_leastByTrying_30 31 rfl rfl 0 rfl ?_
        refine tg_iload_n C dX0_leastByTrying_31 32 rfl rfl 2 rfl ?_
        refine tg_iload C dX0_leastByTrying_32 34 rfl 4 rfl ?_
        refine tg_callVi C 51 (by decide) (e_51 ad cy _) rfl (c_X0_priceOfChange l D cy ad hDis σ hC0 (b := b) (t := t) (by omega) (by omega)) (cwV 2 C.2.2.2.2.1 gX0_leastByTrying_X0_priceOfChange rfl rfl rfl (by decide +kernel) ⟨Nat.le_of_ble_eq_true rfl, Nat.le_of_ble_eq_true rfl⟩) rfl rfl (Nat.le_of_ble_eq_true rfl) ⟨Nat.le_of_ble_eq_true rfl, Nat.le_of_ble_eq_true rfl⟩ dX0_leastByTrying_34 37 rfl (fun r34 τ34 h34 => ?_)
        obtain ⟨h34, h34s⟩ := h34
        subst h34s
        subst h34
        refine tg_aload_n C dX0_leastByTrying_37 38 rfl rfl 0 rfl ?_
        refine tg_get (T := TX0) (N := 6) (Cn := RX0) C 51 (by decide) (e_51 ad cy _) rfl w1 0 (by decide) w4 rfl rfl dX0_leastByTrying_38 41 rfl ?_
        refine tg_iload_n C dX0_leastByTrying_41 42 rfl rfl 1 rfl ?_
        refine tg_aald C 52 2 (by decide) ((e_52 ad cy) _) rfl rfl p9 rfl (by omega) (by decide) dX0_leastByTrying_42 43 rfl ?_
        refine tg_iload C dX0_leastByTrying_43 45 rfl 4 rfl ?_
        refine tg_iald C (53 + p9) (by omega) ((e_rowC ad cy (show p9 < 17 by omega)) _) t rfl (by omega) (by decide) dX0_leastByTrying_45 46 rfl ?_
        refine tg_top (y := nI (k9 p9 t)) (hrow) ?_
        refine tg_iadd C (nI ((chg pr b t) + (k9 p9 t))) dX0_leastByTrying_46 47 rfl (nI_add (chg pr b t) (k9 p9 t)) ?_
        refine tg_istore C dX0_leastByTrying_47 49 rfl [(5, .int (nI ((chg pr b t) + (k9 p9 t)))), (0, .ref (ad 51)), (1, .int (nI p9)), (2, .int (bv b)), (3, .int (nI v9)), (4, .int (nI t))] (by decide) rfl ?_
        refine tg_iload_n C dX0_leastByTrying_49 50 rfl rfl 4 rfl ?_
        refine tg_iload C dX0_leastByTrying_50 52 rfl 0 rfl ?_
        refine tg_aload_n C dX0_leastByTrying_52 53 rfl rfl 1 rfl ?_
        refine tg_iload_n C dX0_leastByTrying_53 54 rfl rfl 2 rfl ?_
        refine tg_iconst C (nI 1) dX0_leastByTrying_54 55 rfl (by decide) ?_
        refine tg_iadd C (nI (p9 + 1)) dX0_leastByTrying_55 56 rfl (nI_add p9 1) ?_
        refine tg_iload C dX0_leastByTrying_56 58 rfl 5 rfl ?_
        refine tg_callSi C (c_X0_lbt_2 l D cy ad hDis σ hC0 hK9 hN6 (p9 := p9 + 1) (b := t + 1) (by omega) (by omega)) (cwS 3 C.2.2.2.2.1 gX0_leastByTrying_X0_leastByTrying rfl rfl rfl (by decide +kernel) ⟨Nat.le_of_ble_eq_true rfl, Nat.le_of_ble_eq_true rfl⟩) rfl rfl (Nat.le_of_ble_eq_true rfl) ⟨Nat.le_of_ble_eq_true rfl, Nat.le_of_ble_eq_true rfl⟩ dX0_leastByTrying_58 61 rfl (fun r58 τ58 h58 => ?_)
        obtain ⟨h58, h58s⟩ := h58
        subst h58s
        subst h58
        refine tg_iadd C (nI (((chg pr b t) + (k9 p9 t)) + (lb k9 pr tc N 2 (t + 1)))) dX0_leastByTrying_61 62 rfl (nI_add ((chg pr b t) + (k9 p9 t)) (lb k9 pr tc N 2 (t + 1))) ?_
        refine tg_mmin C w5 w6 w7 w8 (Nat.le_of_ble_eq_true rfl) (Nat.le_of_ble_eq_true rfl) ⟨Nat.le_of_ble_eq_true rfl, Nat.le_of_ble_eq_true rfl⟩ dX0_leastByTrying_62 65 rfl ?_
        refine tg_top (y := nI (min v9 (chg pr b t + k9 p9 t + lb k9 pr tc N 2 (t + 1)))) (min_nI (by omega) (by omega)) ?_
        refine tg_istore_n C dX0_leastByTrying_65 66 rfl rfl [(3, .int (nI (min v9 (chg pr b t + k9 p9 t + lb k9 pr tc N 2 (t + 1))))), (5, .int (nI ((chg pr b t) + (k9 p9 t)))), (0, .ref (ad 51)), (1, .int (nI p9)), (2, .int (bv b)), (4, .int (nI t))] (by decide) rfl ?_
        refine tg_iinc C (nI (t + 1)) dX0_leastByTrying_66 69 rfl 5 rfl (nI_add t 1) [(4, .int (nI (t + 1))), (3, .int (nI (min v9 (chg pr b t + k9 p9 t + lb k9 pr tc N 2 (t + 1))))), (5, .int (nI ((chg pr b t) + (k9 p9 t)))), (0, .ref (ad 51)), (1, .int (nI p9)), (2, .int (bv b))] (by decide) rfl ?_
        refine tg_goto C 21 dX0_leastByTrying_69 (by decide) ?_
        refine tg_sub [3, 4, 5, 1, 0] rfl ?_
        have e : rb k9 pr tc N 3 t = k9 p9 t + lb k9 pr tc N 2 (t + 1) := by
          have e := rb_succ k9 pr tc N 2 t
          rw [show N - (2 + 1) = p9 by omega] at e
          exact e
        have ho : chg pr b t + k9 p9 t + lb k9 pr tc N 2 (t + 1) = (fun u => rb k9 pr tc N 3 u + chg pr b u) t := by show _ = rb k9 pr tc N 3 t + chg pr b t; omega
        exact ih21 (t + 1) (min v9 (chg pr b t + k9 p9 t + lb k9 pr tc N 2 (t + 1))) ⟨by omega, Or.inr ⟨by omega, stepMin (g := (fun u => rb k9 pr tc N 3 u + chg pr b u)) hv ho (by omega)⟩, by omega⟩ (by omega)
  refine tg_sub [2, 3, 4, 1, 0] rfl ?_
  exact L21 _ 0 1000000 ⟨by omega, Or.inl ⟨rfl, rfl⟩, Nat.le_refl _⟩ (Nat.lt_succ_self _)
set_option maxHeartbeats 4000000 in
set_option maxRecDepth 100000 in
theorem c_X0_lbt_4 (l : Launch) (D : va_G) (cy : Nat → ClassId) (ad : Nat → Nat) (hDis : Dis ad) (σ : sS) {N tc pr : Nat} (hC : Ct σ N tc pr) {k9 : Nat → Nat → Nat} (hK9 : Cs σ N tc k9) (hN6 : N ≤ 6) {p9 b : Nat} (hpj : p9 + 4 = N) (hb : b ≤ tc) : Mi l yX0_leastByTrying wsX0_leastByTrying 4 100 D cy ad [.ref (ad 51), .int (nI p9), .int (bv b)] σ (fun r τ => r = nI (lb k9 pr tc N 4 b) ∧ σ = τ) := by
  have w0 : Cond.fieldLink RX0 23 "Tonguetell$Cutter" "runCount" "I" ∈ wsX0_leastByTrying := by decide +kernel
  have w1 : ∀ w ∈ wsX00, w ∈ wsX0_leastByTrying := by decide +kernel
  have w2 : Cond.constant RX0 54 (1000000) ∈ wsX0_leastByTrying := by decide +kernel
  have w3 : Cond.fieldLink RX0 27 "Tonguetell$Cutter" "choices" "I" ∈ wsX0_leastByTrying := by decide +kernel
  have w4 : Cond.fieldLink RX0 11 "Tonguetell$Cutter" "costs" "[[I" ∈ wsX0_leastByTrying := by decide +kernel
  have w5 : Cond.methodLink RX0 55 Lib.Math.min.name ∈ wsX0_leastByTrying := by decide +kernel
  have w6 : Cond.static Lib.Math.min.name ∈ wsX0_leastByTrying := by decide +kernel
  have w7 : Cond.initialized "java/lang/Math" ∈ wsX0_leastByTrying := by decide +kernel
  have w8 : Cond.code Lib.Math.min.name Lib.Math.min.code 2 (some .int) ∈ wsX0_leastByTrying := by decide +kernel
  have hC0 := hC
  obtain ⟨hc1, hc2, hc3, hc4, hc5, hc6, hc7⟩ := hC
  have hk : ∀ p t, p < N → t < tc → k9 p t ≤ 10 := fun p t h1 h2 => (hK9 p t h1 h2).2
  refine Mi.of (cc := cX0_leastByTrying) (nL := 6) (own := RX0) hDis (by decide) rfl [(0, .ref (ad 51)), (1, .int (nI p9)), (2, .int (bv b))] rfl (Nat.le_of_ble_eq_true rfl) rfl ?_
  intro p e s m args below meth c A Q C hret
  refine tg_iload_n C dX0_leastByTrying_0 1 rfl rfl 1 rfl ?_
  refine tg_aload_n C dX0_leastByTrying_1 2 rfl rfl 0 rfl ?_
  refine tg_get (T := TX0) (N := 6) (Cn := RX0) C 51 (by decide) (e_51 ad cy _) rfl w1 3 (by decide) w0 rfl rfl dX0_leastByTrying_2 5 rfl ?_
  refine tg_top (y := nI N) (hC0.1) ?_
  refine tg_icmp_ge C 13 dX0_leastByTrying_5 (by decide) 8 rfl (fun c5 => absurd c5 (fun q => absurd ((nI_leI (by omega) (by omega)).mp q) (by omega))) (fun c5 => ?_)
  refine tg_iload_n C dX0_leastByTrying_8 9 rfl rfl 1 rfl ?_
  refine tg_iconst C (nI 5) dX0_leastByTrying_9 10 rfl (by decide) ?_
  refine tg_icmp_le C 15 dX0_leastByTrying_10 (by decide) 13 rfl (fun c10 => ?_) (fun c10 => absurd ((nI_leI (by omega) (by omega)).mpr (by omega)) c10)
  refine tg_ldc C (nI 1000000) dX0_leastByTrying_15 17 rfl w2 ?_
  refine tg_istore_n C dX0_leastByTrying_17 18 rfl rfl [(3, .int (nI 1000000)), (0, .ref (ad 51)), (1, .int (nI p9)), (2, .int (bv b))] (by decide) rfl ?_
  refine tg_iconst C (nI 0) dX0_leastByTrying_18 19 rfl (by decide) ?_
  refine tg_istore C dX0_leastByTrying_19 21 rfl [(4, .int (nI 0)), (3, .int (nI 1000000)), (0, .ref (ad 51)), (1, .int (nI p9)), (2, .int (bv b))] (by decide) rfl ?_
  have L21 : ∀ (n21 : Nat) (t v9 : Nat), (t ≤ tc ∧ ((t = 0 ∧ v9 = 1000000) ∨ (0 < t ∧ v9 = (fun u => rb k9 pr tc N 4 u + chg pr b u) (amin (fun u => rb k9 pr tc N 4 u + chg pr b u) t))) ∧ v9 ≤ 1000000) → tc - t < n21 → TT p l e (Rm 4 100) s m args below meth c D cy ad A 6 0 0 Q σ 21 [(0, .ref (ad 51)), (1, .int (nI p9)), (2, .int (bv b)), (3, .int (nI v9)), (4, .int (nI t))] [] := by
    intro n21
    induction n21 with
    | zero => intro t v9 _ hn21; exact absurd hn21 (Nat.not_lt_zero _)
    | succ n21 ih21 =>
      intro t v9 ⟨ht, hv, hv2⟩ hn21
      refine tg_iload C dX0_leastByTrying_21 23 rfl 4 rfl ?_
      refine tg_aload_n C dX0_leastByTrying_23 24 rfl rfl 0 rfl ?_
      refine tg_get (T := TX0) (N := 6) (Cn := RX0) C 51 (by decide) (e_51 ad cy _) rfl w1 4 (by decide) w3 rfl rfl dX0_leastByTrying_24 27 rfl ?_
      refine tg_top (y := nI tc) (hC0.2.1) ?_
      refine tg_icmp_ge C 72 dX0_leastByTrying_27 (by decide) 30 rfl (fun c27 => ?_) (fun c27 => ?_)
      · -- to 72
        replace c27 : tc ≤ t := (nI_leI (by omega) (by omega)).mp c27
        refine tg_iload_n C dX0_leastByTrying_72 73 rfl rfl 3 rfl ?_
        exact hret dX0_leastByTrying_73 ⟨by rcases hv with hv | hv; omega; rw [hv.2, show t = tc by omega]; unfold lb; rw [if_neg (by decide)], rfl⟩
      · -- on
        replace c27 : ¬ tc ≤ t := fun q => c27 ((nI_leI (by omega) (by omega)).mpr q)
        have hrow : σ (53 + p9) t = nI (k9 p9 t) := (hK9 p9 t (by omega) (by omega)).1
        have hk1 := hk p9 t (by omega) (by omega)
        have hl1 := lb_le hk hc6 hc7 (j := 3) (t + 1) (by omega)
        have hg1 := chg_le pr b t
        refine tg_aload_n C dX0_leastByTrying_30 31 rfl rfl 0 rfl ?_
        refine tg_iload_n C dX0_leastByTrying_31 32 rfl rfl 2 rfl ?_
        refine tg_iload C dX0_leastByTrying_32 34 rfl 4 rfl ?_
        refine tg_callVi C 51 (by decide) (e_51 ad cy _) rfl (c_X0_priceOfChange l D cy ad hDis σ hC0 (b := b) (t := t) (by omega) (by omega)) (cwV 2 C.2.2.2.2.1 gX0_leastByTrying_X0_priceOfChange rfl rfl rfl (by decide +kernel) ⟨Nat.le_of_ble_eq_true rfl, Nat.le_of_ble_eq_true rfl⟩) rfl rfl (Nat.le_of_ble_eq_true rfl) ⟨Nat.le_of_ble_eq_true rfl, Nat.le_of_ble_eq_true rfl⟩ dX0_leastByTrying_34 37 rfl (fun r34 τ34 h34 => ?_)
        obtain ⟨h34, h34s⟩ := h34
        subst h34s
        subst h34
        refine tg_aload_n C dX0_leastByTrying_37 38 rfl rfl 0 rfl ?_
        refine tg_get (T := TX0) (N := 6) (Cn := RX0) C 51 (by decide) (e_51 ad cy _) rfl w1 0 (by decide) w4 rfl rfl dX0_leastByTrying_38 41 rfl ?_
        refine tg_iload_n C dX0_leastByTrying_41 42 rfl rfl 1 rfl ?_
        refine tg_aald C 52 2 (by decide) ((e_52 ad cy) _) rfl rfl p9 rfl (by omega) (by decide) dX0_leastByTrying_42 43 rfl ?_
        refine tg_iload C dX0_leastByTrying_43 45 rfl 4 rfl ?_
        refine tg_iald C (53 + p9) (by omega) ((e_rowC ad cy (show p9 < 17 by omega)) _) t rfl (by omega) (by decide) dX0_leastByTrying_45 46 rfl ?_
        refine tg_top (y := nI (k9 p9 t)) (hrow) ?_
        refine tg_iadd C (nI ((chg pr b t) + (k9 p9 t))) dX0_leastByTrying_46 47 rfl (nI_add (chg pr b t) (k9 p9 t)) ?_
        refine tg_istore C dX0_leastByTrying_47 49 rfl [(5, .int (nI ((chg pr b t) + (k9 p9 t)))), (0, .ref (ad 51)), (1, .int (nI p9)), (2, .int (bv b)), (3, .int (nI v9)), (4, .int (nI t))] (by decide) rfl ?_
        refine tg_iload_n C dX0_leastByTrying_49 50 rfl rfl 4 rfl ?_
        refine tg_iload C dX0_leastByTrying_50 52 rfl 0 rfl ?_
        refine tg_aload_n C dX0_leastByTrying_52 53 rfl rfl 1 rfl ?_
        refine tg_iload_n C dX0_leastByTrying_53 54 rfl rfl 2 rfl ?_
        refine tg_iconst C (nI 1) dX0_leastByTrying_54 55 rfl (by decide) ?_
        refine tg_iadd C (nI (p9 + 1)) dX0_leastByTrying_55 56 rfl (nI_add p9 1) ?_
        refine tg_iload C dX0_leastByTrying_56 58 rfl 5 rfl ?_
        refine tg_callSi C (c_X0_lbt_3 l D cy ad hDis σ hC0 hK9 hN6 (p9 := p9 + 1) (b := t + 1) (by omega) (by omega)) (cwS 3 C.2.2.2.2.1 gX0_leastByTrying_X0_leastByTrying rfl rfl rfl (by decide +kernel) ⟨Nat.le_of_ble_eq_true rfl, Nat.le_of_ble_eq_true rfl⟩) rfl rfl (Nat.le_of_ble_eq_true rfl) ⟨Nat.le_of_ble_eq_true rfl, Nat.le_of_ble_eq_true rfl⟩ dX0_leastByTrying_58 61 rfl (fun r58 τ58 h58 => ?_)
        obtain ⟨h58, h58s⟩ := h58
        subst h58s
        subst h58
        refine tg_iadd C (nI (((chg pr b t) + (k9 p9 t)) + (lb k9 pr tc N 3 (t + 1)))) dX0_leastByTrying_61 62 rfl (nI_add ((chg pr b t) + (k9 p9 t)) (lb k9 pr tc N 3 (t + 1))) ?_
        refine tg_mmin C w5 w6 w7 w8 (Nat.le_of_ble_eq_true rfl) (Nat.le_of_ble_eq_true rfl) ⟨Nat.le_of_ble_eq_true rfl, Nat.le_of_ble_eq_true rfl⟩ dX0_leastByTrying_62 65 rfl ?_
        refine tg_top (y := nI (min v9 (chg pr b t + k9 p9 t + lb k9 pr tc N 3 (t + 1)))) (min_nI (by omega) (by omega)) ?_
        refine tg_istore_n C dX0_leastByTrying_65 66 rfl rfl [(3, .int (nI (min v9 (chg pr b t + k9 p9 t + lb k9 pr tc N 3 (t + 1))))), (5, .int (nI ((chg pr b t) + (k9 p9 t)))), (0, .ref (ad 51)), (1, .int (nI p9)), (2, .int (bv b)), (4, .int (nI t))] (by decide) rfl ?_
        refine tg_iinc C (nI (t + 1)) dX0_leastByTrying_66 69 rfl 5 rfl (nI_add t 1) [(4, .int (nI (t + 1))), (3, .int (nI (min v9 (chg pr b t + k9 p9 t + lb k9 pr tc N 3 (t + 1))))), (5, .int (nI ((chg pr b t) + (k9 p9 t)))), (0, .ref (ad 51)), (1, .int (nI p9)), (2, .int (bv b))] (by decide) rfl ?_
        refine tg_goto C 21 dX0_leastByTrying_69 (by decide) ?_
        refine tg_sub [3, 4, 5, 1, 0] rfl ?_
        have e : rb k9 pr tc N 4 t = k9 p9 t + lb k9 pr tc N 3 (t + 1) := by
          have e := rb_succ k9 pr tc N 3 t
          rw [show N - (3 + 1) = p9 by omega] at e
          exact e
        have ho : chg pr b t + k9 p9 t + lb k9 pr tc N 3 (t + 1) = (fun u => rb k9 pr tc N 4 u + chg pr b u) t := by show _ = rb k9 pr tc N 4 t + chg pr b t; omega
        exact ih21 (t + 1) (min v9 (chg pr b t + k9 p9 t + lb k9 pr tc N 3 (t + 1))) ⟨by omega, Or.inr ⟨by omega, stepMin (g := (fun u => rb k9 pr tc N 4 u + chg pr b u)) hv ho (by omega)⟩, by omega⟩ (by omega)
  refine tg_sub [2, 3, 4, 1, 0] rfl ?_
  exact L21 _ 0 1000000 ⟨by omega, Or.inl ⟨rfl, rfl⟩, Nat.le_refl _⟩ (Nat.lt_succ_self _)
set_option maxHeartbeats 4000000 in
set_option maxRecDepth 100000 in
theorem c_X0_lbt_5 (l : Launch) (D : va_G) (cy : Nat → ClassId) (ad : Nat → Nat) (hDis : Dis ad) (σ : sS) {N tc pr : Nat} (hC : Ct σ N tc pr) {k9 : Nat → Nat → Nat} (hK9 : Cs σ N tc k9) (hN6 : N ≤ 6) {p9 b : Nat} (hpj : p9 + 5 = N) (hb : b ≤ tc) : Mi l yX0_leastByTrying wsX0_leastByTrying 5 125 D cy ad [.ref (ad 51), .int (nI p9), .int (bv b)] σ (fun r τ => r = nI (lb k9 pr tc N 5 b) ∧ σ = τ) := by
  have w0 : Cond.fieldLink RX0 23 "Tonguetell$Cutter" "runCount" "I" ∈ wsX0_leastByTrying := by decide +kernel
  have w1 : ∀ w ∈ wsX00, w ∈ wsX0_leastByTrying := by decide +kernel
  have w2 : Cond.constant RX0 54 (1000000) ∈ wsX0_leastByTrying := by decide +kernel
  have w3 : Cond.fieldLink RX0 27 "Tonguetell$Cutter" "choices" "I" ∈ wsX0_leastByTrying := by decide +kernel
  have w4 : Cond.fieldLink RX0 11 "Tonguetell$Cutter" "costs" "[[I" ∈ wsX0_leastByTrying := by decide +kernel
  have w5 : Cond.methodLink RX0 55 Lib.Math.min.name ∈ wsX0_leastByTrying := by decide +kernel
  have w6 : Cond.static Lib.Math.min.name ∈ wsX0_leastByTrying := by decide +kernel
  have w7 : Cond.initialized "java/lang/Math" ∈ wsX0_leastByTrying := by decide +kernel
  have w8 : Cond.code Lib.Math.min.name Lib.Math.min.code 2 (some .int) ∈ wsX0_leastByTrying := by decide +kernel
  have hC0 := hC
  obtain ⟨hc1, hc2, hc3, hc4, hc5, hc6, hc7⟩ := hC
  have hk : ∀ p t, p < N → t < tc → k9 p t ≤ 10 := fun p t h1 h2 => (hK9 p t h1 h2).2
  refine Mi.of (cc := cX0_leastByTrying) (nL := 6) (own := RX0) hDis (by decide) rfl [(0, .ref (ad 51)), (1, .int (nI p9)), (2, .int (bv b))] rfl (Nat.le_of_ble_eq_true rfl) rfl ?_
  intro p e s m args below meth c A Q C hret
  refine tg_iload_n C dX0_leastByTrying_0 1 rfl rfl 1 rfl ?_
  refine tg_aload_n C dX0_leastByTrying_1 2 rfl rfl 0 rfl ?_
  refine tg_get (T := TX0) (N := 6) (Cn := RX0) C 51 (by decide) (e_51 ad cy _) rfl w1 3 (by decide) w0 rfl rfl dX0_leastByTrying_2 5 rfl ?_
  refine tg_top (y := nI N) (hC0.1) ?_
  refine tg_icmp_ge C 13 dX0_leastByTrying_5 (by decide) 8 rfl (fun c5 => absurd c5 (fun q => absurd ((nI_leI (by omega) (by omega)).mp q) (by omega))) (fun c5 => ?_)
  refine tg_iload_n C dX0_leastByTrying_8 9 rfl rfl 1 rfl ?_
  refine tg_iconst C (nI 5) dX0_leastByTrying_9 10 rfl (by decide) ?_
  refine tg_icmp_le C 15 dX0_leastByTrying_10 (by decide) 13 rfl (fun c10 => ?_) (fun c10 => absurd ((nI_leI (by omega) (by omega)).mpr (by omega)) c10)
  refine tg_ldc C (nI 1000000) dX0_leastByTrying_15 17 rfl w2 ?_
  refine tg_istore_n C dX0_leastByTrying_17 18 rfl rfl [(3, .int (nI 1000000)), (0, .ref (ad 51)), (1, .int (nI p9)), (2, .int (bv b))] (by decide) rfl ?_
  refine tg_iconst C (nI 0) dX0_leastByTrying_18 19 rfl (by decide) ?_
  refine tg_istore C dX0_leastByTrying_19 21 rfl [(4, .int (nI 0)), (3, .int (nI 1000000)), (0, .ref (ad 51)), (1, .int (nI p9)), (2, .int (bv b))] (by decide) rfl ?_
  have L21 : ∀ (n21 : Nat) (t v9 : Nat), (t ≤ tc ∧ ((t = 0 ∧ v9 = 1000000) ∨ (0 < t ∧ v9 = (fun u => rb k9 pr tc N 5 u + chg pr b u) (amin (fun u => rb k9 pr tc N 5 u + chg pr b u) t))) ∧ v9 ≤ 1000000) → tc - t < n21 → TT p l e (Rm 5 125) s m args below meth c D cy ad A 6 0 0 Q σ 21 [(0, .ref (ad 51)), (1, .int (nI p9)), (2, .int (bv b)), (3, .int (nI v9)), (4, .int (nI t))] [] := by
    intro n21
    induction n21 with
    | zero => intro t v9 _ hn21; exact absurd hn21 (Nat.not_lt_zero _)
    | succ n21 ih21 =>
      intro t v9 ⟨ht, hv, hv2⟩ hn21
      refine tg_iload C dX0_leastByTrying_21 23 rfl 4 rfl ?_
      refine tg_aload_n C dX0_leastByTrying_23 24 rfl rfl 0 rfl ?_
      refine tg_get (T := TX0) (N := 6) (Cn := RX0) C 51 (by decide) (e_51 ad cy _) rfl w1 4 (by decide) w3 rfl rfl dX0_leastByTrying_24 27 rfl ?_
      refine tg_top (y := nI tc) (hC0.2.1) ?_
      refine tg_icmp_ge C 72 dX0_leastByTrying_27 (by decide) 30 rfl (fun c27 => ?_) (fun c27 => ?_)
      · -- to 72
        replace c27 : tc ≤ t := (nI_leI (by omega) (by omega)).mp c27
        refine tg_iload_n C dX0_leastByTrying_72 73 rfl rfl 3 rfl ?_
        exact hret dX0_leastByTrying_73 ⟨by rcases hv with hv | hv; omega; rw [hv.2, show t = tc by omega]; unfold lb; rw [if_neg (by decide)], rfl⟩
      · -- on
        replace c27 : ¬ tc ≤ t := fun q => c27 ((nI_leI (by omega) (by omega)).mpr q)
        have hrow : σ (53 + p9) t = nI (k9 p9 t) := (hK9 p9 t (by omega) (by omega)).1
        have hk1 := hk p9 t (by omega) (by omega)
        have hl1 := lb_le hk hc6 hc7 (j := 4) (t + 1) (by omega)
        have hg1 := chg_le pr b t
        refine tg_aload_n C dX0_leastByTrying_30 31 rfl rfl 0 rfl ?_
        refine tg_iload_n C dX0_leastByTrying_31 32 rfl rfl 2 rfl ?_
        refine tg_iload C dX0_leastByTrying_32 34 rfl 4 rfl ?_
        refine tg_callVi C 51 (by decide) (e_51 ad cy _) rfl (c_X0_priceOfChange l D cy ad hDis σ hC0 (b := b) (t := t) (by omega) (by omega)) (cwV 2 C.2.2.2.2.1 gX0_leastByTrying_X0_priceOfChange rfl rfl rfl (by decide +kernel) ⟨Nat.le_of_ble_eq_true rfl, Nat.le_of_ble_eq_true rfl⟩) rfl rfl (Nat.le_of_ble_eq_true rfl) ⟨Nat.le_of_ble_eq_true rfl, Nat.le_of_ble_eq_true rfl⟩ dX0_leastByTrying_34 37 rfl (fun r34 τ34 h34 => ?_)
        obtain ⟨h34, h34s⟩ := h34
        subst h34s
        subst h34
        refine tg_aload_n C dX0_leastByTrying_37 38 rfl rfl 0 rfl ?_
        refine tg_get (T := TX0) (N := 6) (Cn := RX0) C 51 (by decide) (e_51 ad cy _) rfl w1 0 (by decide) w4 rfl rfl dX0_leastByTrying_38 41 rfl ?_
        refine tg_iload_n C dX0_leastByTrying_41 42 rfl rfl 1 rfl ?_
        refine tg_aald C 52 2 (by decide) ((e_52 ad cy) _) rfl rfl p9 rfl (by omega) (by decide) dX0_leastByTrying_42 43 rfl ?_
        refine tg_iload C dX0_leastByTrying_43 45 rfl 4 rfl ?_
        refine tg_iald C (53 + p9) (by omega) ((e_rowC ad cy (show p9 < 17 by omega)) _) t rfl (by omega) (by decide) dX0_leastByTrying_45 46 rfl ?_
        refine tg_top (y := nI (k9 p9 t)) (hrow) ?_
        refine tg_iadd C (nI ((chg pr b t) + (k9 p9 t))) dX0_leastByTrying_46 47 rfl (nI_add (chg pr b t) (k9 p9 t)) ?_
        refine tg_istore C dX0_leastByTrying_47 49 rfl [(5, .int (nI ((chg pr b t) + (k9 p9 t)))), (0, .ref (ad 51)), (1, .int (nI p9)), (2, .int (bv b)), (3, .int (nI v9)), (4, .int (nI t))] (by decide) rfl ?_
        refine tg_iload_n C dX0_leastByTrying_49 50 rfl rfl 4 rfl ?_
        refine tg_iload C dX0_leastByTrying_50 52 rfl 0 rfl ?_
        refine tg_aload_n C dX0_leastByTrying_52 53 rfl rfl 1 rfl ?_
        refine tg_iload_n C dX0_leastByTrying_53 54 rfl rfl 2 rfl ?_
        refine tg_iconst C (nI 1) dX0_leastByTrying_54 55 rfl (by decide) ?_
        refine tg_iadd C (nI (p9 + 1)) dX0_leastByTrying_55 56 rfl (nI_add p9 1) ?_
        refine tg_iload C dX0_leastByTrying_56 58 rfl 5 rfl ?_
        refine tg_callSi C (c_X0_lbt_4 l D cy ad hDis σ hC0 hK9 hN6 (p9 := p9 + 1) (b := t + 1) (by omega) (by omega)) (cwS 3 C.2.2.2.2.1 gX0_leastByTrying_X0_leastByTrying rfl rfl rfl (by decide +kernel) ⟨Nat.le_of_ble_eq_true rfl, Nat.le_of_ble_eq_true rfl⟩) rfl rfl (Nat.le_of_ble_eq_true rfl) ⟨Nat.le_of_ble_eq_true rfl, Nat.le_of_ble_eq_true rfl⟩ dX0_leastByTrying_58 61 rfl (fun r58 τ58 h58 => ?_)
        obtain ⟨h58, h58s⟩ := h58
        subst h58s
        subst h58
        refine tg_iadd C (nI (((chg pr b t) + (k9 p9 t)) + (lb k9 pr tc N 4 (t + 1)))) dX0_leastByTrying_61 62 rfl (nI_add ((chg pr b t) + (k9 p9 t)) (lb k9 pr tc N 4 (t + 1))) ?_
        refine tg_mmin C w5 w6 w7 w8 (Nat.le_of_ble_eq_true rfl) (Nat.le_of_ble_eq_true rfl) ⟨Nat.le_of_ble_eq_true rfl, Nat.le_of_ble_eq_true rfl⟩ dX0_leastByTrying_62 65 rfl ?_
        refine tg_top (y := nI (min v9 (chg pr b t + k9 p9 t + lb k9 pr tc N 4 (t + 1)))) (min_nI (by omega) (by omega)) ?_
        refine tg_istore_n C dX0_leastByTrying_65 66 rfl rfl [(3, .int (nI (min v9 (chg pr b t + k9 p9 t + lb k9 pr tc N 4 (t + 1))))), (5, .int (nI ((chg pr b t) + (k9 p9 t)))), (0, .ref (ad 51)), (1, .int (nI p9)), (2, .int (bv b)), (4, .int (nI t))] (by decide) rfl ?_
        refine tg_iinc C (nI (t + 1)) dX0_leastByTrying_66 69 rfl 5 rfl (nI_add t 1) [(4, .int (nI (t + 1))), (3, .int (nI (min v9 (chg pr b t + k9 p9 t + lb k9 pr tc N 4 (t + 1))))), (5, .int (nI ((chg pr b t) + (k9 p9 t)))), (0, .ref (ad 51)), (1, .int (nI p9)), (2, .int (bv b))] (by decide) rfl ?_
        refine tg_goto C 21 dX0_leastByTrying_69 (by decide) ?_
        refine tg_sub [3, 4, 5, 1, 0] rfl ?_
        have e : rb k9 pr tc N 5 t = k9 p9 t + lb k9 pr tc N 4 (t + 1) := by
          have e := rb_succ k9 pr tc N 4 t
          rw [show N - (4 + 1) = p9 by omega] at e
          exact e
        have ho : chg pr b t + k9 p9 t + lb k9 pr tc N 4 (t + 1) = (fun u => rb k9 pr tc N 5 u + chg pr b u) t := by show _ = rb k9 pr tc N 5 t + chg pr b t; omega
        exact ih21 (t + 1) (min v9 (chg pr b t + k9 p9 t + lb k9 pr tc N 4 (t + 1))) ⟨by omega, Or.inr ⟨by omega, stepMin (g := (fun u => rb k9 pr tc N 5 u + chg pr b u)) hv ho (by omega)⟩, by omega⟩ (by omega)
  refine tg_sub [2, 3, 4, 1, 0] rfl ?_
  exact L21 _ 0 1000000 ⟨by omega, Or.inl ⟨rfl, rfl⟩, Nat.le_refl _⟩ (Nat.lt_succ_self _)
set_option maxHeartbeats 4000000 in
set_option maxRecDepth 100000 in
theorem c_X0_lbt_6 (l : Launch) (D : va_G) (cy : Nat → ClassId) (ad : Nat → Nat) (hDis : Dis ad) (σ : sS) {N tc pr : Nat} (hC : Ct σ N tc pr) {k9 : Nat → Nat → Nat} (hK9 : Cs σ N tc k9) (hN6 : N ≤ 6) {p9 b : Nat} (hpj : p9 + 6 = N) (hb : b ≤ tc) : Mi l yX0_leastByTrying wsX0_leastByTrying 6 150 D cy ad [.ref (ad 51), .int (nI p9), .int (bv b)] σ (fun r τ => r = nI (lb k9 pr tc N 6 b) ∧ σ = τ) := by
  have w0 : Cond.fieldLink RX0 23 "Tonguetell$Cutter" "runCount" "I" ∈ wsX0_leastByTrying := by decide +kernel
  have w1 : ∀ w ∈ wsX00, w ∈ wsX0_leastByTrying := by decide +kernel
  have w2 : Cond.constant RX0 54 (1000000) ∈ wsX0_leastByTrying := by decide +kernel
  have w3 : Cond.fieldLink RX0 27 "Tonguetell$Cutter" "choices" "I" ∈ wsX0_leastByTrying := by decide +kernel
  have w4 : Cond.fieldLink RX0 11 "Tonguetell$Cutter" "costs" "[[I" ∈ wsX0_leastByTrying := by decide +kernel
  have w5 : Cond.methodLink RX0 55 Lib.Math.min.name ∈ wsX0_leastByTrying := by decide +kernel
  have w6 : Cond.static Lib.Math.min.name ∈ wsX0_leastByTrying := by decide +kernel
  have w7 : Cond.initialized "java/lang/Math" ∈ wsX0_leastByTrying := by decide +kernel
  have w8 : Cond.code Lib.Math.min.name Lib.Math.min.code 2 (some .int) ∈ wsX0_leastByTrying := by decide +kernel
  have hC0 := hC
  obtain ⟨hc1, hc2, hc3, hc4, hc5, hc6, hc7⟩ := hC
  have hk : ∀ p t, p < N → t < tc → k9 p t ≤ 10 := fun p t h1 h2 => (hK9 p t h1 h2).2
  refine Mi.of (cc := cX0_leastByTrying) (nL := 6) (own := RX0) hDis (by decide) rfl [(0, .ref (ad 51)), (1, .int (nI p9)), (2, .int (bv b))] rfl (Nat.le_of_ble_eq_true rfl) rfl ?_
  intro p e s m args below meth c A Q C hret
  refine tg_iload_n C dX0_leastByTrying_0 1 rfl rfl 1 rfl ?_
  refine tg_aload_n C dX0_leastByTrying_1 2 rfl rfl 0 rfl ?_
  refine tg_get (T := TX0) (N := 6) (Cn := RX0) C 51 (by decide) (e_51 ad cy _) rfl w1 3 (by decide) w0 rfl rfl dX0_leastByTrying_2 5 rfl ?_
  refine tg_top (y := nI N) (hC0.1) ?_
  refine tg_icmp_ge C 13 dX0_leastByTrying_5 (by decide) 8 rfl (fun c5 => absurd c5 (fun q => absurd ((nI_leI (by omega) (by omega)).mp q) (by omega))) (fun c5 => ?_)
  refine tg_iload_n C dX0_leastByTrying_8 9 rfl rfl 1 rfl ?_
  refine tg_iconst C (nI 5) dX0_leastByTrying_9 10 rfl (by decide) ?_
  refine tg_icmp_le C 15 dX0_leastByTrying_10 (by decide) 13 rfl (fun c10 => ?_) (fun c10 => absurd ((nI_leI (by omega) (by omega)).mpr (by omega)) c10)
  refine tg_ldc C (nI 1000000) dX0_leastByTrying_15 17 rfl w2 ?_
  refine tg_istore_n C dX0_leastByTrying_17 18 rfl rfl [(3, .int (nI 1000000)), (0, .ref (ad 51)), (1, .int (nI p9)), (2, .int (bv b))] (by decide) rfl ?_
  refine tg_iconst C (nI 0) dX0_leastByTrying_18 19 rfl (by decide) ?_
  refine tg_istore C dX0_leastByTrying_19 21 rfl [(4, .int (nI 0)), (3, .int (nI 1000000)), (0, .ref (ad 51)), (1, .int (nI p9)), (2, .int (bv b))] (by decide) rfl ?_
  have L21 : ∀ (n21 : Nat) (t v9 : Nat), (t ≤ tc ∧ ((t = 0 ∧ v9 = 1000000) ∨ (0 < t ∧ v9 = (fun u => rb k9 pr tc N 6 u + chg pr b u) (amin (fun u => rb k9 pr tc N 6 u + chg pr b u) t))) ∧ v9 ≤ 1000000) → tc - t < n21 → TT p l e (Rm 6 150) s m args below meth c D cy ad A 6 0 0 Q σ 21 [(0, .ref (ad 51)), (1, .int (nI p9)), (2, .int (bv b)), (3, .int (nI v9)), (4, .int (nI t))] [] := by
    intro n21
    induction n21 with
    | zero => intro t v9 _ hn21; exact absurd hn21 (Nat.not_lt_zero _)
    | succ n21 ih21 =>
      intro t v9 ⟨ht, hv, hv2⟩ hn21
      refine tg_iload C dX0_leastByTrying_21 23 rfl 4 rfl ?_
      refine tg_aload_n C dX0_leastByTrying_23 24 rfl rfl 0 rfl ?_
      refine tg_get (T := TX0) (N := 6) (Cn := RX0) C 51 (by decide) (e_51 ad cy _) rfl w1 4 (by decide) w3 rfl rfl dX0_leastByTrying_24 27 rfl ?_
      refine tg_top (y := nI tc) (hC0.2.1) ?_
      refine tg_icmp_ge C 72 dX0_leastByTrying_27 (by decide) 30 rfl (fun c27 => ?_) (fun c27 => ?_)
      · -- to 72
        replace c27 : tc ≤ t := (nI_leI (by omega) (by omega)).mp c27
        refine tg_iload_n C dX0_leastByTrying_72 73 rfl rfl 3 rfl ?_
        exact hret dX0_leastByTrying_73 ⟨by rcases hv with hv | hv; omega; rw [hv.2, show t = tc by omega]; unfold lb; rw [if_neg (by decide)], rfl⟩
      · -- on
        replace c27 : ¬ tc ≤ t := fun q => c27 ((nI_leI (by omega) (by omega)).mpr q)
        have hrow : σ (53 + p9) t = nI (k9 p9 t) := (hK9 p9 t (by omega) (by omega)).1
        have hk1 := hk p9 t (by omega) (by omega)
        have hl1 := lb_le hk hc6 hc7 (j := 5) (t + 1) (by omega)
        have hg1 := chg_le pr b t
        refine tg_aload_n C dX0_leastByTrying_30 31 rfl rfl 0 rfl ?_
        refine tg_iload_n C dX0_leastByTrying_31 32 rfl rfl 2 rfl ?_
        refine tg_iload C dX0_leastByTrying_32 34 rfl 4 rfl ?_
        refine tg_callVi C 51 (by decide) (e_51 ad cy _) rfl (c_X0_priceOfChange l D cy ad hDis σ hC0 (b := b) (t := t) (by omega) (by omega)) (cwV 2 C.2.2.2.2.1 gX0_leastByTrying_X0_priceOfChange rfl rfl rfl (by decide +kernel) ⟨Nat.le_of_ble_eq_true rfl, Nat.le_of_ble_eq_true rfl⟩) rfl rfl (Nat.le_of_ble_eq_true rfl) ⟨Nat.le_of_ble_eq_true rfl, Nat.le_of_ble_eq_true rfl⟩ dX0_leastByTrying_34 37 rfl (fun r34 τ34 h34 => ?_)
        obtain ⟨h34, h34s⟩ := h34
        subst h34s
        subst h34
        refine tg_aload_n C dX0_leastByTrying_37 38 rfl rfl 0 rfl ?_
        refine tg_get (T := TX0) (N := 6) (Cn := RX0) C 51 (by decide) (e_51 ad cy _) rfl w1 0 (by decide) w4 rfl rfl dX0_leastByTrying_38 41 rfl ?_
        refine tg_iload_n C dX0_leastByTrying_41 42 rfl rfl 1 rfl ?_
        refine tg_aald C 52 2 (by decide) ((e_52 ad cy) _) rfl rfl p9 rfl (by omega) (by decide) dX0_leastByTrying_42 43 rfl ?_
        refine tg_iload C dX0_leastByTrying_43 45 rfl 4 rfl ?_
        refine tg_iald C (53 + p9) (by omega) ((e_rowC ad cy (show p9 < 17 by omega)) _) t rfl (by omega) (by decide) dX0_leastByTrying_45 46 rfl ?_
        refine tg_top (y := nI (k9 p9 t)) (hrow) ?_
        refine tg_iadd C (nI ((chg pr b t) + (k9 p9 t))) dX0_leastByTrying_46 47 rfl (nI_add (chg pr b t) (k9 p9 t)) ?_
        refine tg_istore C dX0_leastByTrying_47 49 rfl [(5, .int (nI ((chg pr b t) + (k9 p9 t)))), (0, .ref (ad 51)), (1, .int (nI p9)), (2, .int (bv b)), (3, .int (nI v9)), (4, .int (nI t))] (by decide) rfl ?_
        refine tg_iload_n C dX0_leastByTrying_49 50 rfl rfl 4 rfl ?_
        refine tg_iload C dX0_leastByTrying_50 52 rfl 0 rfl ?_
        refine tg_aload_n C dX0_leastByTrying_52 53 rfl rfl 1 rfl ?_
        refine tg_iload_n C dX0_leastByTrying_53 54 rfl rfl 2 rfl ?_
        refine tg_iconst C (nI 1) dX0_leastByTrying_54 55 rfl (by decide) ?_
        refine tg_iadd C (nI (p9 + 1)) dX0_leastByTrying_55 56 rfl (nI_add p9 1) ?_
        refine tg_iload C dX0_leastByTrying_56 58 rfl 5 rfl ?_
        refine tg_callSi C (c_X0_lbt_5 l D cy ad hDis σ hC0 hK9 hN6 (p9 := p9 + 1) (b := t + 1) (by omega) (by omega)) (cwS 3 C.2.2.2.2.1 gX0_leastByTrying_X0_leastByTrying rfl rfl rfl (by decide +kernel) ⟨Nat.le_of_ble_eq_true rfl, Nat.le_of_ble_eq_true rfl⟩) rfl rfl (Nat.le_of_ble_eq_true rfl) ⟨Nat.le_of_ble_eq_true rfl, Nat.le_of_ble_eq_true rfl⟩ dX0_leastByTrying_58 61 rfl (fun r58 τ58 h58 => ?_)
        obtain ⟨h58, h58s⟩ := h58
        subst h58s
        subst h58
        refine tg_iadd C (nI (((chg pr b t) + (k9 p9 t)) + (lb k9 pr tc N 5 (t + 1)))) dX0_leastByTrying_61 62 rfl (nI_add ((chg pr b t) + (k9 p9 t)) (lb k9 pr tc N 5 (t + 1))) ?_
        refine tg_mmin C w5 w6 w7 w8 (Nat.le_of_ble_eq_true rfl) (Nat.le_of_ble_eq_true rfl) ⟨Nat.le_of_ble_eq_true rfl, Nat.le_of_ble_eq_true rfl⟩ dX0_leastByTrying_62 65 rfl ?_
        refine tg_top (y := nI (min v9 (chg pr b t + k9 p9 t + lb k9 pr tc N 5 (t + 1)))) (min_nI (by omega) (by omega)) ?_
        refine tg_istore_n C dX0_leastByTrying_65 66 rfl rfl [(3, .int (nI (min v9 (chg pr b t + k9 p9 t + lb k9 pr tc N 5 (t + 1))))), (5, .int (nI ((chg pr b t) + (k9 p9 t)))), (0, .ref (ad 51)), (1, .int (nI p9)), (2, .int (bv b)), (4, .int (nI t))] (by decide) rfl ?_
        refine tg_iinc C (nI (t + 1)) dX0_leastByTrying_66 69 rfl 5 rfl (nI_add t 1) [(4, .int (nI (t + 1))), (3, .int (nI (min v9 (chg pr b t + k9 p9 t + lb k9 pr tc N 5 (t + 1))))), (5, .int (nI ((chg pr b t) + (k9 p9 t)))), (0, .ref (ad 51)), (1, .int (nI p9)), (2, .int (bv b))] (by decide) rfl ?_
        refine tg_goto C 21 dX0_leastByTrying_69 (by decide) ?_
        refine tg_sub [3, 4, 5, 1, 0] rfl ?_
        have e : rb k9 pr tc N 6 t = k9 p9 t + lb k9 pr tc N 5 (t + 1) := by
          have e := rb_succ k9 pr tc N 5 t
          rw [show N - (5 + 1) = p9 by omega] at e
          exact e
        have ho : chg pr b t + k9 p9 t + lb k9 pr tc N 5 (t + 1) = (fun u => rb k9 pr tc N 6 u + chg pr b u) t := by show _ = rb k9 pr tc N 6 t + chg pr b t; omega
        exact ih21 (t + 1) (min v9 (chg pr b t + k9 p9 t + lb k9 pr tc N 5 (t + 1))) ⟨by omega, Or.inr ⟨by omega, stepMin (g := (fun u => rb k9 pr tc N 6 u + chg pr b u)) hv ho (by omega)⟩, by omega⟩ (by omega)
  refine tg_sub [2, 3, 4, 1, 0] rfl ?_
  exact L21 _ 0 1000000 ⟨by omega, Or.inl ⟨rfl, rfl⟩, Nat.le_refl _⟩ (Nat.lt_succ_self _)
set_option maxHeartbeats 4000000 in
set_option maxRecDepth 100000 in
theorem c_X0_leastCostByTrying_0 (l : Launch) (D : va_G) (cy : Nat → ClassId) (ad : Nat → Nat) (hDis : Dis ad) (σ : sS) {N tc pr : Nat} (hC : Ct σ N tc pr) {k9 : Nat → Nat → Nat} (hK9 : Cs σ N tc k9) (hN : N = 0) : Mi l yX0_leastCostByTrying wsX0_leastCostByTrying 7 175 D cy ad [.ref (ad 51)] σ (fun r τ => r = nI (lb k9 pr tc N N 0) ∧ σ = τ) := by
  refine Mi.of (cc := cX0_leastCostByTrying) (nL := 1) (own := RX0) hDis (by decide) rfl [(0, .ref (ad 51))] rfl (Nat.le_of_ble_eq_true rfl) rfl ?_
  intro p e s m args below meth c A Q C hret
  refine tg_aload_n C dX0_leastCostByTrying_0 1 rfl rfl 0 rfl ?_
  refine tg_iconst C (nI 0) dX0_leastCostByTrying_1 2 rfl (by decide) ?_
  refine tg_iconst C (-1) dX0_leastCostByTrying_2 3 rfl (by decide) ?_
  refine tg_callSi C (c_X0_lbt_0 l D cy ad hDis σ hC hK9 (by omega) (p9 := 0) (b := 0) (by omega) (by omega)) (cwS 3 C.2.2.2.2.1 gX0_leastCostByTrying_X0_leastByTrying rfl rfl rfl (by decide +kernel) ⟨Nat.le_of_ble_eq_true rfl, Nat.le_of_ble_eq_true rfl⟩) rfl rfl (Nat.le_of_ble_eq_true rfl) ⟨Nat.le_of_ble_eq_true rfl, Nat.le_of_ble_eq_true rfl⟩ dX0_leastCostByTrying_3 6 rfl (fun r3 τ3 h3 => ?_)
  obtain ⟨h3, h3s⟩ := h3
  subst h3s
  subst h3
  exact hret dX0_leastCostByTrying_6 ⟨by rw [hN], rfl⟩
set_option maxHeartbeats 4000000 in
set_option maxRecDepth 100000 in
theorem c_X0_leastCostByTrying_1 (l : Launch) (D : va_G) (cy : Nat → ClassId) (ad : Nat → Nat) (hDis : Dis ad) (σ : sS) {N tc pr : Nat} (hC : Ct σ N tc pr) {k9 : Nat → Nat → Nat} (hK9 : Cs σ N tc k9) (hN : N = 1) : Mi l yX0_leastCostByTrying wsX0_leastCostByTrying 7 175 D cy ad [.ref (ad 51)] σ (fun r τ => r = nI (lb k9 pr tc N N 0) ∧ σ = τ) := by
  refine Mi.of (cc := cX0_leastCostByTrying) (nL := 1) (own := RX0) hDis (by decide) rfl [(0, .ref (ad 51))] rfl (Nat.le_of_ble_eq_true rfl) rfl ?_
  intro p e s m args below meth c A Q C hret
  refine tg_aload_n C dX0_leastCostByTrying_0 1 rfl rfl 0 rfl ?_
  refine tg_iconst C (nI 0) dX0_leastCostByTrying_1 2 rfl (by decide) ?_
  refine tg_iconst C (-1) dX0_leastCostByTrying_2 3 rfl (by decide) ?_
  refine tg_callSi C (c_X0_lbt_1 l D cy ad hDis σ hC hK9 (by omega) (p9 := 0) (b := 0) (by omega) (by omega)) (cwS 3 C.2.2.2.2.1 gX0_leastCostByTrying_X0_leastByTrying rfl rfl rfl (by decide +kernel) ⟨Nat.le_of_ble_eq_true rfl, Nat.le_of_ble_eq_true rfl⟩) rfl rfl (Nat.le_of_ble_eq_true rfl) ⟨Nat.le_of_ble_eq_true rfl, Nat.le_of_ble_eq_true rfl⟩ dX0_leastCostByTrying_3 6 rfl (fun r3 τ3 h3 => ?_)
  obtain ⟨h3, h3s⟩ := h3
  subst h3s
  subst h3
  exact hret dX0_leastCostByTrying_6 ⟨by rw [hN], rfl⟩
set_option maxHeartbeats 4000000 in
set_option maxRecDepth 100000 in
theorem c_X0_leastCostByTrying_2 (l : Launch) (D : va_G) (cy : Nat → ClassId) (ad : Nat → Nat) (hDis : Dis ad) (σ : sS) {N tc pr : Nat} (hC : Ct σ N tc pr) {k9 : Nat → Nat → Nat} (hK9 : Cs σ N tc k9) (hN : N = 2) : Mi l yX0_leastCostByTrying wsX0_leastCostByTrying 7 175 D cy ad [.ref (ad 51)] σ (fun r τ => r = nI (lb k9 pr tc N N 0) ∧ σ = τ) := by
  refine Mi.of (cc := cX0_leastCostByTrying) (nL := 1) (own := RX0) hDis (by decide) rfl [(0, .ref (ad 51))] rfl (Nat.le_of_ble_eq_true rfl) rfl ?_
  intro p e s m args below meth c A Q C hret
  refine tg_aload_n C dX0_leastCostByTrying_0 1 rfl rfl 0 rfl ?_
  refine tg_iconst C (nI 0) dX0_leastCostByTrying_1 2 rfl (by decide) ?_
  refine tg_iconst C (-1) dX0_leastCostByTrying_2 3 rfl (by decide) ?_
  refine tg_callSi C (c_X0_lbt_2 l D cy ad hDis σ hC hK9 (by omega) (p9 := 0) (b := 0) (by omega) (by omega)) (cwS 3 C.2.2.2.2.1 gX0_leastCostByTrying_X0_leastByTrying rfl rfl rfl (by decide +kernel) ⟨Nat.le_of_ble_eq_true rfl, Nat.le_of_ble_eq_true rfl⟩) rfl rfl (Nat.le_of_ble_eq_true rfl) ⟨Nat.le_of_ble_eq_true rfl, Nat.le_of_ble_eq_true rfl⟩ dX0_leastCostByTrying_3 6 rfl (fun r3 τ3 h3 => ?_)
  obtain ⟨h3, h3s⟩ := h3
  subst h3s
  subst h3
  exact hret dX0_leastCostByTrying_6 ⟨by rw [hN], rfl⟩
set_option maxHeartbeats 4000000 in
set_option maxRecDepth 100000 in
theorem c_X0_leastCostByTrying_3 (l : Launch) (D : va_G) (cy : Nat → ClassId) (ad : Nat → Nat) (hDis : Dis ad) (σ : sS) {N tc pr : Nat} (hC : Ct σ N tc pr) {k9 : Nat → Nat → Nat} (hK9 : Cs σ N tc k9) (hN : N = 3) : Mi l yX0_leastCostByTrying wsX0_leastCostByTrying 7 175 D cy ad [.ref (ad 51)] σ (fun r τ => r = nI (lb k9 pr tc N N 0) ∧ σ = τ) := by
  refine Mi.of (cc := cX0_leastCostByTrying) (nL := 1) (own := RX0) hDis (by decide) rfl [(0, .ref (ad 51))] rfl (Nat.le_of_ble_eq_true rfl) rfl ?_
  intro p e s m args below meth c A Q C hret
  refine tg_aload_n C dX0_leastCostByTrying_0 1 rfl rfl 0 rfl ?_
  refine tg_iconst C (nI 0) dX0_leastCostByTrying_1 2 rfl (by decide) ?_
  refine tg_iconst C (-1) dX0_leastCostByTrying_2 3 rfl (by decide) ?_
  refine tg_callSi C (c_X0_lbt_3 l D cy ad hDis σ hC hK9 (by omega) (p9 := 0) (b := 0) (by omega) (by omega)) (cwS 3 C.2.2.2.2.1 gX0_leastCostByTrying_X0_leastByTrying rfl rfl rfl (by decide +kernel) ⟨Nat.le_of_ble_eq_true rfl, Nat.le_of_ble_eq_true rfl⟩) rfl rfl (Nat.le_of_ble_eq_true rfl) ⟨Nat.le_of_ble_eq_true rfl, Nat.le_of_ble_eq_true rfl⟩ dX0_leastCostByTrying_3 6 rfl (fun r3 τ3 h3 => ?_)
  obtain ⟨h3, h3s⟩ := h3
  subst h3s
  subst h3
  exact hret dX0_leastCostByTrying_6 ⟨by rw [hN], rfl⟩
set_option maxHeartbeats 4000000 in
set_option maxRecDepth 100000 in
theorem c_X0_leastCostByTrying_4 (l : Launch) (D : va_G) (cy : Nat → ClassId) (ad : Nat → Nat) (hDis : Dis ad) (σ : sS) {N tc pr : Nat} (hC : Ct σ N tc pr) {k9 : Nat → Nat → Nat} (hK9 : Cs σ N tc k9) (hN : N = 4) : Mi l yX0_leastCostByTrying wsX0_leastCostByTrying 7 175 D cy ad [.ref (ad 51)] σ (fun r τ => r = nI (lb k9 pr tc N N 0) ∧ σ = τ) := by
  refine Mi.of (cc := cX0_leastCostByTrying) (nL := 1) (own := RX0) hDis (by decide) rfl [(0, .ref (ad 51))] rfl (Nat.le_of_ble_eq_true rfl) rfl ?_
  intro p e s m args below meth c A Q C hret
  refine tg_aload_n C dX0_leastCostByTrying_0 1 rfl rfl 0 rfl ?_
  refine tg_iconst C (nI 0) dX0_leastCostByTrying_1 2 rfl (by decide) ?_
  refine tg_iconst C (-1) dX0_leastCostByTrying_2 3 rfl (by decide) ?_
  refine tg_callSi C (c_X0_lbt_4 l D cy ad hDis σ hC hK9 (by omega) (p9 := 0) (b := 0) (by omega) (by omega)) (cwS 3 C.2.2.2.2.1 gX0_leastCostByTrying_X0_leastByTrying rfl rfl rfl (by decide +kernel) ⟨Nat.le_of_ble_eq_true rfl, Nat.le_of_ble_eq_true rfl⟩) rfl rfl (Nat.le_of_ble_eq_true rfl) ⟨Nat.le_of_ble_eq_true rfl, Nat.le_of_ble_eq_true rfl⟩ dX0_leastCostByTrying_3 6 rfl (fun r3 τ3 h3 => ?_)
  obtain ⟨h3, h3s⟩ := h3
  subst h3s
  subst h3
  exact hret dX0_leastCostByTrying_6 ⟨by rw [hN], rfl⟩
set_option maxHeartbeats 4000000 in
set_option maxRecDepth 100000 in
theorem c_X0_leastCostByTrying_5 (l : Launch) (D : va_G) (cy : Nat → ClassId) (ad : Nat → Nat) (hDis : Dis ad) (σ : sS) {N tc pr : Nat} (hC : Ct σ N tc pr) {k9 : Nat → Nat → Nat} (hK9 : Cs σ N tc k9) (hN : N = 5) : Mi l yX0_leastCostByTrying wsX0_leastCostByTrying 7 175 D cy ad [.ref (ad 51)] σ (fun r τ => r = nI (lb k9 pr tc N N 0) ∧ σ = τ) := by
  refine Mi.of (cc := cX0_leastCostByTrying) (nL := 1) (own := RX0) hDis (by decide) rfl [(0, .ref (ad 51))] rfl (Nat.le_of_ble_eq_true rfl) rfl ?_
  intro p e s m args below meth c A Q C hret
  refine tg_aload_n C dX0_leastCostByTrying_0 1 rfl rfl 0 rfl ?_
  refine tg_iconst C (nI 0) dX0_leastCostByTrying_1 2 rfl (by decide) ?_
  refine tg_iconst C (-1) dX0_leastCostByTrying_2 3 rfl (by decide) ?_
  refine tg_callSi C (c_X0_lbt_5 l D cy ad hDis σ hC hK9 (by omega) (p9 := 0) (b := 0) (by omega) (by omega)) (cwS 3 C.2.2.2.2.1 gX0_leastCostByTrying_X0_leastByTrying rfl rfl rfl (by decide +kernel) ⟨Nat.le_of_ble_eq_true rfl, Nat.le_of_ble_eq_true rfl⟩) rfl rfl (Nat.le_of_ble_eq_true rfl) ⟨Nat.le_of_ble_eq_true rfl, Nat.le_of_ble_eq_true rfl⟩ dX0_leastCostByTrying_3 6 rfl (fun r3 τ3 h3 => ?_)
  obtain ⟨h3, h3s⟩ := h3
  subst h3s
  subst h3
  exact hret dX0_leastCostByTrying_6 ⟨by rw [hN], rfl⟩
set_option maxHeartbeats 4000000 in
set_option maxRecDepth 100000 in
theorem c_X0_leastCostByTrying_6 (l : Launch) (D : va_G) (cy : Nat → ClassId) (ad : Nat → Nat) (hDis : Dis ad) (σ : sS) {N tc pr : Nat} (hC : Ct σ N tc pr) {k9 : Nat → Nat → Nat} (hK9 : Cs σ N tc k9) (hN : N = 6) : Mi l yX0_leastCostByTrying wsX0_leastCostByTrying 7 175 D cy ad [.ref (ad 51)] σ (fun r τ => r = nI (lb k9 pr tc N N 0) ∧ σ = τ) := by
  refine Mi.of (cc := cX0_leastCostByTrying) (nL := 1) (own := RX0) hDis (by decide) rfl [(0, .ref (ad 51))] rfl (Nat.le_of_ble_eq_true rfl) rfl ?_
  intro p e s m args below meth c A Q C hret
  refine tg_aload_n C dX0_leastCostByTrying_0 1 rfl rfl 0 rfl ?_
  refine tg_iconst C (nI 0) dX0_leastCostByTrying_1 2 rfl (by decide) ?_
  refine tg_iconst C (-1) dX0_leastCostByTrying_2 3 rfl (by decide) ?_
  refine tg_callSi C (c_X0_lbt_6 l D cy ad hDis σ hC hK9 (by omega) (p9 := 0) (b := 0) (by omega) (by omega)) (cwS 3 C.2.2.2.2.1 gX0_leastCostByTrying_X0_leastByTrying rfl rfl rfl (by decide +kernel) ⟨Nat.le_of_ble_eq_true rfl, Nat.le_of_ble_eq_true rfl⟩) rfl rfl (Nat.le_of_ble_eq_true rfl) ⟨Nat.le_of_ble_eq_true rfl, Nat.le_of_ble_eq_true rfl⟩ dX0_leastCostByTrying_3 6 rfl (fun r3 τ3 h3 => ?_)
  obtain ⟨h3, h3s⟩ := h3
  subst h3s
  subst h3
  exact hret dX0_leastCostByTrying_6 ⟨by rw [hN], rfl⟩
theorem c_X0_leastCostByTrying (l : Launch) (D : va_G) (cy : Nat → ClassId) (ad : Nat → Nat) (hDis : Dis ad) (σ : sS) {N tc pr : Nat} (hC : Ct σ N tc pr) {k9 : Nat → Nat → Nat} (hK9 : Cs σ N tc k9) (hN6 : N ≤ 6) : Mi l yX0_leastCostByTrying wsX0_leastCostByTrying 7 175 D cy ad [.ref (ad 51)] σ (fun r τ => r = nI (lb k9 pr tc N N 0) ∧ σ = τ) := by
  rcases (show N = 0 ∨ N = 1 ∨ N = 2 ∨ N = 3 ∨ N = 4 ∨ N = 5 ∨ N = 6 by omega) with h | h | h | h | h | h | h
  · exact c_X0_leastCostByTrying_0 l D cy ad hDis σ hC hK9 h
  · exact c_X0_leastCostByTrying_1 l D cy ad hDis σ hC hK9 h
  · exact c_X0_leastCostByTrying_2 l D cy ad hDis σ hC hK9 h
  · exact c_X0_leastCostByTrying_3 l D cy ad hDis σ hC hK9 h
  · exact c_X0_leastCostByTrying_4 l D cy ad hDis σ hC hK9 h
  · exact c_X0_leastCostByTrying_5 l D cy ad hDis σ hC hK9 h
  · exact c_X0_leastCostByTrying_6 l D cy ad hDis σ hC hK9 h
end
section
/-! ===== the class: what throws nothing ===== -/
/-! ===== the class's own state, as numbers ===== -/
def Xs (σ : sS) (tc mg pr : Nat) : Prop := σ 0 5 = nI tc ∧ σ 0 6 = nI mg ∧ σ 0 7 = nI pr ∧ tc ≤ 5 ∧ mg ≤ 100 ∧ pr ≤ 100
def Ta (σ : sS) (c : Nat → Nat → Nat) (m : Nat → Nat) : Prop := ∀ t, t < 5 → Tl σ (6 + t) (11 + t) (c t) (m t)
theorem Xs.fr {σ τ : sS} {tc mg pr : Nat} (h : Xs σ tc mg pr) (e : τ 0 = σ 0) : Xs τ tc mg pr := by
  unfold Xs at h ⊢
  rw [e]
  exact h
theorem Sp.fr {σ τ : sS} {n : Nat} {w : Nat → Nat} (h : Sp σ n w) (e1 : τ 1 = σ 1) (e2 : τ 2 = σ 2) : Sp τ n w := by
  unfold Sp at h ⊢
  rw [e1, e2]
  exact h
theorem Tl.fr {σ τ : sS} {a b m : Nat} {c : Nat → Nat} (h : Tl σ a b c m) (e1 : τ a = σ a) (e2 : τ b = σ b) : Tl τ a b c m := by
  unfold Tl at h ⊢
  rw [e1, e2]
  exact h
theorem Ta.fr {σ τ : sS} {c : Nat → Nat → Nat} {m : Nat → Nat} (h : Ta σ c m) (e : ∀ j, 6 ≤ j → j < 16 → τ j = σ j) : Ta τ c m := fun t ht => (h t ht).fr (e _ (by omega) (by omega)) (e _ (by omega) (by omega))
def bI (b : Bool) : Int32 := if b = true then nI 1 else nI 0
theorem bI_0 {b : Bool} : bI b = 0 ↔ b = false := by cases b <;> decide
theorem bI_n {b : Bool} : ¬ bI b = 0 ↔ b = true := by cases b <;> decide
theorem bI_z {b : Bool} : narrow .boolean (.int (bI b)) = .int (bI b) := by cases b <;> rfl
def lnI (x : Int32) : Int32 := if x = nI 32 then nI 0 else if nI 97 ≤ x ∧ x ≤ nI 101 then x - nI 97 + nI 1 else -1
/-- the cost of a text of n letters w in a tongue with counts c, m in all -/
def ctxN (n : Nat) (w : Nat → Nat) (c : Nat → Nat) (m : Nat) : Nat := sm (fun k => costN (c (rn n w k)) m) (rc n)
theorem ctxN_le {n : Nat} (h : n ≤ 16) (w : Nat → Nat) (c : Nat → Nat) (m : Nat) : ctxN n w c m ≤ 170 := by
  have h1 := sm_le (f := fun k => costN (c (rn n w k)) m) (B := 10) (rc n) (fun k _ => costN_le _ _)
  have h2 := rc_le h
  unfold ctxN
  omega
def sureb (f : Nat → Nat) (best lim : Nat) : Nat → Bool
  | 0 => true
  | n + 1 => sureb f best lim n && (decide (n = best) || decide (lim ≤ f n))
theorem sureb_step {f : Nat → Nat} {best lim n : Nat} (h : sureb f best lim n = true) (h2 : n = best ∨ lim ≤ f n) : sureb f best lim (n + 1) = true := by
  simp [sureb, h, h2]
theorem sureb_no {f : Nat → Nat} {best lim k : Nat} (h1 : ¬ k = best) (h2 : ¬ lim ≤ f k) : ∀ n, k < n → sureb f best lim n = false
  | 0, h => absurd h (Nat.not_lt_zero _)
  | n + 1, h => by
    rcases Nat.lt_or_ge k n with q | q
    · simp [sureb, sureb_no h1 h2 n q]
    · have e : k = n := by omega
      subst e
      simp [sureb, h1, h2]
def fitb (g : Nat → Nat) (least : Nat) : Nat → Bool
  | 0 => true
  | n + 1 => fitb g least n && decide (least ≤ g n)
theorem fitb_step {g : Nat → Nat} {least n : Nat} (h : fitb g least n = true) (h2 : least ≤ g n) : fitb g least (n + 1) = true := by
  simp [fitb, h, h2]
theorem fitb_no {g : Nat → Nat} {least k : Nat} (h2 : ¬ least ≤ g k) : ∀ n, k < n → fitb g least n = false
  | 0, h => absurd h (Nat.not_lt_zero _)
  | n + 1, h => by
    rcases Nat.lt_or_ge k n with q | q
    · simp [fitb, fitb_no h2 n q]
    · have e : k = n := by omega
      subst e
      simp [fitb, h2]
def tlI (n tc mg : Nat) (f : Nat → Nat) : Int32 := if n < 4 ∨ tc = 0 then -1 else if sureb f (amin f tc) (f (amin f tc) + mg) tc = true then nI (amin f tc) else -1
def tbI (n tc : Nat) (g : Nat → Nat) : Int32 := if n = 0 ∨ tc = 0 then -1 else nI (amin g tc)
/-- how often run r is among the first i of the text -/
def ownN (n : Nat) (w : Nat → Nat) (i r : Nat) : Nat := sm (fun k => if rn n w k = r then 1 else 0) i
theorem ownN_le (n : Nat) (w : Nat → Nat) (i r : Nat) : ownN n w i r ≤ i := by
  have := sm_le (f := fun k => if rn n w k = r then 1 else 0) (B := 1) i (fun k _ => by split <;> omega)
  unfold ownN
  omega
def absd (a b : Nat) : Nat := if b ≤ a then a - b else b - a
theorem abs_nI {a b : Nat} (ha : a ≤ 1000) (hb : b ≤ 1000) : (if 0 ≤ nI a - nI b then nI a - nI b else 0 - (nI a - nI b)) = nI (absd a b) := by
  unfold absd
  by_cases h : b ≤ a
  · rw [pk_sub h, if_pos (nI_pos' (by omega)), if_pos h]
  · have h1 : nI a - nI b < 0 := pk_sneg (by omega) (by omega)
    rw [if_neg (Int32.not_le.mpr h1), if_neg h]
    have h2 : 0 - (nI a - nI b) = nI b - nI a := by
      rw [Int32.zero_sub, Int32.neg_sub]
    rw [h2, pk_sub (by omega)]
theorem rkI_m1 {c : Nat → Nat} {r : Nat} : rkI c r = -1 ↔ c r = 0 := by
  unfold rkI
  split
  · simp [*]
  · have := rkN_le c r
    exact ⟨fun q => absurd q (m1_ne (by omega)), fun q => by contradiction⟩
theorem rkI_of {c : Nat → Nat} {r : Nat} (h : ¬ c r = 0) : rkI c r = nI (rkN c r) := if_neg h
/-- the part of run r in a distance -/
def dst1 (c0 c : Nat → Nat) (r : Nat) : Nat := if c0 r = 0 then 0 else if c r = 0 then 36 else absd (rkN c0 r) (rkN c r)
def dstN (c0 c : Nat → Nat) : Nat := sm (dst1 c0 c) 36
theorem dst1_le (c0 c : Nat → Nat) (r : Nat) : dst1 c0 c r ≤ 36 := by
  have h1 := rkN_le c0 r
  have h2 := rkN_le c r
  unfold dst1 absd
  split
  · omega
  · split
    · omega
    · split <;> omega
theorem dstN_le (c0 c : Nat → Nat) : dstN c0 c ≤ 1296 := Nat.le_trans (sm_le (f := dst1 c0 c) (B := 36) 36 (fun k _ => dst1_le c0 c k)) (by decide)
set_option maxHeartbeats 4000000 in
set_option maxRecDepth 100000 in
theorem c_X4_letterNumber (l : Launch) (D : va_G) (cy : Nat → ClassId) (ad : Nat → Nat) (hDis : Dis ad) (σ : sS) {x : Int32} : Mi l yX4_letterNumber wsX4_letterNumber 0 0 D cy ad [.int x] σ (fun r τ => r = lnI x ∧ σ = τ) := by
  refine Mi.of (cc := cX4_letterNumber) (nL := 1) (own := RX4) hDis (by decide) rfl [(0, .int x)] rfl (Nat.le_of_ble_eq_true rfl) rfl ?_
  intro p e s m args below meth c A Q C hret
  refine tg_iload_n C dX4_letterNumber_0 1 rfl rfl 0 rfl ?_
  refine tg_bipush C (nI 32) dX4_letterNumber_1 3 rfl (by decide) ?_
  refine tg_icmp_ne C 8 dX4_letterNumber_3 (by decide) 6 rfl (fun c3 => ?_) (fun c3 => ?_)
  · -- to 8
    refine tg_iload_n C dX4_letterNumber_8 9 rfl rfl 0 rfl ?_
    refine tg_bipush C (nI 97) dX4_letterNumber_9 11 rfl (by decide) ?_
    refine tg_icmp_lt C 27 dX4_letterNumber_11 (by decide) 14 rfl (fun c11 => ?_) (fun c11 => ?_)
    · -- to 27
      refine tg_iconst C (-1) dX4_letterNumber_27 28 rfl (by decide) ?_
      exact hret dX4_letterNumber_28 ⟨by unfold lnI; rw [if_neg c3, if_neg (fun q => by first | exact absurd c11 (Int32.not_lt.mpr q.1) | exact absurd c17 (Int32.not_lt.mpr q.2))], rfl⟩
    · -- on
      refine tg_iload_n C dX4_letterNumber_14 15 rfl rfl 0 rfl ?_
      refine tg_bipush C (nI 101) dX4_letterNumber_15 17 rfl (by decide) ?_
      refine tg_icmp_gt C 27 dX4_letterNumber_17 (by decide) 20 rfl (fun c17 => ?_) (fun c17 => ?_)
      · -- to 27
        refine tg_iconst C (-1) dX4_letterNumber_27 28 rfl (by decide) ?_
        exact hret dX4_letterNumber_28 ⟨by unfold lnI; rw [if_neg c3, if_neg (fun q => by first | exact absurd c11 (Int32.not_lt.mpr q.1) | exact absurd c17 (Int32.not_lt.mpr q.2))], rfl⟩
      · -- on
        refine tg_iload_n C dX4_letterNumber_20 21 rfl rfl 0 rfl ?_
        refine tg_bipush C (nI 97) dX4_letterNumber_21 23 rfl (by decide) ?_
        refine tg_isub C (x - nI 97) dX4_letterNumber_23 24 rfl (rfl) ?_
        refine tg_iconst C (nI 1) dX4_letterNumber_24 25 rfl (by decide) ?_
        refine tg_iadd C (x - nI 97 + nI 1) dX4_letterNumber_25 26 rfl (rfl) ?_
        exact hret dX4_letterNumber_26 ⟨by unfold lnI; rw [if_neg c3, if_pos ⟨Int32.not_lt.mp c11, Int32.not_lt.mp c17⟩], rfl⟩
  · -- on
    refine tg_iconst C (nI 0) dX4_letterNumber_6 7 rfl (by decide) ?_
    exact hret dX4_letterNumber_7 ⟨by unfold lnI; rw [if_pos c3], rfl⟩
set_option maxHeartbeats 4000000 in
set_option maxRecDepth 100000 in
theorem c_X4_newTongue (l : Launch) (D : va_G) (cy : Nat → ClassId) (ad : Nat → Nat) (hDis : Dis ad) (σ : sS) {tc mg pr : Nat} (hX : Xs σ tc mg pr) : Mi l yX4_newTongue wsX4_newTongue 0 0 D cy ad [.ref (ad 0)] σ (fun r τ => r = nI tc ∧ τ = su σ 0 5 (nI (tc + 1))) := by
  have w0 : Cond.fieldLink RX4 41 "Tonguetell" "tongueCount" "I" ∈ wsX4_newTongue := by decide +kernel
  have w1 : ∀ w ∈ wsX40, w ∈ wsX4_newTongue := by decide +kernel
  refine Mi.of (cc := cX4_newTongue) (nL := 2) (own := RX4) hDis (by decide) rfl [(0, .ref (ad 0))] rfl (Nat.le_of_ble_eq_true rfl) rfl ?_
  intro p e s m args below meth c A Q C hret
  refine tg_aload_n C dX4_newTongue_0 1 rfl rfl 0 rfl ?_
  refine tg_get (T := TX4) (N := 8) (Cn := RX4) C 0 (by decide) (e_0 ad cy _) rfl w1 5 (by decide) w0 rfl rfl dX4_newTongue_1 4 rfl ?_
  refine tg_top (y := nI tc) (hX.1) ?_
  refine tg_istore_n C dX4_newTongue_4 5 rfl rfl [(1, .int (nI tc)), (0, .ref (ad 0))] (by decide) rfl ?_
  refine tg_aload_n C dX4_newTongue_5 6 rfl rfl 1 rfl ?_
  refine tg_iload_n C dX4_newTongue_6 7 rfl rfl 0 rfl ?_
  refine tg_iconst C (nI 1) dX4_newTongue_7 8 rfl (by decide) ?_
  refine tg_iadd C (nI (tc + 1)) dX4_newTongue_8 9 rfl (nI_add tc 1) ?_
  refine tg_put (T := TX4) (N := 8) (Cn := RX4) C tyX4 tyX4_ok nmX4 0 (by decide) (e_0 ad cy _) rfl w1 5 (by decide) w0 rfl rfl (by decide +kernel) (Nat.le_of_ble_eq_true rfl) (e_0 ad cy _) dX4_newTongue_9 12 rfl ?_
  refine tg_iload_n C dX4_newTongue_12 13 rfl rfl 0 rfl ?_
  exact hret dX4_newTongue_13 ⟨rfl, rfl⟩
set_option maxHeartbeats 4000000 in
set_option maxRecDepth 100000 in
theorem c_X4_clearSpelled (l : Launch) (D : va_G) (cy : Nat → ClassId) (ad : Nat → Nat) (hDis : Dis ad) (σ : sS) {n : Nat} {w : Nat → Nat} (hS : Sp σ n w) : Mi l yX4_clearSpelled wsX4_clearSpelled 0 0 D cy ad [.ref (ad 0)] σ (fun r τ => r = nI n ∧ τ = su σ 1 1 (nI 0)) := by
  have w0 : Cond.fieldLink RX4 10 "Tonguetell" "spelled" "LTonguetell$Spelling;" ∈ wsX4_clearSpelled := by decide +kernel
  have w1 : ∀ w ∈ wsX40, w ∈ wsX4_clearSpelled := by decide +kernel
  have w2 : Cond.fieldLink RX4 62 "Tonguetell$Spelling" "length" "I" ∈ wsX4_clearSpelled := by decide +kernel
  have w3 : ∀ w ∈ wsX20, w ∈ wsX4_clearSpelled := by decide +kernel
  refine Mi.of (cc := cX4_clearSpelled) (nL := 2) (own := RX4) hDis (by decide) rfl [(0, .ref (ad 0))] rfl (Nat.le_of_ble_eq_true rfl) rfl ?_
  intro p e s m args below meth c A Q C hret
  refine tg_aload_n C dX4_clearSpelled_0 1 rfl rfl 0 rfl ?_
  refine tg_get (T := TX4) (N := 8) (Cn := RX4) C 0 (by decide) (e_0 ad cy _) rfl w1 0 (by decide) w0 rfl rfl dX4_clearSpelled_1 4 rfl ?_
  refine tg_get (T := TX2) (N := 2) (Cn := RX2) C 1 (by decide) (e_1 ad cy _) rfl w3 1 (by decide) w2 rfl rfl dX4_clearSpelled_4 7 rfl ?_
  refine tg_top (y := nI n) (hS.1) ?_
  refine tg_istore_n C dX4_clearSpelled_7 8 rfl rfl [(1, .int (nI n)), (0, .ref (ad 0))] (by decide) rfl ?_
  refine tg_aload_n C dX4_clearSpelled_8 9 rfl rfl 1 rfl ?_
  refine tg_get (T := TX4) (N := 8) (Cn := RX4) C 0 (by decide) (e_0 ad cy _) rfl w1 0 (by decide) w0 rfl rfl dX4_clearSpelled_9 12 rfl ?_
  refine tg_iconst C (nI 0) dX4_clearSpelled_12 13 rfl (by decide) ?_
  refine tg_put (T := TX2) (N := 2) (Cn := RX2) C tyX2 tyX2_ok nmX2 1 (by decide) (e_1 ad cy _) rfl w3 1 (by decide) w2 rfl rfl (by decide +kernel) (Nat.le_of_ble_eq_true rfl) (e_1 ad cy _) dX4_clearSpelled_13 16 rfl ?_
  refine tg_iload_n C dX4_clearSpelled_16 17 rfl rfl 0 rfl ?_
  exact hret dX4_clearSpelled_17 ⟨rfl, rfl⟩
set_option maxHeartbeats 4000000 in
set_option maxRecDepth 100000 in
theorem c_X4_runs (l : Launch) (D : va_G) (cy : Nat → ClassId) (ad : Nat → Nat) (hDis : Dis ad) (σ : sS) {n : Nat} {w : Nat → Nat} (hS : Sp σ n w) : Mi l yX4_runs wsX4_runs 1 20 D cy ad [.ref (ad 0)] σ (fun r τ => r = nI (rc n) ∧ σ = τ) := by
  have w0 : Cond.fieldLink RX4 10 "Tonguetell" "spelled" "LTonguetell$Spelling;" ∈ wsX4_runs := by decide +kernel
  have w1 : ∀ w ∈ wsX40, w ∈ wsX4_runs := by decide +kernel
  refine Mi.of (cc := cX4_runs) (nL := 1) (own := RX4) hDis (by decide) rfl [(0, .ref (ad 0))] rfl (Nat.le_of_ble_eq_true rfl) rfl ?_
  intro p e s m args below meth c A Q C hret
  refine tg_aload_n C dX4_runs_0 1 rfl rfl 0 rfl ?_
  refine tg_get (T := TX4) (N := 8) (Cn := RX4) C 0 (by decide) (e_0 ad cy _) rfl w1 0 (by decide) w0 rfl rfl dX4_runs_1 4 rfl ?_
  refine tg_callVi C 1 (by decide) (e_1 ad cy _) rfl (c_X2_runCount l D cy ad hDis σ hS) (cwV 0 C.2.2.2.2.1 gX4_runs_X2_runCount rfl rfl rfl (by decide +kernel) ⟨Nat.le_of_ble_eq_true rfl, Nat.le_of_ble_eq_true rfl⟩) rfl rfl (Nat.le_of_ble_eq_true rfl) ⟨Nat.le_of_ble_eq_true rfl, Nat.le_of_ble_eq_true rfl⟩ dX4_runs_4 7 rfl (fun r4 τ4 h4 => ?_)
  obtain ⟨h4, h4s⟩ := h4
  subst h4s
  subst h4
  exact hret dX4_runs_7 ⟨rfl, rfl⟩
set_option maxHeartbeats 4000000 in
set_option maxRecDepth 100000 in
theorem c_X4_tongues (l : Launch) (D : va_G) (cy : Nat → ClassId) (ad : Nat → Nat) (hDis : Dis ad) (σ : sS) {tc mg pr : Nat} (hX : Xs σ tc mg pr) : Mi l yX4_tongues wsX4_tongues 0 0 D cy ad [.ref (ad 0)] σ (fun r τ => r = nI tc ∧ σ = τ) := by
  have w0 : Cond.fieldLink RX4 41 "Tonguetell" "tongueCount" "I" ∈ wsX4_tongues := by decide +kernel
  have w1 : ∀ w ∈ wsX40, w ∈ wsX4_tongues := by decide +kernel
  refine Mi.of (cc := cX4_tongues) (nL := 1) (own := RX4) hDis (by decide) rfl [(0, .ref (ad 0))] rfl (Nat.le_of_ble_eq_true rfl) rfl ?_
  intro p e s m args below meth c A Q C hret
  refine tg_aload_n C dX4_tongues_0 1 rfl rfl 0 rfl ?_
  refine tg_get (T := TX4) (N := 8) (Cn := RX4) C 0 (by decide) (e_0 ad cy _) rfl w1 5 (by decide) w0 rfl rfl dX4_tongues_1 4 rfl ?_
  refine tg_top (y := nI tc) (hX.1) ?_
  exact hret dX4_tongues_4 ⟨rfl, rfl⟩
set_option maxHeartbeats 4000000 in
set_option maxRecDepth 100000 in
theorem c_X4_costOfSpelled (l : Launch) (D : va_G) (cy : Nat → ClassId) (ad : Nat → Nat) (hDis : Dis ad) (σ : sS) {n : Nat} {w : Nat → Nat} (hS : Sp σ n w) {ct : Nat → Nat → Nat} {mt : Nat → Nat} (hT : Ta σ ct mt) {t : Nat} (ht : t < 5) : Mi l yX4_costOfSpelled wsX4_costOfSpelled 2 42 D cy ad [.ref (ad 0), .int (nI t)] σ (fun r τ => r = nI (ctxN n w (ct t) (mt t)) ∧ σ = τ) := by
  have w0 : Cond.fieldLink RX4 10 "Tonguetell" "spelled" "LTonguetell$Spelling;" ∈ wsX4_costOfSpelled := by decide +kernel
  have w1 : ∀ w ∈ wsX40, w ∈ wsX4_costOfSpelled := by decide +kernel
  have w2 : Cond.fieldLink RX4 23 "Tonguetell" "tallies" "[LTonguetell$Tally;" ∈ wsX4_costOfSpelled := by decide +kernel
  have hn16 := hS.2.1
  have hrc := rc_le hn16
  have hrn := rn_lt (fun k h => (hS.2.2 k h).2)
  refine Mi.of (cc := cX4_costOfSpelled) (nL := 4) (own := RX4) hDis (by decide) rfl [(0, .ref (ad 0)), (1, .int (nI t))] rfl (Nat.le_of_ble_eq_true rfl) rfl ?_
  intro p e s m args below meth c A Q C hret
  refine tg_iconst C (nI 0) dX4_costOfSpelled_0 1 rfl (by decide) ?_
  refine tg_istore_n C dX4_costOfSpelled_1 2 rfl rfl [(2, .int (nI 0)), (0, .ref (ad 0)), (1, .int (nI t))] (by decide) rfl ?_
  refine tg_iconst C (nI 0) dX4_costOfSpelled_2 3 rfl (by decide) ?_
  refine tg_istore_n C dX4_costOfSpelled_3 4 rfl rfl [(3, .int (nI 0)), (2, .int (nI 0)), (0, .ref (ad 0)), (1, .int (nI t))] (by decide) rfl ?_
  have L4 : ∀ (n4 : Nat) (k a9 : Nat), (k ≤ rc n ∧ a9 = sm (fun k => costN (ct t (rn n w k)) (mt t)) k ∧ a9 ≤ 10 * k) → rc n - k < n4 → TT p l e (Rm 2 42) s m args below meth c D cy ad A 4 0 0 Q σ 4 [(0, .ref (ad 0)), (1, .int (nI t)), (2, .int (nI a9)), (3, .int (nI k))] [] := by
    intro n4
    induction n4 with
    | zero => intro k a9 _ hn4; exact absurd hn4 (Nat.not_lt_zero _)
    | succ n4 ih4 =>
      intro k a9 ⟨hk, ha, hb⟩ hn4
      refine tg_iload_n C dX4_costOfSpelled_4 5 rfl rfl 3 rfl ?_
      refine tg_aload_n C dX4_costOfSpelled_5 6 rfl rfl 0 rfl ?_
      refine tg_get (T := TX4) (N := 8) (Cn := RX4) C 0 (by decide) (e_0 ad cy _) rfl w1 0 (by decide) w0 rfl rfl dX4_costOfSpelled_6 9 rfl ?_
      refine tg_callVi C 1 (by decide) (e_1 ad cy _) rfl (c_X2_runCount l D cy ad hDis σ hS) (cwV 0 C.2.2.2.2.1 gX4_costOfSpelled_X2_runCount rfl rfl rfl (by decide +kernel) ⟨Nat.le_of_ble_eq_true rfl, Nat.le_of_ble_eq_true rfl⟩) rfl rfl (Nat.le_of_ble_eq_true rfl) ⟨Nat.le_of_ble_eq_true rfl, Nat.le_of_ble_eq_true rfl⟩ dX4_costOfSpelled_9 12 rfl (fun r9 τ9 h9 => ?_)
      obtain ⟨h9, h9s⟩ := h9
      subst h9s
      subst h9
      refine tg_icmp_ge C 41 dX4_costOfSpelled_12 (by decide) 15 rfl (fun c12 => ?_) (fun c12 => ?_)
      · -- to 41
        replace c12 : (rc n) ≤ k := (nI_leI (by omega) (by omega)).mp c12
        refine tg_iload_n C dX4_costOfSpelled_41 42 rfl rfl 2 rfl ?_
        exact hret dX4_costOfSpelled_42 ⟨by rw [ha, show k = rc n by omega]; rfl, rfl⟩
      · -- on
        replace c12 : ¬ (rc n) ≤ k := fun q => c12 ((nI_leI (by omega) (by omega)).mpr q)
        refine tg_iload_n C dX4_costOfSpelled_15 16 rfl rfl 2 rfl ?_
        refine tg_aload_n C dX4_costOfSpelled_16 17 rfl rfl 0 rfl ?_
        refine tg_get (T := TX4) (N := 8) (Cn := RX4) C 0 (by decide) (e_0 ad cy _) rfl w1 2 (by decide) w2 rfl rfl dX4_costOfSpelled_17 20 rfl ?_
        refine tg_iload_n C dX4_costOfSpelled_20 21 rfl rfl 1 rfl ?_
        refine tg_aald C 5 1 (by decide) (e_5 ad cy _) rfl rfl t rfl (by omega) (by decide) dX4_costOfSpelled_21 22 rfl ?_
        refine tg_aload_n C dX4_costOfSpelled_22 23 rfl rfl 0 rfl ?_
        refine tg_get (T := TX4) (N := 8) (Cn := RX4) C 0 (by decide) (e_0 ad cy _) rfl w1 0 (by decide) w0 rfl rfl dX4_costOfSpelled_23 26 rfl ?_
        refine tg_iload_n C dX4_costOfSpelled_26 27 rfl rfl 3 rfl ?_
        refine tg_callVi C 1 (by decide) (e_1 ad cy _) rfl (c_X2_runNumber l D cy ad hDis σ hS (k := k) (by omega)) (cwV 1 C.2.2.2.2.1 gX4_costOfSpelled_X2_runNumber rfl rfl rfl (by decide +kernel) ⟨Nat.le_of_ble_eq_true rfl, Nat.le_of_ble_eq_true rfl⟩) rfl rfl (Nat.le_of_ble_eq_true rfl) ⟨Nat.le_of_ble_eq_true rfl, Nat.le_of_ble_eq_true rfl⟩ dX4_costOfSpelled_27 30 rfl (fun r27 τ27 h27 => ?_)
        obtain ⟨h27, h27s⟩ := h27
        subst h27s
        subst h27
        have hcc := costN_le (ct t (rn n w k)) (mt t)
        refine tg_callVi C (6 + t) (isTy.at (show t < 5 by omega)).lt ((isTy.at (show t < 5 by omega)).e ad cy _) rfl (c_X3_costOf l D cy ad hDis σ (isTy.at ht) (hT t ht) (r9 := rn n w k) (hrn k)) (cwV 1 C.2.2.2.2.1 gX4_costOfSpelled_X3_costOf rfl rfl rfl (by decide +kernel) ⟨Nat.le_of_ble_eq_true rfl, Nat.le_of_ble_eq_true rfl⟩) rfl rfl (Nat.le_of_ble_eq_true rfl) ⟨Nat.le_of_ble_eq_true rfl, Nat.le_of_ble_eq_true rfl⟩ dX4_costOfSpelled_30 33 rfl (fun r30 τ30 h30 => ?_)
        obtain ⟨h30, h30s⟩ := h30
        subst h30s
        subst h30
        refine tg_iadd C (nI (a9 + (costN (ct t (rn n w k)) (mt t)))) dX4_costOfSpelled_33 34 rfl (nI_add a9 (costN (ct t (rn n w k)) (mt t))) ?_
        refine tg_istore_n C dX4_costOfSpelled_34 35 rfl rfl [(2, .int (nI (a9 + (costN (ct t (rn n w k)) (mt t))))), (0, .ref (ad 0)), (1, .int (nI t)), (3, .int (nI k))] (by decide) rfl ?_
        refine tg_iinc C (nI (k + 1)) dX4_costOfSpelled_35 38 rfl 3 rfl (nI_add k 1) [(3, .int (nI (k + 1))), (2, .int (nI (a9 + (costN (ct t (rn n w k)) (mt t))))), (0, .ref (ad 0)), (1, .int (nI t))] (by decide) rfl ?_
        refine tg_goto C 4 dX4_costOfSpelled_38 (by decide) ?_
        refine tg_sub [2, 3, 1, 0] rfl ?_
        exact ih4 (k + 1) (a9 + costN (ct t (rn n w k)) (mt t)) ⟨by omega, by rw [ha]; rfl, by omega⟩ (by omega)
  refine tg_sub [2, 3, 1, 0] rfl ?_
  exact L4 _ 0 0 ⟨by omega, rfl, by omega⟩ (Nat.lt_succ_self _)
end
section
/-! ===== the class: teaching, costs for the cut ===== -/
/-! ===== teaching ===== -/
/-- how often run r is among the first i runs from place f on -/
def ownF (n : Nat) (w : Nat → Nat) (f i r : Nat) : Nat := sm (fun k => if rn n w (f + k) = r then 1 else 0) i
theorem ownF_le (n : Nat) (w : Nat → Nat) (f i r : Nat) : ownF n w f i r ≤ i := by
  have := sm_le (f := fun k => if rn n w (f + k) = r then 1 else 0) (B := 1) i (fun k _ => by split <;> omega)
  unfold ownF
  omega
/-- what a taught text changes: slot s, number nx, tongue t, ln runs from place f on -/
def Kept (σ τ : sS) (s nx t ln f n : Nat) (w : Nat → Nat) (c : Nat → Nat) (m : Nat) : Prop :=
  τ 17 = upd (σ 17) s (nI nx) ∧ τ 18 = upd (σ 18) s (nI t) ∧ τ 19 = upd (σ 19) s (nI ln) ∧ τ 16 4 = nI (nx + 1) ∧ (∀ p, p < ln → τ (21 + s) p = nI (rn n w (f + p))) ∧ Tl τ (6 + t) (11 + t) (fun r => c r + ownF n w f ln r) (m + ln) ∧
  ∀ j, j ≠ 16 → j ≠ 17 → j ≠ 18 → j ≠ 19 → j ≠ 21 + s → j ≠ 6 + t → j ≠ 11 + t → τ j = σ j
/-- the costs of the text's runs, as the cutter gets them -/
def kst (n : Nat) (w : Nat → Nat) (c : Nat → Nat → Nat) (m : Nat → Nat) (p t : Nat) : Nat := costN (c t (rn n w p)) (m t)
set_option maxHeartbeats 4000000 in
set_option maxRecDepth 100000 in
theorem c_X4_teachRuns (l : Launch) (D : va_G) (cy : Nat → ClassId) (ad : Nat → Nat) (hDis : Dis ad) (σ : sS) {n : Nat} {w : Nat → Nat} (hS : Sp σ n w) {ct : Nat → Nat → Nat} {mt : Nat → Nat} (hT : Ta σ ct mt) {t f9 ln s9 nx : Nat} (ht : t < 5) (hfl : f9 + ln ≤ rc n) (hs : fsw (σ 17) (-1) 30 0 = s9) (hs9 : s9 < 30) (h4 : σ 16 4 = nI nx) (hnx : nx ≤ 10000) (hmt : mt t ≤ 510) (hct : ∀ r, ct t r ≤ 510) : Mi l yX4_teachRuns wsX4_teachRuns 2 45 D cy ad [.ref (ad 0), .int (nI t), .int (nI f9), .int (nI ln)] σ (fun r τ => r = nI nx ∧ Kept σ τ s9 nx t ln f9 n w (ct t) (mt t)) := by
  have w0 : Cond.fieldLink RX4 30 "Tonguetell" "shelf" "LTonguetell$Shelf;" ∈ wsX4_teachRuns := by decide +kernel
  have w1 : ∀ w ∈ wsX40, w ∈ wsX4_teachRuns := by decide +kernel
  have w2 : Cond.fieldLink RX4 211 "Tonguetell$Shelf" "numberIn" "[I" ∈ wsX4_teachRuns := by decide +kernel
  have w3 : ∀ w ∈ wsX10, w ∈ wsX4_teachRuns := by decide +kernel
  have w4 : Cond.fieldLink RX4 10 "Tonguetell" "spelled" "LTonguetell$Spelling;" ∈ wsX4_teachRuns := by decide +kernel
  have w5 : Cond.fieldLink RX4 115 "Tonguetell$Shelf" "runsIn" "[[I" ∈ wsX4_teachRuns := by decide +kernel
  have w6 : Cond.fieldLink RX4 23 "Tonguetell" "tallies" "[LTonguetell$Tally;" ∈ wsX4_teachRuns := by decide +kernel
  have hn16 := hS.2.1
  have hrc := rc_le hn16
  have hrn := rn_lt (fun k h => (hS.2.2 k h).2)
  refine Mi.of (cc := cX4_teachRuns) (nL := 7) (own := RX4) hDis (by decide) rfl [(0, .ref (ad 0)), (1, .int (nI t)), (2, .int (nI f9)), (3, .int (nI ln))] rfl (Nat.le_of_ble_eq_true rfl) rfl ?_
  intro p e s m args below meth c A Q C hret
  refine tg_aload_n C dX4_teachRuns_0 1 rfl rfl 0 rfl ?_
  refine tg_get (T := TX4) (N := 8) (Cn := RX4) C 0 (by decide) (e_0 ad cy _) rfl w1 3 (by decide) w0 rfl rfl dX4_teachRuns_1 4 rfl ?_
  refine tg_iload_n C dX4_teachRuns_4 5 rfl rfl 1 rfl ?_
  refine tg_iload_n C dX4_teachRuns_5 6 rfl rfl 3 rfl ?_
  refine tg_callVi C 16 (by decide) (e_16 ad cy _) rfl (c_X1_take l D cy ad hDis σ (s9 := s9) (nx := nx) (t := t) (ln := ln) hs hs9 h4 hnx) (cwV 2 C.2.2.2.2.1 gX4_teachRuns_X1_take rfl rfl rfl (by decide +kernel) ⟨Nat.le_of_ble_eq_true rfl, Nat.le_of_ble_eq_true rfl⟩) rfl rfl (Nat.le_of_ble_eq_true rfl) ⟨Nat.le_of_ble_eq_true rfl, Nat.le_of_ble_eq_true rfl⟩ dX4_teachRuns_6 9 rfl (fun r6 τ6 h6 => ?_)
  obtain ⟨h6a, h6b⟩ := h6
  subst h6a
  have hτ : ∀ j, j ≠ 16 → j ≠ 17 → j ≠ 18 → j ≠ 19 → τ6 j = σ j := fun j h1 h2 h3 h5 => by rw [h6b, su_ni _ _ _ h1, su_ni _ _ _ h5, su_ni _ _ _ h3, su_ni _ _ _ h2]
  refine tg_istore C dX4_teachRuns_9 11 rfl [(4, .int (nI s9)), (0, .ref (ad 0)), (1, .int (nI t)), (2, .int (nI f9)), (3, .int (nI ln))] (by decide) rfl ?_
  refine tg_iconst C (nI 0) dX4_teachRuns_11 12 rfl (by decide) ?_
  refine tg_istore C dX4_teachRuns_12 14 rfl [(5, .int (nI 0)), (4, .int (nI s9)), (0, .ref (ad 0)), (1, .int (nI t)), (2, .int (nI f9)), (3, .int (nI ln))] (by decide) rfl ?_
  have L14 : ∀ (n14 : Nat) (i : Nat) (σ1 : sS), (i ≤ ln ∧ (∀ j, j ≠ 21 + s9 → j ≠ 6 + t → j ≠ 11 + t → σ1 j = τ6 j) ∧ (∀ p, p < i → σ1 (21 + s9) p = nI (rn n w (f9 + p))) ∧ Tl σ1 (6 + t) (11 + t) (fun r => ct t r + ownF n w f9 i r) (mt t + i)) → ln - i < n14 → TT p l e (Rm 2 45) s m args below meth c D cy ad A 7 0 0 Q σ1 14 [(0, .ref (ad 0)), (1, .int (nI t)), (2, .int (nI f9)), (3, .int (nI ln)), (4, .int (nI s9)), (5, .int (nI i))] [] := by
    intro n14
    induction n14 with
    | zero => intro i σ1 _ hn14; exact absurd hn14 (Nat.not_lt_zero _)
    | succ n14 ih14 =>
      intro i σ1 ⟨hi, hf, hr, hL⟩ hn14
      have hS1 : Sp σ1 n w := hS.fr ((hf 1 (by omega) (by omega) (by omega)).trans (hτ 1 (by decide) (by decide) (by decide) (by decide))) ((hf 2 (by omega) (by omega) (by omega)).trans (hτ 2 (by decide) (by decide) (by decide) (by decide)))
      have h17 : σ1 17 s9 = nI nx := by rw [hf 17 (by omega) (by omega) (by omega), h6b, su_ni _ _ _ (by decide), su_ni _ _ _ (by decide), su_ni _ _ _ (by decide), su_eq]
      refine tg_iload C dX4_teachRuns_14 16 rfl 5 rfl ?_
      refine tg_iload_n C dX4_teachRuns_16 17 rfl rfl 3 rfl ?_
      refine tg_icmp_ge C 65 dX4_teachRuns_17 (by decide) 20 rfl (fun c17 => ?_) (fun c17 => ?_)
      · -- to 65
        replace c17 : ln ≤ i := (nI_leI (by omega) (by omega)).mp c17
        refine tg_aload_n C dX4_teachRuns_65 66 rfl rfl 0 rfl ?_
        refine tg_get (T := TX4) (N := 8) (Cn := RX4) C 0 (by decide) (e_0 ad cy _) rfl w1 3 (by decide) w0 rfl rfl dX4_teachRuns_66 69 rfl ?_
        refine tg_get (T := TX1) (N := 5) (Cn := RX1) C 16 (by decide) (e_16 ad cy _) rfl w3 0 (by decide) w2 rfl rfl dX4_teachRuns_69 72 rfl ?_
        refine tg_iload C dX4_teachRuns_72 74 rfl 4 rfl ?_
        refine tg_iald C 17 (by decide) ((e_17 ad cy) _) s9 rfl (by omega) (by decide) dX4_teachRuns_74 75 rfl ?_
        refine tg_top (y := nI nx) (h17) ?_
        exact hret dX4_teachRuns_75 ⟨rfl, by
            have hil : i = ln := by omega
            subst hil
            refine ⟨?_, ?_, ?_, ?_, hr, hL, fun j h1 h2 h3 h5 h7 h8 h9 => (hf j h7 h8 h9).trans (hτ j h1 h2 h3 h5)⟩
            · rw [hf 17 (by omega) (by omega) (by omega), h6b, su_ni _ _ _ (by decide), su_ni _ _ _ (by decide), su_ni _ _ _ (by decide)]; exact va_up_self _ _ _
            · rw [hf 18 (by omega) (by omega) (by omega), h6b, su_ni _ _ _ (by decide), su_ni _ _ _ (by decide)]; exact va_up_self _ _ _
            · rw [hf 19 (by omega) (by omega) (by omega), h6b, su_ni _ _ _ (by decide)]; exact va_up_self _ _ _
            · rw [hf 16 (by omega) (by omega) (by omega), h6b, su_eq]⟩
      · -- on
        replace c17 : ¬ ln ≤ i := fun q => c17 ((nI_leI (by omega) (by omega)).mpr q)
        refine tg_aload_n C dX4_teachRuns_20 21 rfl rfl 0 rfl ?_
        refine tg_get (T := TX4) (N := 8) (Cn := RX4) C 0 (by decide) (e_0 ad cy _) rfl w1 0 (by decide) w4 rfl rfl dX4_teachRuns_21 24 rfl ?_
        refine tg_iload_n C dX4_teachRuns_24 25 rfl rfl 2 rfl ?_
        refine tg_iload C dX4_teachRuns_25 27 rfl 5 rfl ?_
        refine tg_iadd C (nI (f9 + i)) dX4_teachRuns_27 28 rfl (nI_add f9 i) ?_
        refine tg_callVi C 1 (by decide) (e_1 ad cy _) rfl (c_X2_runNumber l D cy ad hDis σ1 hS1 (k := f9 + i) (by omega)) (cwV 1 C.2.2.2.2.1 gX4_teachRuns_X2_runNumber rfl rfl rfl (by decide +kernel) ⟨Nat.le_of_ble_eq_true rfl, Nat.le_of_ble_eq_true rfl⟩) rfl rfl (Nat.le_of_ble_eq_true rfl) ⟨Nat.le_of_ble_eq_true rfl, Nat.le_of_ble_eq_true rfl⟩ dX4_teachRuns_28 31 rfl (fun r28 τ28 h28 => ?_)
        obtain ⟨h28, h28s⟩ := h28
        subst h28s
        subst h28
        refine tg_istore C dX4_teachRuns_31 33 rfl [(6, .int (nI (rn n w (f9 + i)))), (0, .ref (ad 0)), (1, .int (nI t)), (2, .int (nI f9)), (3, .int (nI ln)), (4, .int (nI s9)), (5, .int (nI i))] (by decide) rfl ?_
        refine tg_aload_n C dX4_teachRuns_33 34 rfl rfl 1 rfl ?_
        refine tg_get (T := TX4) (N := 8) (Cn := RX4) C 0 (by decide) (e_0 ad cy _) rfl w1 3 (by decide) w0 rfl rfl dX4_teachRuns_34 37 rfl ?_
        refine tg_get (T := TX1) (N := 5) (Cn := RX1) C 16 (by decide) (e_16 ad cy _) rfl w3 3 (by decide) w5 rfl rfl dX4_teachRuns_37 40 rfl ?_
        refine tg_iload C dX4_teachRuns_40 42 rfl 5 rfl ?_
        refine tg_aald C 20 2 (by decide) ((e_20 ad cy) _) rfl rfl s9 rfl (by omega) (by decide) dX4_teachRuns_42 43 rfl ?_
        refine tg_iload C dX4_teachRuns_43 45 rfl 6 rfl ?_
        refine tg_iload C dX4_teachRuns_45 47 rfl 0 rfl ?_
        refine tg_iast C (21 + s9) (by omega) (e_rowR ad cy (show s9 < 30 by omega)) i rfl (by omega) (by decide) dX4_teachRuns_47 48 rfl ?_
        obtain ⟨σ2, hσ2⟩ : ∃ z : sS, z = su σ1 (21 + s9) i (nI (rn n w (f9 + i))) := ⟨_, rfl⟩
        rw [← hσ2]
        have hL2 : Tl σ2 (6 + t) (11 + t) (fun r => ct t r + ownF n w f9 i r) (mt t + i) := hL.fr (by rw [hσ2, su_ni _ _ _ (by omega)]) (by rw [hσ2, su_ni _ _ _ (by omega)])
        refine tg_aload_n C dX4_teachRuns_48 49 rfl rfl 1 rfl ?_
        refine tg_get (T := TX4) (N := 8) (Cn := RX4) C 0 (by decide) (e_0 ad cy _) rfl w1 2 (by decide) w6 rfl rfl dX4_teachRuns_49 52 rfl ?_
        refine tg_iload_n C dX4_teachRuns_52 53 rfl rfl 2 rfl ?_
        refine tg_aald C 5 1 (by decide) (e_5 ad cy _) rfl rfl t rfl (by omega) (by decide) dX4_teachRuns_53 54 rfl ?_
        refine tg_iload C dX4_teachRuns_54 56 rfl 0 rfl ?_
        refine tg_callVv C (6 + t) (isTy.at (show t < 5 by omega)).lt ((isTy.at (show t < 5 by omega)).e ad cy _) rfl (c_X3_add l D cy ad hDis σ2 (isTy.at ht) hL2 (r9 := rn n w (f9 + i)) (hrn _)) (cwV 1 C.2.2.2.2.1 gX4_teachRuns_X3_add rfl rfl rfl (by decide +kernel) ⟨Nat.le_of_ble_eq_true rfl, Nat.le_of_ble_eq_true rfl⟩) rfl rfl (Nat.le_of_ble_eq_true rfl) ⟨Nat.le_of_ble_eq_true rfl, Nat.le_of_ble_eq_true rfl⟩ dX4_teachRuns_56 59 rfl (fun τ56 h56 => ?_)
        refine tg_iinc C (nI (i + 1)) dX4_teachRuns_59 62 rfl 6 rfl (nI_add i 1) [(5, .int (nI (i + 1))), (6, .int (nI (rn n w (f9 + i)))), (0, .ref (ad 0)), (1, .int (nI t)), (2, .int (nI f9)), (3, .int (nI ln)), (4, .int (nI s9))] (by decide) rfl ?_
        refine tg_goto C 14 dX4_teachRuns_62 (by decide) ?_
        refine tg_sub [2, 3, 4, 5, 6, 0] rfl ?_
        subst h56
        refine ih14 (i + 1) _ ⟨by omega, fun j h1 h2 h3 => by rw [su_ni _ _ _ h2, su_ni _ _ _ h3, hσ2, su_ni _ _ _ h1]; exact hf j h1 h2 h3, fun p hp => ?_, ⟨by rw [su_eq]; rfl, by omega, fun r hr9 => ⟨?_, ?_⟩⟩⟩ (by omega)
        · rw [su_ni _ _ _ (by omega), su_ni _ _ _ (by omega), hσ2, su_ap]
          split
          · rename_i hh; rw [hh.2]
          · exact hr p (by omega)
        · rw [su_ni _ _ _ (by omega), su_ap]
          show _ = nI (ct t r + (ownF n w f9 i r + (if rn n w (f9 + i) = r then 1 else 0)))
          split
          · rename_i hh
            rw [if_pos hh.2.symm, hh.2]
            rfl
          · rename_i hh
            rw [if_neg (fun q => hh ⟨rfl, q.symm⟩), (hL2.2.2 r hr9).1]
            rfl
        · have := hct r
          have := ownF_le n w f9 (i + 1) r
          show ct t r + ownF n w f9 (i + 1) r ≤ 600
          omega
  refine tg_sub [2, 3, 4, 5, 1, 0] rfl ?_
  refine L14 _ 0 τ6 ⟨by omega, fun j _ _ _ => rfl, fun p h => by omega, ?_⟩ (Nat.lt_succ_self _)
  have h0 := (hT t ht).fr (hτ (6 + t) (by omega) (by omega) (by omega) (by omega)) (hτ (11 + t) (by omega) (by omega) (by omega) (by omega))
  exact ⟨h0.1, by omega, fun r hr => ⟨by rw [(h0.2.2 r hr).1]; simp [ownF, sm], by have := hct r; simp [ownF, sm]; omega⟩⟩
set_option maxHeartbeats 4000000 in
set_option maxRecDepth 100000 in
theorem c_X4_layCostsForCut (l : Launch) (D : va_G) (cy : Nat → ClassId) (ad : Nat → Nat) (hDis : Dis ad) (σ : sS) {tc mg pr : Nat} (hX : Xs σ tc mg pr) {n : Nat} {w : Nat → Nat} (hS : Sp σ n w) {ct : Nat → Nat → Nat} {mt : Nat → Nat} (hT : Ta σ ct mt) (htc : 0 < tc) : Mv l yX4_layCostsForCut wsX4_layCostsForCut 2 42 D cy ad [.ref (ad 0)] σ (fun τ => Ct τ (rc n) tc pr ∧ Cs τ (rc n) tc (kst n w ct mt) ∧ ∀ j, j ≠ 51 → (j < 53 ∨ 70 ≤ j) → τ j = σ j) := by
  have w0 : Cond.fieldLink RX4 37 "Tonguetell" "cutter" "LTonguetell$Cutter;" ∈ wsX4_layCostsForCut := by decide +kernel
  have w1 : ∀ w ∈ wsX40, w ∈ wsX4_layCostsForCut := by decide +kernel
  have w2 : Cond.fieldLink RX4 10 "Tonguetell" "spelled" "LTonguetell$Spelling;" ∈ wsX4_layCostsForCut := by decide +kernel
  have w3 : Cond.fieldLink RX4 41 "Tonguetell" "tongueCount" "I" ∈ wsX4_layCostsForCut := by decide +kernel
  have w4 : Cond.fieldLink RX4 48 "Tonguetell" "price" "I" ∈ wsX4_layCostsForCut := by decide +kernel
  have w5 : Cond.fieldLink RX4 226 "Tonguetell$Cutter" "costs" "[[I" ∈ wsX4_layCostsForCut := by decide +kernel
  have w6 : ∀ w ∈ wsX00, w ∈ wsX4_layCostsForCut := by decide +kernel
  have w7 : Cond.fieldLink RX4 23 "Tonguetell" "tallies" "[LTonguetell$Tally;" ∈ wsX4_layCostsForCut := by decide +kernel
  obtain ⟨hx1, hx2, hx3, hx4, hx5, hx6⟩ := id hX
  have hn16 := hS.2.1
  have hrc := rc_le hn16
  have hrn := rn_lt (fun k h => (hS.2.2 k h).2)
  refine Mv.of (cc := cX4_layCostsForCut) (nL := 4) (own := RX4) hDis (by decide) rfl [(0, .ref (ad 0))] rfl (Nat.le_of_ble_eq_true rfl) rfl ?_
  intro p e s m args below meth c A Q C hret
  refine tg_aload_n C dX4_layCostsForCut_0 1 rfl rfl 0 rfl ?_
  refine tg_get (T := TX4) (N := 8) (Cn := RX4) C 0 (by decide) (e_0 ad cy _) rfl w1 4 (by decide) w0 rfl rfl dX4_layCostsForCut_1 4 rfl ?_
  refine tg_aload_n C dX4_layCostsForCut_4 5 rfl rfl 0 rfl ?_
  refine tg_get (T := TX4) (N := 8) (Cn := RX4) C 0 (by decide) (e_0 ad cy _) rfl w1 0 (by decide) w2 rfl rfl dX4_layCostsForCut_5 8 rfl ?_
  refine tg_callVi C 1 (by decide) (e_1 ad cy _) rfl (c_X2_runCount l D cy ad hDis σ hS) (cwV 0 C.2.2.2.2.1 gX4_layCostsForCut_X2_runCount rfl rfl rfl (by decide +kernel) ⟨Nat.le_of_ble_eq_true rfl, Nat.le_of_ble_eq_true rfl⟩) rfl rfl (Nat.le_of_ble_eq_true rfl) ⟨Nat.le_of_ble_eq_true rfl, Nat.le_of_ble_eq_true rfl⟩ dX4_layCostsForCut_8 11 rfl (fun r8 τ8 h8 => ?_)
  obtain ⟨h8, h8s⟩ := h8
  subst h8s
  subst h8
  refine tg_aload_n C dX4_layCostsForCut_11 12 rfl rfl 0 rfl ?_
  refine tg_get (T := TX4) (N := 8) (Cn := RX4) C 0 (by decide) (e_0 ad cy _) rfl w1 5 (by decide) w3 rfl rfl dX4_layCostsForCut_12 15 rfl ?_
  refine tg_top (y := nI tc) (hX.1) ?_
  refine tg_aload_n C dX4_layCostsForCut_15 16 rfl rfl 0 rfl ?_
  refine tg_get (T := TX4) (N := 8) (Cn := RX4) C 0 (by decide) (e_0 ad cy _) rfl w1 7 (by decide) w4 rfl rfl dX4_layCostsForCut_16 19 rfl ?_
  refine tg_top (y := nI pr) (hX.2.2.1) ?_
  refine tg_callVv C 51 (by decide) (e_51 ad cy _) rfl (c_X0_begin l D cy ad hDis σ (x := nI (rc n)) (y := nI tc) (z := nI pr)) (cwV 3 C.2.2.2.2.1 gX4_layCostsForCut_X0_begin rfl rfl rfl (by decide +kernel) ⟨Nat.le_of_ble_eq_true rfl, Nat.le_of_ble_eq_true rfl⟩) rfl rfl (Nat.le_of_ble_eq_true rfl) ⟨Nat.le_of_ble_eq_true rfl, Nat.le_of_ble_eq_true rfl⟩ dX4_layCostsForCut_19 22 rfl (fun τ19 h19 => ?_)
  have hτ : ∀ j, j ≠ 51 → τ19 j = σ j := fun j h1 => by rw [h19, su_ni _ _ _ h1, su_ni _ _ _ h1, su_ni _ _ _ h1]
  refine tg_iconst C (nI 0) dX4_layCostsForCut_22 23 rfl (by decide) ?_
  refine tg_istore_n C dX4_layCostsForCut_23 24 rfl rfl [(1, .int (nI 0)), (0, .ref (ad 0))] (by decide) rfl ?_
  have L24 : ∀ (n24 : Nat) (p9 : Nat) (σ1 : sS), (p9 ≤ rc n ∧ (∀ q t, q < p9 → t < tc → σ1 (53 + q) t = nI (kst n w ct mt q t)) ∧ ∀ j, (j < 53 ∨ 70 ≤ j) → σ1 j = τ19 j) → rc n - p9 < n24 → TT p l e (Rm 2 42) s m args below meth c D cy ad A 4 0 0 Q σ1 24 [(0, .ref (ad 0)), (1, .int (nI p9))] [] := by
    intro n24
    induction n24 with
    | zero => intro p9 σ1 _ hn24; exact absurd hn24 (Nat.not_lt_zero _)
    | succ n24 ih24 =>
      intro p9 σ1 ⟨hp, hr, hf⟩ hn24
      have hX1 : Xs σ1 tc mg pr := hX.fr ((hf 0 (by decide)).trans (hτ 0 (by decide)))
      have hS1 : Sp σ1 n w := hS.fr ((hf 1 (by decide)).trans (hτ 1 (by decide))) ((hf 2 (by decide)).trans (hτ 2 (by decide)))
      refine tg_iload_n C dX4_layCostsForCut_24 25 rfl rfl 1 rfl ?_
      refine tg_aload_n C dX4_layCostsForCut_25 26 rfl rfl 0 rfl ?_
      refine tg_get (T := TX4) (N := 8) (Cn := RX4) C 0 (by decide) (e_0 ad cy _) rfl w1 0 (by decide) w2 rfl rfl dX4_layCostsForCut_26 29 rfl ?_
      refine tg_callVi C 1 (by decide) (e_1 ad cy _) rfl (c_X2_runCount l D cy ad hDis σ1 hS1) (cwV 0 C.2.2.2.2.1 gX4_layCostsForCut_X2_runCount rfl rfl rfl (by decide +kernel) ⟨Nat.le_of_ble_eq_true rfl, Nat.le_of_ble_eq_true rfl⟩) rfl rfl (Nat.le_of_ble_eq_true rfl) ⟨Nat.le_of_ble_eq_true rfl, Nat.le_of_ble_eq_true rfl⟩ dX4_layCostsForCut_29 32 rfl (fun r29 τ29 h29 => ?_)
      obtain ⟨h29, h29s⟩ := h29
      subst h29s
      subst h29
      refine tg_icmp_ge C 87 dX4_layCostsForCut_32 (by decide) 35 rfl (fun c32 => ?_) (fun c32 => ?_)
      · -- to 87
        replace c32 : (rc n) ≤ p9 := (nI_leI (by omega) (by omega)).mp c32
        exact hret dX4_layCostsForCut_87 ⟨⟨by rw [hf 51 (by decide), h19, su_nk _ _ _ (by decide), su_nk _ _ _ (by decide), su_eq], by rw [hf 51 (by decide), h19, su_nk _ _ _ (by decide), su_eq], by rw [hf 51 (by decide), h19, su_eq], hrc, hx4, hx6, htc⟩, fun q t hq ht9 => ⟨hr q t (by omega) ht9, costN_le _ _⟩, fun j h1 h2 => (hf j h2).trans (hτ j h1)⟩
      · -- on
        replace c32 : ¬ (rc n) ≤ p9 := fun q => c32 ((nI_leI (by omega) (by omega)).mpr q)
        refine tg_aload_n C dX4_layCostsForCut_35 36 rfl rfl 0 rfl ?_
        refine tg_get (T := TX4) (N := 8) (Cn := RX4) C 0 (by decide) (e_0 ad cy _) rfl w1 0 (by decide) w2 rfl rfl dX4_layCostsForCut_36 39 rfl ?_
        refine tg_iload_n C dX4_layCostsForCut_39 40 rfl rfl 1 rfl ?_
        refine tg_callVi C 1 (by decide) (e_1 ad cy _) rfl (c_X2_runNumber l D cy ad hDis σ1 hS1 (k := p9) (by omega)) (cwV 1 C.2.2.2.2.1 gX4_layCostsForCut_X2_runNumber rfl rfl rfl (by decide +kernel) ⟨Nat.le_of_ble_eq_true rfl, Nat.le_of_ble_eq_true rfl⟩) rfl rfl (Nat.le_of_ble_eq_true rfl) ⟨Nat.le_of_ble_eq_true rfl, Nat.le_of_ble_eq_true rfl⟩ dX4_layCostsForCut_40 43 rfl (fun r40 τ40 h40 => ?_)
        obtain ⟨h40, h40s⟩ := h40
        subst h40s
        subst h40
        refine tg_istore_n C dX4_layCostsForCut_43 44 rfl rfl [(2, .int (nI (rn n w p9))), (0, .ref (ad 0)), (1, .int (nI p9))] (by decide) rfl ?_
        refine tg_iconst C (nI 0) dX4_layCostsForCut_44 45 rfl (by decide) ?_
        refine tg_istore_n C dX4_layCostsForCut_45 46 rfl rfl [(3, .int (nI 0)), (2, .int (nI (rn n w p9))), (0, .ref (ad 0)), (1, .int (nI p9))] (by decide) rfl ?_
        have L46 : ∀ (n46 : Nat) (t : Nat) (σ2 : sS), (t ≤ tc ∧ (∀ u, u < t → σ2 (53 + p9) u = nI (kst n w ct mt p9 u)) ∧ ∀ j, j ≠ 53 + p9 → σ2 j = σ1 j) → tc - t < n46 → TT p l e (Rm 2 42) s m args below meth c D cy ad A 4 0 0 Q σ2 46 [(0, .ref (ad 0)), (1, .int (nI p9)), (2, .int (nI (rn n w p9))), (3, .int (nI t))] [] := by
          intro n46
          induction n46 with
          | zero => intro t σ2 _ hn46; exact absurd hn46 (Nat.not_lt_zero _)
          | succ n46 ih46 =>
            intro t σ2 ⟨ht, hr2, hf2⟩ hn46
            have hX2 : Xs σ2 tc mg pr := hX1.fr (hf2 0 (by omega))
            have hS2 : Sp σ2 n w := hS1.fr (hf2 1 (by omega)) (hf2 2 (by omega))
            have hT2 : Ta σ2 ct mt := hT.fr (fun j h1 h2 => (hf2 j (by omega)).trans ((hf j (by omega)).trans (hτ j (by omega))))
            refine tg_iload_n C dX4_layCostsForCut_46 47 rfl rfl 3 rfl ?_
            refine tg_aload_n C dX4_layCostsForCut_47 48 rfl rfl 0 rfl ?_
            refine tg_get (T := TX4) (N := 8) (Cn := RX4) C 0 (by decide) (e_0 ad cy _) rfl w1 5 (by decide) w3 rfl rfl dX4_layCostsForCut_48 51 rfl ?_
            refine tg_top (y := nI tc) (hX2.1) ?_
            refine tg_icmp_ge C 81 dX4_layCostsForCut_51 (by decide) 54 rfl (fun c51 => ?_) (fun c51 => ?_)
            · -- to 81
              replace c51 : tc ≤ t := (nI_leI (by omega) (by omega)).mp c51
              refine tg_iinc C (nI (p9 + 1)) dX4_layCostsForCut_81 84 rfl 1 rfl (nI_add p9 1) [(1, .int (nI (p9 + 1))), (0, .ref (ad 0)), (2, .int (nI (rn n w p9))), (3, .int (nI t))] (by decide) rfl ?_
              refine tg_goto C 24 dX4_layCostsForCut_84 (by decide) ?_
              refine tg_sub [1, 0] rfl ?_
              refine ih24 (p9 + 1) σ2 ⟨by omega, fun q t hq ht9 => ?_, fun j hj => by rw [hf2 j (by omega)]; exact hf j hj⟩ (by omega)
              by_cases hqp : q = p9
              · rw [hqp]; exact hr2 t (by omega)
              · rw [hf2 (53 + q) (by omega)]; exact hr q t (by omega) ht9
            · -- on
              replace c51 : ¬ tc ≤ t := fun q => c51 ((nI_leI (by omega) (by omega)).mpr q)
              refine tg_aload_n C dX4_layCostsForCut_54 55 rfl rfl 0 rfl ?_
              refine tg_get (T := TX4) (N := 8) (Cn := RX4) C 0 (by decide) (e_0 ad cy _) rfl w1 4 (by decide) w0 rfl rfl dX4_layCostsForCut_55 58 rfl ?_
              refine tg_get (T := TX0) (N := 6) (Cn := RX0) C 51 (by decide) (e_51 ad cy _) rfl w6 0 (by decide) w5 rfl rfl dX4_layCostsForCut_58 61 rfl ?_
              refine tg_iload_n C dX4_layCostsForCut_61 62 rfl rfl 1 rfl ?_
              refine tg_aald C 52 2 (by decide) ((e_52 ad cy) _) rfl rfl p9 rfl (by omega) (by decide) dX4_layCostsForCut_62 63 rfl ?_
              refine tg_iload_n C dX4_layCostsForCut_63 64 rfl rfl 3 rfl ?_
              refine tg_aload_n C dX4_layCostsForCut_64 65 rfl rfl 0 rfl ?_
              refine tg_get (T := TX4) (N := 8) (Cn := RX4) C 0 (by decide) (e_0 ad cy _) rfl w1 2 (by decide) w7 rfl rfl dX4_layCostsForCut_65 68 rfl ?_
              refine tg_iload_n C dX4_layCostsForCut_68 69 rfl rfl 3 rfl ?_
              refine tg_aald C 5 1 (by decide) (e_5 ad cy _) rfl rfl t rfl (by omega) (by decide) dX4_layCostsForCut_69 70 rfl ?_
              refine tg_iload_n C dX4_layCostsForCut_70 71 rfl rfl 2 rfl ?_
              refine tg_callVi C (6 + t) (isTy.at (show t < 5 by omega)).lt ((isTy.at (show t < 5 by omega)).e ad cy _) rfl (c_X3_costOf l D cy ad hDis σ2 (isTy.at (show t < 5 by omega)) (hT2 t (by omega)) (r9 := rn n w p9) (hrn p9)) (cwV 1 C.2.2.2.2.1 gX4_layCostsForCut_X3_costOf rfl rfl rfl (by decide +kernel) ⟨Nat.le_of_ble_eq_true rfl, Nat.le_of_ble_eq_true rfl⟩) rfl rfl (Nat.le_of_ble_eq_true rfl) ⟨Nat.le_of_ble_eq_true rfl, Nat.le_of_ble_eq_true rfl⟩ dX4_layCostsForCut_71 74 rfl (fun r71 τ71 h71 => ?_)
              obtain ⟨h71, h71s⟩ := h71
              subst h71s
              subst h71
              refine tg_iast C (53 + p9) (by omega) (e_rowC ad cy (show p9 < 17 by omega)) t rfl (by omega) (by decide) dX4_layCostsForCut_74 75 rfl ?_
              refine tg_iinc C (nI (t + 1)) dX4_layCostsForCut_75 78 rfl 3 rfl (nI_add t 1) [(3, .int (nI (t + 1))), (0, .ref (ad 0)), (1, .int (nI p9)), (2, .int (nI (rn n w p9)))] (by decide) rfl ?_
              refine tg_goto C 46 dX4_layCostsForCut_78 (by decide) ?_
              refine tg_sub [1, 2, 3, 0] rfl ?_
              exact ih46 (t + 1) (su σ2 (53 + p9) t (nI (kst n w ct mt p9 t))) ⟨by omega, fun u hu => by
                  rw [su_ap]
                  split
                  · rename_i hh; rw [hh.2]
                  · exact hr2 u (by omega), fun j hj => by rw [su_ni _ _ _ hj]; exact hf2 j hj⟩ (by omega)
        refine tg_sub [2, 3, 1, 0] rfl ?_
        exact L46 _ 0 σ1 ⟨by omega, fun u h => by omega, fun j _ => rfl⟩ (Nat.lt_succ_self _)
  refine tg_sub [1, 0] rfl ?_
  exact L24 _ 0 τ19 ⟨by omega, fun q t h => by omega, fun j _ => rfl⟩ (Nat.lt_succ_self _)
end
section
/-! ===== methods that throw ===== -/
abbrev xIA : String := "java/lang/IllegalArgumentException"
abbrev xIS : String := "java/lang/IllegalStateException"
abbrev xIO : String := "java/lang/IndexOutOfBoundsException"
abbrev xNS : String := "java/util/NoSuchElementException"
abbrev xNames : List String := ["java/lang/RuntimeException", "java/lang/Exception"]
def xStr : List (Nat × String) := [(57, "the letter is neither from a to e nor a space"), (67, "the spelled text has 16 letters"), (85, "there are 5 tongues"), (93, "the spelled text is empty"), (99, "30 texts are taught and not withdrawn"), (155, "the price is not from 0 to 100"), (166, "the spelled text has more than 5 letters"), (187, "the spelled text has no such run"), (190, "there is no such tongue"), (192, "there are no tongues"), (194, "there is no such run"), (201, "no such text was taught, or it was withdrawn")]
def xExs : List String := [xIA, xIS, xIO, xNS]
def xDs : List String := ["java/lang/RuntimeException", "java/lang/Exception", Bundle.tN]
def xNc : List (String × String) := []
/-- what a throw needs of a state whose heap is H, A the cells that may change -/
def Ev (A : Nat → Prop) (U : State) (H : Heap) : Prop :=
  vx_Zq Bundle.tN "UNASSIGNED_STACK" Bundle.steD A U H ∧ vx_Zq Bundle.tN "SUPPRESSED_SENTINEL" Bundle.listD A U H ∧ ((∀ E ∈ xExs, va_Nw (.castable E E) U) ∧ ∀ Y ∈ xDs, va_Nw (.declares (Bundle.initS Y)) U) ∧ (∀ q ∈ xStr, ∃ sa, vk_R RX4 q.1 q.2 sa U) ∧ ∀ q ∈ xNc, va_Nc q.1 q.2 U
theorem Ev.go {A B : Nat → Prop} {s U : State} {H : Heap} (h : Ev A s s.heap) (hW : s.WarmedH U.vm) (hU : U.heap = H) (hq : ∀ a : Nat, a < s.heap.size → ¬ A a → H[a]? = s.heap[a]?) (hAB : ∀ q, B q → A q) : Ev B U U.heap := by
  obtain ⟨h1, h2, h3, h4, h5⟩ := h
  rw [hU]
  exact ⟨((h1.kept hq).narrow hAB).moved hW.alike, ((h2.kept hq).narrow hAB).moved hW.alike, ⟨fun E hE => (h3.1 E hE).warmC hW, fun Y hY => (h3.2 Y hY).warmD hW⟩, fun q hq => by obtain ⟨sa, h⟩ := h4 q hq; exact ⟨sa, vk_R.warm hW h⟩, fun q hq => (h5 q hq).moved hW.alike⟩
theorem Ev.blind {A : Nat → Prop} {U : State} {g : JFrame} {mk : MethodId} {a : Array Value} (h : Ev A U U.heap) : Ev A (U.calling g mk a) (U.calling g mk a).heap := by
  obtain ⟨h1, h2, h3, h4, h5⟩ := h
  exact ⟨vx_Zq.moved (u := U) (U := U.calling g mk a) (Vm.Alike.refl U.vm) h1, vx_Zq.moved (u := U) (U := U.calling g mk a) (Vm.Alike.refl U.vm) h2, ⟨fun E hE => va_Nw.same (u := U) (U := U.calling g mk a) rfl rfl (h3.1 E hE), fun Y hY => va_Nw.same (u := U) (U := U.calling g mk a) rfl rfl (h3.2 Y hY)⟩, fun q hq => by obtain ⟨sa, h⟩ := h4 q hq; exact ⟨sa, vk_R.same (u := U) (U := U.calling g mk a) rfl h⟩, fun q hq => va_Nc.moved (u := U) (U := U.calling g mk a) (Vm.Alike.refl U.vm) (h5 q hq)⟩
def PrX (D : va_G) (cy : Nat → ClassId) (ad : Nat → Nat) (a : List Value) (σ : sS) (sz : Nat) : Array Value → State → Prop := va_Pc a (fun U => U.heap.size = sz ∧ va_P D vwCl (wld ad cy σ) U.heap ∧ va_K D vwCl (tysO cy) U ∧ Ev (Aw ad sz) U U.heap)
theorem PrX.blind {D : va_G} {cy : Nat → ClassId} {ad : Nat → Nat} {a : List Value} {σ : sS} {sz : Nat} : FrameBlind (PrX D cy ad a σ sz) := fun a U g mk q => by
  obtain ⟨q0, q1, qP, qK, qE⟩ := q
  exact ⟨q0, q1, qP, va_K.moved (u := U) (U := U.calling g mk a) (Vm.Alike.refl U.vm) qK, qE.blind⟩
abbrev Rx (fr lo mc ms : Nat) : Room := { frames := fr, cells := mc, slots := ms, locals := lo }
/-- how it throws: which class, in which state -/
def Xq (D : va_G) (cy : Nat → ClassId) (ad : Nat → Nat) (qx : String → sS → Prop) (A : Nat → Prop) : String → State → State → Prop := vx_X (fun _ : sS => True) (fun E τ t => qx E τ ∧ Bw D cy ad τ t) A
def Xi (l : Launch) (y : MethodName) (ws : List Cond) (fr lo mc ms : Nat) (D : va_G) (cy : Nat → ClassId) (ad : Nat → Nat) (a : List Value) (σ : sS) (post : Int32 → sS → Prop) (qx : String → sS → Prop) : Prop := ∀ sz, vx_Met l y ws (Rx fr lo mc ms) (PrX D cy ad a σ sz) (va_Qi post (Bw D cy ad) (Aw ad sz)) (Xq D cy ad qx (Aw ad sz)) mc ms (Aw ad sz)
def Xv (l : Launch) (y : MethodName) (ws : List Cond) (fr lo mc ms : Nat) (D : va_G) (cy : Nat → ClassId) (ad : Nat → Nat) (a : List Value) (σ : sS) (post : sS → Prop) (qx : String → sS → Prop) : Prop := ∀ sz, vx_Met l y ws (Rx fr lo mc ms) (PrX D cy ad a σ sz) (va_Qv post (Bw D cy ad) (Aw ad sz)) (Xq D cy ad qx (Aw ad sz)) mc ms (Aw ad sz)
section XTS
variable {p : Program} {l : Launch} {e : Env} {R : Room} {s : State} {m : MethodId} {args : Array Value} {below : List Frame} {meth : Method} {c : Code} {D : va_G} {cy : Nat → ClassId} {ad : Nat → Nat} {A : Nat → Prop} {nL : Nat} {cells slots : Nat} {Q : State → Prop}
variable {cc : ByteArray} {own : String} {Ts : List Cond} {σ : sS} {pc : Nat} {lv : List (Nat × Value)} {st : List Value} {mc ms : Nat}
theorem Xi.of0 {y : MethodName} {ws ws' : List Cond} {fr lo : Nat} {a : List Value} {Qc : Array Value → State → Outcome → State → Prop} {XC : String → State → State → Prop} {sz : Nat} {ret : Option FieldType} (hDis : Dis ad) (hy : plainName y.cls = true) (hw : ws = Cond.code y cc nL ret :: ws') (lv0 : List (Nat × Value)) (hlv : lv_args 0 a = lv0) (hle : (lg_sl a).length ≤ nL) (hown : y.cls = own)
    (body : ∀ (p : Program) (e : Env) (s : State) (m : MethodId) (below : List Frame) (meth : Method) (c : Code), s.heap.size = sz → Cx p s m a.toArray c cc nL own ws D cy ad (Aw ad sz) → meth.sig.returnType = ret → meth.locks = false → (∀ x ∈ c.exceptionTable.toList, False) → Ev (Aw ad sz) s s.heap → TT p l e (Rx fr lo mc ms) s m a.toArray below meth c D cy ad (Aw ad sz) nL 0 0 (vx_MQ below Qc XC a.toArray s mc ms (Aw ad sz)) σ 0 lv0 []) : vx_Met l y ws (Rx fr lo mc ms) (PrX D cy ad a σ sz) Qc XC mc ms (Aw ad sz) := by
  refine vx_ofW (cc := cc) (maxL := nL) (ret := ret) hy hw ?_
  intro p e s m args below meth c s₁ B hml ht hv
  obtain ⟨rfl, hsz, hP, hK, hE⟩ := hv
  have hts := atoms_spec (ws := ws) B.pre
  have hown' : s.vm.findClass own = some m.cls := hown ▸ findClass_of_methodNamed B.named
  rw [lg_entry_eq]
  exact body p e s m below meth c hsz ⟨B.exec, B.bytes, hml, hown', hts, hK, hDis, fun i hi => Or.inl ⟨i, hi, rfl⟩, fun q hq => Or.inr (hsz ▸ hq)⟩ B.returns B.notSynchronized ht hE s.heap [] _ hP va_S.rf (hlv ▸ lv_entry a hle)
theorem xg_iret (C : Cx p s m args c cc nL own Ts D cy ad A) {XC : String → State → State → Prop} {post : Int32 → sS → Prop} {v : Int32} (hr : meth.sig.returnType = some .int) (hlk : meth.locks = false) (hc : cells ≤ mc) (hs : slots ≤ ms) (hdg : decode cc pc = .ok (.ireturn, 1)) (hpost : post v σ) : TT p l e R s m args below meth c D cy ad A nL cells slots (vx_MQ below (va_Qi post (Bw D cy ad) A) XC args s mc ms A) σ pc lv [.int v] := by
  intro H locs ls hP hS hl
  exact W.widen hc hs (vx_ret (W.iret (v := v) C.1 C.2.1 hr (fun t ht hW => ⟨⟨v, σ, rfl, hpost, by rw [ht]; exact hP, va_K.moved hW.alike C.2.2.2.2.2.1⟩, hS.F ht⟩) hS.2.2 hdg hlk))
theorem xg_vret (C : Cx p s m args c cc nL own Ts D cy ad A) {XC : String → State → State → Prop} {post : sS → Prop} (hr : meth.sig.returnType = none) (hlk : meth.locks = false) (hc : cells ≤ mc) (hs : slots ≤ ms) (hdg : decode cc pc = .ok (.return_, 1)) (hpost : post σ) : TT p l e R s m args below meth c D cy ad A nL cells slots (vx_MQ below (va_Qv post (Bw D cy ad) A) XC args s mc ms A) σ pc lv [] := by
  intro H locs ls hP hS hl
  exact W.widen hc hs (vx_ret (W.vret C.1 C.2.1 hr (fun t ht hW => ⟨⟨σ, rfl, hpost, by rw [ht]; exact hP, va_K.moved hW.alike C.2.2.2.2.2.1⟩, hS.F ht⟩) hS.2.2 hdg hlk))
/-- not caught here -/
theorem xg_out (C : Cx p s m args c cc nL own Ts D cy ad A) {Qc : Array Value → State → Outcome → State → Prop} {qx : String → sS → Prop} {H : Heap} {locs : List Loc} {ls : Array Slot} {E : String} {ce : Cell} {q : Addr} (hlk : meth.locks = false) (htab : ∀ x ∈ c.exceptionTable.toList, False) (hc : cells ≤ mc) (hs : slots ≤ ms) (hP : va_P D vwCl (wld ad cy σ) H) (hS : va_S A s.heap H locs) (hq : H[q]? = some ce) (hv : ce.vm = .none) (hcl : s.vm.findClass E = some ce.cls) (hx : qx E σ) :
    vx_W p l e R s m args below meth c H locs cells slots (vx_MQ below Qc (Xq D cy ad qx A) args s mc ms A) (F0 m pc ls st) q :=
  vx_out (fun x hx => (htab x hx).elim) hlk hq hv hcl (fun t ht hal => ⟨σ, trivial, ⟨hx, by rw [ht]; exact hP, va_K.moved hal C.2.2.2.2.2.1⟩, hS.F ht⟩) hS.2.2 hc hs
/-- 'throw new E("..")' -/
theorem xg_throw (C : Cx p s m args c cc nL own Ts D cy ad A) (hl0 : l.stackTraces = false) (hE : Ev A s s.heap) {Qc : Array Value → State → Outcome → State → Prop} {qx : String → sS → Prop} (E : String) {ik is ic : Nat} (hEx : E ∈ xExs) {text : String} (hst : (is, text) ∈ xStr) (hown : own = RX4) (hcls : Bundle.fit E = true) (hnames : ∀ n ∈ xNames, Bundle.fit n = true)
    (hk : Cond.classLink own ik E ∈ Ts) (hini : Cond.initialized E ∈ Ts) (hat1 : ∀ w ∈ (vx_atS own ic E xNames).filter goodWord, w ∈ Ts) (hat2 : ∀ w ∈ (vx_atS own ic E xNames).filter (fun w => !goodWord w), w ∈ Cond.castable E E :: xDs.map (fun Y => Cond.declares (Bundle.initS Y)))
    (hgood : ∀ w ∈ Cond.classLink own ik E :: Cond.initialized E :: vx_atS own ic E xNames, vx_ot w = true)
    (d0 : decode cc pc = .ok (.new ik, 3)) (d3 : decode cc (pc + 3) = .ok (.dup, 1)) (d4 : decode cc (pc + 4) = .ok (.ldc is, 2)) (d6 : decode cc (pc + 6) = .ok (.invokespecial ic, 3)) (d9 : decode cc (pc + 9) = .ok (.athrow, 1))
    (htab : ∀ x ∈ c.exceptionTable.toList, False) (hRframes : 5 < R.frames) (hRlocals : (st.map fun v => v.category).sum + 82 ≤ R.locals) (hRcells : cells + 1 ≤ R.cells) (hRslots : slots + 6 ≤ R.slots) (hlk : meth.locks = false) (hc : cells + 1 ≤ mc) (hs : slots + 6 ≤ ms) (hx : qx E σ) :
    TT p l e R s m args below meth c D cy ad A nL cells slots (vx_MQ below Qc (Xq D cy ad qx A) args s mc ms A) σ pc lv st := by
  intro H locs ls hP hS hl
  subst hown
  obtain ⟨sa, hsa⟩ := hE.2.2.2.1 _ hst
  exact vx_throwS (names := xNames) C.1 C.2.1 hl0 C.2.2.2.1 hcls hnames (C.2.2.2.2.1 _ hk) (C.2.2.2.2.1 _ hini) hsa (vx_hat (fun w hw => C.2.2.2.2.1 _ (hat1 w hw)) hat2 (vx_c ((hE.2.2.1.1 E hEx).use rfl) (fun w hw => by obtain ⟨Y, hY, rfl⟩ := List.mem_map.mp hw; exact (hE.2.2.1.2 Y hY).use rfl))) hgood hE.1 hE.2.1 hS (hl.1.trans C.2.2.1.symm) d0 d3 d4 d6 d9 (fun x hx => (htab x hx).elim) hRframes hRlocals hRcells hRslots hlk
    (fun t hal hz ho => ⟨σ, trivial, ⟨hx, hP.kept (fun k q hq => ho q.1 ((hP k q hq).lt)), va_K.moved hal C.2.2.2.2.2.1⟩, ⟨Nat.le_trans hS.1 hz, fun q h1 h2 => (ho q (Nat.lt_of_lt_of_le h1 hS.1)).trans (hS.2.1 q h1 h2)⟩⟩) hS.2.2 hc hs
/-- the same, of the class whose constructor differs -/
theorem xg_throwO (C : Cx p s m args c cc nL own Ts D cy ad A) (hl0 : l.stackTraces = false) (hE : Ev A s s.heap) {Qc : Array Value → State → Outcome → State → Prop} {qx : String → sS → Prop} (E : String) {ik is ic : Nat} (hEx : E ∈ xExs) {text : String} (hst : (is, text) ∈ xStr) (hown : own = RX4) (hcls : Bundle.fit E = true) (hnames : ∀ n ∈ xNames, Bundle.fit n = true)
    (hk : Cond.classLink own ik E ∈ Ts) (hini : Cond.initialized E ∈ Ts) (hat1 : ∀ w ∈ (od_at own ic E xNames).filter goodWord, w ∈ Ts) (hat2 : ∀ w ∈ (od_at own ic E xNames).filter (fun w => !goodWord w), w ∈ Cond.castable E E :: xDs.map (fun Y => Cond.declares (Bundle.initS Y)))
    (hgood : ∀ w ∈ Cond.classLink own ik E :: Cond.initialized E :: od_at own ic E xNames, vx_ot w = true)
    (d0 : decode cc pc = .ok (.new ik, 3)) (d3 : decode cc (pc + 3) = .ok (.dup, 1)) (d4 : decode cc (pc + 4) = .ok (.ldc is, 2)) (d6 : decode cc (pc + 6) = .ok (.invokespecial ic, 3)) (d9 : decode cc (pc + 9) = .ok (.athrow, 1))
    (htab : ∀ x ∈ c.exceptionTable.toList, False) (hRframes : 5 < R.frames) (hRlocals : (st.map fun v => v.category).sum + 82 ≤ R.locals) (hRcells : cells + 1 ≤ R.cells) (hRslots : slots + 6 ≤ R.slots) (hlk : meth.locks = false) (hc : cells + 1 ≤ mc) (hs : slots + 6 ≤ ms) (hx : qx E σ) :
    TT p l e R s m args below meth c D cy ad A nL cells slots (vx_MQ below Qc (Xq D cy ad qx A) args s mc ms A) σ pc lv st := by
  intro H locs ls hP hS hl
  subst hown
  obtain ⟨sa, hsa⟩ := hE.2.2.2.1 _ hst
  exact od_throw (names := xNames) C.1 C.2.1 hl0 C.2.2.2.1 hcls hnames (C.2.2.2.2.1 _ hk) (C.2.2.2.2.1 _ hini) hsa (vx_hat (fun w hw => C.2.2.2.2.1 _ (hat1 w hw)) hat2 (vx_c ((hE.2.2.1.1 E hEx).use rfl) (fun w hw => by obtain ⟨Y, hY, rfl⟩ := List.mem_map.mp hw; exact (hE.2.2.1.2 Y hY).use rfl))) hgood hE.1 hE.2.1 hS (hl.1.trans C.2.2.1.symm) d0 d3 d4 d6 d9 (fun x hx => (htab x hx).elim) hRframes hRlocals hRcells hRslots hlk
    (fun t hal hz ho => ⟨σ, trivial, ⟨hx, hP.kept (fun k q hq => ho q.1 ((hP k q hq).lt)), va_K.moved hal C.2.2.2.2.2.1⟩, ⟨Nat.le_trans hS.1 hz, fun q h1 h2 => (ho q (Nat.lt_of_lt_of_le h1 hS.1)).trans (hS.2.1 q h1 h2)⟩⟩) hS.2.2 hc hs

theorem xg_callVi (C : Cx p s m args c cc nL own Ts D cy ad A) (hE : Ev A s s.heap) {y : MethodName} {ws : List Cond} {fr lo index maxL n mc2 ms2 : Nat} {bytes : ByteArray} {ret : Option FieldType} (i : Nat) {ci N : Nat} {Cn : String} {T : u_T} {fs : List Value} (hi : i < 89) (he : ent ad cy i (σ i) = .inr (ci, fs)) (hc : vwCl[ci]? = some (Cn, T, N)) {As : List Value} {post : Int32 → sS → Prop} {qc : String → sS → Prop} (hM : Xi l y ws fr lo mc2 ms2 D cy ad (Value.ref (ad i) :: As) σ post qc) (cw : CallW R s args own Cn index y bytes maxL ret ws (Rx fr lo mc2 ms2) mc2 ms2 n) (hn : As.length = n) {stk : List Value} (hst : stk = As.reverse ++ .ref (ad i) :: st) (hcat : (st.map fun v => v.category).sum ≤ 8) (hcl : cells + mc2 ≤ R.cells ∧ slots + ms2 ≤ R.slots) (hdg : decode cc pc = .ok (.invokevirtual index, 3)) (pc' : Nat) (hp : pc + 3 = pc')
    (kx : ∀ (E : String) (τ : sS) (H : Heap) (locs : List Loc) (ls : Array Slot) (ce : Cell) (q : Addr), qc E τ → va_P D vwCl (wld ad cy τ) H → va_S A s.heap H locs → lv_has ls nL lv → H[q]? = some ce → ce.vm = .none → s.vm.findClass E = some ce.cls → vx_W p l e R s m args below meth c H locs (cells + mc2) (slots + ms2) Q (F0 m pc ls st) q)
    (kk : ∀ (r : Int32) (τ : sS), post r τ → TT p l e R s m args below meth c D cy ad A nL (cells + mc2) (slots + ms2) Q τ pc' lv (.int r :: st)) : TT p l e R s m args below meth c D cy ad A nL cells slots Q σ pc lv stk := by
  subst hp
  subst hst
  intro H locs ls hP hS hl
  exact vx_calli (vx_runV (As := As) (rest := st) ⟨C.1, C.2.1, C.2.2.1, C.2.2.2.1, C.2.2.2.2.1⟩ (hM H.size) cw ⟨PrX.blind, va_recv C.2.2.2.2.2.1 hP hc (q0 := i) (by rw [wld_at _ _ _ hi, he]), fun U hU hW => ⟨rfl, by rw [hU], by rw [hU]; exact hP, va_K.moved hW.alike C.2.2.2.2.2.1, hE.go hW hU hS.2.1 (fun q h => Aw.cx C hS.1 h)⟩⟩ rfl hn hl.1 rfl (lv_room hcat) hdg hcl) hS (fun q _ h => Aw.cx C hS.1 h) (fun q h => Aw.cx C hS.1 h) (fun q _ h => Aw.cx C hS.1 h) (fun E ce q9 u t H1 locs1 ht hvm hw hB _ _ hS1 h1 h2 h3 => kx E u H1 locs1 ls ce q9 hB.1 (by rw [← ht]; exact hB.2.1) hS1 hl h1 h2 h3) (fun r u t H1 locs1 ht hvm hw hB _ _ hS1 => kk r u hw H1 locs1 ls (by rw [← ht]; exact hB.1) hS1 hl)
theorem xg_callVv (C : Cx p s m args c cc nL own Ts D cy ad A) (hE : Ev A s s.heap) {y : MethodName} {ws : List Cond} {fr lo index maxL n mc2 ms2 : Nat} {bytes : ByteArray} {ret : Option FieldType} (i : Nat) {ci N : Nat} {Cn : String} {T : u_T} {fs : List Value} (hi : i < 89) (he : ent ad cy i (σ i) = .inr (ci, fs)) (hc : vwCl[ci]? = some (Cn, T, N)) {As : List Value} {post : sS → Prop} {qc : String → sS → Prop} (hM : Xv l y ws fr lo mc2 ms2 D cy ad (Value.ref (ad i) :: As) σ post qc) (cw : CallW R s args own Cn index y bytes maxL ret ws (Rx fr lo mc2 ms2) mc2 ms2 n) (hn : As.length = n) {stk : List Value} (hst : stk = As.reverse ++ .ref (ad i) :: st) (hcat : (st.map fun v => v.category).sum ≤ 8) (hcl : cells + mc2 ≤ R.cells ∧ slots + ms2 ≤ R.slots) (hdg : decode cc pc = .ok (.invokevirtual index, 3)) (pc' : Nat) (hp : pc + 3 = pc')
    (kx : ∀ (E : String) (τ : sS) (H : Heap) (locs : List Loc) (ls : Array Slot) (ce : Cell) (q : Addr), qc E τ → va_P D vwCl (wld ad cy τ) H → va_S A s.heap H locs → lv_has ls nL lv → H[q]? = some ce → ce.vm = .none → s.vm.findClass E = some ce.cls → vx_W p l e R s m args below meth c H locs (cells + mc2) (slots + ms2) Q (F0 m pc ls st) q)
    (kk : ∀ (τ : sS), post τ → TT p l e R s m args below meth c D cy ad A nL (cells + mc2) (slots + ms2) Q τ pc' lv st) : TT p l e R s m args below meth c D cy ad A nL cells slots Q σ pc lv stk := by
  subst hp
  subst hst
  intro H locs ls hP hS hl
  exact vx_callv (vx_runV (As := As) (rest := st) ⟨C.1, C.2.1, C.2.2.1, C.2.2.2.1, C.2.2.2.2.1⟩ (hM H.size) cw ⟨PrX.blind, va_recv C.2.2.2.2.2.1 hP hc (q0 := i) (by rw [wld_at _ _ _ hi, he]), fun U hU hW => ⟨rfl, by rw [hU], by rw [hU]; exact hP, va_K.moved hW.alike C.2.2.2.2.2.1, hE.go hW hU hS.2.1 (fun q h => Aw.cx C hS.1 h)⟩⟩ rfl hn hl.1 rfl (lv_room hcat) hdg hcl) hS (fun q _ h => Aw.cx C hS.1 h) (fun q h => Aw.cx C hS.1 h) (fun q _ h => Aw.cx C hS.1 h) (fun E ce q9 u t H1 locs1 ht hvm hw hB _ _ hS1 h1 h2 h3 => kx E u H1 locs1 ls ce q9 hB.1 (by rw [← ht]; exact hB.2.1) hS1 hl h1 h2 h3) (fun u t H1 locs1 ht hvm hw hB _ _ hS1 => kk u hw H1 locs1 ls (by rw [← ht]; exact hB.1) hS1 hl)
theorem xg_callSi (C : Cx p s m args c cc nL own Ts D cy ad A) (hE : Ev A s s.heap) {y : MethodName} {ws : List Cond} {fr lo index maxL n mc2 ms2 : Nat} {bytes : ByteArray} {ret : Option FieldType} {As : List Value} {post : Int32 → sS → Prop} {qc : String → sS → Prop} (hM : Xi l y ws fr lo mc2 ms2 D cy ad As σ post qc) (cw : CallB R s args own index y bytes maxL ret ws (Rx fr lo mc2 ms2) mc2 ms2 n ∧ (Cond.static y).before args s = true) (hn : As.length = n) {stk : List Value} (hst : stk = As.reverse ++ st) (hcat : (st.map fun v => v.category).sum ≤ 8) (hcl : cells + mc2 ≤ R.cells ∧ slots + ms2 ≤ R.slots) (hdg : decode cc pc = .ok (.invokestatic index, 3)) (pc' : Nat) (hp : pc + 3 = pc')
    (kx : ∀ (E : String) (τ : sS) (H : Heap) (locs : List Loc) (ls : Array Slot) (ce : Cell) (q : Addr), qc E τ → va_P D vwCl (wld ad cy τ) H → va_S A s.heap H locs → lv_has ls nL lv → H[q]? = some ce → ce.vm = .none → s.vm.findClass E = some ce.cls → vx_W p l e R s m args below meth c H locs (cells + mc2) (slots + ms2) Q (F0 m pc ls st) q)
    (kk : ∀ (r : Int32) (τ : sS), post r τ → TT p l e R s m args below meth c D cy ad A nL (cells + mc2) (slots + ms2) Q τ pc' lv (.int r :: st)) : TT p l e R s m args below meth c D cy ad A nL cells slots Q σ pc lv stk := by
  subst hp
  subst hst
  intro H locs ls hP hS hl
  exact vx_calli (vx_runS (As := As) (rest := st) ⟨C.1, C.2.1, C.2.2.1, C.2.2.2.1, C.2.2.2.2.1⟩ (hM H.size) cw ⟨PrX.blind, fun U hU hW => ⟨rfl, by rw [hU], by rw [hU]; exact hP, va_K.moved hW.alike C.2.2.2.2.2.1, hE.go hW hU hS.2.1 (fun q h => Aw.cx C hS.1 h)⟩⟩ rfl hn hl.1 rfl (lv_room hcat) hdg hcl) hS (fun q _ h => Aw.cx C hS.1 h) (fun q h => Aw.cx C hS.1 h) (fun q _ h => Aw.cx C hS.1 h) (fun E ce q9 u t H1 locs1 ht hvm hw hB _ _ hS1 h1 h2 h3 => kx E u H1 locs1 ls ce q9 hB.1 (by rw [← ht]; exact hB.2.1) hS1 hl h1 h2 h3) (fun r u t H1 locs1 ht hvm hw hB _ _ hS1 => kk r u hw H1 locs1 ls (by rw [← ht]; exact hB.1) hS1 hl)
theorem xg_callSv (C : Cx p s m args c cc nL own Ts D cy ad A) (hE : Ev A s s.heap) {y : MethodName} {ws : List Cond} {fr lo index maxL n mc2 ms2 : Nat} {bytes : ByteArray} {ret : Option FieldType} {As : List Value} {post : sS → Prop} {qc : String → sS → Prop} (hM : Xv l y ws fr lo mc2 ms2 D cy ad As σ post qc) (cw : CallB R s args own index y bytes maxL ret ws (Rx fr lo mc2 ms2) mc2 ms2 n ∧ (Cond.static y).before args s = true) (hn : As.length = n) {stk : List Value} (hst : stk = As.reverse ++ st) (hcat : (st.map fun v => v.category).sum ≤ 8) (hcl : cells + mc2 ≤ R.cells ∧ slots + ms2 ≤ R.slots) (hdg : decode cc pc = .ok (.invokestatic index, 3)) (pc' : Nat) (hp : pc + 3 = pc')
    (kx : ∀ (E : String) (τ : sS) (H : Heap) (locs : List Loc) (ls : Array Slot) (ce : Cell) (q : Addr), qc E τ → va_P D vwCl (wld ad cy τ) H → va_S A s.heap H locs → lv_has ls nL lv → H[q]? = some ce → ce.vm = .none → s.vm.findClass E = some ce.cls → vx_W p l e R s m args below meth c H locs (cells + mc2) (slots + ms2) Q (F0 m pc ls st) q)
    (kk : ∀ (τ : sS), post τ → TT p l e R s m args below meth c D cy ad A nL (cells + mc2) (slots + ms2) Q τ pc' lv st) : TT p l e R s m args below meth c D cy ad A nL cells slots Q σ pc lv stk := by
  subst hp
  subst hst
  intro H locs ls hP hS hl
  exact vx_callv (vx_runS (As := As) (rest := st) ⟨C.1, C.2.1, C.2.2.1, C.2.2.2.1, C.2.2.2.2.1⟩ (hM H.size) cw ⟨PrX.blind, fun U hU hW => ⟨rfl, by rw [hU], by rw [hU]; exact hP, va_K.moved hW.alike C.2.2.2.2.2.1, hE.go hW hU hS.2.1 (fun q h => Aw.cx C hS.1 h)⟩⟩ rfl hn hl.1 rfl (lv_room hcat) hdg hcl) hS (fun q _ h => Aw.cx C hS.1 h) (fun q h => Aw.cx C hS.1 h) (fun q _ h => Aw.cx C hS.1 h) (fun E ce q9 u t H1 locs1 ht hvm hw hB _ _ hS1 h1 h2 h3 => kx E u H1 locs1 ls ce q9 hB.1 (by rw [← ht]; exact hB.2.1) hS1 hl h1 h2 h3) (fun u t H1 locs1 ht hvm hw hB _ _ hS1 => kk u hw H1 locs1 ls (by rw [← ht]; exact hB.1) hS1 hl)
theorem Xi.of {y : MethodName} {ws ws' : List Cond} {fr lo : Nat} {a : List Value} {post : Int32 → sS → Prop} {qx : String → sS → Prop} (hDis : Dis ad) (hy : plainName y.cls = true) (hw : ws = Cond.code y cc nL (some .int) :: ws') (lv0 : List (Nat × Value)) (hlv : lv_args 0 a = lv0) (hle : (lg_sl a).length ≤ nL) (hown : y.cls = own)
    (body : ∀ (p : Program) (e : Env) (s : State) (m : MethodId) (args : Array Value) (below : List Frame) (meth : Method) (c : Code) (A : Nat → Prop) (Qc : Array Value → State → Outcome → State → Prop), Cx p s m args c cc nL own ws D cy ad A → Ev A s s.heap → meth.locks = false → (∀ x ∈ c.exceptionTable.toList, False) → (∀ {pc cells slots : Nat} {lv : List (Nat × Value)} {v : Int32} {τ : sS}, cells ≤ mc → slots ≤ ms → decode cc pc = .ok (.ireturn, 1) → post v τ → TT p l e (Rx fr lo mc ms) s m args below meth c D cy ad A nL cells slots (vx_MQ below Qc (Xq D cy ad qx A) args s mc ms A) τ pc lv [.int v]) → TT p l e (Rx fr lo mc ms) s m args below meth c D cy ad A nL 0 0 (vx_MQ below Qc (Xq D cy ad qx A) args s mc ms A) σ 0 lv0 []) : Xi l y ws fr lo mc ms D cy ad a σ post qx := by
  intro sz
  refine Xi.of0 hDis hy hw lv0 hlv hle hown ?_
  intro p e s m below meth c hsz C hr hlk htab hE
  subst hsz
  exact body p e s m a.toArray below meth c _ _ C hE hlk htab (fun hc hs hdg hp => xg_iret C hr hlk hc hs hdg hp)
theorem Xv.of {y : MethodName} {ws ws' : List Cond} {fr lo : Nat} {a : List Value} {post : sS → Prop} {qx : String → sS → Prop} (hDis : Dis ad) (hy : plainName y.cls = true) (hw : ws = Cond.code y cc nL none :: ws') (lv0 : List (Nat × Value)) (hlv : lv_args 0 a = lv0) (hle : (lg_sl a).length ≤ nL) (hown : y.cls = own)
    (body : ∀ (p : Program) (e : Env) (s : State) (m : MethodId) (args : Array Value) (below : List Frame) (meth : Method) (c : Code) (A : Nat → Prop) (Qc : Array Value → State → Outcome → State → Prop), Cx p s m args c cc nL own ws D cy ad A → Ev A s s.heap → meth.locks = false → (∀ x ∈ c.exceptionTable.toList, False) → (∀ {pc cells slots : Nat} {lv : List (Nat × Value)} {τ : sS}, cells ≤ mc → slots ≤ ms → decode cc pc = .ok (.return_, 1) → post τ → TT p l e (Rx fr lo mc ms) s m args below meth c D cy ad A nL cells slots (vx_MQ below Qc (Xq D cy ad qx A) args s mc ms A) τ pc lv []) → TT p l e (Rx fr lo mc ms) s m args below meth c D cy ad A nL 0 0 (vx_MQ below Qc (Xq D cy ad qx A) args s mc ms A) σ 0 lv0 []) : Xv l y ws fr lo mc ms D cy ad a σ post qx := by
  intro sz
  refine Xi.of0 hDis hy hw lv0 hlv hle hown ?_
  intro p e s m below meth c hsz C hr hlk htab hE
  subst hsz
  exact body p e s m a.toArray below meth c _ _ C hE hlk htab (fun hc hs hdg hp => xg_vret C hr hlk hc hs hdg hp)
end XTS
theorem at_xIA : ∀ w ∈ (vx_atS RX4 59 xIA xNames).filter (fun w => !goodWord w), w ∈ Cond.castable xIA xIA :: xDs.map (fun Y => Cond.declares (Bundle.initS Y)) := by decide +kernel
theorem gd_xIA : ∀ w ∈ vx_atS RX4 59 xIA xNames, vx_ot w = true := by decide +kernel
theorem at_xIS : ∀ w ∈ (vx_atS RX4 69 xIS xNames).filter (fun w => !goodWord w), w ∈ Cond.castable xIS xIS :: xDs.map (fun Y => Cond.declares (Bundle.initS Y)) := by decide +kernel
theorem gd_xIS : ∀ w ∈ vx_atS RX4 69 xIS xNames, vx_ot w = true := by decide +kernel
theorem at_xIO : ∀ w ∈ (vx_atS RX4 189 xIO xNames).filter (fun w => !goodWord w), w ∈ Cond.castable xIO xIO :: xDs.map (fun Y => Cond.declares (Bundle.initS Y)) := by decide +kernel
theorem gd_xIO : ∀ w ∈ vx_atS RX4 189 xIO xNames, vx_ot w = true := by decide +kernel
theorem at_xNS : ∀ w ∈ (od_at RX4 203 xNS xNames).filter (fun w => !goodWord w), w ∈ Cond.castable xNS xNS :: xDs.map (fun Y => Cond.declares (Bundle.initS Y)) := by decide +kernel
theorem gd_xNS : ∀ w ∈ od_at RX4 203 xNS xNames, vx_ot w = true := by decide +kernel
end
section
/-! ===== the class: what throws ===== -/
/-! ===== ranges ===== -/
def inR (x : Int32) (n : Nat) : Prop := ∃ k, k < n ∧ x = nI k
theorem inR_of {x : Int32} {n : Nat} (hn : n < 2 ^ 31) (h0 : ¬ x < 0) (h1 : x < nI n) : inR x n := by
  obtain ⟨j, hj, rfl⟩ := nI_of h0
  exact ⟨j, (nI_ltI hj hn).mp h1, rfl⟩
theorem inR_neg {x : Int32} {n : Nat} (hn : n < 2 ^ 31) (h : x < 0) : ¬ inR x n := fun ⟨k, hk, e⟩ => by
  rw [e] at h
  exact nI_pos (by omega) h
theorem inR_ge {x : Int32} {n : Nat} (hn : n < 2 ^ 31) (h : ¬ x < nI n) : ¬ inR x n := fun ⟨k, hk, e⟩ => by
  rw [e] at h
  exact h ((nI_ltI (by omega) hn).mpr hk)
theorem inR_le {x : Int32} {n : Nat} (hn : n + 1 < 2 ^ 31) (h0 : ¬ x < 0) (h1 : x ≤ nI n) : inR x (n + 1) := by
  obtain ⟨j, hj, rfl⟩ := nI_of h0
  exact ⟨j, by have := (nI_leI hj (by omega)).mp h1; omega, rfl⟩
theorem inR_gt {x : Int32} {n : Nat} (hn : n + 1 < 2 ^ 31) (h : ¬ x ≤ nI n) : ¬ inR x (n + 1) := fun ⟨k, hk, e⟩ => by
  rw [e] at h
  exact h ((nI_leI (by omega) (by omega)).mpr (by omega))
set_option maxHeartbeats 4000000 in
set_option maxRecDepth 100000 in
theorem c_X4_requireRunPlace (l : Launch) (hl0 : l.stackTraces = false) (D : va_G) (cy : Nat → ClassId) (ad : Nat → Nat) (hDis : Dis ad) (σ : sS) {n : Nat} {w : Nat → Nat} (hS : Sp σ n w) {x : Int32} : Xv l yX4_requireRunPlace wsX4_requireRunPlace 6 90 1 6 D cy ad [.ref (ad 0), .int x] σ (fun τ => inR x (rc n) ∧ σ = τ) (fun E τ => E = xIO ∧ ¬ inR x (rc n) ∧ σ = τ) := by
  have w0 : Cond.classLink RX4 185 xIO ∈ wsX4_requireRunPlace := by decide +kernel
  have w1 : Cond.initialized xIO ∈ wsX4_requireRunPlace := by decide +kernel
  have w2 : ∀ w ∈ (vx_atS RX4 189 xIO xNames).filter goodWord, w ∈ wsX4_requireRunPlace := by decide +kernel
  have w3 : Cond.fieldLink RX4 10 "Tonguetell" "spelled" "LTonguetell$Spelling;" ∈ wsX4_requireRunPlace := by decide +kernel
  have w4 : ∀ w ∈ wsX40, w ∈ wsX4_requireRunPlace := by decide +kernel
  have hn16 := hS.2.1
  have hrc := rc_le hn16
  have hrn := rn_lt (fun k h => (hS.2.2 k h).2)
  refine Xv.of (cc := cX4_requireRunPlace) (nL := 2) (own := RX4) hDis (by decide) rfl [(0, .ref (ad 0)), (1, .int x)] rfl (Nat.le_of_ble_eq_true rfl) rfl ?_
  intro p e s m args below meth c A Qc C hE hlk htab hret
  refine tg_iload_n C dX4_requireRunPlace_0 1 rfl rfl 1 rfl ?_
  refine tg_if_lt C 15 dX4_requireRunPlace_1 (by decide) 4 rfl (fun c1 => ?_) (fun c1 => ?_)
  · -- to 15
    exact xg_throw C hl0 hE xIO (by decide) (text := "the spelled text has no such run") (by decide +kernel) rfl (by decide) (by decide) w0 w1 w2 at_xIO (List.forall_mem_cons.mpr ⟨rfl, List.forall_mem_cons.mpr ⟨rfl, gd_xIO⟩⟩) dX4_requireRunPlace_15 dX4_requireRunPlace_18 dX4_requireRunPlace_19 dX4_requireRunPlace_21 dX4_requireRunPlace_24 htab (Nat.le_of_ble_eq_true rfl) (Nat.le_of_ble_eq_true rfl) (Nat.le_of_ble_eq_true rfl) (Nat.le_of_ble_eq_true rfl) hlk (Nat.le_of_ble_eq_true rfl) (Nat.le_of_ble_eq_true rfl) ⟨rfl, by first | exact inR_neg (by omega) c1 | exact inR_ge (by omega) c12, rfl⟩
  · -- on
    refine tg_iload_n C dX4_requireRunPlace_4 5 rfl rfl 1 rfl ?_
    refine tg_aload_n C dX4_requireRunPlace_5 6 rfl rfl 0 rfl ?_
    refine tg_get (T := TX4) (N := 8) (Cn := RX4) C 0 (by decide) (e_0 ad cy _) rfl w4 0 (by decide) w3 rfl rfl dX4_requireRunPlace_6 9 rfl ?_
    refine tg_callVi C 1 (by decide) (e_1 ad cy _) rfl (c_X2_runCount l D cy ad hDis σ hS) (cwV 0 C.2.2.2.2.1 gX4_requireRunPlace_X2_runCount rfl rfl rfl (by decide +kernel) ⟨Nat.le_of_ble_eq_true rfl, Nat.le_of_ble_eq_true rfl⟩) rfl rfl (Nat.le_of_ble_eq_true rfl) ⟨Nat.le_of_ble_eq_true rfl, Nat.le_of_ble_eq_true rfl⟩ dX4_requireRunPlace_9 12 rfl (fun r9 τ9 h9 => ?_)
    obtain ⟨h9, h9s⟩ := h9
    subst h9s
    subst h9
    refine tg_icmp_lt C 25 dX4_requireRunPlace_12 (by decide) 15 rfl (fun c12 => ?_) (fun c12 => ?_)
    · -- to 25
      exact hret (Nat.le_of_ble_eq_true rfl) (Nat.le_of_ble_eq_true rfl) dX4_requireRunPlace_25 ⟨inR_of (by omega) c1 c12, rfl⟩
    · -- on
      exact xg_throw C hl0 hE xIO (by decide) (text := "the spelled text has no such run") (by decide +kernel) rfl (by decide) (by decide) w0 w1 w2 at_xIO (List.forall_mem_cons.mpr ⟨rfl, List.forall_mem_cons.mpr ⟨rfl, gd_xIO⟩⟩) dX4_requireRunPlace_15 dX4_requireRunPlace_18 dX4_requireRunPlace_19 dX4_requireRunPlace_21 dX4_requireRunPlace_24 htab (Nat.le_of_ble_eq_true rfl) (Nat.le_of_ble_eq_true rfl) (Nat.le_of_ble_eq_true rfl) (Nat.le_of_ble_eq_true rfl) hlk (Nat.le_of_ble_eq_true rfl) (Nat.le_of_ble_eq_true rfl) ⟨rfl, by first | exact inR_neg (by omega) c1 | exact inR_ge (by omega) c12, rfl⟩
set_option maxHeartbeats 4000000 in
set_option maxRecDepth 100000 in
theorem c_X4_requireTongue (l : Launch) (hl0 : l.stackTraces = false) (D : va_G) (cy : Nat → ClassId) (ad : Nat → Nat) (hDis : Dis ad) (σ : sS) {tc mg pr : Nat} (hX : Xs σ tc mg pr) {x : Int32} : Xv l yX4_requireTongue wsX4_requireTongue 6 90 1 6 D cy ad [.ref (ad 0), .int x] σ (fun τ => inR x tc ∧ σ = τ) (fun E τ => E = xIO ∧ ¬ inR x tc ∧ σ = τ) := by
  have w0 : Cond.classLink RX4 185 xIO ∈ wsX4_requireTongue := by decide +kernel
  have w1 : Cond.initialized xIO ∈ wsX4_requireTongue := by decide +kernel
  have w2 : ∀ w ∈ (vx_atS RX4 189 xIO xNames).filter goodWord, w ∈ wsX4_requireTongue := by decide +kernel
  have w3 : Cond.fieldLink RX4 41 "Tonguetell" "tongueCount" "I" ∈ wsX4_requireTongue := by decide +kernel
  have w4 : ∀ w ∈ wsX40, w ∈ wsX4_requireTongue := by decide +kernel
  obtain ⟨hx1, hx2, hx3, hx4, hx5, hx6⟩ := id hX
  refine Xv.of (cc := cX4_requireTongue) (nL := 2) (own := RX4) hDis (by decide) rfl [(0, .ref (ad 0)), (1, .int x)] rfl (Nat.le_of_ble_eq_true rfl) rfl ?_
  intro p e s m args below meth c A Qc C hE hlk htab hret
  refine tg_iload_n C dX4_requireTongue_0 1 rfl rfl 1 rfl ?_
  refine tg_if_lt C 12 dX4_requireTongue_1 (by decide) 4 rfl (fun c1 => ?_) (fun c1 => ?_)
  · -- to 12
    exact xg_throw C hl0 hE xIO (by decide) (text := "there is no such tongue") (by decide +kernel) rfl (by decide) (by decide) w0 w1 w2 at_xIO (List.forall_mem_cons.mpr ⟨rfl, List.forall_mem_cons.mpr ⟨rfl, gd_xIO⟩⟩) dX4_requireTongue_12 dX4_requireTongue_15 dX4_requireTongue_16 dX4_requireTongue_18 dX4_requireTongue_21 htab (Nat.le_of_ble_eq_true rfl) (Nat.le_of_ble_eq_true rfl) (Nat.le_of_ble_eq_true rfl) (Nat.le_of_ble_eq_true rfl) hlk (Nat.le_of_ble_eq_true rfl) (Nat.le_of_ble_eq_true rfl) ⟨rfl, by first | exact inR_neg (by omega) c1 | exact inR_ge (by omega) c9, rfl⟩
  · -- on
    refine tg_iload_n C dX4_requireTongue_4 5 rfl rfl 1 rfl ?_
    refine tg_aload_n C dX4_requireTongue_5 6 rfl rfl 0 rfl ?_
    refine tg_get (T := TX4) (N := 8) (Cn := RX4) C 0 (by decide) (e_0 ad cy _) rfl w4 5 (by decide) w3 rfl rfl dX4_requireTongue_6 9 rfl ?_
    refine tg_top (y := nI tc) (hX.1) ?_
    refine tg_icmp_lt C 22 dX4_requireTongue_9 (by decide) 12 rfl (fun c9 => ?_) (fun c9 => ?_)
    · -- to 22
      exact hret (Nat.le_of_ble_eq_true rfl) (Nat.le_of_ble_eq_true rfl) dX4_requireTongue_22 ⟨inR_of (by omega) c1 c9, rfl⟩
    · -- on
      exact xg_throw C hl0 hE xIO (by decide) (text := "there is no such tongue") (by decide +kernel) rfl (by decide) (by decide) w0 w1 w2 at_xIO (List.forall_mem_cons.mpr ⟨rfl, List.forall_mem_cons.mpr ⟨rfl, gd_xIO⟩⟩) dX4_requireTongue_12 dX4_requireTongue_15 dX4_requireTongue_16 dX4_requireTongue_18 dX4_requireTongue_21 htab (Nat.le_of_ble_eq_true rfl) (Nat.le_of_ble_eq_true rfl) (Nat.le_of_ble_eq_true rfl) (Nat.le_of_ble_eq_true rfl) hlk (Nat.le_of_ble_eq_true rfl) (Nat.le_of_ble_eq_true rfl) ⟨rfl, by first | exact inR_neg (by omega) c1 | exact inR_ge (by omega) c9, rfl⟩
set_option maxHeartbeats 4000000 in
set_option maxRecDepth 100000 in
theorem c_X4_requireSomeTongue (l : Launch) (hl0 : l.stackTraces = false) (D : va_G) (cy : Nat → ClassId) (ad : Nat → Nat) (hDis : Dis ad) (σ : sS) {tc mg pr : Nat} (hX : Xs σ tc mg pr) : Xv l yX4_requireSomeTongue wsX4_requireSomeTongue 6 90 1 6 D cy ad [.ref (ad 0)] σ (fun τ => 0 < tc ∧ σ = τ) (fun E τ => E = xIS ∧ tc = 0 ∧ σ = τ) := by
  have w0 : Cond.fieldLink RX4 41 "Tonguetell" "tongueCount" "I" ∈ wsX4_requireSomeTongue := by decide +kernel
  have w1 : ∀ w ∈ wsX40, w ∈ wsX4_requireSomeTongue := by decide +kernel
  have w2 : Cond.classLink RX4 65 xIS ∈ wsX4_requireSomeTongue := by decide +kernel
  have w3 : Cond.initialized xIS ∈ wsX4_requireSomeTongue := by decide +kernel
  have w4 : ∀ w ∈ (vx_atS RX4 69 xIS xNames).filter goodWord, w ∈ wsX4_requireSomeTongue := by decide +kernel
  obtain ⟨hx1, hx2, hx3, hx4, hx5, hx6⟩ := id hX
  refine Xv.of (cc := cX4_requireSomeTongue) (nL := 1) (own := RX4) hDis (by decide) rfl [(0, .ref (ad 0))] rfl (Nat.le_of_ble_eq_true rfl) rfl ?_
  intro p e s m args below meth c A Qc C hE hlk htab hret
  refine tg_aload_n C dX4_requireSomeTongue_0 1 rfl rfl 0 rfl ?_
  refine tg_get (T := TX4) (N := 8) (Cn := RX4) C 0 (by decide) (e_0 ad cy _) rfl w1 5 (by decide) w0 rfl rfl dX4_requireSomeTongue_1 4 rfl ?_
  refine tg_top (y := nI tc) (hX.1) ?_
  refine tg_if_ne C 17 dX4_requireSomeTongue_4 (by decide) 7 rfl (fun c4 => ?_) (fun c4 => ?_)
  · -- to 17
    replace c4 : ¬ tc = 0 := fun q => c4 ((z_eq (by omega)).mpr q)
    exact hret (Nat.le_of_ble_eq_true rfl) (Nat.le_of_ble_eq_true rfl) dX4_requireSomeTongue_17 ⟨by omega, rfl⟩
  · -- on
    replace c4 : tc = 0 := (z_eq (by omega)).mp c4
    exact xg_throw C hl0 hE xIS (by decide) (text := "there are no tongues") (by decide +kernel) rfl (by decide) (by decide) w2 w3 w4 at_xIS (List.forall_mem_cons.mpr ⟨rfl, List.forall_mem_cons.mpr ⟨rfl, gd_xIS⟩⟩) dX4_requireSomeTongue_7 dX4_requireSomeTongue_10 dX4_requireSomeTongue_11 dX4_requireSomeTongue_13 dX4_requireSomeTongue_16 htab (Nat.le_of_ble_eq_true rfl) (Nat.le_of_ble_eq_true rfl) (Nat.le_of_ble_eq_true rfl) (Nat.le_of_ble_eq_true rfl) hlk (Nat.le_of_ble_eq_true rfl) (Nat.le_of_ble_eq_true rfl) ⟨rfl, by omega, rfl⟩
set_option maxHeartbeats 4000000 in
set_option maxRecDepth 100000 in
theorem c_X4_requireRunKind (l : Launch) (hl0 : l.stackTraces = false) (D : va_G) (cy : Nat → ClassId) (ad : Nat → Nat) (hDis : Dis ad) (σ : sS) {x : Int32} : Xv l yX4_requireRunKind wsX4_requireRunKind 6 90 1 6 D cy ad [.int x] σ (fun τ => inR x 36 ∧ σ = τ) (fun E τ => E = xIO ∧ ¬ inR x 36 ∧ σ = τ) := by
  have w0 : Cond.classLink RX4 185 xIO ∈ wsX4_requireRunKind := by decide +kernel
  have w1 : Cond.initialized xIO ∈ wsX4_requireRunKind := by decide +kernel
  have w2 : ∀ w ∈ (vx_atS RX4 189 xIO xNames).filter goodWord, w ∈ wsX4_requireRunKind := by decide +kernel
  refine Xv.of (cc := cX4_requireRunKind) (nL := 1) (own := RX4) hDis (by decide) rfl [(0, .int x)] rfl (Nat.le_of_ble_eq_true rfl) rfl ?_
  intro p e s m args below meth c A Qc C hE hlk htab hret
  refine tg_iload_n C dX4_requireRunKind_0 1 rfl rfl 0 rfl ?_
  refine tg_if_lt C 10 dX4_requireRunKind_1 (by decide) 4 rfl (fun c1 => ?_) (fun c1 => ?_)
  · -- to 10
    exact xg_throw C hl0 hE xIO (by decide) (text := "there is no such run") (by decide +kernel) rfl (by decide) (by decide) w0 w1 w2 at_xIO (List.forall_mem_cons.mpr ⟨rfl, List.forall_mem_cons.mpr ⟨rfl, gd_xIO⟩⟩) dX4_requireRunKind_10 dX4_requireRunKind_13 dX4_requireRunKind_14 dX4_requireRunKind_16 dX4_requireRunKind_19 htab (Nat.le_of_ble_eq_true rfl) (Nat.le_of_ble_eq_true rfl) (Nat.le_of_ble_eq_true rfl) (Nat.le_of_ble_eq_true rfl) hlk (Nat.le_of_ble_eq_true rfl) (Nat.le_of_ble_eq_true rfl) ⟨rfl, by first | exact inR_neg (by omega) c1 | exact inR_ge (by omega) c7, rfl⟩
  · -- on
    refine tg_iload_n C dX4_requireRunKind_4 5 rfl rfl 0 rfl ?_
    refine tg_bipush C (nI 36) dX4_requireRunKind_5 7 rfl (by decide) ?_
    refine tg_icmp_lt C 20 dX4_requireRunKind_7 (by decide) 10 rfl (fun c7 => ?_) (fun c7 => ?_)
    · -- to 20
      exact hret (Nat.le_of_ble_eq_true rfl) (Nat.le_of_ble_eq_true rfl) dX4_requireRunKind_20 ⟨inR_of (by omega) c1 c7, rfl⟩
    · -- on
      exact xg_throw C hl0 hE xIO (by decide) (text := "there is no such run") (by decide +kernel) rfl (by decide) (by decide) w0 w1 w2 at_xIO (List.forall_mem_cons.mpr ⟨rfl, List.forall_mem_cons.mpr ⟨rfl, gd_xIO⟩⟩) dX4_requireRunKind_10 dX4_requireRunKind_13 dX4_requireRunKind_14 dX4_requireRunKind_16 dX4_requireRunKind_19 htab (Nat.le_of_ble_eq_true rfl) (Nat.le_of_ble_eq_true rfl) (Nat.le_of_ble_eq_true rfl) (Nat.le_of_ble_eq_true rfl) hlk (Nat.le_of_ble_eq_true rfl) (Nat.le_of_ble_eq_true rfl) ⟨rfl, by first | exact inR_neg (by omega) c1 | exact inR_ge (by omega) c7, rfl⟩
set_option maxHeartbeats 4000000 in
set_option maxRecDepth 100000 in
theorem c_X4_slotOfTaught (l : Launch) (hl0 : l.stackTraces = false) (D : va_G) (cy : Nat → ClassId) (ad : Nat → Nat) (hDis : Dis ad) (σ : sS) {x : Int32} : Xi l yX4_slotOfTaught wsX4_slotOfTaught 6 90 1 6 D cy ad [.ref (ad 0), .int x] σ (fun r τ => r = nI (fsw (σ 17) x 30 0) ∧ ¬ x < 0 ∧ fsw (σ 17) x 30 0 < 30 ∧ σ = τ) (fun E τ => E = xNS ∧ (x < 0 ∨ fsw (σ 17) x 30 0 = 30) ∧ σ = τ) := by
  have w0 : Cond.fieldLink RX4 30 "Tonguetell" "shelf" "LTonguetell$Shelf;" ∈ wsX4_slotOfTaught := by decide +kernel
  have w1 : ∀ w ∈ wsX40, w ∈ wsX4_slotOfTaught := by decide +kernel
  have w2 : Cond.classLink RX4 199 xNS ∈ wsX4_slotOfTaught := by decide +kernel
  have w3 : Cond.initialized xNS ∈ wsX4_slotOfTaught := by decide +kernel
  have w4 : ∀ w ∈ (od_at RX4 203 xNS xNames).filter goodWord, w ∈ wsX4_slotOfTaught := by decide +kernel
  refine Xi.of (cc := cX4_slotOfTaught) (nL := 3) (own := RX4) hDis (by decide) rfl [(0, .ref (ad 0)), (1, .int x)] rfl (Nat.le_of_ble_eq_true rfl) rfl ?_
  intro p e s m args below meth c A Qc C hE hlk htab hret
  refine tg_aload_n C dX4_slotOfTaught_0 1 rfl rfl 0 rfl ?_
  refine tg_get (T := TX4) (N := 8) (Cn := RX4) C 0 (by decide) (e_0 ad cy _) rfl w1 3 (by decide) w0 rfl rfl dX4_slotOfTaught_1 4 rfl ?_
  refine tg_iload_n C dX4_slotOfTaught_4 5 rfl rfl 1 rfl ?_
  refine tg_callVi C 16 (by decide) (e_16 ad cy _) rfl (c_X1_slotOf l D cy ad hDis σ (x := x)) (cwV 1 C.2.2.2.2.1 gX4_slotOfTaught_X1_slotOf rfl rfl rfl (by decide +kernel) ⟨Nat.le_of_ble_eq_true rfl, Nat.le_of_ble_eq_true rfl⟩) rfl rfl (Nat.le_of_ble_eq_true rfl) ⟨Nat.le_of_ble_eq_true rfl, Nat.le_of_ble_eq_true rfl⟩ dX4_slotOfTaught_5 8 rfl (fun r5 τ5 h5 => ?_)
  obtain ⟨h5, h5s⟩ := h5
  subst h5s
  subst h5
  refine tg_istore_n C dX4_slotOfTaught_8 9 rfl rfl [(2, .int ((if x < 0 then -1 else fsI (σ 17) x))), (0, .ref (ad 0)), (1, .int x)] (by decide) rfl ?_
  refine tg_iload_n C dX4_slotOfTaught_9 10 rfl rfl 0 rfl ?_
  refine tg_iconst C (-1) dX4_slotOfTaught_10 11 rfl (by decide) ?_
  refine tg_icmp_ne C 24 dX4_slotOfTaught_11 (by decide) 14 rfl (fun c11 => ?_) (fun c11 => ?_)
  · -- to 24
    have h0 : ¬ x < 0 := fun q => c11 (if_pos q)
    rw [if_neg h0] at c11
    have h30 : fsw (σ 17) x 30 0 < 30 := by
      have := fsw_30 (σ 17) x
      have : fsw (σ 17) x 30 0 ≠ 30 := fun q => c11 (fsI_m1.mpr q)
      omega
    rw [if_neg h0, show fsI (σ 17) x = nI (fsw (σ 17) x 30 0) from if_neg (by omega)]
    refine tg_iload_n C dX4_slotOfTaught_24 25 rfl rfl 0 rfl ?_
    exact hret (Nat.le_of_ble_eq_true rfl) (Nat.le_of_ble_eq_true rfl) dX4_slotOfTaught_25 ⟨rfl, h0, h30, rfl⟩
  · -- on
    exact xg_throwO C hl0 hE xNS (by decide) (text := "no such text was taught, or it was withdrawn") (by decide +kernel) rfl (by decide) (by decide) w2 w3 w4 at_xNS (List.forall_mem_cons.mpr ⟨rfl, List.forall_mem_cons.mpr ⟨rfl, gd_xNS⟩⟩) dX4_slotOfTaught_14 dX4_slotOfTaught_17 dX4_slotOfTaught_18 dX4_slotOfTaught_20 dX4_slotOfTaught_23 htab (Nat.le_of_ble_eq_true rfl) (Nat.le_of_ble_eq_true rfl) (Nat.le_of_ble_eq_true rfl) (Nat.le_of_ble_eq_true rfl) hlk (Nat.le_of_ble_eq_true rfl) (Nat.le_of_ble_eq_true rfl) ⟨rfl, by by_cases h : x < 0; exact Or.inl h; rw [if_neg h] at c11; exact Or.inr (fsI_m1.mp c11), rfl⟩
set_option maxHeartbeats 4000000 in
set_option maxRecDepth 100000 in
theorem c_X4_spell (l : Launch) (hl0 : l.stackTraces = false) (D : va_G) (cy : Nat → ClassId) (ad : Nat → Nat) (hDis : Dis ad) (σ : sS) {n : Nat} {w : Nat → Nat} (hS : Sp σ n w) {x : Int32} : Xi l yX4_spell wsX4_spell 6 90 1 6 D cy ad [.ref (ad 0), .int x] σ (fun r τ => ¬ lnI x = -1 ∧ n < 16 ∧ r = nI (n + 1) ∧ τ = su (su σ 2 n (lnI x)) 1 1 (nI (n + 1))) (fun E τ => ((E = xIA ∧ lnI x = -1) ∨ (E = xIS ∧ ¬ lnI x = -1 ∧ 16 ≤ n)) ∧ σ = τ) := by
  have w0 : Cond.fieldLink RX4 10 "Tonguetell" "spelled" "LTonguetell$Spelling;" ∈ wsX4_spell := by decide +kernel
  have w1 : ∀ w ∈ wsX40, w ∈ wsX4_spell := by decide +kernel
  have w2 : Cond.fieldLink RX4 62 "Tonguetell$Spelling" "length" "I" ∈ wsX4_spell := by decide +kernel
  have w3 : ∀ w ∈ wsX20, w ∈ wsX4_spell := by decide +kernel
  have w4 : Cond.classLink RX4 65 xIS ∈ wsX4_spell := by decide +kernel
  have w5 : Cond.initialized xIS ∈ wsX4_spell := by decide +kernel
  have w6 : ∀ w ∈ (vx_atS RX4 69 xIS xNames).filter goodWord, w ∈ wsX4_spell := by decide +kernel
  have w7 : Cond.classLink RX4 55 xIA ∈ wsX4_spell := by decide +kernel
  have w8 : Cond.initialized xIA ∈ wsX4_spell := by decide +kernel
  have w9 : ∀ w ∈ (vx_atS RX4 59 xIA xNames).filter goodWord, w ∈ wsX4_spell := by decide +kernel
  have hn16 := hS.2.1
  have hrc := rc_le hn16
  have hrn := rn_lt (fun k h => (hS.2.2 k h).2)
  refine Xi.of (cc := cX4_spell) (nL := 3) (own := RX4) hDis (by decide) rfl [(0, .ref (ad 0)), (1, .int x)] rfl (Nat.le_of_ble_eq_true rfl) rfl ?_
  intro p e s m args below meth c A Qc C hE hlk htab hret
  refine tg_iload_n C dX4_spell_0 1 rfl rfl 1 rfl ?_
  refine tg_callSi C (c_X4_letterNumber l D cy ad hDis σ (x := x)) (cwS 1 C.2.2.2.2.1 gX4_spell_X4_letterNumber rfl rfl rfl (by decide +kernel) ⟨Nat.le_of_ble_eq_true rfl, Nat.le_of_ble_eq_true rfl⟩) rfl rfl (Nat.le_of_ble_eq_true rfl) ⟨Nat.le_of_ble_eq_true rfl, Nat.le_of_ble_eq_true rfl⟩ dX4_spell_1 4 rfl (fun r1 τ1 h1 => ?_)
  obtain ⟨h1, h1s⟩ := h1
  subst h1s
  subst h1
  refine tg_istore_n C dX4_spell_4 5 rfl rfl [(2, .int (lnI x)), (0, .ref (ad 0)), (1, .int x)] (by decide) rfl ?_
  refine tg_iload_n C dX4_spell_5 6 rfl rfl 0 rfl ?_
  refine tg_iconst C (-1) dX4_spell_6 7 rfl (by decide) ?_
  refine tg_icmp_ne C 20 dX4_spell_7 (by decide) 10 rfl (fun c7 => ?_) (fun c7 => ?_)
  · -- to 20
    refine tg_aload_n C dX4_spell_20 21 rfl rfl 1 rfl ?_
    refine tg_get (T := TX4) (N := 8) (Cn := RX4) C 0 (by decide) (e_0 ad cy _) rfl w1 0 (by decide) w0 rfl rfl dX4_spell_21 24 rfl ?_
    refine tg_get (T := TX2) (N := 2) (Cn := RX2) C 1 (by decide) (e_1 ad cy _) rfl w3 1 (by decide) w2 rfl rfl dX4_spell_24 27 rfl ?_
    refine tg_top (y := nI n) (hS.1) ?_
    refine tg_bipush C (nI 16) dX4_spell_27 29 rfl (by decide) ?_
    refine tg_icmp_lt C 42 dX4_spell_29 (by decide) 32 rfl (fun c29 => ?_) (fun c29 => ?_)
    · -- to 42
      replace c29 : n < 16 := (nI_ltI (by omega) (by omega)).mp c29
      refine tg_aload_n C dX4_spell_42 43 rfl rfl 1 rfl ?_
      refine tg_get (T := TX4) (N := 8) (Cn := RX4) C 0 (by decide) (e_0 ad cy _) rfl w1 0 (by decide) w0 rfl rfl dX4_spell_43 46 rfl ?_
      refine tg_iload_n C dX4_spell_46 47 rfl rfl 0 rfl ?_
      refine tg_callVv C 1 (by decide) (e_1 ad cy _) rfl (c_X2_append l D cy ad hDis σ hS.1 (by omega) (x := lnI x)) (cwV 1 C.2.2.2.2.1 gX4_spell_X2_append rfl rfl rfl (by decide +kernel) ⟨Nat.le_of_ble_eq_true rfl, Nat.le_of_ble_eq_true rfl⟩) rfl rfl (Nat.le_of_ble_eq_true rfl) ⟨Nat.le_of_ble_eq_true rfl, Nat.le_of_ble_eq_true rfl⟩ dX4_spell_47 50 rfl (fun τ47 h47 => ?_)
      refine tg_aload_n C dX4_spell_50 51 rfl rfl 1 rfl ?_
      refine tg_get (T := TX4) (N := 8) (Cn := RX4) C 0 (by decide) (e_0 ad cy _) rfl w1 0 (by decide) w0 rfl rfl dX4_spell_51 54 rfl ?_
      refine tg_get (T := TX2) (N := 2) (Cn := RX2) C 1 (by decide) (e_1 ad cy _) rfl w3 1 (by decide) w2 rfl rfl dX4_spell_54 57 rfl ?_
      refine tg_top (y := nI (n + 1)) (by rw [h47]; exact su_eq _ _ _ _) ?_
      exact hret (Nat.le_of_ble_eq_true rfl) (Nat.le_of_ble_eq_true rfl) dX4_spell_57 ⟨c7, by omega, rfl, h47⟩
    · -- on
      replace c29 : ¬ n < 16 := fun q => c29 ((nI_ltI (by omega) (by omega)).mpr q)
      exact xg_throw C hl0 hE xIS (by decide) (text := "the spelled text has 16 letters") (by decide +kernel) rfl (by decide) (by decide) w4 w5 w6 at_xIS (List.forall_mem_cons.mpr ⟨rfl, List.forall_mem_cons.mpr ⟨rfl, gd_xIS⟩⟩) dX4_spell_32 dX4_spell_35 dX4_spell_36 dX4_spell_38 dX4_spell_41 htab (Nat.le_of_ble_eq_true rfl) (Nat.le_of_ble_eq_true rfl) (Nat.le_of_ble_eq_true rfl) (Nat.le_of_ble_eq_true rfl) hlk (Nat.le_of_ble_eq_true rfl) (Nat.le_of_ble_eq_true rfl) ⟨Or.inr ⟨rfl, c7, by omega⟩, rfl⟩
  · -- on
    exact xg_throw C hl0 hE xIA (by decide) (text := "the letter is neither from a to e nor a space") (by decide +kernel) rfl (by decide) (by decide) w7 w8 w9 at_xIA (List.forall_mem_cons.mpr ⟨rfl, List.forall_mem_cons.mpr ⟨rfl, gd_xIA⟩⟩) dX4_spell_10 dX4_spell_13 dX4_spell_14 dX4_spell_16 dX4_spell_19 htab (Nat.le_of_ble_eq_true rfl) (Nat.le_of_ble_eq_true rfl) (Nat.le_of_ble_eq_true rfl) (Nat.le_of_ble_eq_true rfl) hlk (Nat.le_of_ble_eq_true rfl) (Nat.le_of_ble_eq_true rfl) ⟨Or.inl ⟨rfl, c7⟩, rfl⟩
set_option maxHeartbeats 4000000 in
set_option maxRecDepth 100000 in
theorem c_X4_runAt (l : Launch) (hl0 : l.stackTraces = false) (D : va_G) (cy : Nat → ClassId) (ad : Nat → Nat) (hDis : Dis ad) (σ : sS) {n : Nat} {w : Nat → Nat} (hS : Sp σ n w) {x : Int32} : Xi l yX4_runAt wsX4_runAt 7 111 1 6 D cy ad [.ref (ad 0), .int x] σ (fun r τ => (∃ k, k < rc n ∧ x = nI k ∧ r = nI (rn n w k)) ∧ σ = τ) (fun E τ => E = xIO ∧ ¬ inR x (rc n) ∧ σ = τ) := by
  have w0 : Cond.fieldLink RX4 10 "Tonguetell" "spelled" "LTonguetell$Spelling;" ∈ wsX4_runAt := by decide +kernel
  have w1 : ∀ w ∈ wsX40, w ∈ wsX4_runAt := by decide +kernel
  have hn16 := hS.2.1
  have hrc := rc_le hn16
  have hrn := rn_lt (fun k h => (hS.2.2 k h).2)
  refine Xi.of (cc := cX4_runAt) (nL := 2) (own := RX4) hDis (by decide) rfl [(0, .ref (ad 0)), (1, .int x)] rfl (Nat.le_of_ble_eq_true rfl) rfl ?_
  intro p e s m args below meth c A Qc C hE hlk htab hret
  refine tg_aload_n C dX4_runAt_0 1 rfl rfl 0 rfl ?_
  refine tg_iload_n C dX4_runAt_1 2 rfl rfl 1 rfl ?_
  refine xg_callVv C hE 0 (by decide) (e_0 ad cy _) rfl (c_X4_requireRunPlace l hl0 D cy ad hDis σ hS (x := x)) (cwV 1 C.2.2.2.2.1 gX4_runAt_X4_requireRunPlace rfl rfl rfl (by decide +kernel) ⟨(Nat.le_of_ble_eq_true rfl), (Nat.le_of_ble_eq_true rfl)⟩) rfl rfl (Nat.le_of_ble_eq_true rfl) ⟨(Nat.le_of_ble_eq_true rfl), (Nat.le_of_ble_eq_true rfl)⟩ dX4_runAt_2 5 rfl (fun E τx H locs ls ce q hq hP hS9 hl9 h1 h2 h3 => xg_out C hlk htab (Nat.le_of_ble_eq_true rfl) (Nat.le_of_ble_eq_true rfl) hP hS9 h1 h2 h3 hq) (fun τ2 h2 => ?_)
  obtain ⟨⟨k, hk, hxk⟩, h2s⟩ := h2
  subst h2s
  subst hxk
  refine tg_aload_n C dX4_runAt_5 6 rfl rfl 0 rfl ?_
  refine tg_get (T := TX4) (N := 8) (Cn := RX4) C 0 (by decide) (e_0 ad cy _) rfl w1 0 (by decide) w0 rfl rfl dX4_runAt_6 9 rfl ?_
  refine tg_iload_n C dX4_runAt_9 10 rfl rfl 1 rfl ?_
  refine tg_callVi C 1 (by decide) (e_1 ad cy _) rfl (c_X2_runNumber l D cy ad hDis σ hS (k := k) (by omega)) (cwV 1 C.2.2.2.2.1 gX4_runAt_X2_runNumber rfl rfl rfl (by decide +kernel) ⟨Nat.le_of_ble_eq_true rfl, Nat.le_of_ble_eq_true rfl⟩) rfl rfl (Nat.le_of_ble_eq_true rfl) ⟨Nat.le_of_ble_eq_true rfl, Nat.le_of_ble_eq_true rfl⟩ dX4_runAt_10 13 rfl (fun r10 τ10 h10 => ?_)
  obtain ⟨h10, h10s⟩ := h10
  subst h10s
  subst h10
  exact hret (Nat.le_of_ble_eq_true rfl) (Nat.le_of_ble_eq_true rfl) dX4_runAt_13 ⟨⟨k, hk, rfl, rfl⟩, rfl⟩
set_option maxHeartbeats 4000000 in
set_option maxRecDepth 100000 in
theorem c_X4_addTongue (l : Launch) (hl0 : l.stackTraces = false) (D : va_G) (cy : Nat → ClassId) (ad : Nat → Nat) (hDis : Dis ad) (σ : sS) {tc mg pr : Nat} (hX : Xs σ tc mg pr) : Xi l yX4_addTongue wsX4_addTongue 6 90 1 6 D cy ad [.ref (ad 0)] σ (fun r τ => tc < 5 ∧ r = nI tc ∧ τ = su σ 0 5 (nI (tc + 1))) (fun E τ => E = xIS ∧ tc = 5 ∧ σ = τ) := by
  have w0 : Cond.fieldLink RX4 41 "Tonguetell" "tongueCount" "I" ∈ wsX4_addTongue := by decide +kernel
  have w1 : ∀ w ∈ wsX40, w ∈ wsX4_addTongue := by decide +kernel
  have w2 : Cond.classLink RX4 65 xIS ∈ wsX4_addTongue := by decide +kernel
  have w3 : Cond.initialized xIS ∈ wsX4_addTongue := by decide +kernel
  have w4 : ∀ w ∈ (vx_atS RX4 69 xIS xNames).filter goodWord, w ∈ wsX4_addTongue := by decide +kernel
  obtain ⟨hx1, hx2, hx3, hx4, hx5, hx6⟩ := id hX
  refine Xi.of (cc := cX4_addTongue) (nL := 1) (own := RX4) hDis (by decide) rfl [(0, .ref (ad 0))] rfl (Nat.le_of_ble_eq_true rfl) rfl ?_
  intro p e s m args below meth c A Qc C hE hlk htab hret
  refine tg_aload_n C dX4_addTongue_0 1 rfl rfl 0 rfl ?_
  refine tg_get (T := TX4) (N := 8) (Cn := RX4) C 0 (by decide) (e_0 ad cy _) rfl w1 5 (by decide) w0 rfl rfl dX4_addTongue_1 4 rfl ?_
  refine tg_top (y := nI tc) (hX.1) ?_
  refine tg_iconst C (nI 5) dX4_addTongue_4 5 rfl (by decide) ?_
  refine tg_icmp_lt C 18 dX4_addTongue_5 (by decide) 8 rfl (fun c5 => ?_) (fun c5 => ?_)
  · -- to 18
    replace c5 : tc < 5 := (nI_ltI (by omega) (by omega)).mp c5
    refine tg_aload_n C dX4_addTongue_18 19 rfl rfl 0 rfl ?_
    refine tg_callVi C 0 (by decide) (e_0 ad cy _) rfl (c_X4_newTongue l D cy ad hDis σ hX) (cwV 0 C.2.2.2.2.1 gX4_addTongue_X4_newTongue rfl rfl rfl (by decide +kernel) ⟨Nat.le_of_ble_eq_true rfl, Nat.le_of_ble_eq_true rfl⟩) rfl rfl (Nat.le_of_ble_eq_true rfl) ⟨Nat.le_of_ble_eq_true rfl, Nat.le_of_ble_eq_true rfl⟩ dX4_addTongue_19 22 rfl (fun r19 τ19 h19 => ?_)
    obtain ⟨h19a, h19b⟩ := h19
    exact hret (Nat.le_of_ble_eq_true rfl) (Nat.le_of_ble_eq_true rfl) dX4_addTongue_22 ⟨by omega, h19a, h19b⟩
  · -- on
    replace c5 : ¬ tc < 5 := fun q => c5 ((nI_ltI (by omega) (by omega)).mpr q)
    exact xg_throw C hl0 hE xIS (by decide) (text := "there are 5 tongues") (by decide +kernel) rfl (by decide) (by decide) w2 w3 w4 at_xIS (List.forall_mem_cons.mpr ⟨rfl, List.forall_mem_cons.mpr ⟨rfl, gd_xIS⟩⟩) dX4_addTongue_8 dX4_addTongue_11 dX4_addTongue_12 dX4_addTongue_14 dX4_addTongue_17 htab (Nat.le_of_ble_eq_true rfl) (Nat.le_of_ble_eq_true rfl) (Nat.le_of_ble_eq_true rfl) (Nat.le_of_ble_eq_true rfl) hlk (Nat.le_of_ble_eq_true rfl) (Nat.le_of_ble_eq_true rfl) ⟨rfl, by omega, rfl⟩
set_option maxHeartbeats 4000000 in
set_option maxRecDepth 100000 in
theorem c_X4_total (l : Launch) (hl0 : l.stackTraces = false) (D : va_G) (cy : Nat → ClassId) (ad : Nat → Nat) (hDis : Dis ad) (σ : sS) {tc mg pr : Nat} (hX : Xs σ tc mg pr) {ct : Nat → Nat → Nat} {mt : Nat → Nat} (hT : Ta σ ct mt) {x : Int32} : Xi l yX4_total wsX4_total 7 111 1 6 D cy ad [.ref (ad 0), .int x] σ (fun r τ => (∃ t, t < tc ∧ x = nI t ∧ r = nI (mt t)) ∧ σ = τ) (fun E τ => E = xIO ∧ ¬ inR x tc ∧ σ = τ) := by
  have w0 : Cond.fieldLink RX4 23 "Tonguetell" "tallies" "[LTonguetell$Tally;" ∈ wsX4_total := by decide +kernel
  have w1 : ∀ w ∈ wsX40, w ∈ wsX4_total := by decide +kernel
  have w2 : Cond.fieldLink RX4 125 "Tonguetell$Tally" "sum" "I" ∈ wsX4_total := by decide +kernel
  have w3 : ∀ w ∈ wsX30, w ∈ wsX4_total := by decide +kernel
  obtain ⟨hx1, hx2, hx3, hx4, hx5, hx6⟩ := id hX
  refine Xi.of (cc := cX4_total) (nL := 2) (own := RX4) hDis (by decide) rfl [(0, .ref (ad 0)), (1, .int x)] rfl (Nat.le_of_ble_eq_true rfl) rfl ?_
  intro p e s m args below meth c A Qc C hE hlk htab hret
  refine tg_aload_n C dX4_total_0 1 rfl rfl 0 rfl ?_
  refine tg_iload_n C dX4_total_1 2 rfl rfl 1 rfl ?_
  refine xg_callVv C hE 0 (by decide) (e_0 ad cy _) rfl (c_X4_requireTongue l hl0 D cy ad hDis σ hX (x := x)) (cwV 1 C.2.2.2.2.1 gX4_total_X4_requireTongue rfl rfl rfl (by decide +kernel) ⟨(Nat.le_of_ble_eq_true rfl), (Nat.le_of_ble_eq_true rfl)⟩) rfl rfl (Nat.le_of_ble_eq_true rfl) ⟨(Nat.le_of_ble_eq_true rfl), (Nat.le_of_ble_eq_true rfl)⟩ dX4_total_2 5 rfl (fun E τx H locs ls ce q hq hP hS9 hl9 h1 h2 h3 => xg_out C hlk htab (Nat.le_of_ble_eq_true rfl) (Nat.le_of_ble_eq_true rfl) hP hS9 h1 h2 h3 hq) (fun τ2 h2 => ?_)
  obtain ⟨⟨t, ht, hxt⟩, h2s⟩ := h2
  subst h2s
  subst hxt
  refine tg_aload_n C dX4_total_5 6 rfl rfl 0 rfl ?_
  refine tg_get (T := TX4) (N := 8) (Cn := RX4) C 0 (by decide) (e_0 ad cy _) rfl w1 2 (by decide) w0 rfl rfl dX4_total_6 9 rfl ?_
  refine tg_iload_n C dX4_total_9 10 rfl rfl 1 rfl ?_
  refine tg_aald C 5 1 (by decide) (e_5 ad cy _) rfl rfl t rfl (by omega) (by decide) dX4_total_10 11 rfl ?_
  refine tg_get (T := TX3) (N := 2) (Cn := RX3) C (6 + t) (isTy.at (show t < 5 by omega)).lt ((isTy.at (show t < 5 by omega)).e ad cy _) rfl w3 1 (by decide) w2 rfl rfl dX4_total_11 14 rfl ?_
  refine tg_top (y := nI (mt t)) ((hT t (by omega)).1) ?_
  exact hret (Nat.le_of_ble_eq_true rfl) (Nat.le_of_ble_eq_true rfl) dX4_total_14 ⟨⟨t, ht, rfl, rfl⟩, rfl⟩
set_option maxHeartbeats 4000000 in
set_option maxRecDepth 100000 in
theorem c_X4_count (l : Launch) (hl0 : l.stackTraces = false) (D : va_G) (cy : Nat → ClassId) (ad : Nat → Nat) (hDis : Dis ad) (σ : sS) {tc mg pr : Nat} (hX : Xs σ tc mg pr) {ct : Nat → Nat → Nat} {mt : Nat → Nat} (hT : Ta σ ct mt) {x y : Int32} : Xi l yX4_count wsX4_count 7 111 2 12 D cy ad [.ref (ad 0), .int x, .int y] σ (fun r τ => (∃ t k, t < tc ∧ k < 36 ∧ x = nI t ∧ y = nI k ∧ r = nI (ct t k)) ∧ σ = τ) (fun E τ => E = xIO ∧ ¬ (inR x tc ∧ inR y 36) ∧ σ = τ) := by
  have w0 : Cond.fieldLink RX4 23 "Tonguetell" "tallies" "[LTonguetell$Tally;" ∈ wsX4_count := by decide +kernel
  have w1 : ∀ w ∈ wsX40, w ∈ wsX4_count := by decide +kernel
  have w2 : Cond.fieldLink RX4 131 "Tonguetell$Tally" "counts" "[I" ∈ wsX4_count := by decide +kernel
  have w3 : ∀ w ∈ wsX30, w ∈ wsX4_count := by decide +kernel
  obtain ⟨hx1, hx2, hx3, hx4, hx5, hx6⟩ := id hX
  refine Xi.of (cc := cX4_count) (nL := 3) (own := RX4) hDis (by decide) rfl [(0, .ref (ad 0)), (1, .int x), (2, .int y)] rfl (Nat.le_of_ble_eq_true rfl) rfl ?_
  intro p e s m args below meth c A Qc C hE hlk htab hret
  refine tg_aload_n C dX4_count_0 1 rfl rfl 0 rfl ?_
  refine tg_iload_n C dX4_count_1 2 rfl rfl 1 rfl ?_
  refine xg_callVv C hE 0 (by decide) (e_0 ad cy _) rfl (c_X4_requireTongue l hl0 D cy ad hDis σ hX (x := x)) (cwV 1 C.2.2.2.2.1 gX4_count_X4_requireTongue rfl rfl rfl (by decide +kernel) ⟨(Nat.le_of_ble_eq_true rfl), (Nat.le_of_ble_eq_true rfl)⟩) rfl rfl (Nat.le_of_ble_eq_true rfl) ⟨(Nat.le_of_ble_eq_true rfl), (Nat.le_of_ble_eq_true rfl)⟩ dX4_count_2 5 rfl (fun E τx H locs ls ce q hq hP hS9 hl9 h1 h2 h3 => xg_out C hlk htab (Nat.le_of_ble_eq_true rfl) (Nat.le_of_ble_eq_true rfl) hP hS9 h1 h2 h3 ⟨hq.1, fun q => hq.2.1 q.1, hq.2.2⟩) (fun τ2 h2 => ?_)
  obtain ⟨⟨t, ht, hxt⟩, h2s⟩ := h2
  subst h2s
  subst hxt
  refine tg_iload_n C dX4_count_5 6 rfl rfl 2 rfl ?_
  refine xg_callSv C hE (c_X4_requireRunKind l hl0 D cy ad hDis σ (x := y)) (cwS 1 C.2.2.2.2.1 gX4_count_X4_requireRunKind rfl rfl rfl (by decide +kernel) ⟨(Nat.le_of_ble_eq_true rfl), (Nat.le_of_ble_eq_true rfl)⟩) rfl rfl (Nat.le_of_ble_eq_true rfl) ⟨(Nat.le_of_ble_eq_true rfl), (Nat.le_of_ble_eq_true rfl)⟩ dX4_count_6 9 rfl (fun E τx H locs ls ce q hq hP hS9 hl9 h1 h2 h3 => xg_out C hlk htab (Nat.le_of_ble_eq_true rfl) (Nat.le_of_ble_eq_true rfl) hP hS9 h1 h2 h3 ⟨hq.1, fun q => hq.2.1 q.2, hq.2.2⟩) (fun τ6 h6 => ?_)
  obtain ⟨⟨k, hk, hxk⟩, h6s⟩ := h6
  subst h6s
  subst hxk
  refine tg_aload_n C dX4_count_9 10 rfl rfl 0 rfl ?_
  refine tg_get (T := TX4) (N := 8) (Cn := RX4) C 0 (by decide) (e_0 ad cy _) rfl w1 2 (by decide) w0 rfl rfl dX4_count_10 13 rfl ?_
  refine tg_iload_n C dX4_count_13 14 rfl rfl 1 rfl ?_
  refine tg_aald C 5 1 (by decide) (e_5 ad cy _) rfl rfl t rfl (by omega) (by decide) dX4_count_14 15 rfl ?_
  refine tg_get (T := TX3) (N := 2) (Cn := RX3) C (6 + t) (isTy.at (show t < 5 by omega)).lt ((isTy.at (show t < 5 by omega)).e ad cy _) rfl w3 0 (by decide) w2 rfl rfl dX4_count_15 18 rfl ?_
  refine tg_iload_n C dX4_count_18 19 rfl rfl 2 rfl ?_
  refine tg_iald C (11 + t) (isTy.at (show t < 5 by omega)).lt2 (((isTy.at (show t < 5 by omega)).e2 ad cy) _) k rfl (by omega) (by decide) dX4_count_19 20 rfl ?_
  refine tg_top (y := nI (ct t k)) (((hT t (by omega)).2.2 k hk).1) ?_
  exact hret (Nat.le_of_ble_eq_true rfl) (Nat.le_of_ble_eq_true rfl) dX4_count_20 ⟨⟨t, k, ht, hk, rfl, rfl, rfl⟩, rfl⟩
set_option maxHeartbeats 4000000 in
set_option maxRecDepth 100000 in
theorem c_X4_cost (l : Launch) (hl0 : l.stackTraces = false) (D : va_G) (cy : Nat → ClassId) (ad : Nat → Nat) (hDis : Dis ad) (σ : sS) {tc mg pr : Nat} (hX : Xs σ tc mg pr) {ct : Nat → Nat → Nat} {mt : Nat → Nat} (hT : Ta σ ct mt) {x y : Int32} : Xi l yX4_cost wsX4_cost 7 111 2 12 D cy ad [.ref (ad 0), .int x, .int y] σ (fun r τ => (∃ t k, t < tc ∧ k < 36 ∧ x = nI t ∧ y = nI k ∧ r = nI (costN (ct t k) (mt t))) ∧ σ = τ) (fun E τ => E = xIO ∧ ¬ (inR x tc ∧ inR y 36) ∧ σ = τ) := by
  have w0 : Cond.fieldLink RX4 23 "Tonguetell" "tallies" "[LTonguetell$Tally;" ∈ wsX4_cost := by decide +kernel
  have w1 : ∀ w ∈ wsX40, w ∈ wsX4_cost := by decide +kernel
  obtain ⟨hx1, hx2, hx3, hx4, hx5, hx6⟩ := id hX
  refine Xi.of (cc := cX4_cost) (nL := 3) (own := RX4) hDis (by decide) rfl [(0, .ref (ad 0)), (1, .int x), (2, .int y)] rfl (Nat.le_of_ble_eq_true rfl) rfl ?_
  intro p e s m args below meth c A Qc C hE hlk htab hret
  refine tg_aload_n C dX4_cost_0 1 rfl rfl 0 rfl ?_
  refine tg_iload_n C dX4_cost_1 2 rfl rfl 1 rfl ?_
  refine xg_callVv C hE 0 (by decide) (e_0 ad cy _) rfl (c_X4_requireTongue l hl0 D cy ad hDis σ hX (x := x)) (cwV 1 C.2.2.2.2.1 gX4_cost_X4_requireTongue rfl rfl rfl (by decide +kernel) ⟨(Nat.le_of_ble_eq_true rfl), (Nat.le_of_ble_eq_true rfl)⟩) rfl rfl (Nat.le_of_ble_eq_true rfl) ⟨(Nat.le_of_ble_eq_true rfl), (Nat.le_of_ble_eq_true rfl)⟩ dX4_cost_2 5 rfl (fun E τx H locs ls ce q hq hP hS9 hl9 h1 h2 h3 => xg_out C hlk htab (Nat.le_of_ble_eq_true rfl) (Nat.le_of_ble_eq_true rfl) hP hS9 h1 h2 h3 ⟨hq.1, fun q => hq.2.1 q.1, hq.2.2⟩) (fun τ2 h2 => ?_)
  obtain ⟨⟨t, ht, hxt⟩, h2s⟩ := h2
  subst h2s
  subst hxt
  refine tg_iload_n C dX4_cost_5 6 rfl rfl 2 rfl ?_
  refine xg_callSv C hE (c_X4_requireRunKind l hl0 D cy ad hDis σ (x := y)) (cwS 1 C.2.2.2.2.1 gX4_cost_X4_requireRunKind rfl rfl rfl (by decide +kernel) ⟨(Nat.le_of_ble_eq_true rfl), (Nat.le_of_ble_eq_true rfl)⟩) rfl rfl (Nat.le_of_ble_eq_true rfl) ⟨(Nat.le_of_ble_eq_true rfl), (Nat.le_of_ble_eq_true rfl)⟩ dX4_cost_6 9 rfl (fun E τx H locs ls ce q hq hP hS9 hl9 h1 h2 h3 => xg_out C hlk htab (Nat.le_of_ble_eq_true rfl) (Nat.le_of_ble_eq_true rfl) hP hS9 h1 h2 h3 ⟨hq.1, fun q => hq.2.1 q.2, hq.2.2⟩) (fun τ6 h6 => ?_)
  obtain ⟨⟨k, hk, hxk⟩, h6s⟩ := h6
  subst h6s
  subst hxk
  refine tg_aload_n C dX4_cost_9 10 rfl rfl 0 rfl ?_
  refine tg_get (T := TX4) (N := 8) (Cn := RX4) C 0 (by decide) (e_0 ad cy _) rfl w1 2 (by decide) w0 rfl rfl dX4_cost_10 13 rfl ?_
  refine tg_iload_n C dX4_cost_13 14 rfl rfl 1 rfl ?_
  refine tg_aald C 5 1 (by decide) (e_5 ad cy _) rfl rfl t rfl (by omega) (by decide) dX4_cost_14 15 rfl ?_
  refine tg_iload_n C dX4_cost_15 16 rfl rfl 2 rfl ?_
  refine tg_callVi C (6 + t) (isTy.at (show t < 5 by omega)).lt ((isTy.at (show t < 5 by omega)).e ad cy _) rfl (c_X3_costOf l D cy ad hDis σ (isTy.at (show t < 5 by omega)) (hT t (by omega)) (r9 := k) hk) (cwV 1 C.2.2.2.2.1 gX4_cost_X3_costOf rfl rfl rfl (by decide +kernel) ⟨Nat.le_of_ble_eq_true rfl, Nat.le_of_ble_eq_true rfl⟩) rfl rfl (Nat.le_of_ble_eq_true rfl) ⟨Nat.le_of_ble_eq_true rfl, Nat.le_of_ble_eq_true rfl⟩ dX4_cost_16 19 rfl (fun r16 τ16 h16 => ?_)
  obtain ⟨h16, h16s⟩ := h16
  subst h16s
  subst h16
  exact hret (Nat.le_of_ble_eq_true rfl) (Nat.le_of_ble_eq_true rfl) dX4_cost_19 ⟨⟨t, k, ht, hk, rfl, rfl, rfl⟩, rfl⟩
set_option maxHeartbeats 4000000 in
set_option maxRecDepth 100000 in
theorem c_X4_textCost (l : Launch) (hl0 : l.stackTraces = false) (D : va_G) (cy : Nat → ClassId) (ad : Nat → Nat) (hDis : Dis ad) (σ : sS) {tc mg pr : Nat} (hX : Xs σ tc mg pr) {n : Nat} {w : Nat → Nat} (hS : Sp σ n w) {ct : Nat → Nat → Nat} {mt : Nat → Nat} (hT : Ta σ ct mt) {x : Int32} : Xi l yX4_textCost wsX4_textCost 7 111 1 6 D cy ad [.ref (ad 0), .int x] σ (fun r τ => (∃ t, t < tc ∧ x = nI t ∧ r = nI (ctxN n w (ct t) (mt t))) ∧ σ = τ) (fun E τ => E = xIO ∧ ¬ inR x tc ∧ σ = τ) := by
  obtain ⟨hx1, hx2, hx3, hx4, hx5, hx6⟩ := id hX
  refine Xi.of (cc := cX4_textCost) (nL := 2) (own := RX4) hDis (by decide) rfl [(0, .ref (ad 0)), (1, .int x)] rfl (Nat.le_of_ble_eq_true rfl) rfl ?_
  intro p e s m args below meth c A Qc C hE hlk htab hret
  refine tg_aload_n C dX4_textCost_0 1 rfl rfl 0 rfl ?_
  refine tg_iload_n C dX4_textCost_1 2 rfl rfl 1 rfl ?_
  refine xg_callVv C hE 0 (by decide) (e_0 ad cy _) rfl (c_X4_requireTongue l hl0 D cy ad hDis σ hX (x := x)) (cwV 1 C.2.2.2.2.1 gX4_textCost_X4_requireTongue rfl rfl rfl (by decide +kernel) ⟨(Nat.le_of_ble_eq_true rfl), (Nat.le_of_ble_eq_true rfl)⟩) rfl rfl (Nat.le_of_ble_eq_true rfl) ⟨(Nat.le_of_ble_eq_true rfl), (Nat.le_of_ble_eq_true rfl)⟩ dX4_textCost_2 5 rfl (fun E τx H locs ls ce q hq hP hS9 hl9 h1 h2 h3 => xg_out C hlk htab (Nat.le_of_ble_eq_true rfl) (Nat.le_of_ble_eq_true rfl) hP hS9 h1 h2 h3 hq) (fun τ2 h2 => ?_)
  obtain ⟨⟨t, ht, hxt⟩, h2s⟩ := h2
  subst h2s
  subst hxt
  refine tg_aload_n C dX4_textCost_5 6 rfl rfl 0 rfl ?_
  refine tg_iload_n C dX4_textCost_6 7 rfl rfl 1 rfl ?_
  refine tg_callVi C 0 (by decide) (e_0 ad cy _) rfl (c_X4_costOfSpelled l D cy ad hDis σ hS hT (t := t) (by omega)) (cwV 1 C.2.2.2.2.1 gX4_textCost_X4_costOfSpelled rfl rfl rfl (by decide +kernel) ⟨Nat.le_of_ble_eq_true rfl, Nat.le_of_ble_eq_true rfl⟩) rfl rfl (Nat.le_of_ble_eq_true rfl) ⟨Nat.le_of_ble_eq_true rfl, Nat.le_of_ble_eq_true rfl⟩ dX4_textCost_7 10 rfl (fun r7 τ7 h7 => ?_)
  obtain ⟨h7, h7s⟩ := h7
  subst h7s
  subst h7
  exact hret (Nat.le_of_ble_eq_true rfl) (Nat.le_of_ble_eq_true rfl) dX4_textCost_10 ⟨⟨t, ht, rfl, rfl⟩, rfl⟩
set_option maxHeartbeats 4000000 in
set_option maxRecDepth 100000 in
theorem c_X4_setPrice (l : Launch) (hl0 : l.stackTraces = false) (D : va_G) (cy : Nat → ClassId) (ad : Nat → Nat) (hDis : Dis ad) (σ : sS) {tc mg pr : Nat} (hX : Xs σ tc mg pr) {x : Int32} : Xi l yX4_setPrice wsX4_setPrice 6 90 1 6 D cy ad [.ref (ad 0), .int x] σ (fun r τ => inR x 101 ∧ r = nI pr ∧ τ = su σ 0 7 x) (fun E τ => E = xIA ∧ ¬ inR x 101 ∧ σ = τ) := by
  have w0 : Cond.classLink RX4 55 xIA ∈ wsX4_setPrice := by decide +kernel
  have w1 : Cond.initialized xIA ∈ wsX4_setPrice := by decide +kernel
  have w2 : ∀ w ∈ (vx_atS RX4 59 xIA xNames).filter goodWord, w ∈ wsX4_setPrice := by decide +kernel
  have w3 : Cond.fieldLink RX4 48 "Tonguetell" "price" "I" ∈ wsX4_setPrice := by decide +kernel
  have w4 : ∀ w ∈ wsX40, w ∈ wsX4_setPrice := by decide +kernel
  refine Xi.of (cc := cX4_setPrice) (nL := 3) (own := RX4) hDis (by decide) rfl [(0, .ref (ad 0)), (1, .int x)] rfl (Nat.le_of_ble_eq_true rfl) rfl ?_
  intro p e s m args below meth c A Qc C hE hlk htab hret
  refine tg_iload_n C dX4_setPrice_0 1 rfl rfl 1 rfl ?_
  refine tg_if_lt C 10 dX4_setPrice_1 (by decide) 4 rfl (fun c1 => ?_) (fun c1 => ?_)
  · -- to 10
    exact xg_throw C hl0 hE xIA (by decide) (text := "the price is not from 0 to 100") (by decide +kernel) rfl (by decide) (by decide) w0 w1 w2 at_xIA (List.forall_mem_cons.mpr ⟨rfl, List.forall_mem_cons.mpr ⟨rfl, gd_xIA⟩⟩) dX4_setPrice_10 dX4_setPrice_13 dX4_setPrice_14 dX4_setPrice_16 dX4_setPrice_19 htab (Nat.le_of_ble_eq_true rfl) (Nat.le_of_ble_eq_true rfl) (Nat.le_of_ble_eq_true rfl) (Nat.le_of_ble_eq_true rfl) hlk (Nat.le_of_ble_eq_true rfl) (Nat.le_of_ble_eq_true rfl) ⟨rfl, by first | exact inR_neg (by decide) c1 | exact inR_gt (by decide) c7, rfl⟩
  · -- on
    refine tg_iload_n C dX4_setPrice_4 5 rfl rfl 1 rfl ?_
    refine tg_bipush C (nI 100) dX4_setPrice_5 7 rfl (by decide) ?_
    refine tg_icmp_le C 20 dX4_setPrice_7 (by decide) 10 rfl (fun c7 => ?_) (fun c7 => ?_)
    · -- to 20
      refine tg_aload_n C dX4_setPrice_20 21 rfl rfl 0 rfl ?_
      refine tg_get (T := TX4) (N := 8) (Cn := RX4) C 0 (by decide) (e_0 ad cy _) rfl w4 7 (by decide) w3 rfl rfl dX4_setPrice_21 24 rfl ?_
      refine tg_top (y := nI pr) (hX.2.2.1) ?_
      refine tg_istore_n C dX4_setPrice_24 25 rfl rfl [(2, .int (nI pr)), (0, .ref (ad 0)), (1, .int x)] (by decide) rfl ?_
      refine tg_aload_n C dX4_setPrice_25 26 rfl rfl 1 rfl ?_
      refine tg_iload_n C dX4_setPrice_26 27 rfl rfl 2 rfl ?_
      refine tg_put (T := TX4) (N := 8) (Cn := RX4) C tyX4 tyX4_ok nmX4 0 (by decide) (e_0 ad cy _) rfl w4 7 (by decide) w3 rfl rfl (by decide +kernel) (Nat.le_of_ble_eq_true rfl) (e_0 ad cy _) dX4_setPrice_27 30 rfl ?_
      refine tg_iload_n C dX4_setPrice_30 31 rfl rfl 0 rfl ?_
      exact hret (Nat.le_of_ble_eq_true rfl) (Nat.le_of_ble_eq_true rfl) dX4_setPrice_31 ⟨inR_le (by decide) c1 c7, rfl, rfl⟩
    · -- on
      exact xg_throw C hl0 hE xIA (by decide) (text := "the price is not from 0 to 100") (by decide +kernel) rfl (by decide) (by decide) w0 w1 w2 at_xIA (List.forall_mem_cons.mpr ⟨rfl, List.forall_mem_cons.mpr ⟨rfl, gd_xIA⟩⟩) dX4_setPrice_10 dX4_setPrice_13 dX4_setPrice_14 dX4_setPrice_16 dX4_setPrice_19 htab (Nat.le_of_ble_eq_true rfl) (Nat.le_of_ble_eq_true rfl) (Nat.le_of_ble_eq_true rfl) (Nat.le_of_ble_eq_true rfl) hlk (Nat.le_of_ble_eq_true rfl) (Nat.le_of_ble_eq_true rfl) ⟨rfl, by first | exact inR_neg (by decide) c1 | exact inR_gt (by decide) c7, rfl⟩
end
section
/-! ===== the class: cuts, teaching, withdrawing, learning ===== -/
/-! ===== withdrawing and learning ===== -/
/-- how often run r is among the first i of the runs f -/
def cntF (f : Nat → Nat) (i r : Nat) : Nat := sm (fun k => if f k = r then 1 else 0) i
theorem cntF_step (f : Nat → Nat) (i r : Nat) : cntF f (i + 1) r = cntF f i r + (if f i = r then 1 else 0) := rfl
theorem cntF_le (f : Nat → Nat) (i r : Nat) : cntF f i r ≤ i := by
  have := sm_le (f := fun k => if f k = r then 1 else 0) (B := 1) i (fun k _ => by split <;> omega)
  unfold cntF
  omega
theorem cntF_mono (f : Nat → Nat) (r : Nat) : ∀ {i j : Nat}, i ≤ j → cntF f i r ≤ cntF f j r := by
  intro i j h
  induction h with
  | refl => exact Nat.le_refl _
  | step h ih => exact Nat.le_trans ih (by rw [cntF_step]; omega)
/-- one run more: longest, its end, length up to here -/
def lst (p : Nat × Nat × Nat) (f : Bool) (k : Nat) : Nat × Nat × Nat := if f = true then (if p.1 < p.2.2 + 1 then (p.2.2 + 1, k + 1, p.2.2 + 1) else (p.1, p.2.1, p.2.2 + 1)) else (p.1, p.2.1, 0)
def lrn (fit : Nat → Bool) : Nat → Nat × Nat × Nat
  | 0 => (0, 0, 0)
  | k + 1 => lst (lrn fit k) (fit k) k
/-- does the run at place k fit no tongue -/
def fitk (n : Nat) (w : Nat → Nat) (c : Nat → Nat → Nat) (m : Nat → Nat) (tc least k : Nat) : Bool := fitb (fun u => costN (c u (rn n w k)) (m u)) least tc
theorem lrn_a {fit : Nat → Bool} {k a b c : Nat} (h : lrn fit k = (a, b, c)) (hf : fit k = true) (hc : a < c + 1) : lrn fit (k + 1) = (c + 1, k + 1, c + 1) := by
  rw [lrn, h, hf]
  simp [lst, hc]
theorem lrn_b {fit : Nat → Bool} {k a b c : Nat} (h : lrn fit k = (a, b, c)) (hf : fit k = true) (hc : ¬ a < c + 1) : lrn fit (k + 1) = (a, b, c + 1) := by
  rw [lrn, h, hf]
  simp only [lst, if_true]
  rw [if_neg hc]
theorem lrn_c {fit : Nat → Bool} {k a b c : Nat} (h : lrn fit k = (a, b, c)) (hf : fit k = false) : lrn fit (k + 1) = (a, b, 0) := by
  rw [lrn, h, hf]
  simp [lst]
set_option maxHeartbeats 4000000 in
set_option maxRecDepth 100000 in
theorem c_X4_cutCost (l : Launch) (hl0 : l.stackTraces = false) (D : va_G) (cy : Nat → ClassId) (ad : Nat → Nat) (hDis : Dis ad) (σ : sS) {tc mg pr : Nat} (hX : Xs σ tc mg pr) {n : Nat} {w : Nat → Nat} (hS : Sp σ n w) {ct : Nat → Nat → Nat} {mt : Nat → Nat} (hT : Ta σ ct mt) : Xi l yX4_cutCost wsX4_cutCost 7 134 1 6 D cy ad [.ref (ad 0)] σ (fun r τ => 0 < tc ∧ r = nI (lb (kst n w ct mt) pr tc (rc n) (rc n) 0) ∧ ∀ j, (j < 51 ∨ 89 ≤ j) → τ j = σ j) (fun E τ => E = xIS ∧ tc = 0 ∧ σ = τ) := by
  have w0 : Cond.fieldLink RX4 37 "Tonguetell" "cutter" "LTonguetell$Cutter;" ∈ wsX4_cutCost := by decide +kernel
  have w1 : ∀ w ∈ wsX40, w ∈ wsX4_cutCost := by decide +kernel
  refine Xi.of (cc := cX4_cutCost) (nL := 1) (own := RX4) hDis (by decide) rfl [(0, .ref (ad 0))] rfl (Nat.le_of_ble_eq_true rfl) rfl ?_
  intro p e s m args below meth c A Qc C hE hlk htab hret
  refine tg_aload_n C dX4_cutCost_0 1 rfl rfl 0 rfl ?_
  refine xg_callVv C hE 0 (by decide) (e_0 ad cy _) rfl (c_X4_requireSomeTongue l hl0 D cy ad hDis σ hX) (cwV 0 C.2.2.2.2.1 gX4_cutCost_X4_requireSomeTongue rfl rfl rfl (by decide +kernel) ⟨(Nat.le_of_ble_eq_true rfl), (Nat.le_of_ble_eq_true rfl)⟩) rfl rfl (Nat.le_of_ble_eq_true rfl) ⟨(Nat.le_of_ble_eq_true rfl), (Nat.le_of_ble_eq_true rfl)⟩ dX4_cutCost_1 4 rfl (fun E τx H locs ls ce q hq hP hS9 hl9 h1 h2 h3 => xg_out C hlk htab (Nat.le_of_ble_eq_true rfl) (Nat.le_of_ble_eq_true rfl) hP hS9 h1 h2 h3 hq) (fun τ1 h1 => ?_)
  obtain ⟨htc, h1s⟩ := h1
  subst h1s
  refine tg_aload_n C dX4_cutCost_4 5 rfl rfl 0 rfl ?_
  refine tg_callVv C 0 (by decide) (e_0 ad cy _) rfl (c_X4_layCostsForCut l D cy ad hDis σ hX hS hT htc) (cwV 0 C.2.2.2.2.1 gX4_cutCost_X4_layCostsForCut rfl rfl rfl (by decide +kernel) ⟨Nat.le_of_ble_eq_true rfl, Nat.le_of_ble_eq_true rfl⟩) rfl rfl (Nat.le_of_ble_eq_true rfl) ⟨Nat.le_of_ble_eq_true rfl, Nat.le_of_ble_eq_true rfl⟩ dX4_cutCost_5 8 rfl (fun τ5 h5 => ?_)
  refine tg_aload_n C dX4_cutCost_8 9 rfl rfl 0 rfl ?_
  refine tg_get (T := TX4) (N := 8) (Cn := RX4) C 0 (by decide) (e_0 ad cy _) rfl w1 4 (by decide) w0 rfl rfl dX4_cutCost_9 12 rfl ?_
  refine tg_callVi C 51 (by decide) (e_51 ad cy _) rfl (c_X0_leastCost l D cy ad hDis τ5 h5.1 h5.2.1) (cwV 0 C.2.2.2.2.1 gX4_cutCost_X0_leastCost rfl rfl rfl (by decide +kernel) ⟨Nat.le_of_ble_eq_true rfl, Nat.le_of_ble_eq_true rfl⟩) rfl rfl (Nat.le_of_ble_eq_true rfl) ⟨Nat.le_of_ble_eq_true rfl, Nat.le_of_ble_eq_true rfl⟩ dX4_cutCost_12 15 rfl (fun r12 τ12 h12 => ?_)
  exact hret (Nat.le_of_ble_eq_true rfl) (Nat.le_of_ble_eq_true rfl) dX4_cutCost_15 ⟨htc, h12.1, fun j hj => (h12.2 j (by omega)).trans (h5.2.2 j (by omega) (by omega))⟩
set_option maxHeartbeats 4000000 in
set_option maxRecDepth 100000 in
theorem c_X4_cutCostByTrying (l : Launch) (hl0 : l.stackTraces = false) (D : va_G) (cy : Nat → ClassId) (ad : Nat → Nat) (hDis : Dis ad) (σ : sS) {tc mg pr : Nat} (hX : Xs σ tc mg pr) {n : Nat} {w : Nat → Nat} (hS : Sp σ n w) {ct : Nat → Nat → Nat} {mt : Nat → Nat} (hT : Ta σ ct mt) : Xi l yX4_cutCostByTrying wsX4_cutCostByTrying 8 195 2 12 D cy ad [.ref (ad 0)] σ (fun r τ => 0 < tc ∧ n ≤ 5 ∧ r = nI (lb (kst n w ct mt) pr tc (rc n) (rc n) 0) ∧ ∀ j, (j < 51 ∨ 89 ≤ j) → τ j = σ j) (fun E τ => E = xIS ∧ (tc = 0 ∨ 5 < n) ∧ σ = τ) := by
  have w0 : Cond.fieldLink RX4 10 "Tonguetell" "spelled" "LTonguetell$Spelling;" ∈ wsX4_cutCostByTrying := by decide +kernel
  have w1 : ∀ w ∈ wsX40, w ∈ wsX4_cutCostByTrying := by decide +kernel
  have w2 : Cond.fieldLink RX4 62 "Tonguetell$Spelling" "length" "I" ∈ wsX4_cutCostByTrying := by decide +kernel
  have w3 : ∀ w ∈ wsX20, w ∈ wsX4_cutCostByTrying := by decide +kernel
  have w4 : Cond.fieldLink RX4 37 "Tonguetell" "cutter" "LTonguetell$Cutter;" ∈ wsX4_cutCostByTrying := by decide +kernel
  have w5 : Cond.classLink RX4 65 xIS ∈ wsX4_cutCostByTrying := by decide +kernel
  have w6 : Cond.initialized xIS ∈ wsX4_cutCostByTrying := by decide +kernel
  have w7 : ∀ w ∈ (vx_atS RX4 69 xIS xNames).filter goodWord, w ∈ wsX4_cutCostByTrying := by decide +kernel
  have hn16 := hS.2.1
  have hrc := rc_le hn16
  have hrn := rn_lt (fun k h => (hS.2.2 k h).2)
  refine Xi.of (cc := cX4_cutCostByTrying) (nL := 1) (own := RX4) hDis (by decide) rfl [(0, .ref (ad 0))] rfl (Nat.le_of_ble_eq_true rfl) rfl ?_
  intro p e s m args below meth c A Qc C hE hlk htab hret
  refine tg_aload_n C dX4_cutCostByTrying_0 1 rfl rfl 0 rfl ?_
  refine xg_callVv C hE 0 (by decide) (e_0 ad cy _) rfl (c_X4_requireSomeTongue l hl0 D cy ad hDis σ hX) (cwV 0 C.2.2.2.2.1 gX4_cutCostByTrying_X4_requireSomeTongue rfl rfl rfl (by decide +kernel) ⟨(Nat.le_of_ble_eq_true rfl), (Nat.le_of_ble_eq_true rfl)⟩) rfl rfl (Nat.le_of_ble_eq_true rfl) ⟨(Nat.le_of_ble_eq_true rfl), (Nat.le_of_ble_eq_true rfl)⟩ dX4_cutCostByTrying_1 4 rfl (fun E τx H locs ls ce q hq hP hS9 hl9 h1 h2 h3 => xg_out C hlk htab (Nat.le_of_ble_eq_true rfl) (Nat.le_of_ble_eq_true rfl) hP hS9 h1 h2 h3 ⟨hq.1, Or.inl hq.2.1, hq.2.2⟩) (fun τ1 h1 => ?_)
  obtain ⟨htc, h1s⟩ := h1
  subst h1s
  refine tg_aload_n C dX4_cutCostByTrying_4 5 rfl rfl 0 rfl ?_
  refine tg_get (T := TX4) (N := 8) (Cn := RX4) C 0 (by decide) (e_0 ad cy _) rfl w1 0 (by decide) w0 rfl rfl dX4_cutCostByTrying_5 8 rfl ?_
  refine tg_get (T := TX2) (N := 2) (Cn := RX2) C 1 (by decide) (e_1 ad cy _) rfl w3 1 (by decide) w2 rfl rfl dX4_cutCostByTrying_8 11 rfl ?_
  refine tg_top (y := nI n) (hS.1) ?_
  refine tg_iconst C (nI 5) dX4_cutCostByTrying_11 12 rfl (by decide) ?_
  refine tg_icmp_le C 25 dX4_cutCostByTrying_12 (by decide) 15 rfl (fun c12 => ?_) (fun c12 => ?_)
  · -- to 25
    replace c12 : n ≤ 5 := (nI_leI (by omega) (by omega)).mp c12
    refine tg_aload_n C dX4_cutCostByTrying_25 26 rfl rfl 0 rfl ?_
    refine tg_callVv C 0 (by decide) (e_0 ad cy _) rfl (c_X4_layCostsForCut l D cy ad hDis σ hX hS hT htc) (cwV 0 C.2.2.2.2.1 gX4_cutCostByTrying_X4_layCostsForCut rfl rfl rfl (by decide +kernel) ⟨Nat.le_of_ble_eq_true rfl, Nat.le_of_ble_eq_true rfl⟩) rfl rfl (Nat.le_of_ble_eq_true rfl) ⟨Nat.le_of_ble_eq_true rfl, Nat.le_of_ble_eq_true rfl⟩ dX4_cutCostByTrying_26 29 rfl (fun τ26 h26 => ?_)
    refine tg_aload_n C dX4_cutCostByTrying_29 30 rfl rfl 0 rfl ?_
    refine tg_get (T := TX4) (N := 8) (Cn := RX4) C 0 (by decide) (e_0 ad cy _) rfl w1 4 (by decide) w4 rfl rfl dX4_cutCostByTrying_30 33 rfl ?_
    refine tg_callVi C 51 (by decide) (e_51 ad cy _) rfl (c_X0_leastCostByTrying l D cy ad hDis τ26 h26.1 h26.2.1 (by unfold rc; split <;> omega)) (cwV 0 C.2.2.2.2.1 gX4_cutCostByTrying_X0_leastCostByTrying rfl rfl rfl (by decide +kernel) ⟨Nat.le_of_ble_eq_true rfl, Nat.le_of_ble_eq_true rfl⟩) rfl rfl (Nat.le_of_ble_eq_true rfl) ⟨Nat.le_of_ble_eq_true rfl, Nat.le_of_ble_eq_true rfl⟩ dX4_cutCostByTrying_33 36 rfl (fun r33 τ33 h33 => ?_)
    obtain ⟨h33a, h33b⟩ := h33
    subst h33b
    exact hret (Nat.le_of_ble_eq_true rfl) (Nat.le_of_ble_eq_true rfl) dX4_cutCostByTrying_36 ⟨htc, by omega, h33a, fun j hj => h26.2.2 j (by omega) (by omega)⟩
  · -- on
    replace c12 : ¬ n ≤ 5 := fun q => c12 ((nI_leI (by omega) (by omega)).mpr q)
    exact xg_throw C hl0 hE xIS (by decide) (text := "the spelled text has more than 5 letters") (by decide +kernel) rfl (by decide) (by decide) w5 w6 w7 at_xIS (List.forall_mem_cons.mpr ⟨rfl, List.forall_mem_cons.mpr ⟨rfl, gd_xIS⟩⟩) dX4_cutCostByTrying_15 dX4_cutCostByTrying_18 dX4_cutCostByTrying_19 dX4_cutCostByTrying_21 dX4_cutCostByTrying_24 htab (Nat.le_of_ble_eq_true rfl) (Nat.le_of_ble_eq_true rfl) (Nat.le_of_ble_eq_true rfl) (Nat.le_of_ble_eq_true rfl) hlk (Nat.le_of_ble_eq_true rfl) (Nat.le_of_ble_eq_true rfl) ⟨rfl, Or.inr (by omega), rfl⟩
set_option maxHeartbeats 4000000 in
set_option maxRecDepth 100000 in
theorem c_X4_cutTongue (l : Launch) (hl0 : l.stackTraces = false) (D : va_G) (cy : Nat → ClassId) (ad : Nat → Nat) (hDis : Dis ad) (σ : sS) {tc mg pr : Nat} (hX : Xs σ tc mg pr) {n : Nat} {w : Nat → Nat} (hS : Sp σ n w) {ct : Nat → Nat → Nat} {mt : Nat → Nat} (hT : Ta σ ct mt) {x : Int32} : Xi l yX4_cutTongue wsX4_cutTongue 7 136 2 12 D cy ad [.ref (ad 0), .int x] σ (fun r τ => 0 < tc ∧ (∃ k, k < rc n ∧ x = nI k ∧ r = nI (tdb (kst n w ct mt) pr tc (rc n) (k + 1) - 1)) ∧ ∀ j, (j < 51 ∨ 89 ≤ j) → τ j = σ j) (fun E τ => ((E = xIS ∧ tc = 0) ∨ (E = xIO ∧ 0 < tc ∧ ¬ inR x (rc n))) ∧ σ = τ) := by
  have w0 : Cond.fieldLink RX4 37 "Tonguetell" "cutter" "LTonguetell$Cutter;" ∈ wsX4_cutTongue := by decide +kernel
  have w1 : ∀ w ∈ wsX40, w ∈ wsX4_cutTongue := by decide +kernel
  have w2 : Cond.fieldLink RX4 174 "Tonguetell$Cutter" "told" "[I" ∈ wsX4_cutTongue := by decide +kernel
  have w3 : ∀ w ∈ wsX00, w ∈ wsX4_cutTongue := by decide +kernel
  have hn16 := hS.2.1
  have hrc := rc_le hn16
  have hrn := rn_lt (fun k h => (hS.2.2 k h).2)
  refine Xi.of (cc := cX4_cutTongue) (nL := 2) (own := RX4) hDis (by decide) rfl [(0, .ref (ad 0)), (1, .int x)] rfl (Nat.le_of_ble_eq_true rfl) rfl ?_
  intro p e s m args below meth c A Qc C hE hlk htab hret
  refine tg_aload_n C dX4_cutTongue_0 1 rfl rfl 0 rfl ?_
  refine xg_callVv C hE 0 (by decide) (e_0 ad cy _) rfl (c_X4_requireSomeTongue l hl0 D cy ad hDis σ hX) (cwV 0 C.2.2.2.2.1 gX4_cutTongue_X4_requireSomeTongue rfl rfl rfl (by decide +kernel) ⟨(Nat.le_of_ble_eq_true rfl), (Nat.le_of_ble_eq_true rfl)⟩) rfl rfl (Nat.le_of_ble_eq_true rfl) ⟨(Nat.le_of_ble_eq_true rfl), (Nat.le_of_ble_eq_true rfl)⟩ dX4_cutTongue_1 4 rfl (fun E τx H locs ls ce q hq hP hS9 hl9 h1 h2 h3 => xg_out C hlk htab (Nat.le_of_ble_eq_true rfl) (Nat.le_of_ble_eq_true rfl) hP hS9 h1 h2 h3 ⟨Or.inl ⟨hq.1, hq.2.1⟩, hq.2.2⟩) (fun τ1 h1 => ?_)
  obtain ⟨htc, h1s⟩ := h1
  subst h1s
  refine tg_aload_n C dX4_cutTongue_4 5 rfl rfl 0 rfl ?_
  refine tg_iload_n C dX4_cutTongue_5 6 rfl rfl 1 rfl ?_
  refine xg_callVv C hE 0 (by decide) (e_0 ad cy _) rfl (c_X4_requireRunPlace l hl0 D cy ad hDis σ hS (x := x)) (cwV 1 C.2.2.2.2.1 gX4_cutTongue_X4_requireRunPlace rfl rfl rfl (by decide +kernel) ⟨(Nat.le_of_ble_eq_true rfl), (Nat.le_of_ble_eq_true rfl)⟩) rfl rfl (Nat.le_of_ble_eq_true rfl) ⟨(Nat.le_of_ble_eq_true rfl), (Nat.le_of_ble_eq_true rfl)⟩ dX4_cutTongue_6 9 rfl (fun E τx H locs ls ce q hq hP hS9 hl9 h1 h2 h3 => xg_out C hlk htab (Nat.le_of_ble_eq_true rfl) (Nat.le_of_ble_eq_true rfl) hP hS9 h1 h2 h3 ⟨Or.inr ⟨hq.1, htc, hq.2.1⟩, hq.2.2⟩) (fun τ6 h6 => ?_)
  obtain ⟨⟨k, hk, hxk⟩, h6s⟩ := h6
  subst h6s
  subst hxk
  refine tg_aload_n C dX4_cutTongue_9 10 rfl rfl 0 rfl ?_
  refine tg_callVv C 0 (by decide) (e_0 ad cy _) rfl (c_X4_layCostsForCut l D cy ad hDis σ hX hS hT htc) (cwV 0 C.2.2.2.2.1 gX4_cutTongue_X4_layCostsForCut rfl rfl rfl (by decide +kernel) ⟨Nat.le_of_ble_eq_true rfl, Nat.le_of_ble_eq_true rfl⟩) rfl rfl (Nat.le_of_ble_eq_true rfl) ⟨Nat.le_of_ble_eq_true rfl, Nat.le_of_ble_eq_true rfl⟩ dX4_cutTongue_10 13 rfl (fun τ10 h10 => ?_)
  refine tg_aload_n C dX4_cutTongue_13 14 rfl rfl 0 rfl ?_
  refine tg_get (T := TX4) (N := 8) (Cn := RX4) C 0 (by decide) (e_0 ad cy _) rfl w1 4 (by decide) w0 rfl rfl dX4_cutTongue_14 17 rfl ?_
  refine tg_callVv C 51 (by decide) (e_51 ad cy _) rfl (c_X0_findToldCut l D cy ad hDis τ10 h10.1 h10.2.1) (cwV 0 C.2.2.2.2.1 gX4_cutTongue_X0_findToldCut rfl rfl rfl (by decide +kernel) ⟨Nat.le_of_ble_eq_true rfl, Nat.le_of_ble_eq_true rfl⟩) rfl rfl (Nat.le_of_ble_eq_true rfl) ⟨Nat.le_of_ble_eq_true rfl, Nat.le_of_ble_eq_true rfl⟩ dX4_cutTongue_17 20 rfl (fun τ17 h17 => ?_)
  refine tg_aload_n C dX4_cutTongue_20 21 rfl rfl 0 rfl ?_
  refine tg_get (T := TX4) (N := 8) (Cn := RX4) C 0 (by decide) (e_0 ad cy _) rfl w1 4 (by decide) w0 rfl rfl dX4_cutTongue_21 24 rfl ?_
  refine tg_get (T := TX0) (N := 6) (Cn := RX0) C 51 (by decide) (e_51 ad cy _) rfl w3 1 (by decide) w2 rfl rfl dX4_cutTongue_24 27 rfl ?_
  refine tg_iload_n C dX4_cutTongue_27 28 rfl rfl 1 rfl ?_
  refine tg_iald C 70 (by decide) ((e_70 ad cy) _) k rfl (by omega) (by decide) dX4_cutTongue_28 29 rfl ?_
  refine tg_top (y := nI (tdb (kst n w ct mt) pr tc (rc n) (k + 1) - 1)) (h17.1 k hk) ?_
  exact hret (Nat.le_of_ble_eq_true rfl) (Nat.le_of_ble_eq_true rfl) dX4_cutTongue_29 ⟨htc, ⟨k, hk, rfl, rfl⟩, fun j hj => (h17.2 j (by omega) (by omega)).trans (h10.2.2 j (by omega) (by omega))⟩
set_option maxHeartbeats 4000000 in
set_option maxRecDepth 100000 in
theorem c_X4_stretches (l : Launch) (hl0 : l.stackTraces = false) (D : va_G) (cy : Nat → ClassId) (ad : Nat → Nat) (hDis : Dis ad) (σ : sS) {tc mg pr : Nat} (hX : Xs σ tc mg pr) {n : Nat} {w : Nat → Nat} (hS : Sp σ n w) {ct : Nat → Nat → Nat} {mt : Nat → Nat} (hT : Ta σ ct mt) : Xi l yX4_stretches wsX4_stretches 7 136 1 6 D cy ad [.ref (ad 0)] σ (fun r τ => 0 < tc ∧ r = nI (stc (fun i => tdb (kst n w ct mt) pr tc (rc n) (i + 1) - 1) (rc n)) ∧ ∀ j, (j < 51 ∨ 89 ≤ j) → τ j = σ j) (fun E τ => E = xIS ∧ tc = 0 ∧ σ = τ) := by
  have w0 : Cond.fieldLink RX4 37 "Tonguetell" "cutter" "LTonguetell$Cutter;" ∈ wsX4_stretches := by decide +kernel
  have w1 : ∀ w ∈ wsX40, w ∈ wsX4_stretches := by decide +kernel
  obtain ⟨hx1, hx2, hx3, hx4, hx5, hx6⟩ := id hX
  have hn16 := hS.2.1
  have hrc := rc_le hn16
  have hrn := rn_lt (fun k h => (hS.2.2 k h).2)
  refine Xi.of (cc := cX4_stretches) (nL := 1) (own := RX4) hDis (by decide) rfl [(0, .ref (ad 0))] rfl (Nat.le_of_ble_eq_true rfl) rfl ?_
  intro p e s m args below meth c A Qc C hE hlk htab hret
  refine tg_aload_n C dX4_stretches_0 1 rfl rfl 0 rfl ?_
  refine xg_callVv C hE 0 (by decide) (e_0 ad cy _) rfl (c_X4_requireSomeTongue l hl0 D cy ad hDis σ hX) (cwV 0 C.2.2.2.2.1 gX4_stretches_X4_requireSomeTongue rfl rfl rfl (by decide +kernel) ⟨(Nat.le_of_ble_eq_true rfl), (Nat.le_of_ble_eq_true rfl)⟩) rfl rfl (Nat.le_of_ble_eq_true rfl) ⟨(Nat.le_of_ble_eq_true rfl), (Nat.le_of_ble_eq_true rfl)⟩ dX4_stretches_1 4 rfl (fun E τx H locs ls ce q hq hP hS9 hl9 h1 h2 h3 => xg_out C hlk htab (Nat.le_of_ble_eq_true rfl) (Nat.le_of_ble_eq_true rfl) hP hS9 h1 h2 h3 hq) (fun τ1 h1 => ?_)
  obtain ⟨htc, h1s⟩ := h1
  subst h1s
  refine tg_aload_n C dX4_stretches_4 5 rfl rfl 0 rfl ?_
  refine tg_callVv C 0 (by decide) (e_0 ad cy _) rfl (c_X4_layCostsForCut l D cy ad hDis σ hX hS hT htc) (cwV 0 C.2.2.2.2.1 gX4_stretches_X4_layCostsForCut rfl rfl rfl (by decide +kernel) ⟨Nat.le_of_ble_eq_true rfl, Nat.le_of_ble_eq_true rfl⟩) rfl rfl (Nat.le_of_ble_eq_true rfl) ⟨Nat.le_of_ble_eq_true rfl, Nat.le_of_ble_eq_true rfl⟩ dX4_stretches_5 8 rfl (fun τ5 h5 => ?_)
  refine tg_aload_n C dX4_stretches_8 9 rfl rfl 0 rfl ?_
  refine tg_get (T := TX4) (N := 8) (Cn := RX4) C 0 (by decide) (e_0 ad cy _) rfl w1 4 (by decide) w0 rfl rfl dX4_stretches_9 12 rfl ?_
  refine tg_callVv C 51 (by decide) (e_51 ad cy _) rfl (c_X0_findToldCut l D cy ad hDis τ5 h5.1 h5.2.1) (cwV 0 C.2.2.2.2.1 gX4_stretches_X0_findToldCut rfl rfl rfl (by decide +kernel) ⟨Nat.le_of_ble_eq_true rfl, Nat.le_of_ble_eq_true rfl⟩) rfl rfl (Nat.le_of_ble_eq_true rfl) ⟨Nat.le_of_ble_eq_true rfl, Nat.le_of_ble_eq_true rfl⟩ dX4_stretches_12 15 rfl (fun τ12 h12 => ?_)
  refine tg_aload_n C dX4_stretches_15 16 rfl rfl 0 rfl ?_
  refine tg_get (T := TX4) (N := 8) (Cn := RX4) C 0 (by decide) (e_0 ad cy _) rfl w1 4 (by decide) w0 rfl rfl dX4_stretches_16 19 rfl ?_
  refine tg_callVi C 51 (by decide) (e_51 ad cy _) rfl (c_X0_stretchCount l D cy ad hDis τ12 (h5.1.fr (h12.2 51 (by decide) (by decide))) (u9 := fun i => tdb (kst n w ct mt) pr tc (rc n) (i + 1) - 1) (fun i hi => ⟨h12.1 i hi, by have := tdb_le (k := kst n w ct mt) (pr := pr) (N := rc n) htc (i + 1); show tdb (kst n w ct mt) pr tc (rc n) (i + 1) - 1 ≤ 5; omega⟩)) (cwV 0 C.2.2.2.2.1 gX4_stretches_X0_stretchCount rfl rfl rfl (by decide +kernel) ⟨Nat.le_of_ble_eq_true rfl, Nat.le_of_ble_eq_true rfl⟩) rfl rfl (Nat.le_of_ble_eq_true rfl) ⟨Nat.le_of_ble_eq_true rfl, Nat.le_of_ble_eq_true rfl⟩ dX4_stretches_19 22 rfl (fun r19 τ19 h19 => ?_)
  obtain ⟨h19a, h19b⟩ := h19
  subst h19b
  exact hret (Nat.le_of_ble_eq_true rfl) (Nat.le_of_ble_eq_true rfl) dX4_stretches_22 ⟨htc, h19a, fun j hj => (h12.2 j (by omega) (by omega)).trans (h5.2.2 j (by omega) (by omega))⟩
set_option maxHeartbeats 4000000 in
set_option maxRecDepth 100000 in
theorem c_X4_teach (l : Launch) (hl0 : l.stackTraces = false) (D : va_G) (cy : Nat → ClassId) (ad : Nat → Nat) (hDis : Dis ad) (σ : sS) {tc mg pr : Nat} (hX : Xs σ tc mg pr) {n : Nat} {w : Nat → Nat} (hS : Sp σ n w) {ct : Nat → Nat → Nat} {mt : Nat → Nat} (hT : Ta σ ct mt) {nx : Nat} (h4 : σ 16 4 = nI nx) (hnx : nx ≤ 10000) (hB : ∀ t, t < 5 → mt t ≤ 510 ∧ ∀ r, ct t r ≤ 510) {x : Int32} : Xi l yX4_teach wsX4_teach 7 111 2 12 D cy ad [.ref (ad 0), .int x] σ (fun r τ => ∃ t, t < tc ∧ x = nI t ∧ 0 < n ∧ fsw (σ 17) (-1) 30 0 < 30 ∧ r = nI nx ∧ Kept σ τ (fsw (σ 17) (-1) 30 0) nx t (rc n) 0 n w (ct t) (mt t)) (fun E τ => ((E = xIO ∧ ¬ inR x tc) ∨ (E = xIS ∧ inR x tc ∧ (n = 0 ∨ fsw (σ 17) (-1) 30 0 = 30))) ∧ σ = τ) := by
  have w0 : Cond.fieldLink RX4 10 "Tonguetell" "spelled" "LTonguetell$Spelling;" ∈ wsX4_teach := by decide +kernel
  have w1 : ∀ w ∈ wsX40, w ∈ wsX4_teach := by decide +kernel
  have w2 : Cond.fieldLink RX4 62 "Tonguetell$Spelling" "length" "I" ∈ wsX4_teach := by decide +kernel
  have w3 : ∀ w ∈ wsX20, w ∈ wsX4_teach := by decide +kernel
  have w4 : Cond.fieldLink RX4 30 "Tonguetell" "shelf" "LTonguetell$Shelf;" ∈ wsX4_teach := by decide +kernel
  have w5 : Cond.classLink RX4 65 xIS ∈ wsX4_teach := by decide +kernel
  have w6 : Cond.initialized xIS ∈ wsX4_teach := by decide +kernel
  have w7 : ∀ w ∈ (vx_atS RX4 69 xIS xNames).filter goodWord, w ∈ wsX4_teach := by decide +kernel
  obtain ⟨hx1, hx2, hx3, hx4, hx5, hx6⟩ := id hX
  have hn16 := hS.2.1
  have hrc := rc_le hn16
  have hrn := rn_lt (fun k h => (hS.2.2 k h).2)
  refine Xi.of (cc := cX4_teach) (nL := 2) (own := RX4) hDis (by decide) rfl [(0, .ref (ad 0)), (1, .int x)] rfl (Nat.le_of_ble_eq_true rfl) rfl ?_
  intro p e s m args below meth c A Qc C hE hlk htab hret
  refine tg_aload_n C dX4_teach_0 1 rfl rfl 0 rfl ?_
  refine tg_iload_n C dX4_teach_1 2 rfl rfl 1 rfl ?_
  refine xg_callVv C hE 0 (by decide) (e_0 ad cy _) rfl (c_X4_requireTongue l hl0 D cy ad hDis σ hX (x := x)) (cwV 1 C.2.2.2.2.1 gX4_teach_X4_requireTongue rfl rfl rfl (by decide +kernel) ⟨(Nat.le_of_ble_eq_true rfl), (Nat.le_of_ble_eq_true rfl)⟩) rfl rfl (Nat.le_of_ble_eq_true rfl) ⟨(Nat.le_of_ble_eq_true rfl), (Nat.le_of_ble_eq_true rfl)⟩ dX4_teach_2 5 rfl (fun E τx H locs ls ce q hq hP hS9 hl9 h1 h2 h3 => xg_out C hlk htab (Nat.le_of_ble_eq_true rfl) (Nat.le_of_ble_eq_true rfl) hP hS9 h1 h2 h3 ⟨Or.inl ⟨hq.1, hq.2.1⟩, hq.2.2⟩) (fun τ2 h2 => ?_)
  obtain ⟨⟨t, ht, hxt⟩, h2s⟩ := h2
  subst h2s
  subst hxt
  refine tg_aload_n C dX4_teach_5 6 rfl rfl 0 rfl ?_
  refine tg_get (T := TX4) (N := 8) (Cn := RX4) C 0 (by decide) (e_0 ad cy _) rfl w1 0 (by decide) w0 rfl rfl dX4_teach_6 9 rfl ?_
  refine tg_get (T := TX2) (N := 2) (Cn := RX2) C 1 (by decide) (e_1 ad cy _) rfl w3 1 (by decide) w2 rfl rfl dX4_teach_9 12 rfl ?_
  refine tg_top (y := nI n) (hS.1) ?_
  refine tg_if_ne C 25 dX4_teach_12 (by decide) 15 rfl (fun c12 => ?_) (fun c12 => ?_)
  · -- to 25
    replace c12 : ¬ n = 0 := fun q => c12 ((z_eq (by omega)).mpr q)
    refine tg_aload_n C dX4_teach_25 26 rfl rfl 0 rfl ?_
    refine tg_get (T := TX4) (N := 8) (Cn := RX4) C 0 (by decide) (e_0 ad cy _) rfl w1 3 (by decide) w4 rfl rfl dX4_teach_26 29 rfl ?_
    refine tg_callVi C 16 (by decide) (e_16 ad cy _) rfl (c_X1_isFull l D cy ad hDis σ) (cwV 0 C.2.2.2.2.1 gX4_teach_X1_isFull rfl rfl rfl (by decide +kernel) ⟨Nat.le_of_ble_eq_true rfl, Nat.le_of_ble_eq_true rfl⟩) rfl rfl (Nat.le_of_ble_eq_true rfl) ⟨Nat.le_of_ble_eq_true rfl, Nat.le_of_ble_eq_true rfl⟩ dX4_teach_29 32 rfl (fun r29 τ29 h29 => ?_)
    obtain ⟨h29, h29s⟩ := h29
    subst h29s
    subst h29
    refine tg_if_eq C 45 dX4_teach_32 (by decide) 35 rfl (fun c32 => ?_) (fun c32 => ?_)
    · -- to 45
      replace c32 : ¬ fsw (σ 17) (-1) 30 0 = 30 := fun q => by rw [if_pos q] at c32; exact absurd c32 (by decide)
      have hs30 := fsw_30 (σ 17) (-1)
      refine tg_aload_n C dX4_teach_45 46 rfl rfl 0 rfl ?_
      refine tg_iload_n C dX4_teach_46 47 rfl rfl 1 rfl ?_
      refine tg_iconst C (nI 0) dX4_teach_47 48 rfl (by decide) ?_
      refine tg_aload_n C dX4_teach_48 49 rfl rfl 0 rfl ?_
      refine tg_get (T := TX4) (N := 8) (Cn := RX4) C 0 (by decide) (e_0 ad cy _) rfl w1 0 (by decide) w0 rfl rfl dX4_teach_49 52 rfl ?_
      refine tg_callVi C 1 (by decide) (e_1 ad cy _) rfl (c_X2_runCount l D cy ad hDis σ hS) (cwV 0 C.2.2.2.2.1 gX4_teach_X2_runCount rfl rfl rfl (by decide +kernel) ⟨Nat.le_of_ble_eq_true rfl, Nat.le_of_ble_eq_true rfl⟩) rfl rfl (Nat.le_of_ble_eq_true rfl) ⟨Nat.le_of_ble_eq_true rfl, Nat.le_of_ble_eq_true rfl⟩ dX4_teach_52 55 rfl (fun r52 τ52 h52 => ?_)
      obtain ⟨h52, h52s⟩ := h52
      subst h52s
      subst h52
      have hb5 := hB t (by omega)
      refine tg_callVi C 0 (by decide) (e_0 ad cy _) rfl (c_X4_teachRuns l D cy ad hDis σ hS hT (t := t) (f9 := 0) (ln := rc n) (s9 := fsw (σ 17) (-1) 30 0) (nx := nx) (by omega) (by omega) rfl (by omega) h4 hnx hb5.1 hb5.2) (cwV 3 C.2.2.2.2.1 gX4_teach_X4_teachRuns rfl rfl rfl (by decide +kernel) ⟨Nat.le_of_ble_eq_true rfl, Nat.le_of_ble_eq_true rfl⟩) rfl rfl (Nat.le_of_ble_eq_true rfl) ⟨Nat.le_of_ble_eq_true rfl, Nat.le_of_ble_eq_true rfl⟩ dX4_teach_55 58 rfl (fun r55 τ55 h55 => ?_)
      exact hret (Nat.le_of_ble_eq_true rfl) (Nat.le_of_ble_eq_true rfl) dX4_teach_58 ⟨t, ht, rfl, by omega, by omega, h55.1, h55.2⟩
    · -- on
      replace c32 : fsw (σ 17) (-1) 30 0 = 30 := by
        by_cases q : fsw (σ 17) (-1) 30 0 = 30
        · exact q
        · exact absurd (if_neg q) c32
      exact xg_throw C hl0 hE xIS (by decide) (text := "30 texts are taught and not withdrawn") (by decide +kernel) rfl (by decide) (by decide) w5 w6 w7 at_xIS (List.forall_mem_cons.mpr ⟨rfl, List.forall_mem_cons.mpr ⟨rfl, gd_xIS⟩⟩) dX4_teach_35 dX4_teach_38 dX4_teach_39 dX4_teach_41 dX4_teach_44 htab (Nat.le_of_ble_eq_true rfl) (Nat.le_of_ble_eq_true rfl) (Nat.le_of_ble_eq_true rfl) (Nat.le_of_ble_eq_true rfl) hlk (Nat.le_of_ble_eq_true rfl) (Nat.le_of_ble_eq_true rfl) ⟨Or.inr ⟨rfl, ⟨t, ht, rfl⟩, by omega⟩, rfl⟩
  · -- on
    replace c12 : n = 0 := (z_eq (by omega)).mp c12
    exact xg_throw C hl0 hE xIS (by decide) (text := "the spelled text is empty") (by decide +kernel) rfl (by decide) (by decide) w5 w6 w7 at_xIS (List.forall_mem_cons.mpr ⟨rfl, List.forall_mem_cons.mpr ⟨rfl, gd_xIS⟩⟩) dX4_teach_15 dX4_teach_18 dX4_teach_19 dX4_teach_21 dX4_teach_24 htab (Nat.le_of_ble_eq_true rfl) (Nat.le_of_ble_eq_true rfl) (Nat.le_of_ble_eq_true rfl) (Nat.le_of_ble_eq_true rfl) hlk (Nat.le_of_ble_eq_true rfl) (Nat.le_of_ble_eq_true rfl) ⟨Or.inr ⟨rfl, ⟨t, ht, rfl⟩, by omega⟩, rfl⟩
set_option maxHeartbeats 4000000 in
set_option maxRecDepth 100000 in
theorem c_X4_tongueOf (l : Launch) (hl0 : l.stackTraces = false) (D : va_G) (cy : Nat → ClassId) (ad : Nat → Nat) (hDis : Dis ad) (σ : sS) {x : Int32} : Xi l yX4_tongueOf wsX4_tongueOf 7 112 1 6 D cy ad [.ref (ad 0), .int x] σ (fun r τ => ¬ x < 0 ∧ fsw (σ 17) x 30 0 < 30 ∧ r = σ 18 (fsw (σ 17) x 30 0) ∧ σ = τ) (fun E τ => E = xNS ∧ (x < 0 ∨ fsw (σ 17) x 30 0 = 30) ∧ σ = τ) := by
  have w0 : Cond.fieldLink RX4 30 "Tonguetell" "shelf" "LTonguetell$Shelf;" ∈ wsX4_tongueOf := by decide +kernel
  have w1 : ∀ w ∈ wsX40, w ∈ wsX4_tongueOf := by decide +kernel
  have w2 : Cond.fieldLink RX4 108 "Tonguetell$Shelf" "tongueIn" "[I" ∈ wsX4_tongueOf := by decide +kernel
  have w3 : ∀ w ∈ wsX10, w ∈ wsX4_tongueOf := by decide +kernel
  refine Xi.of (cc := cX4_tongueOf) (nL := 2) (own := RX4) hDis (by decide) rfl [(0, .ref (ad 0)), (1, .int x)] rfl (Nat.le_of_ble_eq_true rfl) rfl ?_
  intro p e s m args below meth c A Qc C hE hlk htab hret
  refine tg_aload_n C dX4_tongueOf_0 1 rfl rfl 0 rfl ?_
  refine tg_get (T := TX4) (N := 8) (Cn := RX4) C 0 (by decide) (e_0 ad cy _) rfl w1 3 (by decide) w0 rfl rfl dX4_tongueOf_1 4 rfl ?_
  refine tg_get (T := TX1) (N := 5) (Cn := RX1) C 16 (by decide) (e_16 ad cy _) rfl w3 1 (by decide) w2 rfl rfl dX4_tongueOf_4 7 rfl ?_
  refine tg_aload_n C dX4_tongueOf_7 8 rfl rfl 0 rfl ?_
  refine tg_iload_n C dX4_tongueOf_8 9 rfl rfl 1 rfl ?_
  refine xg_callVi C hE 0 (by decide) (e_0 ad cy _) rfl (c_X4_slotOfTaught l hl0 D cy ad hDis σ (x := x)) (cwV 1 C.2.2.2.2.1 gX4_tongueOf_X4_slotOfTaught rfl rfl rfl (by decide +kernel) ⟨(Nat.le_of_ble_eq_true rfl), (Nat.le_of_ble_eq_true rfl)⟩) rfl rfl (Nat.le_of_ble_eq_true rfl) ⟨(Nat.le_of_ble_eq_true rfl), (Nat.le_of_ble_eq_true rfl)⟩ dX4_tongueOf_9 12 rfl (fun E τx H locs ls ce q hq hP hS9 hl9 h1 h2 h3 => xg_out C hlk htab (Nat.le_of_ble_eq_true rfl) (Nat.le_of_ble_eq_true rfl) hP hS9 h1 h2 h3 hq) (fun r9 τ9 h9 => ?_)
  obtain ⟨h9r, h0, h30, h9s⟩ := h9
  subst h9s
  subst h9r
  refine tg_iald C 18 (by decide) ((e_18 ad cy) _) (fsw (σ 17) x 30 0) rfl h30 (by decide) dX4_tongueOf_12 13 rfl ?_
  exact hret (Nat.le_of_ble_eq_true rfl) (Nat.le_of_ble_eq_true rfl) dX4_tongueOf_13 ⟨h0, h30, rfl, rfl⟩
set_option maxHeartbeats 4000000 in
set_option maxRecDepth 100000 in
theorem c_X4_withdraw (l : Launch) (hl0 : l.stackTraces = false) (D : va_G) (cy : Nat → ClassId) (ad : Nat → Nat) (hDis : Dis ad) (σ : sS) {ct : Nat → Nat → Nat} {mt : Nat → Nat} (hT : Ta σ ct mt) {x : Int32} {t ln : Nat} {rr : Nat → Nat} (hW : ¬ x < 0 → fsw (σ 17) x 30 0 < 30 → σ 18 (fsw (σ 17) x 30 0) = nI t ∧ t < 5 ∧ σ 19 (fsw (σ 17) x 30 0) = nI ln ∧ ln ≤ 17 ∧ (∀ p, p < ln → σ (21 + fsw (σ 17) x 30 0) p = nI (rr p) ∧ rr p < 36) ∧ (∀ r, cntF rr ln r ≤ ct t r) ∧ ln ≤ mt t) : Xi l yX4_withdraw wsX4_withdraw 7 112 1 6 D cy ad [.ref (ad 0), .int x] σ (fun r τ => ¬ x < 0 ∧ fsw (σ 17) x 30 0 < 30 ∧ r = nI ln ∧ τ 17 = upd (σ 17) (fsw (σ 17) x 30 0) (-1) ∧ Tl τ (6 + t) (11 + t) (fun r => ct t r - cntF rr ln r) (mt t - ln) ∧ ∀ j, j ≠ 17 → j ≠ 6 + t → j ≠ 11 + t → τ j = σ j) (fun E τ => E = xNS ∧ (x < 0 ∨ fsw (σ 17) x 30 0 = 30) ∧ σ = τ) := by
  have w0 : Cond.fieldLink RX4 23 "Tonguetell" "tallies" "[LTonguetell$Tally;" ∈ wsX4_withdraw := by decide +kernel
  have w1 : ∀ w ∈ wsX40, w ∈ wsX4_withdraw := by decide +kernel
  have w2 : Cond.fieldLink RX4 30 "Tonguetell" "shelf" "LTonguetell$Shelf;" ∈ wsX4_withdraw := by decide +kernel
  have w3 : Cond.fieldLink RX4 108 "Tonguetell$Shelf" "tongueIn" "[I" ∈ wsX4_withdraw := by decide +kernel
  have w4 : ∀ w ∈ wsX10, w ∈ wsX4_withdraw := by decide +kernel
  have w5 : Cond.fieldLink RX4 112 "Tonguetell$Shelf" "lengthIn" "[I" ∈ wsX4_withdraw := by decide +kernel
  have w6 : Cond.fieldLink RX4 115 "Tonguetell$Shelf" "runsIn" "[[I" ∈ wsX4_withdraw := by decide +kernel
  refine Xi.of (cc := cX4_withdraw) (nL := 6) (own := RX4) hDis (by decide) rfl [(0, .ref (ad 0)), (1, .int x)] rfl (Nat.le_of_ble_eq_true rfl) rfl ?_
  intro p e s m args below meth c A Qc C hE hlk htab hret
  refine tg_aload_n C dX4_withdraw_0 1 rfl rfl 0 rfl ?_
  refine tg_iload_n C dX4_withdraw_1 2 rfl rfl 1 rfl ?_
  refine xg_callVi C hE 0 (by decide) (e_0 ad cy _) rfl (c_X4_slotOfTaught l hl0 D cy ad hDis σ (x := x)) (cwV 1 C.2.2.2.2.1 gX4_withdraw_X4_slotOfTaught rfl rfl rfl (by decide +kernel) ⟨(Nat.le_of_ble_eq_true rfl), (Nat.le_of_ble_eq_true rfl)⟩) rfl rfl (Nat.le_of_ble_eq_true rfl) ⟨(Nat.le_of_ble_eq_true rfl), (Nat.le_of_ble_eq_true rfl)⟩ dX4_withdraw_2 5 rfl (fun E τx H locs ls ce q hq hP hS9 hl9 h1 h2 h3 => xg_out C hlk htab (Nat.le_of_ble_eq_true rfl) (Nat.le_of_ble_eq_true rfl) hP hS9 h1 h2 h3 hq) (fun r2 τ2 h2 => ?_)
  obtain ⟨h2r, h0, h30, h2s⟩ := h2
  subst h2s
  subst h2r
  obtain ⟨hw1, hw2, hw3, hw4, hw5, hw6, hw7⟩ := hW h0 h30
  refine tg_istore_n C dX4_withdraw_5 6 rfl rfl [(2, .int (nI (fsw (σ 17) x 30 0))), (0, .ref (ad 0)), (1, .int x)] (by decide) rfl ?_
  refine tg_aload_n C dX4_withdraw_6 7 rfl rfl 1 rfl ?_
  refine tg_get (T := TX4) (N := 8) (Cn := RX4) C 0 (by decide) (e_0 ad cy _) rfl w1 2 (by decide) w0 rfl rfl dX4_withdraw_7 10 rfl ?_
  refine tg_aload_n C dX4_withdraw_10 11 rfl rfl 1 rfl ?_
  refine tg_get (T := TX4) (N := 8) (Cn := RX4) C 0 (by decide) (e_0 ad cy _) rfl w1 3 (by decide) w2 rfl rfl dX4_withdraw_11 14 rfl ?_
  refine tg_get (T := TX1) (N := 5) (Cn := RX1) C 16 (by decide) (e_16 ad cy _) rfl w4 1 (by decide) w3 rfl rfl dX4_withdraw_14 17 rfl ?_
  refine tg_iload_n C dX4_withdraw_17 18 rfl rfl 0 rfl ?_
  refine tg_iald C 18 (by decide) ((e_18 ad cy) _) (fsw (σ 17) x 30 0) rfl h30 (by decide) dX4_withdraw_18 19 rfl ?_
  refine tg_top (y := nI t) (hw1) ?_
  refine tg_aald C 5 1 (by decide) (e_5 ad cy _) rfl rfl t rfl (by omega) (by decide) dX4_withdraw_19 20 rfl ?_
  refine tg_astore_n C dX4_withdraw_20 21 rfl rfl [(3, .ref (ad (6 + t))), (2, .int (nI (fsw (σ 17) x 30 0))), (0, .ref (ad 0)), (1, .int x)] (by decide) rfl ?_
  refine tg_aload_n C dX4_withdraw_21 22 rfl rfl 2 rfl ?_
  refine tg_get (T := TX4) (N := 8) (Cn := RX4) C 0 (by decide) (e_0 ad cy _) rfl w1 3 (by decide) w2 rfl rfl dX4_withdraw_22 25 rfl ?_
  refine tg_get (T := TX1) (N := 5) (Cn := RX1) C 16 (by decide) (e_16 ad cy _) rfl w4 2 (by decide) w5 rfl rfl dX4_withdraw_25 28 rfl ?_
  refine tg_iload_n C dX4_withdraw_28 29 rfl rfl 1 rfl ?_
  refine tg_iald C 19 (by decide) ((e_19 ad cy) _) (fsw (σ 17) x 30 0) rfl h30 (by decide) dX4_withdraw_29 30 rfl ?_
  refine tg_top (y := nI ln) (hw3) ?_
  refine tg_istore C dX4_withdraw_30 32 rfl [(4, .int (nI ln)), (3, .ref (ad (6 + t))), (2, .int (nI (fsw (σ 17) x 30 0))), (0, .ref (ad 0)), (1, .int x)] (by decide) rfl ?_
  refine tg_iconst C (nI 0) dX4_withdraw_32 33 rfl (by decide) ?_
  refine tg_istore C dX4_withdraw_33 35 rfl [(5, .int (nI 0)), (4, .int (nI ln)), (3, .ref (ad (6 + t))), (2, .int (nI (fsw (σ 17) x 30 0))), (0, .ref (ad 0)), (1, .int x)] (by decide) rfl ?_
  have L35 : ∀ (n35 : Nat) (i : Nat) (σ1 : sS), (i ≤ ln ∧ Tl σ1 (6 + t) (11 + t) (fun r => ct t r - cntF rr i r) (mt t - i) ∧ ∀ j, j ≠ 6 + t → j ≠ 11 + t → σ1 j = σ j) → ln - i < n35 → TT p l e (Rx 7 112 1 6) s m args below meth c D cy ad A 6 1 6 (vx_MQ below Qc (Xq D cy ad (fun E τ => E = xNS ∧ (x < 0 ∨ fsw (σ 17) x 30 0 = 30) ∧ σ = τ) A) args s 1 6 A) σ1 35 [(0, .ref (ad 0)), (1, .int x), (2, .int (nI (fsw (σ 17) x 30 0))), (3, .ref (ad (6 + t))), (4, .int (nI ln)), (5, .int (nI i))] [] := by
    intro n35
    induction n35 with
    | zero => intro i σ1 _ hn35; exact absurd hn35 (Nat.not_lt_zero _)
    | succ n35 ih35 =>
      intro i σ1 ⟨hi, hL, hf⟩ hn35
      refine tg_iload C dX4_withdraw_35 37 rfl 5 rfl ?_
      refine tg_iload C dX4_withdraw_37 39 rfl 4 rfl ?_
      refine tg_icmp_ge C 64 dX4_withdraw_39 (by decide) 42 rfl (fun c39 => ?_) (fun c39 => ?_)
      · -- to 64
        replace c39 : ln ≤ i := (nI_leI (by omega) (by omega)).mp c39
        refine tg_aload_n C dX4_withdraw_64 65 rfl rfl 0 rfl ?_
        refine tg_get (T := TX4) (N := 8) (Cn := RX4) C 0 (by decide) (e_0 ad cy _) rfl w1 3 (by decide) w2 rfl rfl dX4_withdraw_65 68 rfl ?_
        refine tg_iload_n C dX4_withdraw_68 69 rfl rfl 2 rfl ?_
        refine tg_callVv C 16 (by decide) (e_16 ad cy _) rfl (c_X1_free l D cy ad hDis σ1 (s9 := fsw (σ 17) x 30 0) h30) (cwV 1 C.2.2.2.2.1 gX4_withdraw_X1_free rfl rfl rfl (by decide +kernel) ⟨Nat.le_of_ble_eq_true rfl, Nat.le_of_ble_eq_true rfl⟩) rfl rfl (Nat.le_of_ble_eq_true rfl) ⟨Nat.le_of_ble_eq_true rfl, Nat.le_of_ble_eq_true rfl⟩ dX4_withdraw_69 72 rfl (fun τ69 h69 => ?_)
        refine tg_iload C dX4_withdraw_72 74 rfl 4 rfl ?_
        exact hret (Nat.le_of_ble_eq_true rfl) (Nat.le_of_ble_eq_true rfl) dX4_withdraw_74 ⟨h0, h30, rfl, by rw [h69]; show va_up _ _ _ _ = _; rw [va_up_self, hf 17 (by omega) (by omega)], by
            have hil : i = ln := by omega
            subst hil
            exact hL.fr (by rw [h69, su_ni _ _ _ (by omega)]) (by rw [h69, su_ni _ _ _ (by omega)]), fun j h1 h2 h3 => by rw [h69, su_ni _ _ _ h1]; exact hf j h2 h3⟩
      · -- on
        replace c39 : ¬ ln ≤ i := fun q => c39 ((nI_leI (by omega) (by omega)).mpr q)
        refine tg_aload_n C dX4_withdraw_42 43 rfl rfl 3 rfl ?_
        refine tg_aload_n C dX4_withdraw_43 44 rfl rfl 0 rfl ?_
        refine tg_get (T := TX4) (N := 8) (Cn := RX4) C 0 (by decide) (e_0 ad cy _) rfl w1 3 (by decide) w2 rfl rfl dX4_withdraw_44 47 rfl ?_
        refine tg_get (T := TX1) (N := 5) (Cn := RX1) C 16 (by decide) (e_16 ad cy _) rfl w4 3 (by decide) w6 rfl rfl dX4_withdraw_47 50 rfl ?_
        refine tg_iload_n C dX4_withdraw_50 51 rfl rfl 2 rfl ?_
        refine tg_aald C 20 2 (by decide) ((e_20 ad cy) _) rfl rfl (fsw (σ 17) x 30 0) rfl h30 (by decide) dX4_withdraw_51 52 rfl ?_
        refine tg_iload C dX4_withdraw_52 54 rfl 5 rfl ?_
        refine tg_iald C (21 + (fsw (σ 17) x 30 0)) (by omega) ((e_rowR ad cy (show fsw (σ 17) x 30 0 < 30 by omega)) _) i rfl (by omega) (by decide) dX4_withdraw_54 55 rfl ?_
        refine tg_top (y := nI (rr i)) ((congrFun (hf _ (by omega) (by omega)) i).trans (hw5 i (by omega)).1) ?_
        have hrm : 0 < (fun r => ct t r - cntF rr i r) (rr i) := by
          have h1 := cntF_mono rr (rr i) (show i + 1 ≤ ln by omega)
          rw [cntF_step, if_pos rfl] at h1
          have h2 := hw6 (rr i)
          show 0 < ct t (rr i) - cntF rr i (rr i)
          omega
        refine tg_callVv C (6 + t) (isTy.at (show t < 5 by omega)).lt ((isTy.at (show t < 5 by omega)).e ad cy _) rfl (c_X3_remove l D cy ad hDis σ1 (isTy.at hw2) hL (r9 := rr i) (hw5 i (by omega)).2 hrm (by omega)) (cwV 1 C.2.2.2.2.1 gX4_withdraw_X3_remove rfl rfl rfl (by decide +kernel) ⟨Nat.le_of_ble_eq_true rfl, Nat.le_of_ble_eq_true rfl⟩) rfl rfl (Nat.le_of_ble_eq_true rfl) ⟨Nat.le_of_ble_eq_true rfl, Nat.le_of_ble_eq_true rfl⟩ dX4_withdraw_55 58 rfl (fun τ55 h55 => ?_)
        refine tg_iinc C (nI (i + 1)) dX4_withdraw_58 61 rfl 5 rfl (nI_add i 1) [(5, .int (nI (i + 1))), (0, .ref (ad 0)), (1, .int x), (2, .int (nI (fsw (σ 17) x 30 0))), (3, .ref (ad (6 + t))), (4, .int (nI ln))] (by decide) rfl ?_
        refine tg_goto C 35 dX4_withdraw_61 (by decide) ?_
        refine tg_sub [1, 2, 3, 4, 5, 0] rfl ?_
        subst h55
        have hm9 := (hT t hw2).2.1
        refine ih35 (i + 1) _ ⟨by omega, ⟨by rw [su_eq, show mt t - i - 1 = mt t - (i + 1) by omega], by omega, fun r hr => ⟨?_, Nat.le_trans (Nat.sub_le _ _) ((hT t hw2).2.2 r hr).2⟩⟩, fun j h1 h2 => by rw [su_ni _ _ _ h1, su_ni _ _ _ h2]; exact hf j h1 h2⟩ (by omega)
        show _ = nI (ct t r - cntF rr (i + 1) r)
        rw [su_ni _ _ _ (by omega), su_ap, cntF_step]
        split
        · rename_i hh
          rw [if_pos hh.2.symm, hh.2, show ct t (rr i) - (cntF rr i (rr i) + 1) = ct t (rr i) - cntF rr i (rr i) - 1 by omega]
        · rename_i hh
          rw [if_neg (fun q => hh ⟨rfl, q.symm⟩)]
          exact (hL.2.2 r hr).1
  refine tg_sub [4, 5, 3, 2, 1, 0] rfl ?_
  have hT9 := hT t hw2
  exact L35 _ 0 σ ⟨by omega, ⟨hT9.1, hT9.2.1, fun r hr => ⟨(hT9.2.2 r hr).1, (hT9.2.2 r hr).2⟩⟩, fun j _ _ => rfl⟩ (Nat.lt_succ_self _)
end
section
/-! ===== rows that p27's law asks beside whole's: the rest of a division, a shift; contracts that never throw; the script's reader ===== -/
section More
variable {p : Program} {l : Launch} {e : Env} {R : Room} {s : State} {m : MethodId} {args : Array Value} {below : List Frame} {meth : Method} {c : Code} {D : va_G} {cy : Nat → ClassId} {ad : Nat → Nat} {A : Nat → Prop} {nL : Nat} {cells slots : Nat} {Q : State → Prop}
variable {cc : ByteArray} {own : String} {Ts : List Cond} {σ : sS} {pc : Nat} {lv : List (Nat × Value)} {st : List Value} {mc ms : Nat}
theorem tg_irem (C : Cx p s m args c cc nL own Ts D cy ad A) {x y : Int32} (z : Int32) (hne : ¬ y = 0) (hdg : decode cc pc = .ok (.irem, 1)) (pc' : Nat) (hp : pc + 1 = pc') (hz : x - x / y * y = z) (k : TT p l e R s m args below meth c D cy ad A nL cells slots Q σ pc' lv (.int z :: st)) : TT p l e R s m args below meth c D cy ad A nL cells slots Q σ pc lv (.int y :: .int x :: st) := by
  subst hp
  subst hz
  intro H locs ls hP hS hl
  exact lv_irem C.1 C.2.1 hdg hne (k H locs ls hP hS hl)
theorem tg_ishr (C : Cx p s m args c cc nL own Ts D cy ad A) {x y : Int32} (hdg : decode cc pc = .ok (.ishr, 1)) (pc' : Nat) (hp : pc + 1 = pc') (k : ∀ z : Int32, TT p l e R s m args below meth c D cy ad A nL cells slots Q σ pc' lv (.int z :: st)) : TT p l e R s m args below meth c D cy ad A nL cells slots Q σ pc lv (.int y :: .int x :: st) := by
  subst hp
  intro H locs ls hP hS hl
  exact lv_ishr C.1 C.2.1 hdg (k _ H locs ls hP hS hl)
/-- a method that may make mc cells and returns an int (or a truth value), what it calls never throwing to it -/
def Yi (l : Launch) (y : MethodName) (ws : List Cond) (fr lo mc ms : Nat) (D : va_G) (cy : Nat → ClassId) (ad : Nat → Nat) (a : List Value) (σ : sS) (post : Int32 → sS → Prop) : Prop := ∀ sz, Met l y ws (Rx fr lo mc ms) (PrX D cy ad a σ sz) (va_Qi post (Bw D cy ad) (Aw ad sz)) mc ms (Aw ad sz)
/-- a contract of a method that throws, where it can't throw -/
theorem Xi.yi {y : MethodName} {ws : List Cond} {fr lo mc ms : Nat} {a : List Value} {post post' : Int32 → sS → Prop} {qx : String → sS → Prop} (hM : Xi l y ws fr lo mc ms D cy ad a σ post qx) (h1 : ∀ r τ, post r τ → post' r τ) (h2 : ∀ E τ, ¬ qx E τ) : Yi l y ws fr lo mc ms D cy ad a σ post' := by
  intro sz p e ha hc hk s m args below hf happ hP hK
  obtain ⟨n, o, g1, g2, g3, g4⟩ := hM sz p e ha hc hk s m args below hf happ hP hK
  refine ⟨n, o, g1, g2, g3, ?_⟩
  rcases g4 with g4 | g4
  · obtain ⟨⟨⟨r, u, e1, e2, e3⟩, e4⟩, e5⟩ := g4
    exact ⟨⟨⟨r, u, e1, h1 r u e2, e3⟩, e4⟩, e5⟩
  · obtain ⟨q, -, E, ce, L, ⟨u, -, ⟨hx, -⟩, -⟩, -⟩ := g4
    exact absurd hx (h2 _ _)
theorem Yi.of0 {y : MethodName} {ws ws' : List Cond} {fr lo : Nat} {a : List Value} {Qc : Array Value → State → Outcome → State → Prop} {sz : Nat} {ret : Option FieldType} (hDis : Dis ad) (hy : plainName y.cls = true) (hw : ws = Cond.code y cc nL ret :: ws') (lv0 : List (Nat × Value)) (hlv : lv_args 0 a = lv0) (hle : (lg_sl a).length ≤ nL) (hown : y.cls = own)
    (body : ∀ (p : Program) (e : Env) (s : State) (m : MethodId) (below : List Frame) (meth : Method) (c : Code), s.heap.size = sz → Cx p s m a.toArray c cc nL own ws D cy ad (Aw ad sz) → meth.sig.returnType = ret → meth.locks = false → Ev (Aw ad sz) s s.heap → TT p l e (Rx fr lo mc ms) s m a.toArray below meth c D cy ad (Aw ad sz) nL 0 0 (MQ below Qc a.toArray s mc ms (Aw ad sz)) σ 0 lv0 []) : Met l y ws (Rx fr lo mc ms) (PrX D cy ad a σ sz) Qc mc ms (Aw ad sz) := by
  refine Met.ofW (cc := cc) (maxL := nL) (ret := ret) hy hw ?_
  intro p e s m args below meth c s₁ B hml hv
  obtain ⟨rfl, hsz, hP, hK, hE⟩ := hv
  have hts := atoms_spec (ws := ws) B.pre
  have hown' : s.vm.findClass own = some m.cls := hown ▸ findClass_of_methodNamed B.named
  rw [lg_entry_eq]
  exact body p e s m below meth c hsz ⟨B.exec, B.bytes, hml, hown', hts, hK, hDis, fun i hi => Or.inl ⟨i, hi, rfl⟩, fun q hq => Or.inr (hsz ▸ hq)⟩ B.returns B.notSynchronized hE s.heap [] _ hP va_S.rf (hlv ▸ lv_entry a hle)
theorem Yz.of {y : MethodName} {ws ws' : List Cond} {fr lo : Nat} {a : List Value} {post : Int32 → sS → Prop} (hDis : Dis ad) (hy : plainName y.cls = true) (hw : ws = Cond.code y cc nL (some .boolean) :: ws') (lv0 : List (Nat × Value)) (hlv : lv_args 0 a = lv0) (hle : (lg_sl a).length ≤ nL) (hown : y.cls = own)
    (body : ∀ (p : Program) (e : Env) (s : State) (m : MethodId) (args : Array Value) (below : List Frame) (meth : Method) (c : Code) (A : Nat → Prop) (Q : State → Prop), Cx p s m args c cc nL own ws D cy ad A → Ev A s s.heap → (∀ {pc cells slots : Nat} {lv : List (Nat × Value)} {v : Int32} {τ : sS}, cells ≤ mc → slots ≤ ms → decode cc pc = .ok (.ireturn, 1) → narrow .boolean (.int v) = .int v → post v τ → TT p l e (Rx fr lo mc ms) s m args below meth c D cy ad A nL cells slots Q τ pc lv [.int v]) → TT p l e (Rx fr lo mc ms) s m args below meth c D cy ad A nL 0 0 Q σ 0 lv0 []) : Yi l y ws fr lo mc ms D cy ad a σ post := by
  intro sz
  refine Yi.of0 hDis hy hw lv0 hlv hle hown ?_
  intro p e s m below meth c hsz C hr hlk hE
  subst hsz
  exact body p e s m a.toArray below meth c _ _ C hE (fun hc hs hdg hn hp => tg_widen hc hs (tg_zret C hr hlk hn hdg hp))
theorem tg_callYV (C : Cx p s m args c cc nL own Ts D cy ad A) (hE : Ev A s s.heap) {y : MethodName} {ws : List Cond} {fr lo index maxL n mc2 ms2 : Nat} {bytes : ByteArray} {ret : Option FieldType} (i : Nat) {ci N : Nat} {Cn : String} {T : u_T} {fs : List Value} (hi : i < 89) (he : ent ad cy i (σ i) = .inr (ci, fs)) (hc : vwCl[ci]? = some (Cn, T, N)) {As : List Value} {post : Int32 → sS → Prop} (hM : Yi l y ws fr lo mc2 ms2 D cy ad (Value.ref (ad i) :: As) σ post) (cw : CallW R s args own Cn index y bytes maxL ret ws (Rx fr lo mc2 ms2) mc2 ms2 n) (hn : As.length = n) {stk : List Value} (hst : stk = As.reverse ++ .ref (ad i) :: st) (hcat : (st.map fun v => v.category).sum ≤ 8) (hcl : cells + mc2 ≤ R.cells ∧ slots + ms2 ≤ R.slots) (hdg : decode cc pc = .ok (.invokevirtual index, 3)) (pc' : Nat) (hp : pc + 3 = pc')
    (kk : ∀ (r : Int32) (τ : sS), post r τ → TT p l e R s m args below meth c D cy ad A nL (cells + mc2) (slots + ms2) Q τ pc' lv (.int r :: st)) : TT p l e R s m args below meth c D cy ad A nL cells slots Q σ pc lv stk := by
  subst hp
  subst hst
  intro H locs ls hP hS hl
  exact va_calli (va_runV (As := As) (rest := st) ⟨C.1, C.2.1, C.2.2.1, C.2.2.2.1, C.2.2.2.2.1⟩ (hM H.size) cw ⟨PrX.blind, va_recv C.2.2.2.2.2.1 hP hc (q0 := i) (by rw [wld_at _ _ _ hi, he]), fun U hU hW => ⟨rfl, by rw [hU], by rw [hU]; exact hP, va_K.moved hW.alike C.2.2.2.2.2.1, hE.go hW hU hS.2.1 (fun q h => Aw.cx C hS.1 h)⟩⟩ rfl hn hl.1 rfl (lv_room hcat) hdg hcl) hS (fun q _ h => Aw.cx C hS.1 h) (fun q h => Aw.cx C hS.1 h) (fun r u t H1 locs1 ht hvm hw hB _ _ hS1 => kk r u hw H1 locs1 ls (by rw [← ht]; exact hB.1) hS1 hl)
theorem tg_callYS (C : Cx p s m args c cc nL own Ts D cy ad A) (hE : Ev A s s.heap) {y : MethodName} {ws : List Cond} {fr lo index maxL n mc2 ms2 : Nat} {bytes : ByteArray} {ret : Option FieldType} {As : List Value} {post : Int32 → sS → Prop} (hM : Yi l y ws fr lo mc2 ms2 D cy ad As σ post) (cw : CallB R s args own index y bytes maxL ret ws (Rx fr lo mc2 ms2) mc2 ms2 n ∧ (Cond.static y).before args s = true) (hn : As.length = n) {stk : List Value} (hst : stk = As.reverse ++ st) (hcat : (st.map fun v => v.category).sum ≤ 8) (hcl : cells + mc2 ≤ R.cells ∧ slots + ms2 ≤ R.slots) (hdg : decode cc pc = .ok (.invokestatic index, 3)) (pc' : Nat) (hp : pc + 3 = pc')
    (kk : ∀ (r : Int32) (τ : sS), post r τ → TT p l e R s m args below meth c D cy ad A nL (cells + mc2) (slots + ms2) Q τ pc' lv (.int r :: st)) : TT p l e R s m args below meth c D cy ad A nL cells slots Q σ pc lv stk := by
  subst hp
  subst hst
  intro H locs ls hP hS hl
  exact va_calli (va_runS (As := As) (rest := st) ⟨C.1, C.2.1, C.2.2.1, C.2.2.2.1, C.2.2.2.2.1⟩ (hM H.size) cw ⟨PrX.blind, fun U hU hW => ⟨rfl, by rw [hU], by rw [hU]; exact hP, va_K.moved hW.alike C.2.2.2.2.2.1, hE.go hW hU hS.2.1 (fun q h => Aw.cx C hS.1 h)⟩⟩ rfl hn hl.1 rfl (lv_room hcat) hdg hcl) hS (fun q _ h => Aw.cx C hS.1 h) (fun q h => Aw.cx C hS.1 h) (fun r u t H1 locs1 ht hvm hw hB _ _ hS1 => kk r u hw H1 locs1 ls (by rw [← ht]; exact hB.1) hS1 hl)
/-- a reader of the script: it gets the script's cell b, that no cell of the world is -/
def PrS (D : va_G) (cy : Nat → ClassId) (ad : Nat → Nat) (a : List Value) (σ : sS) (b L : Nat) (xs : Nat → Int32) (sz : Nat) : Array Value → State → Prop := va_Pc a (fun U => U.heap.size = sz ∧ va_P D vwCl (wld ad cy σ) U.heap ∧ va_K D vwCl (tysO cy) U ∧ va_X b L xs U U.heap ∧ b < U.heap.size ∧ ∀ i, i < 89 → b ≠ ad i)
theorem PrS.blind {a : List Value} {b L : Nat} {xs : Nat → Int32} {sz : Nat} : FrameBlind (PrS D cy ad a σ b L xs sz) := fun a U g mk q => by
  obtain ⟨q0, q1, qP, qK, qX, qb, qn⟩ := q
  exact ⟨q0, q1, qP, va_K.moved (u := U) (U := U.calling g mk a) (Vm.Alike.refl U.vm) qK, va_X.moved (u := U) (U := U.calling g mk a) (Vm.Alike.refl U.vm) qX, qb, qn⟩
def Si (l : Launch) (y : MethodName) (ws : List Cond) (fr lo : Nat) (D : va_G) (cy : Nat → ClassId) (ad : Nat → Nat) (a : List Value) (σ : sS) (b L : Nat) (xs : Nat → Int32) (post : Int32 → sS → Prop) : Prop := ∀ sz, Met l y ws (Rm fr lo) (PrS D cy ad a σ b L xs sz) (va_Qi post (Bw D cy ad) (Aw ad sz)) 0 0 (Aw ad sz)
theorem Si.of {y : MethodName} {ws ws' : List Cond} {fr lo : Nat} {a : List Value} {b L : Nat} {xs : Nat → Int32} {post : Int32 → sS → Prop} (hDis : Dis ad) (hy : plainName y.cls = true) (hw : ws = Cond.code y cc nL (some .int) :: ws') (lv0 : List (Nat × Value)) (hlv : lv_args 0 a = lv0) (hle : (lg_sl a).length ≤ nL) (hown : y.cls = own)
    (body : ∀ (p : Program) (e : Env) (s : State) (m : MethodId) (args : Array Value) (below : List Frame) (meth : Method) (c : Code) (A : Nat → Prop) (Q : State → Prop), Cx p s m args c cc nL own ws D cy ad A → va_X b L xs s s.heap → b < s.heap.size → ¬ A b → (∀ {pc : Nat} {lv : List (Nat × Value)} {v : Int32} {τ : sS}, decode cc pc = .ok (.ireturn, 1) → post v τ → TT p l e (Rm fr lo) s m args below meth c D cy ad A nL 0 0 Q τ pc lv [.int v]) → TT p l e (Rm fr lo) s m args below meth c D cy ad A nL 0 0 Q σ 0 lv0 []) : Si l y ws fr lo D cy ad a σ b L xs post := by
  intro sz
  refine Met.ofW (cc := cc) (maxL := nL) (ret := some .int) hy hw ?_
  intro p e s m args below meth c s₁ B hml hv
  obtain ⟨rfl, hsz, hP, hK, hX, hbl, hbn⟩ := hv
  subst hsz
  have hts := atoms_spec (ws := ws) B.pre
  have hown' : s.vm.findClass own = some m.cls := hown ▸ findClass_of_methodNamed B.named
  rw [lg_entry_eq]
  have C : Cx p s m a.toArray c cc nL own ws D cy ad (Aw ad s.heap.size) := ⟨B.exec, B.bytes, hml, hown', hts, hK, hDis, fun i hi => Or.inl ⟨i, hi, rfl⟩, fun q hq => Or.inr hq⟩
  have hbA : ¬ Aw ad s.heap.size b := fun h => by
    rcases h with ⟨i, hi, h⟩ | h
    · exact hbn i hi h
    · omega
  exact body p e s m a.toArray below meth c (Aw ad s.heap.size) _ C hX hbl hbA (fun hdg hp => tg_iret C B.returns B.notSynchronized hdg hp) s.heap [] _ hP va_S.rf (hlv ▸ lv_entry a hle)
theorem tg_callSS (C : Cx p s m args c cc nL own Ts D cy ad A) {b L : Nat} {xs : Nat → Int32} (hX : va_X b L xs s s.heap) (hbl : b < s.heap.size) (hbA : ¬ A b) {y : MethodName} {ws : List Cond} {fr lo index maxL n : Nat} {bytes : ByteArray} {ret : Option FieldType} {As : List Value} {post : Int32 → sS → Prop} (hM : Si l y ws fr lo D cy ad As σ b L xs post) (cw : CallB R s args own index y bytes maxL ret ws (Rm fr lo) 0 0 n ∧ (Cond.static y).before args s = true) (hn : As.length = n) {stk : List Value} (hst : stk = As.reverse ++ st) (hcat : (st.map fun v => v.category).sum ≤ 8) (hcl : cells ≤ R.cells ∧ slots ≤ R.slots) (hdg : decode cc pc = .ok (.invokestatic index, 3)) (pc' : Nat) (hp : pc + 3 = pc')
    (kk : ∀ (r : Int32) (τ : sS), post r τ → TT p l e R s m args below meth c D cy ad A nL cells slots Q τ pc' lv (.int r :: st)) : TT p l e R s m args below meth c D cy ad A nL cells slots Q σ pc lv stk := by
  subst hp
  subst hst
  intro H locs ls hP hS hl
  exact va_calli (va_runS (As := As) (rest := st) ⟨C.1, C.2.1, C.2.2.1, C.2.2.2.1, C.2.2.2.2.1⟩ (hM H.size) cw ⟨PrS.blind, fun U hU hW => ⟨rfl, by rw [hU], by rw [hU]; exact hP, va_K.moved hW.alike C.2.2.2.2.2.1, by rw [hU]; exact va_X.moved hW.alike (hX.kept (hS.2.1 b hbl hbA)), by rw [hU]; exact Nat.lt_of_lt_of_le hbl hS.1, fun i hi h => hbA (h ▸ C.2.2.2.2.2.2.2.1 i hi)⟩⟩ rfl hn hl.1 rfl (lv_room hcat) hdg hcl) hS (fun q _ h => Aw.cx C hS.1 h) (fun q h => Aw.cx C hS.1 h) (fun r u t H1 locs1 ht hvm hw hB _ _ hS1 => kk r u hw H1 locs1 ls (by rw [← ht]; exact hB.1) hS1 hl)
theorem tg_sld (C : Cx p s m args c cc nL own Ts D cy ad A) {b L : Nat} {xs : Nat → Int32} (hX : va_X b L xs s s.heap) (hbl : b < s.heap.size) (hbA : ¬ A b) {i : Int32} (hin : vp_in i L) (hdg : decode cc pc = .ok (.iaload, 1)) (pc' : Nat) (hp : pc + 1 = pc') (kk : TT p l e R s m args below meth c D cy ad A nL cells slots Q σ pc' lv (.int (xs i.toNatClampNeg) :: st)) : TT p l e R s m args below meth c D cy ad A nL cells slots Q σ pc lv (.int i :: .ref b :: st) := by
  subst hp
  intro H locs ls hP hS hl
  exact va_sld C.1 C.2.1 hX hbl hbA hS hin hdg (kk H locs ls hP hS hl)
theorem tg_slen (C : Cx p s m args c cc nL own Ts D cy ad A) {b L : Nat} {xs : Nat → Int32} (hX : va_X b L xs s s.heap) (hbl : b < s.heap.size) (hbA : ¬ A b) (hdg : decode cc pc = .ok (.arraylength, 1)) (pc' : Nat) (hp : pc + 1 = pc') (kk : TT p l e R s m args below meth c D cy ad A nL cells slots Q σ pc' lv (.int (nI L) :: st)) : TT p l e R s m args below meth c D cy ad A nL cells slots Q σ pc lv (.ref b :: st) := by
  subst hp
  intro H locs ls hP hS hl
  exact va_slen C.1 C.2.1 hX hbl hbA hS hdg (kk H locs ls hP hS hl)
end More
end
section
/-! ===== printed: decode rows of the law's small methods, the words of what they call ===== -/
theorem dL_cell_0 : decode cL_cell 0 = .ok (.iload_n 1, 1) := by decide +kernel
theorem dL_cell_1 : decode cL_cell 1 = .ok (.aload_n 0, 1) := by decide +kernel
theorem dL_cell_2 : decode cL_cell 2 = .ok (.arraylength, 1) := by decide +kernel
theorem dL_cell_3 : decode cL_cell 3 = .ok (.if_icmp .ge 9, 3) := by decide +kernel
theorem dL_cell_6 : decode cL_cell 6 = .ok (.aload_n 0, 1) := by decide +kernel
theorem dL_cell_7 : decode cL_cell 7 = .ok (.iload_n 1, 1) := by decide +kernel
theorem dL_cell_8 : decode cL_cell 8 = .ok (.iaload, 1) := by decide +kernel
theorem dL_cell_9 : decode cL_cell 9 = .ok (.goto 15, 3) := by decide +kernel
theorem dL_cell_12 : decode cL_cell 12 = .ok (.sipush 7919, 3) := by decide +kernel
theorem dL_cell_15 : decode cL_cell 15 = .ok (.iload_n 1, 1) := by decide +kernel
theorem dL_cell_16 : decode cL_cell 16 = .ok (.iconst 3, 1) := by decide +kernel
theorem dL_cell_17 : decode cL_cell 17 = .ok (.iadd, 1) := by decide +kernel
theorem dL_cell_18 : decode cL_cell 18 = .ok (.imul, 1) := by decide +kernel
theorem dL_cell_19 : decode cL_cell 19 = .ok (.iload_n 1, 1) := by decide +kernel
theorem dL_cell_20 : decode cL_cell 20 = .ok (.bipush 11, 2) := by decide +kernel
theorem dL_cell_22 : decode cL_cell 22 = .ok (.iadd, 1) := by decide +kernel
theorem dL_cell_23 : decode cL_cell 23 = .ok (.imul, 1) := by decide +kernel
theorem dL_cell_24 : decode cL_cell 24 = .ok (.ireturn, 1) := by decide +kernel
theorem dL_low_0 : decode cL_low 0 = .ok (.iload_n 0, 1) := by decide +kernel
theorem dL_low_1 : decode cL_low 1 = .ok (.ldc 7, 2) := by decide +kernel
theorem dL_low_3 : decode cL_low 3 = .ok (.iand, 1) := by decide +kernel
theorem dL_low_4 : decode cL_low 4 = .ok (.iload_n 1, 1) := by decide +kernel
theorem dL_low_5 : decode cL_low 5 = .ok (.irem, 1) := by decide +kernel
theorem dL_low_6 : decode cL_low 6 = .ok (.ireturn, 1) := by decide +kernel
set_option maxRecDepth 20000 in
theorem ggL_areCosts_X4_total : GoodIn wsL_areCosts wsX4_total := goodIn_ca (goodIn_r _ [5, 6, 7, 8, 9, 10, 4, 11, 12, 13, 14, 34, 35, 36, 37, 38, 39, 40, 41, 42, 43] (by decide +kernel) (by decide +kernel)) (goodIn_sub (fun _ h => List.mem_cons_of_mem _ (List.mem_append_right _ h)) (by decide +kernel))
set_option maxRecDepth 20000 in
theorem gL_areCosts_X4_total : GoodIn wsL_areCosts (wsV RL 8 RX4 yX4_total wsX4_total) := goodIn_app (goodIn_of _ (by decide +kernel)) ggL_areCosts_X4_total
set_option maxRecDepth 20000 in
theorem ggL_areCosts_X4_count : GoodIn wsL_areCosts wsX4_count := goodIn_ca (goodIn_r _ [18, 6, 19, 8, 9, 10, 4, 11, 12, 13, 14, 20, 21, 22, 34, 35, 36, 37, 38, 39, 40, 41, 42, 43] (by decide +kernel) (by decide +kernel)) (goodIn_sub (fun _ h => List.mem_cons_of_mem _ (List.mem_append_right _ h)) (by decide +kernel))
set_option maxRecDepth 20000 in
theorem gL_areCosts_X4_count : GoodIn wsL_areCosts (wsV RL 14 RX4 yX4_count wsX4_count) := goodIn_app (goodIn_of _ (by decide +kernel)) ggL_areCosts_X4_count
set_option maxRecDepth 20000 in
theorem ggL_areCosts_X4_cost : GoodIn wsL_areCosts wsX4_cost := goodIn_ca (goodIn_r _ [26, 6, 8, 9, 10, 4, 11, 12, 13, 14, 20, 21, 22, 27, 28, 29, 30, 31, 32, 33, 34, 35, 36, 37, 38, 39, 40, 41, 42, 43] (by decide +kernel) (by decide +kernel)) (goodIn_sub (fun _ h => List.mem_cons_of_mem _ (List.mem_append_right _ h)) (by decide +kernel))
set_option maxRecDepth 20000 in
theorem gL_areCosts_X4_cost : GoodIn wsL_areCosts (wsV RL 18 RX4 yX4_cost wsX4_cost) := goodIn_app (goodIn_of _ (by decide +kernel)) ggL_areCosts_X4_cost
theorem dL_areCosts_0 : decode cL_areCosts 0 = .ok (.aload_n 0, 1) := by decide +kernel
theorem dL_areCosts_1 : decode cL_areCosts 1 = .ok (.iload_n 1, 1) := by decide +kernel
theorem dL_areCosts_2 : decode cL_areCosts 2 = .ok (.invokevirtual 8, 3) := by decide +kernel
theorem dL_areCosts_5 : decode cL_areCosts 5 = .ok (.istore_n 2, 1) := by decide +kernel
theorem dL_areCosts_6 : decode cL_areCosts 6 = .ok (.iconst 0, 1) := by decide +kernel
theorem dL_areCosts_7 : decode cL_areCosts 7 = .ok (.istore_n 3, 1) := by decide +kernel
theorem dL_areCosts_8 : decode cL_areCosts 8 = .ok (.iconst 1, 1) := by decide +kernel
theorem dL_areCosts_9 : decode cL_areCosts 9 = .ok (.istore 4, 2) := by decide +kernel
theorem dL_areCosts_11 : decode cL_areCosts 11 = .ok (.iconst 0, 1) := by decide +kernel
theorem dL_areCosts_12 : decode cL_areCosts 12 = .ok (.istore 5, 2) := by decide +kernel
theorem dL_areCosts_14 : decode cL_areCosts 14 = .ok (.iload 5, 2) := by decide +kernel
theorem dL_areCosts_16 : decode cL_areCosts 16 = .ok (.bipush 36, 2) := by decide +kernel
theorem dL_areCosts_18 : decode cL_areCosts 18 = .ok (.if_icmp .ge 130, 3) := by decide +kernel
theorem dL_areCosts_21 : decode cL_areCosts 21 = .ok (.iload 4, 2) := by decide +kernel
theorem dL_areCosts_23 : decode cL_areCosts 23 = .ok (.ifCond .eq 125, 3) := by decide +kernel
theorem dL_areCosts_26 : decode cL_areCosts 26 = .ok (.aload_n 0, 1) := by decide +kernel
theorem dL_areCosts_27 : decode cL_areCosts 27 = .ok (.iload_n 1, 1) := by decide +kernel
theorem dL_areCosts_28 : decode cL_areCosts 28 = .ok (.iload 5, 2) := by decide +kernel
theorem dL_areCosts_30 : decode cL_areCosts 30 = .ok (.invokevirtual 14, 3) := by decide +kernel
theorem dL_areCosts_33 : decode cL_areCosts 33 = .ok (.istore 6, 2) := by decide +kernel
theorem dL_areCosts_35 : decode cL_areCosts 35 = .ok (.iconst 1, 1) := by decide +kernel
theorem dL_areCosts_36 : decode cL_areCosts 36 = .ok (.istore 7, 2) := by decide +kernel
theorem dL_areCosts_38 : decode cL_areCosts 38 = .ok (.aload_n 0, 1) := by decide +kernel
theorem dL_areCosts_39 : decode cL_areCosts 39 = .ok (.iload_n 1, 1) := by decide +kernel
theorem dL_areCosts_40 : decode cL_areCosts 40 = .ok (.iload 5, 2) := by decide +kernel
theorem dL_areCosts_42 : decode cL_areCosts 42 = .ok (.invokevirtual 18, 3) := by decide +kernel
theorem dL_areCosts_45 : decode cL_areCosts 45 = .ok (.istore 8, 2) := by decide +kernel
theorem dL_areCosts_47 : decode cL_areCosts 47 = .ok (.iconst 1, 1) := by decide +kernel
theorem dL_areCosts_48 : decode cL_areCosts 48 = .ok (.istore 9, 2) := by decide +kernel
theorem dL_areCosts_50 : decode cL_areCosts 50 = .ok (.iload 9, 2) := by decide +kernel
theorem dL_areCosts_52 : decode cL_areCosts 52 = .ok (.iload 8, 2) := by decide +kernel
theorem dL_areCosts_54 : decode cL_areCosts 54 = .ok (.if_icmp .ge 15, 3) := by decide +kernel
theorem dL_areCosts_57 : decode cL_areCosts 57 = .ok (.iload 7, 2) := by decide +kernel
theorem dL_areCosts_59 : decode cL_areCosts 59 = .ok (.iconst 2, 1) := by decide +kernel
theorem dL_areCosts_60 : decode cL_areCosts 60 = .ok (.imul, 1) := by decide +kernel
theorem dL_areCosts_61 : decode cL_areCosts 61 = .ok (.istore 7, 2) := by decide +kernel
theorem dL_areCosts_63 : decode cL_areCosts 63 = .ok (.iinc 9 1, 3) := by decide +kernel
theorem dL_areCosts_66 : decode cL_areCosts 66 = .ok (.goto (-16), 3) := by decide +kernel
theorem dL_areCosts_69 : decode cL_areCosts 69 = .ok (.iload_n 3, 1) := by decide +kernel
theorem dL_areCosts_70 : decode cL_areCosts 70 = .ok (.iload 6, 2) := by decide +kernel
theorem dL_areCosts_72 : decode cL_areCosts 72 = .ok (.iadd, 1) := by decide +kernel
theorem dL_areCosts_73 : decode cL_areCosts 73 = .ok (.istore_n 3, 1) := by decide +kernel
theorem dL_areCosts_74 : decode cL_areCosts 74 = .ok (.iload 8, 2) := by decide +kernel
theorem dL_areCosts_76 : decode cL_areCosts 76 = .ok (.ifCond .lt 63, 3) := by decide +kernel
theorem dL_areCosts_79 : decode cL_areCosts 79 = .ok (.iload 8, 2) := by decide +kernel
theorem dL_areCosts_81 : decode cL_areCosts 81 = .ok (.bipush 20, 2) := by decide +kernel
theorem dL_areCosts_83 : decode cL_areCosts 83 = .ok (.if_icmp .ge 56, 3) := by decide +kernel
theorem dL_areCosts_86 : decode cL_areCosts 86 = .ok (.iload 8, 2) := by decide +kernel
theorem dL_areCosts_88 : decode cL_areCosts 88 = .ok (.ifCond .ne 17, 3) := by decide +kernel
theorem dL_areCosts_91 : decode cL_areCosts 91 = .ok (.iload 6, 2) := by decide +kernel
theorem dL_areCosts_93 : decode cL_areCosts 93 = .ok (.iconst 1, 1) := by decide +kernel
theorem dL_areCosts_94 : decode cL_areCosts 94 = .ok (.iadd, 1) := by decide +kernel
theorem dL_areCosts_95 : decode cL_areCosts 95 = .ok (.iload_n 2, 1) := by decide +kernel
theorem dL_areCosts_96 : decode cL_areCosts 96 = .ok (.bipush 36, 2) := by decide +kernel
theorem dL_areCosts_98 : decode cL_areCosts 98 = .ok (.iadd, 1) := by decide +kernel
theorem dL_areCosts_99 : decode cL_areCosts 99 = .ok (.if_icmp .lt 40, 3) := by decide +kernel
theorem dL_areCosts_102 : decode cL_areCosts 102 = .ok (.goto 33, 3) := by decide +kernel
theorem dL_areCosts_105 : decode cL_areCosts 105 = .ok (.iload 6, 2) := by decide +kernel
theorem dL_areCosts_107 : decode cL_areCosts 107 = .ok (.iconst 1, 1) := by decide +kernel
theorem dL_areCosts_108 : decode cL_areCosts 108 = .ok (.iadd, 1) := by decide +kernel
theorem dL_areCosts_109 : decode cL_areCosts 109 = .ok (.iconst 2, 1) := by decide +kernel
theorem dL_areCosts_110 : decode cL_areCosts 110 = .ok (.imul, 1) := by decide +kernel
theorem dL_areCosts_111 : decode cL_areCosts 111 = .ok (.iload 7, 2) := by decide +kernel
theorem dL_areCosts_113 : decode cL_areCosts 113 = .ok (.imul, 1) := by decide +kernel
theorem dL_areCosts_114 : decode cL_areCosts 114 = .ok (.iload_n 2, 1) := by decide +kernel
theorem dL_areCosts_115 : decode cL_areCosts 115 = .ok (.bipush 36, 2) := by decide +kernel
theorem dL_areCosts_117 : decode cL_areCosts 117 = .ok (.iadd, 1) := by decide +kernel
theorem dL_areCosts_118 : decode cL_areCosts 118 = .ok (.if_icmp .lt 21, 3) := by decide +kernel
theorem dL_areCosts_121 : decode cL_areCosts 121 = .ok (.iload 6, 2) := by decide +kernel
theorem dL_areCosts_123 : decode cL_areCosts 123 = .ok (.iconst 1, 1) := by decide +kernel
theorem dL_areCosts_124 : decode cL_areCosts 124 = .ok (.iadd, 1) := by decide +kernel
theorem dL_areCosts_125 : decode cL_areCosts 125 = .ok (.iload 7, 2) := by decide +kernel
theorem dL_areCosts_127 : decode cL_areCosts 127 = .ok (.imul, 1) := by decide +kernel
theorem dL_areCosts_128 : decode cL_areCosts 128 = .ok (.iload_n 2, 1) := by decide +kernel
theorem dL_areCosts_129 : decode cL_areCosts 129 = .ok (.bipush 36, 2) := by decide +kernel
theorem dL_areCosts_131 : decode cL_areCosts 131 = .ok (.iadd, 1) := by decide +kernel
theorem dL_areCosts_132 : decode cL_areCosts 132 = .ok (.if_icmp .ge 7, 3) := by decide +kernel
theorem dL_areCosts_135 : decode cL_areCosts 135 = .ok (.iconst 1, 1) := by decide +kernel
theorem dL_areCosts_136 : decode cL_areCosts 136 = .ok (.goto 4, 3) := by decide +kernel
theorem dL_areCosts_139 : decode cL_areCosts 139 = .ok (.iconst 0, 1) := by decide +kernel
theorem dL_areCosts_140 : decode cL_areCosts 140 = .ok (.istore 4, 2) := by decide +kernel
theorem dL_areCosts_142 : decode cL_areCosts 142 = .ok (.iinc 5 1, 3) := by decide +kernel
theorem dL_areCosts_145 : decode cL_areCosts 145 = .ok (.goto (-131), 3) := by decide +kernel
theorem dL_areCosts_148 : decode cL_areCosts 148 = .ok (.iload 4, 2) := by decide +kernel
theorem dL_areCosts_150 : decode cL_areCosts 150 = .ok (.ifCond .eq 12, 3) := by decide +kernel
theorem dL_areCosts_153 : decode cL_areCosts 153 = .ok (.iload_n 3, 1) := by decide +kernel
theorem dL_areCosts_154 : decode cL_areCosts 154 = .ok (.iload_n 2, 1) := by decide +kernel
theorem dL_areCosts_155 : decode cL_areCosts 155 = .ok (.if_icmp .ne 7, 3) := by decide +kernel
theorem dL_areCosts_158 : decode cL_areCosts 158 = .ok (.iconst 1, 1) := by decide +kernel
theorem dL_areCosts_159 : decode cL_areCosts 159 = .ok (.goto 4, 3) := by decide +kernel
theorem dL_areCosts_162 : decode cL_areCosts 162 = .ok (.iconst 0, 1) := by decide +kernel
theorem dL_areCosts_163 : decode cL_areCosts 163 = .ok (.ireturn, 1) := by decide +kernel
set_option maxRecDepth 20000 in
theorem ggL_isCut_X4_runs : GoodIn wsL_isCut wsX4_runs := goodIn_r _ [5, 6, 7, 8, 9, 10, 11, 12, 150, 151, 152, 153, 154, 155, 156, 157, 158, 159] (by decide +kernel) (by decide +kernel)
set_option maxRecDepth 20000 in
theorem gL_isCut_X4_runs : GoodIn wsL_isCut (wsV RL 21 RX4 yX4_runs wsX4_runs) := goodIn_app (goodIn_of _ (by decide +kernel)) ggL_isCut_X4_runs
set_option maxRecDepth 20000 in
theorem ggL_isCut_X4_cutTongue : GoodIn wsL_isCut wsX4_cutTongue := goodIn_ca (goodIn_ca (goodIn_r _ [16, 17, 18, 19, 20, 21, 4, 22, 23, 24, 25, 26, 27, 28, 29, 30, 31, 6, 7, 8, 9, 10, 11, 12, 32, 33, 34, 35, 36, 37, 38, 39, 40, 41, 42, 43, 44, 45, 46, 47, 48, 49, 50, 51, 52, 53, 54, 55, 56, 57, 58, 59, 60, 61, 62, 63, 64, 65, 66, 67, 68, 69, 70, 71, 72, 73, 74, 75, 76, 77, 78, 79, 80, 81, 82, 83, 84, 85, 86, 87, 88, 89, 150, 151, 152, 153, 154, 155, 156, 157, 160, 161, 162, 163, 164, 165, 158, 159, 166, 167] (by decide +kernel) (by decide +kernel)) (goodIn_sub (fun _ h => List.mem_cons_of_mem _ (List.mem_append_left _ (List.mem_append_right _ h))) (by decide +kernel))) (goodIn_sub (fun _ h => List.mem_cons_of_mem _ (List.mem_append_right _ h)) (by decide +kernel))
set_option maxRecDepth 20000 in
theorem gL_isCut_X4_cutTongue : GoodIn wsL_isCut (wsV RL 25 RX4 yX4_cutTongue wsX4_cutTongue) := goodIn_app (goodIn_of _ (by decide +kernel)) ggL_isCut_X4_cutTongue
set_option maxRecDepth 20000 in
theorem ggL_isCut_X4_tongues : GoodIn wsL_isCut wsX4_tongues := goodIn_r _ [93, 25, 150, 151, 152, 153, 154, 155, 156, 157] (by decide +kernel) (by decide +kernel)
set_option maxRecDepth 20000 in
theorem gL_isCut_X4_tongues : GoodIn wsL_isCut (wsV RL 28 RX4 yX4_tongues wsX4_tongues) := goodIn_app (goodIn_of _ (by decide +kernel)) ggL_isCut_X4_tongues
set_option maxRecDepth 20000 in
theorem ggL_isCut_X4_runAt : GoodIn wsL_isCut wsX4_runAt := goodIn_ca (goodIn_r _ [97, 6, 26, 27, 28, 4, 29, 30, 31, 7, 8, 9, 10, 11, 12, 47, 48, 49, 50, 51, 52, 53, 54, 55, 150, 151, 152, 153, 154, 155, 156, 157, 158, 159] (by decide +kernel) (by decide +kernel)) (goodIn_sub (fun _ h => List.mem_cons_of_mem _ (List.mem_append_right _ h)) (by decide +kernel))
set_option maxRecDepth 20000 in
theorem gL_isCut_X4_runAt : GoodIn wsL_isCut (wsV RL 31 RX4 yX4_runAt wsX4_runAt) := goodIn_app (goodIn_of _ (by decide +kernel)) ggL_isCut_X4_runAt
set_option maxRecDepth 20000 in
theorem ggL_isCut_X4_cost : GoodIn wsL_isCut wsX4_cost := goodIn_ca (goodIn_r _ [101, 38, 102, 103, 104, 4, 105, 30, 31, 25, 106, 107, 108, 56, 57, 58, 59, 60, 61, 62, 150, 151, 152, 153, 154, 155, 156, 157, 166, 167] (by decide +kernel) (by decide +kernel)) (goodIn_sub (fun _ h => List.mem_cons_of_mem _ (List.mem_append_right _ h)) (by decide +kernel))
set_option maxRecDepth 20000 in
theorem gL_isCut_X4_cost : GoodIn wsL_isCut (wsV RL 18 RX4 yX4_cost wsX4_cost) := goodIn_app (goodIn_of _ (by decide +kernel)) ggL_isCut_X4_cost
set_option maxRecDepth 20000 in
theorem ggL_isCut_X4_textCost : GoodIn wsL_isCut wsX4_textCost := goodIn_ca (goodIn_r _ [112, 102, 103, 104, 4, 105, 30, 31, 25, 113, 114, 115, 116, 6, 38, 7, 8, 9, 10, 11, 12, 47, 48, 49, 50, 51, 52, 53, 54, 55, 56, 57, 58, 59, 60, 61, 62, 150, 151, 152, 153, 154, 155, 156, 157, 158, 159, 166, 167] (by decide +kernel) (by decide +kernel)) (goodIn_sub (fun _ h => List.mem_cons_of_mem _ (List.mem_append_right _ h)) (by decide +kernel))
set_option maxRecDepth 20000 in
theorem gL_isCut_X4_textCost : GoodIn wsL_isCut (wsV RL 34 RX4 yX4_textCost wsX4_textCost) := goodIn_app (goodIn_of _ (by decide +kernel)) ggL_isCut_X4_textCost
set_option maxRecDepth 20000 in
theorem ggL_isCut_X4_cutCost : GoodIn wsL_isCut wsX4_cutCost := goodIn_ca (goodIn_r _ [120, 17, 19, 20, 21, 4, 22, 23, 24, 25, 32, 33, 34, 35, 6, 36, 37, 38, 7, 8, 9, 10, 11, 12, 39, 40, 41, 42, 43, 44, 45, 46, 47, 48, 49, 50, 51, 52, 53, 54, 55, 56, 57, 58, 59, 60, 61, 62, 121, 122, 123, 124, 72, 68, 69, 70, 71, 73, 74, 75, 76, 77, 78, 79, 80, 81, 82, 83, 84, 85, 86, 87, 88, 89, 150, 151, 152, 153, 154, 155, 156, 157, 160, 161, 162, 163, 164, 165, 158, 159, 166, 167] (by decide +kernel) (by decide +kernel)) (goodIn_sub (fun _ h => List.mem_cons_of_mem _ (List.mem_append_left _ (List.mem_append_right _ h))) (by decide +kernel))
set_option maxRecDepth 20000 in
theorem gL_isCut_X4_cutCost : GoodIn wsL_isCut (wsV RL 37 RX4 yX4_cutCost wsX4_cutCost) := goodIn_app (goodIn_of _ (by decide +kernel)) ggL_isCut_X4_cutCost
set_option maxRecDepth 20000 in
theorem ggL_isCut_X4_stretches : GoodIn wsL_isCut wsX4_stretches := goodIn_ca (goodIn_r _ [128, 17, 19, 20, 21, 4, 22, 23, 24, 25, 32, 33, 34, 35, 6, 36, 37, 38, 7, 8, 9, 10, 11, 12, 39, 40, 41, 42, 43, 44, 45, 46, 47, 48, 49, 50, 51, 52, 53, 54, 55, 56, 57, 58, 59, 60, 61, 62, 63, 64, 65, 66, 67, 68, 69, 70, 71, 72, 73, 74, 75, 76, 77, 78, 79, 80, 81, 82, 83, 84, 85, 86, 87, 88, 89, 129, 130, 131, 132, 150, 151, 152, 153, 154, 155, 156, 157, 160, 161, 162, 163, 164, 165, 158, 159, 166, 167] (by decide +kernel) (by decide +kernel)) (goodIn_sub (fun _ h => List.mem_cons_of_mem _ (List.mem_append_left _ (List.mem_append_right _ h))) (by decide +kernel))
set_option maxRecDepth 20000 in
theorem gL_isCut_X4_stretches : GoodIn wsL_isCut (wsV RL 40 RX4 yX4_stretches wsX4_stretches) := goodIn_app (goodIn_of _ (by decide +kernel)) ggL_isCut_X4_stretches
set_option maxRecDepth 20000 in
theorem ggL_isCut_X4_cutCostByTrying : GoodIn wsL_isCut wsX4_cutCostByTrying := goodIn_ca (goodIn_r _ [136, 23, 24, 6, 137, 17, 19, 20, 21, 4, 22, 25, 32, 33, 34, 35, 36, 37, 38, 7, 8, 9, 10, 11, 12, 39, 40, 41, 42, 43, 44, 45, 46, 47, 48, 49, 50, 51, 52, 53, 54, 55, 56, 57, 58, 59, 60, 61, 62, 138, 139, 140, 141, 142, 143, 144, 145, 73, 146, 147, 148, 149, 86, 87, 88, 89, 150, 151, 152, 153, 154, 155, 156, 157, 158, 159, 160, 161, 162, 163, 164, 165, 166, 167] (by decide +kernel) (by decide +kernel)) (goodIn_sub (fun _ h => List.mem_cons_of_mem _ (List.mem_append_left _ (List.mem_append_right _ h))) (by decide +kernel))
set_option maxRecDepth 20000 in
theorem gL_isCut_X4_cutCostByTrying : GoodIn wsL_isCut (wsV RL 43 RX4 yX4_cutCostByTrying wsX4_cutCostByTrying) := goodIn_app (goodIn_of _ (by decide +kernel)) ggL_isCut_X4_cutCostByTrying
theorem dL_isCut_0 : decode cL_isCut 0 = .ok (.aload_n 0, 1) := by decide +kernel
theorem dL_isCut_1 : decode cL_isCut 1 = .ok (.invokevirtual 21, 3) := by decide +kernel
theorem dL_isCut_4 : decode cL_isCut 4 = .ok (.istore_n 3, 1) := by decide +kernel
theorem dL_isCut_5 : decode cL_isCut 5 = .ok (.iconst 0, 1) := by decide +kernel
theorem dL_isCut_6 : decode cL_isCut 6 = .ok (.istore 4, 2) := by decide +kernel
theorem dL_isCut_8 : decode cL_isCut 8 = .ok (.iconst 0, 1) := by decide +kernel
theorem dL_isCut_9 : decode cL_isCut 9 = .ok (.istore 5, 2) := by decide +kernel
theorem dL_isCut_11 : decode cL_isCut 11 = .ok (.iconst (-1), 1) := by decide +kernel
theorem dL_isCut_12 : decode cL_isCut 12 = .ok (.istore 6, 2) := by decide +kernel
theorem dL_isCut_14 : decode cL_isCut 14 = .ok (.iload_n 3, 1) := by decide +kernel
theorem dL_isCut_15 : decode cL_isCut 15 = .ok (.iload_n 2, 1) := by decide +kernel
theorem dL_isCut_16 : decode cL_isCut 16 = .ok (.ifCond .ne 7, 3) := by decide +kernel
theorem dL_isCut_19 : decode cL_isCut 19 = .ok (.iconst 0, 1) := by decide +kernel
theorem dL_isCut_20 : decode cL_isCut 20 = .ok (.goto 6, 3) := by decide +kernel
theorem dL_isCut_23 : decode cL_isCut 23 = .ok (.iload_n 2, 1) := by decide +kernel
theorem dL_isCut_24 : decode cL_isCut 24 = .ok (.iconst 1, 1) := by decide +kernel
theorem dL_isCut_25 : decode cL_isCut 25 = .ok (.iadd, 1) := by decide +kernel
theorem dL_isCut_26 : decode cL_isCut 26 = .ok (.if_icmp .ne 7, 3) := by decide +kernel
theorem dL_isCut_29 : decode cL_isCut 29 = .ok (.iconst 1, 1) := by decide +kernel
theorem dL_isCut_30 : decode cL_isCut 30 = .ok (.goto 4, 3) := by decide +kernel
theorem dL_isCut_33 : decode cL_isCut 33 = .ok (.iconst 0, 1) := by decide +kernel
theorem dL_isCut_34 : decode cL_isCut 34 = .ok (.istore 7, 2) := by decide +kernel
theorem dL_isCut_36 : decode cL_isCut 36 = .ok (.iconst 0, 1) := by decide +kernel
theorem dL_isCut_37 : decode cL_isCut 37 = .ok (.istore 8, 2) := by decide +kernel
theorem dL_isCut_39 : decode cL_isCut 39 = .ok (.iload 8, 2) := by decide +kernel
theorem dL_isCut_41 : decode cL_isCut 41 = .ok (.iload_n 3, 1) := by decide +kernel
theorem dL_isCut_42 : decode cL_isCut 42 = .ok (.if_icmp .ge 108, 3) := by decide +kernel
theorem dL_isCut_45 : decode cL_isCut 45 = .ok (.iload 7, 2) := by decide +kernel
theorem dL_isCut_47 : decode cL_isCut 47 = .ok (.ifCond .eq 103, 3) := by decide +kernel
theorem dL_isCut_50 : decode cL_isCut 50 = .ok (.aload_n 0, 1) := by decide +kernel
theorem dL_isCut_51 : decode cL_isCut 51 = .ok (.iload 8, 2) := by decide +kernel
theorem dL_isCut_53 : decode cL_isCut 53 = .ok (.invokevirtual 25, 3) := by decide +kernel
theorem dL_isCut_56 : decode cL_isCut 56 = .ok (.istore 9, 2) := by decide +kernel
theorem dL_isCut_58 : decode cL_isCut 58 = .ok (.iload 9, 2) := by decide +kernel
theorem dL_isCut_60 : decode cL_isCut 60 = .ok (.ifCond .lt 16, 3) := by decide +kernel
theorem dL_isCut_63 : decode cL_isCut 63 = .ok (.iload 9, 2) := by decide +kernel
theorem dL_isCut_65 : decode cL_isCut 65 = .ok (.aload_n 0, 1) := by decide +kernel
theorem dL_isCut_66 : decode cL_isCut 66 = .ok (.invokevirtual 28, 3) := by decide +kernel
theorem dL_isCut_69 : decode cL_isCut 69 = .ok (.if_icmp .ge 7, 3) := by decide +kernel
theorem dL_isCut_72 : decode cL_isCut 72 = .ok (.iconst 1, 1) := by decide +kernel
theorem dL_isCut_73 : decode cL_isCut 73 = .ok (.goto 4, 3) := by decide +kernel
theorem dL_isCut_76 : decode cL_isCut 76 = .ok (.iconst 0, 1) := by decide +kernel
theorem dL_isCut_77 : decode cL_isCut 77 = .ok (.istore 7, 2) := by decide +kernel
theorem dL_isCut_79 : decode cL_isCut 79 = .ok (.iload 4, 2) := by decide +kernel
theorem dL_isCut_81 : decode cL_isCut 81 = .ok (.iload 7, 2) := by decide +kernel
theorem dL_isCut_83 : decode cL_isCut 83 = .ok (.ifCond .eq 36, 3) := by decide +kernel
theorem dL_isCut_86 : decode cL_isCut 86 = .ok (.aload_n 0, 1) := by decide +kernel
theorem dL_isCut_87 : decode cL_isCut 87 = .ok (.iload 9, 2) := by decide +kernel
theorem dL_isCut_89 : decode cL_isCut 89 = .ok (.aload_n 0, 1) := by decide +kernel
theorem dL_isCut_90 : decode cL_isCut 90 = .ok (.iload 8, 2) := by decide +kernel
theorem dL_isCut_92 : decode cL_isCut 92 = .ok (.invokevirtual 31, 3) := by decide +kernel
theorem dL_isCut_95 : decode cL_isCut 95 = .ok (.invokevirtual 18, 3) := by decide +kernel
theorem dL_isCut_98 : decode cL_isCut 98 = .ok (.iload 6, 2) := by decide +kernel
theorem dL_isCut_100 : decode cL_isCut 100 = .ok (.ifCond .lt 10, 3) := by decide +kernel
theorem dL_isCut_103 : decode cL_isCut 103 = .ok (.iload 6, 2) := by decide +kernel
theorem dL_isCut_105 : decode cL_isCut 105 = .ok (.iload 9, 2) := by decide +kernel
theorem dL_isCut_107 : decode cL_isCut 107 = .ok (.if_icmp .ne 7, 3) := by decide +kernel
theorem dL_isCut_110 : decode cL_isCut 110 = .ok (.iconst 0, 1) := by decide +kernel
theorem dL_isCut_111 : decode cL_isCut 111 = .ok (.goto 4, 3) := by decide +kernel
theorem dL_isCut_114 : decode cL_isCut 114 = .ok (.iload_n 1, 1) := by decide +kernel
theorem dL_isCut_115 : decode cL_isCut 115 = .ok (.iadd, 1) := by decide +kernel
theorem dL_isCut_116 : decode cL_isCut 116 = .ok (.goto 4, 3) := by decide +kernel
theorem dL_isCut_119 : decode cL_isCut 119 = .ok (.iconst 0, 1) := by decide +kernel
theorem dL_isCut_120 : decode cL_isCut 120 = .ok (.iadd, 1) := by decide +kernel
theorem dL_isCut_121 : decode cL_isCut 121 = .ok (.istore 4, 2) := by decide +kernel
theorem dL_isCut_123 : decode cL_isCut 123 = .ok (.iload 5, 2) := by decide +kernel
theorem dL_isCut_125 : decode cL_isCut 125 = .ok (.iload 9, 2) := by decide +kernel
theorem dL_isCut_127 : decode cL_isCut 127 = .ok (.iload 6, 2) := by decide +kernel
theorem dL_isCut_129 : decode cL_isCut 129 = .ok (.if_icmp .ne 7, 3) := by decide +kernel
theorem dL_isCut_132 : decode cL_isCut 132 = .ok (.iconst 0, 1) := by decide +kernel
theorem dL_isCut_133 : decode cL_isCut 133 = .ok (.goto 4, 3) := by decide +kernel
theorem dL_isCut_136 : decode cL_isCut 136 = .ok (.iconst 1, 1) := by decide +kernel
theorem dL_isCut_137 : decode cL_isCut 137 = .ok (.iadd, 1) := by decide +kernel
theorem dL_isCut_138 : decode cL_isCut 138 = .ok (.istore 5, 2) := by decide +kernel
theorem dL_isCut_140 : decode cL_isCut 140 = .ok (.iload 9, 2) := by decide +kernel
theorem dL_isCut_142 : decode cL_isCut 142 = .ok (.istore 6, 2) := by decide +kernel
theorem dL_isCut_144 : decode cL_isCut 144 = .ok (.iinc 8 1, 3) := by decide +kernel
theorem dL_isCut_147 : decode cL_isCut 147 = .ok (.goto (-108), 3) := by decide +kernel
theorem dL_isCut_150 : decode cL_isCut 150 = .ok (.iconst 0, 1) := by decide +kernel
theorem dL_isCut_151 : decode cL_isCut 151 = .ok (.istore 8, 2) := by decide +kernel
theorem dL_isCut_153 : decode cL_isCut 153 = .ok (.iload 8, 2) := by decide +kernel
theorem dL_isCut_155 : decode cL_isCut 155 = .ok (.aload_n 0, 1) := by decide +kernel
theorem dL_isCut_156 : decode cL_isCut 156 = .ok (.invokevirtual 28, 3) := by decide +kernel
theorem dL_isCut_159 : decode cL_isCut 159 = .ok (.if_icmp .ge 32, 3) := by decide +kernel
theorem dL_isCut_162 : decode cL_isCut 162 = .ok (.iload 7, 2) := by decide +kernel
theorem dL_isCut_164 : decode cL_isCut 164 = .ok (.ifCond .eq 27, 3) := by decide +kernel
theorem dL_isCut_167 : decode cL_isCut 167 = .ok (.aload_n 0, 1) := by decide +kernel
theorem dL_isCut_168 : decode cL_isCut 168 = .ok (.iload 8, 2) := by decide +kernel
theorem dL_isCut_170 : decode cL_isCut 170 = .ok (.invokevirtual 34, 3) := by decide +kernel
theorem dL_isCut_173 : decode cL_isCut 173 = .ok (.iload 4, 2) := by decide +kernel
theorem dL_isCut_175 : decode cL_isCut 175 = .ok (.if_icmp .lt 7, 3) := by decide +kernel
theorem dL_isCut_178 : decode cL_isCut 178 = .ok (.iconst 1, 1) := by decide +kernel
theorem dL_isCut_179 : decode cL_isCut 179 = .ok (.goto 4, 3) := by decide +kernel
theorem dL_isCut_182 : decode cL_isCut 182 = .ok (.iconst 0, 1) := by decide +kernel
theorem dL_isCut_183 : decode cL_isCut 183 = .ok (.istore 7, 2) := by decide +kernel
theorem dL_isCut_185 : decode cL_isCut 185 = .ok (.iinc 8 1, 3) := by decide +kernel
theorem dL_isCut_188 : decode cL_isCut 188 = .ok (.goto (-35), 3) := by decide +kernel
theorem dL_isCut_191 : decode cL_isCut 191 = .ok (.iload 7, 2) := by decide +kernel
theorem dL_isCut_193 : decode cL_isCut 193 = .ok (.ifCond .eq 39, 3) := by decide +kernel
theorem dL_isCut_196 : decode cL_isCut 196 = .ok (.aload_n 0, 1) := by decide +kernel
theorem dL_isCut_197 : decode cL_isCut 197 = .ok (.invokevirtual 37, 3) := by decide +kernel
theorem dL_isCut_200 : decode cL_isCut 200 = .ok (.iload 4, 2) := by decide +kernel
theorem dL_isCut_202 : decode cL_isCut 202 = .ok (.if_icmp .ne 30, 3) := by decide +kernel
theorem dL_isCut_205 : decode cL_isCut 205 = .ok (.aload_n 0, 1) := by decide +kernel
theorem dL_isCut_206 : decode cL_isCut 206 = .ok (.invokevirtual 40, 3) := by decide +kernel
theorem dL_isCut_209 : decode cL_isCut 209 = .ok (.iload 5, 2) := by decide +kernel
theorem dL_isCut_211 : decode cL_isCut 211 = .ok (.if_icmp .ne 21, 3) := by decide +kernel
theorem dL_isCut_214 : decode cL_isCut 214 = .ok (.iload_n 2, 1) := by decide +kernel
theorem dL_isCut_215 : decode cL_isCut 215 = .ok (.iconst 5, 1) := by decide +kernel
theorem dL_isCut_216 : decode cL_isCut 216 = .ok (.if_icmp .gt 12, 3) := by decide +kernel
theorem dL_isCut_219 : decode cL_isCut 219 = .ok (.aload_n 0, 1) := by decide +kernel
theorem dL_isCut_220 : decode cL_isCut 220 = .ok (.invokevirtual 43, 3) := by decide +kernel
theorem dL_isCut_223 : decode cL_isCut 223 = .ok (.iload 4, 2) := by decide +kernel
theorem dL_isCut_225 : decode cL_isCut 225 = .ok (.if_icmp .ne 7, 3) := by decide +kernel
theorem dL_isCut_228 : decode cL_isCut 228 = .ok (.iconst 1, 1) := by decide +kernel
theorem dL_isCut_229 : decode cL_isCut 229 = .ok (.goto 4, 3) := by decide +kernel
theorem dL_isCut_232 : decode cL_isCut 232 = .ok (.iconst 0, 1) := by decide +kernel
theorem dL_isCut_233 : decode cL_isCut 233 = .ok (.ireturn, 1) := by decide +kernel
end
section
/-! ===== plain words for p27: the least power, the counts' sum, the told cut's cost ===== -/
theorem dbl_lt : ∀ (f a b k : Nat), k < dbl f a b → a * 2 ^ k < b
  | 0, _, _, k, h => absurd h (Nat.not_lt_zero k)
  | f + 1, a, b, k, h => by
    unfold dbl at h
    split at h
    · rename_i hab
      cases k with
      | zero => simpa using hab
      | succ j =>
        have h1 := dbl_lt f (a * 2) b j (by omega)
        rw [Nat.pow_succ, Nat.mul_comm (2 ^ j) 2, ← Nat.mul_assoc]
        exact h1
    · omega
theorem dbl_ge : ∀ (f a b : Nat), b ≤ a * 2 ^ f → b ≤ a * 2 ^ dbl f a b
  | 0, _, _, h => h
  | f + 1, a, b, h => by
    unfold dbl
    split
    · have h1 := dbl_ge f (a * 2) b (by rw [Nat.mul_assoc, Nat.mul_comm 2, ← Nat.pow_succ]; exact h)
      rw [Nat.pow_succ, Nat.mul_comm (2 ^ _) 2, ← Nat.mul_assoc]
      exact h1
    · simp only [Nat.pow_zero, Nat.mul_one]
      omega
theorem costN_zero {c m : Nat} (hm : m ≤ 600) (h : costN c m = 0) : m + 36 ≤ c + 1 := by
  have h1 := dbl_ge 10 (c + 1) (m + 36) (by simp only [Nat.reducePow]; omega)
  rw [show dbl 10 (c + 1) (m + 36) = 0 from h] at h1
  simpa using h1
theorem costN_pos {c m : Nat} (hm : m ≤ 600) (h : 0 < costN c m) : m + 36 ≤ (c + 1) * 2 * 2 ^ (costN c m - 1) ∧ (c + 1) * 2 ^ (costN c m - 1) < m + 36 := by
  have h1 := dbl_ge 10 (c + 1) (m + 36) (by simp only [Nat.reducePow]; omega)
  have h2 := dbl_lt 10 (c + 1) (m + 36) (costN c m - 1) (show costN c m - 1 < costN c m by omega)
  refine ⟨?_, h2⟩
  have e : costN c m = (costN c m - 1) + 1 := by omega
  rw [show dbl 10 (c + 1) (m + 36) = costN c m from rfl, e, Nat.pow_succ, Nat.mul_comm (2 ^ _) 2, ← Nat.mul_assoc] at h1
  exact h1
/-- what the law multiplies up -/
theorem pow_le9 {d : Nat} (h : d ≤ 10) : 2 ^ (d - 1) ≤ 512 := Nat.pow_le_pow_right (by decide) (show d - 1 ≤ 9 by omega)
theorem sm_add (f g : Nat → Nat) : ∀ n, sm (fun k => f k + g k) n = sm f n + sm g n
  | 0 => rfl
  | n + 1 => by
    show sm (fun k => f k + g k) n + (f n + g n) = sm f n + f n + (sm g n + g n)
    rw [sm_add f g n]
    omega
theorem sm_zero : ∀ n, sm (fun _ => 0) n = 0
  | 0 => rfl
  | n + 1 => by
    show sm (fun _ => 0) n + 0 = 0
    rw [sm_zero n]
theorem sm_one (v : Nat) : ∀ n, sm (fun r => if v = r then 1 else 0) n = if v < n then 1 else 0
  | 0 => by simp [sm]
  | n + 1 => by
    show sm (fun r => if v = r then 1 else 0) n + (if v = n then 1 else 0) = _
    rw [sm_one v n]
    split <;> split <;> split <;> omega
theorem sm_ownF {n : Nat} {w : Nat → Nat} (h : ∀ k, rn n w k < 36) (f : Nat) : ∀ ln, sm (ownF n w f ln) 36 = ln
  | 0 => sm_zero 36
  | ln + 1 => by
    have e : ownF n w f (ln + 1) = fun r => ownF n w f ln r + (if rn n w (f + ln) = r then 1 else 0) := rfl
    rw [e, sm_add, sm_ownF h f ln, sm_one, if_pos (h _)]
theorem sm_upd (g : Int32 → Nat) (f : Nat → Int32) (s : Nat) (x : Int32) : ∀ n, sm (fun k => g (upd f s x k)) n = if s < n then sm (fun k => g (f k)) n + g x - g (f s) else sm (fun k => g (f k)) n
  | 0 => by simp [sm]
  | n + 1 => by
    show sm (fun k => g (upd f s x k)) n + g (upd f s x n) = _
    rw [sm_upd g f s x n]
    have e1 : sm (fun k => g (f k)) (n + 1) = sm (fun k => g (f k)) n + g (f n) := rfl
    rcases Nat.lt_trichotomy s n with h | h | h
    · rw [if_pos h, if_pos (by omega), e1, show upd f s x n = f n from if_neg (by omega)]
      have h2 : g (f s) ≤ sm (fun k => g (f k)) n := by
        clear e1
        induction n with
        | zero => omega
        | succ m ih =>
          show _ ≤ sm (fun k => g (f k)) m + g (f m)
          by_cases hm : s = m
          · subst hm; omega
          · have := ih (by omega); omega
      omega
    · subst h
      rw [if_neg (by omega), if_pos (by omega), e1, show upd f s x s = x from if_pos rfl]
      omega
    · rw [if_neg (by omega), if_neg (by omega), e1, show upd f s x n = f n from if_neg (by omega)]
/-- how many of the 30 slots hold a text -/
def occ (f : Nat → Int32) : Nat := sm (fun k => if f k = -1 then 0 else 1) 30
theorem occ_free {f : Nat → Int32} (h : occ f < 30) : fsw f (-1) 30 0 < 30 := by
  have h30 := fsw_30 f (-1)
  refine Nat.lt_of_le_of_ne h30 fun e => ?_
  have hall : ∀ k, k < 30 → (if f k = -1 then 0 else 1) = 1 := fun k hk => if_neg (fsw_no f (-1) 30 0 k (by omega) (by omega))
  have : occ f = sm (fun _ => 1) 30 := sm_congr 30 hall
  rw [this] at h
  exact absurd h (by decide)
theorem occ_take {f : Nat → Int32} {s : Nat} {x : Int32} (hs : s < 30) (h1 : f s = -1) (h2 : ¬ x = -1) : occ (upd f s x) = occ f + 1 := by
  have h := sm_upd (fun y => if y = -1 then 0 else 1) f s x 30
  rw [if_pos hs] at h
  show sm _ 30 = sm _ 30 + 1
  rw [h, h1, if_neg h2, if_pos rfl]
  rfl
theorem occ_drop {f : Nat → Int32} {s : Nat} (hs : s < 30) (h1 : ¬ f s = -1) : occ (upd f s (-1)) + 1 = occ f := by
  have h := sm_upd (fun y => if y = -1 then 0 else 1) f s (-1) 30
  rw [if_pos hs] at h
  have h2 : 1 ≤ occ f := by
    have hk : ∀ n, s < n → 1 ≤ sm (fun k => if f k = -1 then 0 else 1) n := by
      intro n
      induction n with
      | zero => intro h; omega
      | succ m ih =>
        intro hm
        show 1 ≤ sm _ m + (if f m = -1 then 0 else 1)
        by_cases e : s = m
        · subst e; rw [if_neg h1]; omega
        · have := ih (by omega); omega
    exact hk 30 hs
  have h3 : occ (upd f s (-1)) = occ f + 0 - 1 := by
    show sm _ 30 = _
    rw [h, if_neg h1, if_pos rfl]
    rfl
  omega
theorem fsw_upd {f : Nat → Int32} {s nx : Nat} (hs : s < 30) (hnx : nx ≤ 10000) (h : ∀ k, k < 30 → f k = -1 ∨ ∃ m, m < nx ∧ f k = nI m) : fsw (upd f s (nI nx)) (nI nx) 30 0 = s := by
  have h1 : upd f s (nI nx) s = nI nx := if_pos rfl
  have hle : fsw (upd f s (nI nx)) (nI nx) 30 0 ≤ s := Nat.le_of_not_lt fun hlt => fsw_no (upd f s (nI nx)) (nI nx) 30 0 s (by omega) hlt h1
  have hat := fsw_at (upd f s (nI nx)) (nI nx) 30 0 (by omega)
  generalize fsw (upd f s (nI nx)) (nI nx) 30 0 = j at hle hat
  by_cases e : j = s
  · exact e
  · rw [show upd f s (nI nx) j = f j from if_neg e] at hat
    rcases h j (by omega) with h | ⟨m, hm, h⟩
    · rw [h] at hat
      exact absurd hat.symm (m1_ne (by omega))
    · rw [h] at hat
      have := (nI_eq (by omega) (by omega)).mp hat
      omega
/-- what the first i runs of the told cut cost -/
def tcs (k : Nat → Nat → Nat) (pr tc N i : Nat) : Nat := sm (fun j => k j (tdb k pr tc N (j + 1) - 1) + chg pr (tdb k pr tc N j) (tdb k pr tc N (j + 1) - 1)) i
theorem lb_at {k : Nat → Nat → Nat} {pr tc N : Nat} (j b : Nat) : lb k pr tc N (j + 1) b = rb k pr tc N (j + 1) (amin (fun u => rb k pr tc N (j + 1) u + chg pr b u) tc) + chg pr b (amin (fun u => rb k pr tc N (j + 1) u + chg pr b u) tc) := by
  unfold lb
  rw [if_neg (by omega)]
theorem tcs_lb {k : Nat → Nat → Nat} {pr tc N : Nat} : ∀ i, i ≤ N → tcs k pr tc N i + lb k pr tc N (N - i) (tdb k pr tc N i) = lb k pr tc N N 0
  | 0, _ => by
    show 0 + lb k pr tc N (N - 0) 0 = _
    rw [Nat.zero_add, Nat.sub_zero]
  | i + 1, h => by
    have ih := tcs_lb (k := k) (pr := pr) (tc := tc) (N := N) i (by omega)
    obtain ⟨j, hj⟩ : ∃ j, N - i = j + 1 := ⟨N - i - 1, by omega⟩
    have ej : N - (i + 1) = j := by omega
    have hi : N - (j + 1) = i := by omega
    have et : tdb k pr tc N (i + 1) = amin (fun u => rb k pr tc N (j + 1) u + chg pr (tdb k pr tc N i) u) tc + 1 := by
      show amin (fun u => rb k pr tc N (N - i) u + chg pr (tdb k pr tc N i) u) tc + 1 = _
      rw [hj]
    rw [hj, lb_at] at ih
    rw [ej]
    show tcs k pr tc N i + (k i (tdb k pr tc N (i + 1) - 1) + chg pr (tdb k pr tc N i) (tdb k pr tc N (i + 1) - 1)) + _ = _
    rw [et, Nat.add_sub_cancel]
    rw [rb_succ, hi] at ih
    omega
theorem tcs_end {k : Nat → Nat → Nat} {pr tc N : Nat} : tcs k pr tc N N = lb k pr tc N N 0 := by
  have h := tcs_lb (k := k) (pr := pr) (tc := tc) (N := N) N (Nat.le_refl _)
  rw [Nat.sub_self] at h
  rw [← h]
  rfl
theorem chg_same (pr t : Nat) : chg pr (t + 1) t = 0 := if_pos (Or.inr rfl)
theorem chg_none (pr t : Nat) : chg pr 0 t = 0 := if_pos (Or.inl rfl)
theorem rb_one {k : Nat → Nat → Nat} {pr tc N t : Nat} (ht : t < tc) : ∀ j, j ≤ N → sm (fun i => k i t) (N - j) + rb k pr tc N j t ≤ sm (fun i => k i t) N
  | 0, _ => by
    show sm _ (N - 0) + 0 ≤ _
    rw [Nat.sub_zero]
    exact Nat.le_refl _
  | j + 1, h => by
    have ih := rb_one (k := k) (pr := pr) (N := N) ht j (by omega)
    have h1 : lb k pr tc N j (t + 1) ≤ rb k pr tc N j t := by
      cases j with
      | zero => exact Nat.zero_le _
      | succ i =>
        rw [lb_at]
        have := amin_min (fun u => rb k pr tc N (i + 1) u + chg pr (t + 1) u) tc t ht
        simp only [chg_same] at this
        omega
    rw [rb_succ]
    have e : sm (fun i => k i t) (N - j) = sm (fun i => k i t) (N - (j + 1)) + k (N - (j + 1)) t := by
      rw [show N - j = N - (j + 1) + 1 by omega]
      rfl
    omega
/-- no cut by one tongue alone costs less -/
theorem lb_one {k : Nat → Nat → Nat} {pr tc N t : Nat} (ht : t < tc) : lb k pr tc N N 0 ≤ sm (fun i => k i t) N := by
  have h := rb_one (k := k) (pr := pr) (N := N) ht N (Nat.le_refl _)
  rw [Nat.sub_self, show sm (fun i => k i t) 0 = 0 from rfl, Nat.zero_add] at h
  refine Nat.le_trans ?_ h
  cases N with
  | zero => exact Nat.zero_le _
  | succ i =>
    rw [lb_at]
    have := amin_min (fun u => rb k pr tc (i + 1) (i + 1) u + chg pr 0 u) tc t ht
    simp only [chg_none] at this ⊢
    omega
theorem lb_170 {k : Nat → Nat → Nat} {pr tc N : Nat} (hk : ∀ p t, p < N → t < tc → k p t ≤ 10) (hpr : pr ≤ 100) (htc : 0 < tc) (hN : N ≤ 17) : lb k pr tc N N 0 ≤ 170 := by
  refine Nat.le_trans (lb_one htc) ?_
  exact Nat.le_trans (sm_le (B := 10) N (fun p hp => hk p 0 hp htc)) (by omega)
theorem tcs_le {k : Nat → Nat → Nat} {pr tc N : Nat} (hk : ∀ p t, p < N → t < tc → k p t ≤ 10) (hpr : pr ≤ 100) (htc : 0 < tc) {i : Nat} (hi : i ≤ N) (hN : N ≤ 17) : tcs k pr tc N i ≤ 170 := by
  have h1 := tcs_lb (k := k) (pr := pr) (tc := tc) (N := N) i hi
  have h2 := lb_170 hk hpr htc hN
  omega
theorem tdb_in {k : Nat → Nat → Nat} {pr tc N : Nat} (htc : 0 < tc) (i : Nat) : 0 < tdb k pr tc N (i + 1) ∧ tdb k pr tc N (i + 1) - 1 < tc := by
  have : tdb k pr tc N (i + 1) = amin (fun u => rb k pr tc N (N - i) u + chg pr (tdb k pr tc N i) u) tc + 1 := rfl
  have h := amin_lt (fun u => rb k pr tc N (N - i) u + chg pr (tdb k pr tc N i) u) tc htc
  omega
theorem kst_le (n : Nat) (w : Nat → Nat) (ct : Nat → Nat → Nat) (mt : Nat → Nat) (p t : Nat) : kst n w ct mt p t ≤ 10 := costN_le _ _
end
section
/-! ===== printed: the words of the law; where they stand among the tables ===== -/
def wsL_law0_r1 : List Cond := [Cond.classLink RL 9 RX4, Cond.instantiable RX4 8, Cond.initialized RX4, Cond.methodLink RL 46 yX4_init, Cond.instanceMethod yX4_init, Cond.code yX4_init cX4_init 2 none, Cond.methodLink RX4 1 objectInit, Cond.instanceMethod objectInit, Cond.code objectInit ⟨#[0xb1]⟩ 1 none, Cond.classLink RX4 7 RX2, Cond.instantiable RX2 2, Cond.initialized RX2, Cond.fieldLink RX4 10 "Tonguetell" "spelled" "LTonguetell$Spelling;", Cond.classLink RX4 16 RX3, Cond.instantiable RX3 2, Cond.initialized RX3, Cond.fieldLink RX4 19 "Tonguetell" "spelledTally" "LTonguetell$Tally;", Cond.fieldLink RX4 23 "Tonguetell" "tallies" "[LTonguetell$Tally;", Cond.classLink RX4 27 RX1, Cond.instantiable RX1 5, Cond.initialized RX1, Cond.fieldLink RX4 30 "Tonguetell" "shelf" "LTonguetell$Shelf;", Cond.classLink RX4 34 RX0, Cond.instantiable RX0 6]
def wsL_law0_r2 : List Cond := [Cond.initialized RX0, Cond.fieldLink RX4 37 "Tonguetell" "cutter" "LTonguetell$Cutter;", Cond.fieldLink RX4 41 "Tonguetell" "tongueCount" "I", Cond.fieldLink RX4 45 "Tonguetell" "margin" "I", Cond.fieldLink RX4 48 "Tonguetell" "price" "I", Cond.instanceMethod yX2_init, Cond.code yX2_init cX2_init 1 none, Cond.methodLink RX2 3 objectInit, Cond.arrayClass .int, Cond.fieldLink RX2 9 "Tonguetell$Spelling" "letters" "[I", Cond.fieldLink RX2 15 "Tonguetell$Spelling" "length" "I", Cond.instanceMethod yX3_init, Cond.code yX3_init cX3_init 1 none, Cond.methodLink RX3 3 objectInit, Cond.fieldLink RX3 9 "Tonguetell$Tally" "counts" "[I", Cond.fieldLink RX3 15 "Tonguetell$Tally" "sum" "I", Cond.methodLink RX4 29 yX1_init, Cond.instanceMethod yX1_init, Cond.code yX1_init cX1_init 2 none, Cond.methodLink RX1 3 objectInit, Cond.fieldLink RX1 9 "Tonguetell$Shelf" "numberIn" "[I", Cond.fieldLink RX1 15 "Tonguetell$Shelf" "tongueIn" "[I", Cond.fieldLink RX1 18 "Tonguetell$Shelf" "lengthIn" "[I", Cond.classLink RX1 21 "[[I"]
def wsL_law0_r3 : List Cond := [Cond.fieldLink RX1 23 "Tonguetell$Shelf" "runsIn" "[[I", Cond.fieldLink RX1 26 "Tonguetell$Shelf" "nextNumber" "I", Cond.instanceMethod yX0_init, Cond.code yX0_init cX0_init 1 none, Cond.methodLink RX0 3 objectInit, Cond.classLink RX0 9 "[[I", Cond.fieldLink RX0 11 "Tonguetell$Cutter" "costs" "[[I", Cond.fieldLink RX0 16 "Tonguetell$Cutter" "told" "[I", Cond.fieldLink RX0 20 "Tonguetell$Cutter" "rest" "[[I", Cond.fieldLink RX0 23 "Tonguetell$Cutter" "runCount" "I", Cond.fieldLink RX0 27 "Tonguetell$Cutter" "choices" "I", Cond.fieldLink RX0 30 "Tonguetell$Cutter" "changePrice" "I", Cond.methodLink RL 47 yX4_addTongue, Cond.instanceMethod yX4_addTongue, Cond.selects RX4 yX4_addTongue yX4_addTongue, Cond.code yX4_addTongue cX4_addTongue 1 (some .int), Cond.classLink RX4 65 "java/lang/IllegalStateException", Cond.initialized "java/lang/IllegalStateException", Cond.methodLink RX4 87 yX4_newTongue, Cond.instanceMethod yX4_newTongue, Cond.selects RX4 yX4_newTongue yX4_newTongue, Cond.code yX4_newTongue cX4_newTongue 2 (some .int), Cond.methodLink RL 50 yL_cell, Cond.static yL_cell]
def wsL_law0_r4 : List Cond := [Cond.initialized RL, Cond.code yL_cell cL_cell 2 (some .int), Cond.methodLink RL 56 yL_low, Cond.static yL_low, Cond.code yL_low cL_low 2 (some .int), Cond.constant RL 7 (2147483647), Cond.methodLink RL 59 yX4_spell, Cond.instanceMethod yX4_spell, Cond.selects RX4 yX4_spell yX4_spell, Cond.code yX4_spell cX4_spell 3 (some .int), Cond.classLink RX4 55 "java/lang/IllegalArgumentException", Cond.initialized "java/lang/IllegalArgumentException", Cond.fieldLink RX4 62 "Tonguetell$Spelling" "length" "I", Cond.methodLink RX4 51 yX4_letterNumber, Cond.static yX4_letterNumber, Cond.code yX4_letterNumber cX4_letterNumber 1 (some .int), Cond.methodLink RX4 70 yX2_append, Cond.instanceMethod yX2_append, Cond.selects RX2 yX2_append yX2_append, Cond.code yX2_append cX2_append 2 none, Cond.methodLink RL 63 yX4_clearSpelled, Cond.instanceMethod yX4_clearSpelled, Cond.selects RX4 yX4_clearSpelled yX4_clearSpelled, Cond.code yX4_clearSpelled cX4_clearSpelled 2 (some .int)]
def wsL_law0_r5 : List Cond := [Cond.methodLink RL 28 yX4_tongues, Cond.instanceMethod yX4_tongues, Cond.selects RX4 yX4_tongues yX4_tongues, Cond.code yX4_tongues cX4_tongues 1 (some .int), Cond.methodLink RL 66 yX4_teach, Cond.instanceMethod yX4_teach, Cond.selects RX4 yX4_teach yX4_teach, Cond.code yX4_teach cX4_teach 2 (some .int), Cond.methodLink RX4 90 yX4_requireTongue, Cond.instanceMethod yX4_requireTongue, Cond.selects RX4 yX4_requireTongue yX4_requireTongue, Cond.code yX4_requireTongue cX4_requireTongue 2 none, Cond.classLink RX4 185 "java/lang/IndexOutOfBoundsException", Cond.initialized "java/lang/IndexOutOfBoundsException", Cond.methodLink RX4 95 yX1_isFull, Cond.instanceMethod yX1_isFull, Cond.selects RX1 yX1_isFull yX1_isFull, Cond.code yX1_isFull cX1_isFull 1 (some .boolean), Cond.methodLink RX1 30 yX1_firstSlotWith, Cond.instanceMethod yX1_firstSlotWith, Cond.selects RX1 yX1_firstSlotWith yX1_firstSlotWith, Cond.code yX1_firstSlotWith cX1_firstSlotWith 3 (some .int), Cond.methodLink RX4 74 yX2_runCount, Cond.instanceMethod yX2_runCount]
def wsL_law0_r6 : List Cond := [Cond.selects RX2 yX2_runCount yX2_runCount, Cond.code yX2_runCount cX2_runCount 1 (some .int), Cond.methodLink RX4 101 yX4_teachRuns, Cond.instanceMethod yX4_teachRuns, Cond.selects RX4 yX4_teachRuns yX4_teachRuns, Cond.code yX4_teachRuns cX4_teachRuns 7 (some .int), Cond.fieldLink RX4 115 "Tonguetell$Shelf" "runsIn" "[[I", Cond.fieldLink RX4 211 "Tonguetell$Shelf" "numberIn" "[I", Cond.methodLink RX4 204 yX1_take, Cond.instanceMethod yX1_take, Cond.selects RX1 yX1_take yX1_take, Cond.code yX1_take cX1_take 4 (some .int), Cond.methodLink RX4 81 yX2_runNumber, Cond.instanceMethod yX2_runNumber, Cond.selects RX2 yX2_runNumber yX2_runNumber, Cond.code yX2_runNumber cX2_runNumber 2 (some .int), Cond.methodLink RX2 19 yX2_letterOrGap, Cond.instanceMethod yX2_letterOrGap, Cond.selects RX2 yX2_letterOrGap yX2_letterOrGap, Cond.code yX2_letterOrGap cX2_letterOrGap 2 (some .int), Cond.methodLink RX4 208 yX3_add, Cond.instanceMethod yX3_add, Cond.selects RX3 yX3_add yX3_add, Cond.code yX3_add cX3_add 2 none]
def wsL_law0_r7 : List Cond := [Cond.methodLink RL 69 yX4_tongueOf, Cond.instanceMethod yX4_tongueOf, Cond.selects RX4 yX4_tongueOf yX4_tongueOf, Cond.code yX4_tongueOf cX4_tongueOf 2 (some .int), Cond.fieldLink RX4 108 "Tonguetell$Shelf" "tongueIn" "[I", Cond.methodLink RX4 105 yX4_slotOfTaught, Cond.instanceMethod yX4_slotOfTaught, Cond.selects RX4 yX4_slotOfTaught yX4_slotOfTaught, Cond.code yX4_slotOfTaught cX4_slotOfTaught 3 (some .int), Cond.classLink RX4 199 "java/util/NoSuchElementException", Cond.initialized "java/util/NoSuchElementException", Cond.methodLink RX4 196 yX1_slotOf, Cond.instanceMethod yX1_slotOf, Cond.selects RX1 yX1_slotOf yX1_slotOf, Cond.code yX1_slotOf cX1_slotOf 2 (some .int), Cond.methodLink RL 72 yX4_withdraw, Cond.instanceMethod yX4_withdraw, Cond.selects RX4 yX4_withdraw yX4_withdraw, Cond.code yX4_withdraw cX4_withdraw 6 (some .int), Cond.fieldLink RX4 112 "Tonguetell$Shelf" "lengthIn" "[I", Cond.methodLink RX4 119 yX3_remove, Cond.instanceMethod yX3_remove, Cond.selects RX3 yX3_remove yX3_remove, Cond.code yX3_remove cX3_remove 2 none]
def wsL_law0_r8 : List Cond := [Cond.methodLink RX4 122 yX1_free, Cond.instanceMethod yX1_free, Cond.selects RX1 yX1_free yX1_free, Cond.code yX1_free cX1_free 2 none, Cond.methodLink RL 75 yX4_setPrice, Cond.instanceMethod yX4_setPrice, Cond.selects RX4 yX4_setPrice yX4_setPrice, Cond.code yX4_setPrice cX4_setPrice 3 (some .int), Cond.methodLink RL 78 yL_areCosts, Cond.static yL_areCosts, Cond.code yL_areCosts cL_areCosts 10 (some .boolean), Cond.methodLink RL 8 yX4_total, Cond.instanceMethod yX4_total, Cond.selects RX4 yX4_total yX4_total, Cond.code yX4_total cX4_total 2 (some .int), Cond.fieldLink RX4 125 "Tonguetell$Tally" "sum" "I", Cond.methodLink RL 14 yX4_count, Cond.instanceMethod yX4_count, Cond.selects RX4 yX4_count yX4_count, Cond.code yX4_count cX4_count 3 (some .int), Cond.fieldLink RX4 131 "Tonguetell$Tally" "counts" "[I", Cond.methodLink RX4 128 yX4_requireRunKind, Cond.static yX4_requireRunKind, Cond.code yX4_requireRunKind cX4_requireRunKind 1 none]
def wsL_law0_r9 : List Cond := [Cond.methodLink RL 18 yX4_cost, Cond.instanceMethod yX4_cost, Cond.selects RX4 yX4_cost yX4_cost, Cond.code yX4_cost cX4_cost 3 (some .int), Cond.methodLink RX4 134 yX3_costOf, Cond.instanceMethod yX3_costOf, Cond.selects RX3 yX3_costOf yX3_costOf, Cond.code yX3_costOf cX3_costOf 5 (some .int), Cond.methodLink RL 82 yL_isCut, Cond.static yL_isCut, Cond.code yL_isCut cL_isCut 10 (some .boolean), Cond.methodLink RL 21 yX4_runs, Cond.instanceMethod yX4_runs, Cond.selects RX4 yX4_runs yX4_runs, Cond.code yX4_runs cX4_runs 1 (some .int), Cond.methodLink RL 25 yX4_cutTongue, Cond.instanceMethod yX4_cutTongue, Cond.selects RX4 yX4_cutTongue yX4_cutTongue, Cond.code yX4_cutTongue cX4_cutTongue 2 (some .int), Cond.fieldLink RX4 174 "Tonguetell$Cutter" "told" "[I", Cond.methodLink RX4 157 yX4_requireSomeTongue, Cond.instanceMethod yX4_requireSomeTongue, Cond.selects RX4 yX4_requireSomeTongue yX4_requireSomeTongue, Cond.code yX4_requireSomeTongue cX4_requireSomeTongue 1 none]
def wsL_law0_r10 : List Cond := [Cond.methodLink RX4 78 yX4_requireRunPlace, Cond.instanceMethod yX4_requireRunPlace, Cond.selects RX4 yX4_requireRunPlace yX4_requireRunPlace, Cond.code yX4_requireRunPlace cX4_requireRunPlace 2 none, Cond.methodLink RX4 160 yX4_layCostsForCut, Cond.instanceMethod yX4_layCostsForCut, Cond.selects RX4 yX4_layCostsForCut yX4_layCostsForCut, Cond.code yX4_layCostsForCut cX4_layCostsForCut 4 none, Cond.fieldLink RX4 226 "Tonguetell$Cutter" "costs" "[[I", Cond.methodLink RX4 222 yX0_begin, Cond.instanceMethod yX0_begin, Cond.selects RX0 yX0_begin yX0_begin, Cond.code yX0_begin cX0_begin 4 none, Cond.methodLink RX4 171 yX0_findToldCut, Cond.instanceMethod yX0_findToldCut, Cond.selects RX0 yX0_findToldCut yX0_findToldCut, Cond.code yX0_findToldCut cX0_findToldCut 3 none, Cond.methodLink RX0 33 yX0_fillRest, Cond.instanceMethod yX0_fillRest, Cond.selects RX0 yX0_fillRest yX0_fillRest, Cond.code yX0_fillRest cX0_fillRest 3 none, Cond.methodLink RX0 44 yX0_leastBehind, Cond.instanceMethod yX0_leastBehind, Cond.selects RX0 yX0_leastBehind yX0_leastBehind]
def wsL_law0_r11 : List Cond := [Cond.code yX0_leastBehind cX0_leastBehind 4 (some .int), Cond.methodLink RX0 36 yX0_cheapest, Cond.instanceMethod yX0_cheapest, Cond.selects RX0 yX0_cheapest yX0_cheapest, Cond.code yX0_cheapest cX0_cheapest 5 (some .int), Cond.methodLink RX0 47 yX0_restAfter, Cond.instanceMethod yX0_restAfter, Cond.selects RX0 yX0_restAfter yX0_restAfter, Cond.code yX0_restAfter cX0_restAfter 4 (some .int), Cond.methodLink RX0 51 yX0_priceOfChange, Cond.instanceMethod yX0_priceOfChange, Cond.selects RX0 yX0_priceOfChange yX0_priceOfChange, Cond.code yX0_priceOfChange cX0_priceOfChange 3 (some .int), Cond.methodLink RL 31 yX4_runAt, Cond.instanceMethod yX4_runAt, Cond.selects RX4 yX4_runAt yX4_runAt, Cond.code yX4_runAt cX4_runAt 2 (some .int), Cond.methodLink RL 34 yX4_textCost, Cond.instanceMethod yX4_textCost, Cond.selects RX4 yX4_textCost yX4_textCost, Cond.code yX4_textCost cX4_textCost 2 (some .int), Cond.methodLink RX4 140 yX4_costOfSpelled, Cond.instanceMethod yX4_costOfSpelled, Cond.selects RX4 yX4_costOfSpelled yX4_costOfSpelled]
def wsL_law0_r12 : List Cond := [Cond.code yX4_costOfSpelled cX4_costOfSpelled 4 (some .int), Cond.methodLink RL 37 yX4_cutCost, Cond.instanceMethod yX4_cutCost, Cond.selects RX4 yX4_cutCost yX4_cutCost, Cond.code yX4_cutCost cX4_cutCost 1 (some .int), Cond.methodLink RX4 163 yX0_leastCost, Cond.instanceMethod yX0_leastCost, Cond.selects RX0 yX0_leastCost yX0_leastCost, Cond.code yX0_leastCost cX0_leastCost 1 (some .int), Cond.methodLink RL 40 yX4_stretches, Cond.instanceMethod yX4_stretches, Cond.selects RX4 yX4_stretches yX4_stretches, Cond.code yX4_stretches cX4_stretches 1 (some .int), Cond.methodLink RX4 177 yX0_stretchCount, Cond.instanceMethod yX0_stretchCount, Cond.selects RX0 yX0_stretchCount yX0_stretchCount, Cond.code yX0_stretchCount cX0_stretchCount 3 (some .int), Cond.methodLink RL 43 yX4_cutCostByTrying, Cond.instanceMethod yX4_cutCostByTrying, Cond.selects RX4 yX4_cutCostByTrying yX4_cutCostByTrying, Cond.code yX4_cutCostByTrying cX4_cutCostByTrying 1 (some .int), Cond.methodLink RX4 168 yX0_leastCostByTrying, Cond.instanceMethod yX0_leastCostByTrying, Cond.selects RX0 yX0_leastCostByTrying yX0_leastCostByTrying]
def wsL_law0_r13 : List Cond := [Cond.code yX0_leastCostByTrying cX0_leastCostByTrying 1 (some .int), Cond.methodLink RX0 40 yX0_leastByTrying, Cond.static yX0_leastByTrying, Cond.code yX0_leastByTrying cX0_leastByTrying 6 (some .int), Cond.constant RX0 54 (1000000), Cond.methodLink RX0 55 Lib.Math.min.name, Cond.static Lib.Math.min.name, Cond.initialized "java/lang/Math", Cond.code Lib.Math.min.name Lib.Math.min.code 2 (some .int)]
def wsL_law0 : List Cond := (wsL_law0_r1 ++ (wsL_law0_r2 ++ (wsL_law0_r3 ++ (wsL_law0_r4 ++ (wsL_law0_r5 ++ (wsL_law0_r6 ++ (wsL_law0_r7 ++ (wsL_law0_r8 ++ (wsL_law0_r9 ++ (wsL_law0_r10 ++ (wsL_law0_r11 ++ (wsL_law0_r12 ++ wsL_law0_r13)))))))))))) ++ wsX40 ++ wsX20 ++ wsX30 ++ wsX10 ++ wsX00 ++ ([] : List Cond)
def wsL_law : List Cond := wsL_law0 ++ (vx_atS RX4 69 "java/lang/IllegalStateException" ["java/lang/RuntimeException", "java/lang/Exception"]).filter goodWord ++ (vx_atS RX4 59 "java/lang/IllegalArgumentException" ["java/lang/RuntimeException", "java/lang/Exception"]).filter goodWord ++ (vx_atS RX4 189 "java/lang/IndexOutOfBoundsException" ["java/lang/RuntimeException", "java/lang/Exception"]).filter goodWord ++ (od_at RX4 203 "java/util/NoSuchElementException" ["java/lang/RuntimeException", "java/lang/Exception"]).filter goodWord
set_option maxRecDepth 20000 in
theorem wsL_law0_r1_i : ∀ w ∈ wsL_law0_r1, w ∈ lw_tbl := fun w h => (goodIn_r (big := lw_tbl) wsL_law0_r1 [30, 31, 17, 32, 33, 34, 35, 36, 37, 38, 39, 18, 125, 53, 54, 19, 126, 127, 69, 70, 20, 128, 97, 98] (by decide +kernel) (by decide +kernel) w h).1
set_option maxRecDepth 20000 in
theorem wsL_law0_r2_i : ∀ w ∈ wsL_law0_r2, w ∈ lw_tbl := fun w h => (goodIn_r (big := lw_tbl) wsL_law0_r2 [21, 129, 130, 131, 132, 41, 42, 43, 52, 44, 45, 56, 57, 58, 59, 61, 71, 72, 73, 74, 77, 79, 81, 75] (by decide +kernel) (by decide +kernel) w h).1
set_option maxRecDepth 20000 in
theorem wsL_law0_r3_i : ∀ w ∈ wsL_law0_r3, w ∈ lw_tbl := fun w h => (goodIn_r (big := lw_tbl) wsL_law0_r3 [83, 85, 100, 101, 102, 103, 104, 106, 108, 109, 110, 111, 250, 251, 252, 253, 226, 25, 255, 257, 1, 258, 366, 367] (by decide +kernel) (by decide +kernel) w h).1
set_option maxRecDepth 20000 in
theorem wsL_law0_r4_i : ∀ w ∈ wsL_law0_r4, w ∈ lw_tbl := fun w h => (goodIn_r (big := lw_tbl) wsL_law0_r4 [16, 368, 369, 370, 371, 372, 150, 151, 152, 153, 157, 26, 46, 154, 155, 156, 242, 243, 244, 245, 246, 247, 248, 249] (by decide +kernel) (by decide +kernel) w h).1
set_option maxRecDepth 20000 in
theorem wsL_law0_r5_i : ∀ w ∈ wsL_law0_r5, w ∈ lw_tbl := fun w h => (goodIn_r (big := lw_tbl) wsL_law0_r5 [259, 260, 261, 262, 263, 264, 265, 266, 267, 269, 2, 270, 271, 27, 288, 289, 290, 291, 292, 294, 3, 295, 297, 298] (by decide +kernel) (by decide +kernel) w h).1
set_option maxRecDepth 20000 in
theorem wsL_law0_r6_i : ∀ w ∈ wsL_law0_r6, w ∈ lw_tbl := fun w h => (goodIn_r (big := lw_tbl) wsL_law0_r6 [299, 300, 301, 303, 4, 304, 84, 78, 305, 306, 307, 308, 309, 310, 311, 312, 313, 315, 5, 316, 317, 318, 319, 320] (by decide +kernel) (by decide +kernel) w h).1
set_option maxRecDepth 20000 in
theorem wsL_law0_r7_i : ∀ w ∈ wsL_law0_r7, w ∈ lw_tbl := fun w h => (goodIn_r (big := lw_tbl) wsL_law0_r7 [357, 358, 359, 360, 80, 325, 327, 6, 328, 333, 28, 329, 330, 331, 332, 321, 322, 323, 324, 82, 349, 350, 351, 352] (by decide +kernel) (by decide +kernel) w h).1
set_option maxRecDepth 20000 in
theorem wsL_law0_r8_i : ∀ w ∈ wsL_law0_r8, w ∈ lw_tbl := fun w h => (goodIn_r (big := lw_tbl) wsL_law0_r8 [353, 354, 355, 356, 361, 362, 363, 364, 373, 374, 375, 376, 377, 378, 379, 62, 380, 381, 382, 383, 60, 384, 385, 386] (by decide +kernel) (by decide +kernel) w h).1
set_option maxRecDepth 20000 in
theorem wsL_law0_r9_i : ∀ w ∈ wsL_law0_r9, w ∈ lw_tbl := fun w h => (goodIn_r (big := lw_tbl) wsL_law0_r9 [388, 389, 390, 391, 392, 393, 394, 395, 396, 397, 398, 399, 400, 401, 402, 403, 404, 405, 406, 107, 407, 409, 7, 410] (by decide +kernel) (by decide +kernel) w h).1
set_option maxRecDepth 20000 in
theorem wsL_law0_r10_i : ∀ w ∈ wsL_law0_r10, w ∈ lw_tbl := fun w h => (goodIn_r (big := lw_tbl) wsL_law0_r10 [412, 414, 8, 415, 417, 419, 9, 420, 105, 421, 422, 423, 424, 425, 426, 427, 428, 429, 431, 10, 432, 433, 435, 11] (by decide +kernel) (by decide +kernel) w h).1
set_option maxRecDepth 20000 in
theorem wsL_law0_r11_i : ∀ w ∈ wsL_law0_r11, w ∈ lw_tbl := fun w h => (goodIn_r (big := lw_tbl) wsL_law0_r11 [436, 437, 439, 12, 440, 441, 443, 13, 444, 445, 447, 14, 448, 449, 450, 451, 452, 453, 454, 455, 456, 457, 459, 15] (by decide +kernel) (by decide +kernel) w h).1
set_option maxRecDepth 20000 in
theorem wsL_law0_r12_i : ∀ w ∈ wsL_law0_r12, w ∈ lw_tbl := fun w h => (goodIn_r (big := lw_tbl) wsL_law0_r12 [460, 461, 462, 463, 464, 465, 466, 467, 468, 469, 470, 471, 472, 473, 474, 475, 476, 477, 478, 479, 480, 482, 483, 484] (by decide +kernel) (by decide +kernel) w h).1
set_option maxRecDepth 20000 in
theorem wsL_law0_r13_i : ∀ w ∈ wsL_law0_r13, w ∈ lw_tbl := fun w h => (goodIn_r (big := lw_tbl) wsL_law0_r13 [485, 486, 487, 488, 489, 490, 491, 29, 492] (by decide +kernel) (by decide +kernel) w h).1
def lw_thrP : List Nat := [0, 22, 23, 24, 25, 26, 27, 28, 35, 36, 37, 43, 51, 58, 67, 74, 96, 102, 124, 149, 157, 158, 159, 160, 161, 162, 163, 164, 165, 166, 167, 168, 169, 170, 171, 172, 173, 174, 175, 176, 177, 178, 179, 180, 181, 182, 183, 184, 185, 186, 187, 188, 189, 190, 191, 192, 193, 194, 195, 196, 197, 198, 200, 201, 202, 203, 204, 205, 206, 207, 208, 209, 210, 211, 212, 213, 214, 215, 216, 217, 218, 219, 220, 221, 222, 223, 224, 226, 227, 228, 229, 230, 231, 232, 233, 234, 236, 237, 238, 239, 240, 241, 271, 272, 273, 274, 275, 276, 277, 278, 279, 281, 282, 283, 284, 285, 286, 333, 334, 335, 336, 337, 338, 339, 340, 341, 343, 344, 345, 346, 347, 348, 493, 494, 495, 496, 497, 498, 499, 500, 501, 502, 503, 504]
def lw_thr : List Cond := lw_thrP.filterMap (fun i => lw_tbl[i]?)
theorem lw_sub {ps : List Nat} {w : Cond} (h : w ∈ ps.filterMap (fun i => lw_tbl[i]?)) : w ∈ lw_tbl := by
  obtain ⟨i, -, hi⟩ := List.mem_filterMap.mp h
  first | exact List.mem_of_getElem? hi | exact List.getElem?_mem hi
set_option maxRecDepth 20000 in
theorem lw_X0 : ∀ w ∈ wsX00, w ∈ lw_tbl := fun w h => lw_sub ((by decide +kernel : ∀ w ∈ wsX00, w ∈ ([112, 114, 116, 118, 120, 122] : List Nat).filterMap (fun i => lw_tbl[i]?)) w h)
set_option maxRecDepth 20000 in
theorem lw_X1 : ∀ w ∈ wsX10, w ∈ lw_tbl := fun w h => lw_sub ((by decide +kernel : ∀ w ∈ wsX10, w ∈ ([86, 88, 90, 92, 94] : List Nat).filterMap (fun i => lw_tbl[i]?)) w h)
set_option maxRecDepth 20000 in
theorem lw_X2 : ∀ w ∈ wsX20, w ∈ lw_tbl := fun w h => lw_sub ((by decide +kernel : ∀ w ∈ wsX20, w ∈ ([47, 49] : List Nat).filterMap (fun i => lw_tbl[i]?)) w h)
set_option maxRecDepth 20000 in
theorem lw_X3 : ∀ w ∈ wsX30, w ∈ lw_tbl := fun w h => lw_sub ((by decide +kernel : ∀ w ∈ wsX30, w ∈ ([63, 65] : List Nat).filterMap (fun i => lw_tbl[i]?)) w h)
set_option maxRecDepth 20000 in
theorem lw_X4 : ∀ w ∈ wsX40, w ∈ lw_tbl := fun w h => lw_sub ((by decide +kernel : ∀ w ∈ wsX40, w ∈ ([133, 135, 137, 139, 141, 143, 145, 147] : List Nat).filterMap (fun i => lw_tbl[i]?)) w h)
set_option maxRecDepth 20000 in
theorem wsL_law_x0 : ∀ w ∈ (vx_atS RX4 69 "java/lang/IllegalStateException" ["java/lang/RuntimeException", "java/lang/Exception"]).filter goodWord, w ∈ lw_tbl := fun w h => lw_sub ((by decide +kernel : ∀ w ∈ (vx_atS RX4 69 "java/lang/IllegalStateException" ["java/lang/RuntimeException", "java/lang/Exception"]).filter goodWord, w ∈ lw_thr) w h)
set_option maxRecDepth 20000 in
theorem wsL_law_x1 : ∀ w ∈ (vx_atS RX4 59 "java/lang/IllegalArgumentException" ["java/lang/RuntimeException", "java/lang/Exception"]).filter goodWord, w ∈ lw_tbl := fun w h => lw_sub ((by decide +kernel : ∀ w ∈ (vx_atS RX4 59 "java/lang/IllegalArgumentException" ["java/lang/RuntimeException", "java/lang/Exception"]).filter goodWord, w ∈ lw_thr) w h)
set_option maxRecDepth 20000 in
theorem wsL_law_x2 : ∀ w ∈ (vx_atS RX4 189 "java/lang/IndexOutOfBoundsException" ["java/lang/RuntimeException", "java/lang/Exception"]).filter goodWord, w ∈ lw_tbl := fun w h => lw_sub ((by decide +kernel : ∀ w ∈ (vx_atS RX4 189 "java/lang/IndexOutOfBoundsException" ["java/lang/RuntimeException", "java/lang/Exception"]).filter goodWord, w ∈ lw_thr) w h)
set_option maxRecDepth 20000 in
theorem wsL_law_x3 : ∀ w ∈ (od_at RX4 203 "java/util/NoSuchElementException" ["java/lang/RuntimeException", "java/lang/Exception"]).filter goodWord, w ∈ lw_tbl := fun w h => lw_sub ((by decide +kernel : ∀ w ∈ (od_at RX4 203 "java/util/NoSuchElementException" ["java/lang/RuntimeException", "java/lang/Exception"]).filter goodWord, w ∈ lw_thr) w h)
theorem wsL_law_in0 : ∀ w ∈ wsL_law0, w ∈ lw_tbl := fun w h => (List.mem_append.mp h).elim (fun h => (List.mem_append.mp h).elim (fun h => (List.mem_append.mp h).elim (fun h => (List.mem_append.mp h).elim (fun h => (List.mem_append.mp h).elim (fun h => (List.mem_append.mp h).elim (fun h => (List.mem_append.mp h).elim (fun h => wsL_law0_r1_i w h) (fun h => (List.mem_append.mp h).elim (fun h => wsL_law0_r2_i w h) (fun h => (List.mem_append.mp h).elim (fun h => wsL_law0_r3_i w h) (fun h => (List.mem_append.mp h).elim (fun h => wsL_law0_r4_i w h) (fun h => (List.mem_append.mp h).elim (fun h => wsL_law0_r5_i w h) (fun h => (List.mem_append.mp h).elim (fun h => wsL_law0_r6_i w h) (fun h => (List.mem_append.mp h).elim (fun h => wsL_law0_r7_i w h) (fun h => (List.mem_append.mp h).elim (fun h => wsL_law0_r8_i w h) (fun h => (List.mem_append.mp h).elim (fun h => wsL_law0_r9_i w h) (fun h => (List.mem_append.mp h).elim (fun h => wsL_law0_r10_i w h) (fun h => (List.mem_append.mp h).elim (fun h => wsL_law0_r11_i w h) (fun h => (List.mem_append.mp h).elim (fun h => wsL_law0_r12_i w h) (fun h => wsL_law0_r13_i w h))))))))))))) (fun h => lw_X4 w h)) (fun h => lw_X2 w h)) (fun h => lw_X3 w h)) (fun h => lw_X1 w h)) (fun h => lw_X0 w h)) (fun h => absurd h List.not_mem_nil)
theorem wsL_law_in : ∀ w ∈ wsL_law, w ∈ lw_tbl := fun w h => (List.mem_append.mp h).elim (fun h => (List.mem_append.mp h).elim (fun h => (List.mem_append.mp h).elim (fun h => (List.mem_append.mp h).elim (fun h => wsL_law_in0 w h) (fun h => wsL_law_x0 w h)) (fun h => wsL_law_x1 w h)) (fun h => wsL_law_x2 w h)) (fun h => wsL_law_x3 w h)
theorem inlX0 : ∀ w ∈ wsX00, w ∈ wsL_law := fun _ h => List.mem_append_left _ (List.mem_append_left _ (List.mem_append_left _ (List.mem_append_left _ (List.mem_append_left _ (List.mem_append_right _ h)))))
theorem inX0 : ∀ w ∈ wsX00, w ∈ lw_tbl := fun w h => wsL_law_in w (inlX0 w h)
theorem inlX1 : ∀ w ∈ wsX10, w ∈ wsL_law := fun _ h => List.mem_append_left _ (List.mem_append_left _ (List.mem_append_left _ (List.mem_append_left _ (List.mem_append_left _ (List.mem_append_left _ (List.mem_append_right _ h))))))
theorem inX1 : ∀ w ∈ wsX10, w ∈ lw_tbl := fun w h => wsL_law_in w (inlX1 w h)
theorem inlX2 : ∀ w ∈ wsX20, w ∈ wsL_law := fun _ h => List.mem_append_left _ (List.mem_append_left _ (List.mem_append_left _ (List.mem_append_left _ (List.mem_append_left _ (List.mem_append_left _ (List.mem_append_left _ (List.mem_append_left _ (List.mem_append_right _ h))))))))
theorem inX2 : ∀ w ∈ wsX20, w ∈ lw_tbl := fun w h => wsL_law_in w (inlX2 w h)
theorem inlX3 : ∀ w ∈ wsX30, w ∈ wsL_law := fun _ h => List.mem_append_left _ (List.mem_append_left _ (List.mem_append_left _ (List.mem_append_left _ (List.mem_append_left _ (List.mem_append_left _ (List.mem_append_left _ (List.mem_append_right _ h)))))))
theorem inX3 : ∀ w ∈ wsX30, w ∈ lw_tbl := fun w h => wsL_law_in w (inlX3 w h)
theorem inlX4 : ∀ w ∈ wsX40, w ∈ wsL_law := fun _ h => List.mem_append_left _ (List.mem_append_left _ (List.mem_append_left _ (List.mem_append_left _ (List.mem_append_left _ (List.mem_append_left _ (List.mem_append_left _ (List.mem_append_left _ (List.mem_append_left _ (List.mem_append_right _ h)))))))))
theorem inX4 : ∀ w ∈ wsX40, w ∈ lw_tbl := fun w h => wsL_law_in w (inlX4 w h)
end
section
/-! ===== printed: the law calls: the words of what it calls ===== -/
set_option maxRecDepth 20000 in
theorem ggL_law_X4_init : GoodIn wsL_law wsX4_init := goodIn_r _ [5, 6, 7, 8, 9, 10, 11, 12, 13, 14, 15, 16, 17, 18, 19, 20, 21, 22, 23, 24, 25, 26, 27, 28, 29, 30, 31, 32, 33, 34, 35, 36, 37, 38, 39, 40, 41, 42, 43, 44, 45, 46, 47, 48, 49, 50, 51, 52, 53, 54, 55, 56, 57, 58, 59, 305, 306, 297, 298, 299, 300, 301, 302, 303, 304, 307, 308, 309, 310, 311, 312, 313, 314, 315, 316, 317, 318, 319] (by decide +kernel) (by decide +kernel)
set_option maxRecDepth 20000 in
theorem gL_law_X4_init : GoodIn wsL_law (wsX4_init) := ggL_law_X4_init
set_option maxRecDepth 20000 in
theorem ggL_law_X4_addTongue : GoodIn wsL_law wsX4_addTongue := goodIn_ca (goodIn_r _ [63, 64, 65, 26, 66, 67, 68, 2, 69, 297, 298, 299, 300, 301, 302, 303, 304] (by decide +kernel) (by decide +kernel)) (goodIn_sub (fun _ h => List.mem_append_left _ (List.mem_append_left _ (List.mem_append_left _ (List.mem_append_right _ h)))) (by decide +kernel))
set_option maxRecDepth 20000 in
theorem gL_law_X4_addTongue : GoodIn wsL_law (wsV RL 47 RX4 yX4_addTongue wsX4_addTongue) := goodIn_app (goodIn_of _ (by decide +kernel)) ggL_law_X4_addTongue
set_option maxRecDepth 20000 in
theorem ggL_law_L_cell : GoodIn wsL_law wsL_cell := goodIn_r _ [73] (by decide +kernel) (by decide +kernel)
set_option maxRecDepth 20000 in
theorem gL_law_L_cell : GoodIn wsL_law (va_wsS RL 50 yL_cell wsL_cell) := goodIn_app (goodIn_of _ (by decide +kernel)) ggL_law_L_cell
set_option maxRecDepth 20000 in
theorem ggL_law_L_low : GoodIn wsL_law wsL_low := goodIn_r _ [76, 77] (by decide +kernel) (by decide +kernel)
set_option maxRecDepth 20000 in
theorem gL_law_L_low : GoodIn wsL_law (va_wsS RL 56 yL_low wsL_low) := goodIn_app (goodIn_of _ (by decide +kernel)) ggL_law_L_low
set_option maxRecDepth 20000 in
theorem ggL_law_X4_spell : GoodIn wsL_law wsX4_spell := goodIn_ca (goodIn_ca (goodIn_r _ [81, 82, 83, 64, 65, 12, 84, 85, 86, 2, 87, 88, 89, 90, 11, 91, 33, 34, 297, 298, 299, 300, 301, 302, 303, 304, 305, 306] (by decide +kernel) (by decide +kernel)) (goodIn_sub (fun _ h => List.mem_append_left _ (List.mem_append_left _ (List.mem_append_right _ h))) (by decide +kernel))) (goodIn_sub (fun _ h => List.mem_append_left _ (List.mem_append_left _ (List.mem_append_left _ (List.mem_append_right _ h)))) (by decide +kernel))
set_option maxRecDepth 20000 in
theorem gL_law_X4_spell : GoodIn wsL_law (wsV RL 59 RX4 yX4_spell wsX4_spell) := goodIn_app (goodIn_of _ (by decide +kernel)) ggL_law_X4_spell
set_option maxRecDepth 20000 in
theorem ggL_law_X4_clearSpelled : GoodIn wsL_law wsX4_clearSpelled := goodIn_r _ [95, 12, 84, 297, 298, 299, 300, 301, 302, 303, 304, 305, 306] (by decide +kernel) (by decide +kernel)
set_option maxRecDepth 20000 in
theorem gL_law_X4_clearSpelled : GoodIn wsL_law (wsV RL 63 RX4 yX4_clearSpelled wsX4_clearSpelled) := goodIn_app (goodIn_of _ (by decide +kernel)) ggL_law_X4_clearSpelled
set_option maxRecDepth 20000 in
theorem ggL_law_X4_tongues : GoodIn wsL_law wsX4_tongues := goodIn_r _ [99, 26, 297, 298, 299, 300, 301, 302, 303, 304] (by decide +kernel) (by decide +kernel)
set_option maxRecDepth 20000 in
theorem gL_law_X4_tongues : GoodIn wsL_law (wsV RL 28 RX4 yX4_tongues wsX4_tongues) := goodIn_app (goodIn_of _ (by decide +kernel)) ggL_law_X4_tongues
set_option maxRecDepth 20000 in
theorem ggL_law_X4_teach : GoodIn wsL_law wsX4_teach := goodIn_ca (goodIn_ca (goodIn_r _ [103, 64, 65, 12, 84, 21, 104, 105, 106, 2, 107, 108, 109, 26, 110, 111, 112, 20, 113, 114, 115, 116, 117, 44, 118, 119, 120, 11, 121, 34, 122, 123, 124, 125, 126, 17, 127, 128, 129, 130, 131, 49, 45, 46, 132, 133, 134, 135, 136, 137, 138, 139, 33, 140, 141, 142, 15, 143, 38, 39, 297, 298, 299, 300, 301, 302, 303, 304, 305, 306, 309, 310, 311, 312, 313, 307, 308] (by decide +kernel) (by decide +kernel)) (goodIn_sub (fun _ h => List.mem_append_left _ (List.mem_append_left _ (List.mem_append_left _ (List.mem_append_right _ h)))) (by decide +kernel))) (goodIn_sub (fun _ h => List.mem_append_left _ (List.mem_append_right _ h)) (by decide +kernel))
set_option maxRecDepth 20000 in
theorem gL_law_X4_teach : GoodIn wsL_law (wsV RL 66 RX4 yX4_teach wsX4_teach) := goodIn_app (goodIn_of _ (by decide +kernel)) ggL_law_X4_teach
set_option maxRecDepth 20000 in
theorem ggL_law_X4_tongueOf : GoodIn wsL_law wsX4_tongueOf := goodIn_ca (goodIn_r _ [147, 21, 148, 149, 150, 151, 2, 152, 153, 154, 155, 156, 157, 20, 158, 114, 115, 116, 117, 44, 297, 298, 299, 300, 301, 302, 303, 304, 309, 310, 311, 312, 313] (by decide +kernel) (by decide +kernel)) (goodIn_sub (fun _ h => List.mem_append_right _ h) (by decide +kernel))
set_option maxRecDepth 20000 in
theorem gL_law_X4_tongueOf : GoodIn wsL_law (wsV RL 69 RX4 yX4_tongueOf wsX4_tongueOf) := goodIn_app (goodIn_of _ (by decide +kernel)) ggL_law_X4_tongueOf
set_option maxRecDepth 20000 in
theorem ggL_law_X4_withdraw : GoodIn wsL_law wsX4_withdraw := goodIn_ca (goodIn_r _ [162, 17, 21, 148, 163, 126, 149, 150, 151, 2, 152, 153, 154, 155, 156, 157, 20, 158, 114, 115, 116, 117, 44, 164, 165, 166, 15, 167, 38, 39, 168, 169, 170, 171, 297, 298, 299, 300, 301, 302, 303, 304, 309, 310, 311, 312, 313, 307, 308] (by decide +kernel) (by decide +kernel)) (goodIn_sub (fun _ h => List.mem_append_right _ h) (by decide +kernel))
set_option maxRecDepth 20000 in
theorem gL_law_X4_withdraw : GoodIn wsL_law (wsV RL 72 RX4 yX4_withdraw wsX4_withdraw) := goodIn_app (goodIn_of _ (by decide +kernel)) ggL_law_X4_withdraw
set_option maxRecDepth 20000 in
theorem ggL_law_X4_setPrice : GoodIn wsL_law wsX4_setPrice := goodIn_ca (goodIn_r _ [175, 82, 83, 28, 297, 298, 299, 300, 301, 302, 303, 304] (by decide +kernel) (by decide +kernel)) (goodIn_sub (fun _ h => List.mem_append_left _ (List.mem_append_left _ (List.mem_append_right _ h))) (by decide +kernel))
set_option maxRecDepth 20000 in
theorem gL_law_X4_setPrice : GoodIn wsL_law (wsV RL 75 RX4 yX4_setPrice wsX4_setPrice) := goodIn_app (goodIn_of _ (by decide +kernel)) ggL_law_X4_setPrice
set_option maxRecDepth 20000 in
theorem ggL_law_L_areCosts : GoodIn wsL_law wsL_areCosts := goodIn_ca (goodIn_r _ [178, 179, 180, 181, 2, 182, 17, 183, 104, 105, 106, 107, 108, 109, 26, 184, 185, 186, 187, 188, 189, 190, 191, 192, 193, 194, 195, 196, 197, 198, 15, 199, 39, 38, 297, 298, 299, 300, 301, 302, 303, 304, 307, 308] (by decide +kernel) (by decide +kernel)) (goodIn_sub (fun _ h => List.mem_append_left _ (List.mem_append_right _ h)) (by decide +kernel))
set_option maxRecDepth 20000 in
theorem gL_law_L_areCosts : GoodIn wsL_law (va_wsS RL 78 yL_areCosts wsL_areCosts) := goodIn_app (goodIn_of _ (by decide +kernel)) ggL_law_L_areCosts
set_option maxRecDepth 20000 in
theorem ggL_law_L_isCut : GoodIn wsL_law wsL_isCut := goodIn_ca (goodIn_ca (goodIn_r _ [202, 203, 204, 205, 2, 206, 12, 118, 119, 120, 11, 121, 34, 207, 208, 209, 210, 25, 211, 212, 213, 214, 215, 64, 65, 26, 216, 217, 218, 219, 108, 109, 220, 221, 222, 223, 28, 224, 17, 225, 226, 227, 24, 228, 57, 58, 59, 132, 133, 134, 135, 136, 137, 138, 139, 33, 196, 197, 198, 15, 199, 39, 38, 229, 230, 231, 232, 55, 233, 234, 235, 236, 56, 54, 237, 238, 239, 240, 241, 242, 243, 244, 245, 246, 247, 248, 249, 250, 251, 252, 96, 97, 98, 99, 253, 254, 255, 256, 192, 193, 194, 195, 104, 105, 106, 107, 189, 190, 191, 257, 258, 259, 260, 261, 262, 263, 264, 265, 266, 267, 268, 269, 270, 271, 272, 273, 274, 275, 276, 277, 278, 279, 280, 281, 282, 283, 284, 84, 285, 286, 287, 288, 289, 290, 291, 292, 293, 294, 295, 296, 297, 298, 299, 300, 301, 302, 303, 304, 305, 306, 314, 315, 316, 317, 318, 319, 307, 308] (by decide +kernel) (by decide +kernel)) (goodIn_sub (fun _ h => List.mem_append_left _ (List.mem_append_left _ (List.mem_append_left _ (List.mem_append_right _ h)))) (by decide +kernel))) (goodIn_sub (fun _ h => List.mem_append_left _ (List.mem_append_right _ h)) (by decide +kernel))
set_option maxRecDepth 20000 in
theorem gL_law_L_isCut : GoodIn wsL_law (va_wsS RL 82 yL_isCut wsL_isCut) := goodIn_app (goodIn_of _ (by decide +kernel)) ggL_law_L_isCut
end
section
/-! ===== printed: decode rows, the law ===== -/
theorem dL_law_0 : decode cL_law 0 = .ok (.new 9, 3) := by decide +kernel
theorem dL_law_3 : decode cL_law 3 = .ok (.dup, 1) := by decide +kernel
theorem dL_law_4 : decode cL_law 4 = .ok (.invokespecial 46, 3) := by decide +kernel
theorem dL_law_7 : decode cL_law 7 = .ok (.astore_n 1, 1) := by decide +kernel
theorem dL_law_8 : decode cL_law 8 = .ok (.iconst 0, 1) := by decide +kernel
theorem dL_law_9 : decode cL_law 9 = .ok (.istore_n 2, 1) := by decide +kernel
theorem dL_law_10 : decode cL_law 10 = .ok (.iconst 4, 1) := by decide +kernel
theorem dL_law_11 : decode cL_law 11 = .ok (.istore_n 3, 1) := by decide +kernel
theorem dL_law_12 : decode cL_law 12 = .ok (.iconst 0, 1) := by decide +kernel
theorem dL_law_13 : decode cL_law 13 = .ok (.istore 4, 2) := by decide +kernel
theorem dL_law_15 : decode cL_law 15 = .ok (.aload_n 1, 1) := by decide +kernel
theorem dL_law_16 : decode cL_law 16 = .ok (.invokevirtual 47, 3) := by decide +kernel
theorem dL_law_19 : decode cL_law 19 = .ok (.pop, 1) := by decide +kernel
theorem dL_law_20 : decode cL_law 20 = .ok (.iconst 0, 1) := by decide +kernel
theorem dL_law_21 : decode cL_law 21 = .ok (.istore 5, 2) := by decide +kernel
theorem dL_law_23 : decode cL_law 23 = .ok (.iload 5, 2) := by decide +kernel
theorem dL_law_25 : decode cL_law 25 = .ok (.bipush 60, 2) := by decide +kernel
theorem dL_law_27 : decode cL_law 27 = .ok (.if_icmp .ge 354, 3) := by decide +kernel
theorem dL_law_30 : decode cL_law 30 = .ok (.aload_n 0, 1) := by decide +kernel
theorem dL_law_31 : decode cL_law 31 = .ok (.iconst 2, 1) := by decide +kernel
theorem dL_law_32 : decode cL_law 32 = .ok (.iload 5, 2) := by decide +kernel
theorem dL_law_34 : decode cL_law 34 = .ok (.imul, 1) := by decide +kernel
theorem dL_law_35 : decode cL_law 35 = .ok (.invokestatic 50, 3) := by decide +kernel
theorem dL_law_38 : decode cL_law 38 = .ok (.istore 6, 2) := by decide +kernel
theorem dL_law_40 : decode cL_law 40 = .ok (.aload_n 0, 1) := by decide +kernel
theorem dL_law_41 : decode cL_law 41 = .ok (.iconst 2, 1) := by decide +kernel
theorem dL_law_42 : decode cL_law 42 = .ok (.iload 5, 2) := by decide +kernel
theorem dL_law_44 : decode cL_law 44 = .ok (.imul, 1) := by decide +kernel
theorem dL_law_45 : decode cL_law 45 = .ok (.iconst 1, 1) := by decide +kernel
theorem dL_law_46 : decode cL_law 46 = .ok (.iadd, 1) := by decide +kernel
theorem dL_law_47 : decode cL_law 47 = .ok (.invokestatic 50, 3) := by decide +kernel
theorem dL_law_50 : decode cL_law 50 = .ok (.istore 7, 2) := by decide +kernel
theorem dL_law_52 : decode cL_law 52 = .ok (.iload 6, 2) := by decide +kernel
theorem dL_law_54 : decode cL_law 54 = .ok (.bipush 12, 2) := by decide +kernel
theorem dL_law_56 : decode cL_law 56 = .ok (.invokestatic 56, 3) := by decide +kernel
theorem dL_law_59 : decode cL_law 59 = .ok (.istore 8, 2) := by decide +kernel
theorem dL_law_61 : decode cL_law 61 = .ok (.iconst 1, 1) := by decide +kernel
theorem dL_law_62 : decode cL_law 62 = .ok (.istore 9, 2) := by decide +kernel
theorem dL_law_64 : decode cL_law 64 = .ok (.iload 8, 2) := by decide +kernel
theorem dL_law_66 : decode cL_law 66 = .ok (.bipush 6, 2) := by decide +kernel
theorem dL_law_68 : decode cL_law 68 = .ok (.if_icmp .ge 72, 3) := by decide +kernel
theorem dL_law_71 : decode cL_law 71 = .ok (.iload_n 2, 1) := by decide +kernel
theorem dL_law_72 : decode cL_law 72 = .ok (.bipush 16, 2) := by decide +kernel
theorem dL_law_74 : decode cL_law 74 = .ok (.if_icmp .ge 66, 3) := by decide +kernel
theorem dL_law_77 : decode cL_law 77 = .ok (.iload 7, 2) := by decide +kernel
theorem dL_law_79 : decode cL_law 79 = .ok (.iload 6, 2) := by decide +kernel
theorem dL_law_81 : decode cL_law 81 = .ok (.iconst 4, 1) := by decide +kernel
theorem dL_law_82 : decode cL_law 82 = .ok (.ishr, 1) := by decide +kernel
theorem dL_law_83 : decode cL_law 83 = .ok (.iconst 2, 1) := by decide +kernel
theorem dL_law_84 : decode cL_law 84 = .ok (.invokestatic 56, 3) := by decide +kernel
theorem dL_law_87 : decode cL_law 87 = .ok (.ifCond .ne 7, 3) := by decide +kernel
theorem dL_law_90 : decode cL_law 90 = .ok (.iconst 3, 1) := by decide +kernel
theorem dL_law_91 : decode cL_law 91 = .ok (.goto 5, 3) := by decide +kernel
theorem dL_law_94 : decode cL_law 94 = .ok (.bipush 6, 2) := by decide +kernel
theorem dL_law_96 : decode cL_law 96 = .ok (.invokestatic 56, 3) := by decide +kernel
theorem dL_law_99 : decode cL_law 99 = .ok (.istore 10, 2) := by decide +kernel
theorem dL_law_101 : decode cL_law 101 = .ok (.iinc 2 1, 3) := by decide +kernel
theorem dL_law_104 : decode cL_law 104 = .ok (.aload_n 1, 1) := by decide +kernel
theorem dL_law_105 : decode cL_law 105 = .ok (.iload 10, 2) := by decide +kernel
theorem dL_law_107 : decode cL_law 107 = .ok (.ifCond .ne 8, 3) := by decide +kernel
theorem dL_law_110 : decode cL_law 110 = .ok (.bipush 32, 2) := by decide +kernel
theorem dL_law_112 : decode cL_law 112 = .ok (.goto 11, 3) := by decide +kernel
theorem dL_law_115 : decode cL_law 115 = .ok (.bipush 97, 2) := by decide +kernel
theorem dL_law_117 : decode cL_law 117 = .ok (.iload 10, 2) := by decide +kernel
theorem dL_law_119 : decode cL_law 119 = .ok (.iadd, 1) := by decide +kernel
theorem dL_law_120 : decode cL_law 120 = .ok (.iconst 1, 1) := by decide +kernel
theorem dL_law_121 : decode cL_law 121 = .ok (.isub, 1) := by decide +kernel
theorem dL_law_122 : decode cL_law 122 = .ok (.i2c, 1) := by decide +kernel
theorem dL_law_123 : decode cL_law 123 = .ok (.invokevirtual 59, 3) := by decide +kernel
theorem dL_law_126 : decode cL_law 126 = .ok (.iload_n 2, 1) := by decide +kernel
theorem dL_law_127 : decode cL_law 127 = .ok (.if_icmp .ne 7, 3) := by decide +kernel
theorem dL_law_130 : decode cL_law 130 = .ok (.iconst 1, 1) := by decide +kernel
theorem dL_law_131 : decode cL_law 131 = .ok (.goto 4, 3) := by decide +kernel
theorem dL_law_134 : decode cL_law 134 = .ok (.iconst 0, 1) := by decide +kernel
theorem dL_law_135 : decode cL_law 135 = .ok (.istore 9, 2) := by decide +kernel
theorem dL_law_137 : decode cL_law 137 = .ok (.goto 203, 3) := by decide +kernel
theorem dL_law_140 : decode cL_law 140 = .ok (.iload 8, 2) := by decide +kernel
theorem dL_law_142 : decode cL_law 142 = .ok (.bipush 6, 2) := by decide +kernel
theorem dL_law_144 : decode cL_law 144 = .ok (.if_icmp .ne 23, 3) := by decide +kernel
theorem dL_law_147 : decode cL_law 147 = .ok (.aload_n 1, 1) := by decide +kernel
theorem dL_law_148 : decode cL_law 148 = .ok (.invokevirtual 63, 3) := by decide +kernel
theorem dL_law_151 : decode cL_law 151 = .ok (.iload_n 2, 1) := by decide +kernel
theorem dL_law_152 : decode cL_law 152 = .ok (.if_icmp .ne 7, 3) := by decide +kernel
theorem dL_law_155 : decode cL_law 155 = .ok (.iconst 1, 1) := by decide +kernel
theorem dL_law_156 : decode cL_law 156 = .ok (.goto 4, 3) := by decide +kernel
theorem dL_law_159 : decode cL_law 159 = .ok (.iconst 0, 1) := by decide +kernel
theorem dL_law_160 : decode cL_law 160 = .ok (.istore 9, 2) := by decide +kernel
theorem dL_law_162 : decode cL_law 162 = .ok (.iconst 0, 1) := by decide +kernel
theorem dL_law_163 : decode cL_law 163 = .ok (.istore_n 2, 1) := by decide +kernel
theorem dL_law_164 : decode cL_law 164 = .ok (.goto 176, 3) := by decide +kernel
theorem dL_law_167 : decode cL_law 167 = .ok (.iload 8, 2) := by decide +kernel
theorem dL_law_169 : decode cL_law 169 = .ok (.bipush 9, 2) := by decide +kernel
theorem dL_law_171 : decode cL_law 171 = .ok (.if_icmp .ge 95, 3) := by decide +kernel
theorem dL_law_174 : decode cL_law 174 = .ok (.iload_n 2, 1) := by decide +kernel
theorem dL_law_175 : decode cL_law 175 = .ok (.ifCond .le 91, 3) := by decide +kernel
theorem dL_law_178 : decode cL_law 178 = .ok (.iload 4, 2) := by decide +kernel
theorem dL_law_180 : decode cL_law 180 = .ok (.bipush 30, 2) := by decide +kernel
theorem dL_law_182 : decode cL_law 182 = .ok (.if_icmp .ge 84, 3) := by decide +kernel
theorem dL_law_185 : decode cL_law 185 = .ok (.iload 7, 2) := by decide +kernel
theorem dL_law_187 : decode cL_law 187 = .ok (.aload_n 1, 1) := by decide +kernel
theorem dL_law_188 : decode cL_law 188 = .ok (.invokevirtual 28, 3) := by decide +kernel
theorem dL_law_191 : decode cL_law 191 = .ok (.invokestatic 56, 3) := by decide +kernel
theorem dL_law_194 : decode cL_law 194 = .ok (.istore 10, 2) := by decide +kernel
theorem dL_law_196 : decode cL_law 196 = .ok (.aload_n 1, 1) := by decide +kernel
theorem dL_law_197 : decode cL_law 197 = .ok (.iload 10, 2) := by decide +kernel
theorem dL_law_199 : decode cL_law 199 = .ok (.invokevirtual 66, 3) := by decide +kernel
theorem dL_law_202 : decode cL_law 202 = .ok (.istore 11, 2) := by decide +kernel
theorem dL_law_204 : decode cL_law 204 = .ok (.iinc 4 1, 3) := by decide +kernel
theorem dL_law_207 : decode cL_law 207 = .ok (.aload_n 1, 1) := by decide +kernel
theorem dL_law_208 : decode cL_law 208 = .ok (.iload 11, 2) := by decide +kernel
theorem dL_law_210 : decode cL_law 210 = .ok (.invokevirtual 69, 3) := by decide +kernel
theorem dL_law_213 : decode cL_law 213 = .ok (.iload 10, 2) := by decide +kernel
theorem dL_law_215 : decode cL_law 215 = .ok (.if_icmp .ne 7, 3) := by decide +kernel
theorem dL_law_218 : decode cL_law 218 = .ok (.iconst 1, 1) := by decide +kernel
theorem dL_law_219 : decode cL_law 219 = .ok (.goto 4, 3) := by decide +kernel
theorem dL_law_222 : decode cL_law 222 = .ok (.iconst 0, 1) := by decide +kernel
theorem dL_law_223 : decode cL_law 223 = .ok (.istore 9, 2) := by decide +kernel
theorem dL_law_225 : decode cL_law 225 = .ok (.iload 7, 2) := by decide +kernel
theorem dL_law_227 : decode cL_law 227 = .ok (.iconst 5, 1) := by decide +kernel
theorem dL_law_228 : decode cL_law 228 = .ok (.ishr, 1) := by decide +kernel
theorem dL_law_229 : decode cL_law 229 = .ok (.iconst 4, 1) := by decide +kernel
theorem dL_law_230 : decode cL_law 230 = .ok (.invokestatic 56, 3) := by decide +kernel
theorem dL_law_233 : decode cL_law 233 = .ok (.ifCond .ne 30, 3) := by decide +kernel
theorem dL_law_236 : decode cL_law 236 = .ok (.iload 9, 2) := by decide +kernel
theorem dL_law_238 : decode cL_law 238 = .ok (.ifCond .eq 19, 3) := by decide +kernel
theorem dL_law_241 : decode cL_law 241 = .ok (.aload_n 1, 1) := by decide +kernel
theorem dL_law_242 : decode cL_law 242 = .ok (.iload 11, 2) := by decide +kernel
theorem dL_law_244 : decode cL_law 244 = .ok (.invokevirtual 72, 3) := by decide +kernel
theorem dL_law_247 : decode cL_law 247 = .ok (.iload_n 2, 1) := by decide +kernel
theorem dL_law_248 : decode cL_law 248 = .ok (.iconst 1, 1) := by decide +kernel
theorem dL_law_249 : decode cL_law 249 = .ok (.iadd, 1) := by decide +kernel
theorem dL_law_250 : decode cL_law 250 = .ok (.if_icmp .ne 7, 3) := by decide +kernel
theorem dL_law_253 : decode cL_law 253 = .ok (.iconst 1, 1) := by decide +kernel
theorem dL_law_254 : decode cL_law 254 = .ok (.goto 4, 3) := by decide +kernel
theorem dL_law_257 : decode cL_law 257 = .ok (.iconst 0, 1) := by decide +kernel
theorem dL_law_258 : decode cL_law 258 = .ok (.istore 9, 2) := by decide +kernel
theorem dL_law_260 : decode cL_law 260 = .ok (.iinc 4 (-1), 3) := by decide +kernel
theorem dL_law_263 : decode cL_law 263 = .ok (.goto 77, 3) := by decide +kernel
theorem dL_law_266 : decode cL_law 266 = .ok (.iload 8, 2) := by decide +kernel
theorem dL_law_268 : decode cL_law 268 = .ok (.bipush 9, 2) := by decide +kernel
theorem dL_law_270 : decode cL_law 270 = .ok (.if_icmp .ne 34, 3) := by decide +kernel
theorem dL_law_273 : decode cL_law 273 = .ok (.aload_n 1, 1) := by decide +kernel
theorem dL_law_274 : decode cL_law 274 = .ok (.invokevirtual 28, 3) := by decide +kernel
theorem dL_law_277 : decode cL_law 277 = .ok (.iconst 4, 1) := by decide +kernel
theorem dL_law_278 : decode cL_law 278 = .ok (.if_icmp .ge 26, 3) := by decide +kernel
theorem dL_law_281 : decode cL_law 281 = .ok (.aload_n 1, 1) := by decide +kernel
theorem dL_law_282 : decode cL_law 282 = .ok (.invokevirtual 47, 3) := by decide +kernel
theorem dL_law_285 : decode cL_law 285 = .ok (.aload_n 1, 1) := by decide +kernel
theorem dL_law_286 : decode cL_law 286 = .ok (.invokevirtual 28, 3) := by decide +kernel
theorem dL_law_289 : decode cL_law 289 = .ok (.iconst 1, 1) := by decide +kernel
theorem dL_law_290 : decode cL_law 290 = .ok (.isub, 1) := by decide +kernel
theorem dL_law_291 : decode cL_law 291 = .ok (.if_icmp .ne 7, 3) := by decide +kernel
theorem dL_law_294 : decode cL_law 294 = .ok (.iconst 1, 1) := by decide +kernel
theorem dL_law_295 : decode cL_law 295 = .ok (.goto 4, 3) := by decide +kernel
theorem dL_law_298 : decode cL_law 298 = .ok (.iconst 0, 1) := by decide +kernel
theorem dL_law_299 : decode cL_law 299 = .ok (.istore 9, 2) := by decide +kernel
theorem dL_law_301 : decode cL_law 301 = .ok (.goto 39, 3) := by decide +kernel
theorem dL_law_304 : decode cL_law 304 = .ok (.iload 8, 2) := by decide +kernel
theorem dL_law_306 : decode cL_law 306 = .ok (.bipush 10, 2) := by decide +kernel
theorem dL_law_308 : decode cL_law 308 = .ok (.if_icmp .ne 32, 3) := by decide +kernel
theorem dL_law_311 : decode cL_law 311 = .ok (.iload 7, 2) := by decide +kernel
theorem dL_law_313 : decode cL_law 313 = .ok (.bipush 9, 2) := by decide +kernel
theorem dL_law_315 : decode cL_law 315 = .ok (.invokestatic 56, 3) := by decide +kernel
theorem dL_law_318 : decode cL_law 318 = .ok (.istore 10, 2) := by decide +kernel
theorem dL_law_320 : decode cL_law 320 = .ok (.aload_n 1, 1) := by decide +kernel
theorem dL_law_321 : decode cL_law 321 = .ok (.iload 10, 2) := by decide +kernel
theorem dL_law_323 : decode cL_law 323 = .ok (.invokevirtual 75, 3) := by decide +kernel
theorem dL_law_326 : decode cL_law 326 = .ok (.iload_n 3, 1) := by decide +kernel
theorem dL_law_327 : decode cL_law 327 = .ok (.if_icmp .ne 7, 3) := by decide +kernel
theorem dL_law_330 : decode cL_law 330 = .ok (.iconst 1, 1) := by decide +kernel
theorem dL_law_331 : decode cL_law 331 = .ok (.goto 4, 3) := by decide +kernel
theorem dL_law_334 : decode cL_law 334 = .ok (.iconst 0, 1) := by decide +kernel
theorem dL_law_335 : decode cL_law 335 = .ok (.istore 9, 2) := by decide +kernel
theorem dL_law_337 : decode cL_law 337 = .ok (.iload 10, 2) := by decide +kernel
theorem dL_law_339 : decode cL_law 339 = .ok (.istore_n 3, 1) := by decide +kernel
theorem dL_law_340 : decode cL_law 340 = .ok (.iload 9, 2) := by decide +kernel
theorem dL_law_342 : decode cL_law 342 = .ok (.ifCond .eq 31, 3) := by decide +kernel
theorem dL_law_345 : decode cL_law 345 = .ok (.aload_n 1, 1) := by decide +kernel
theorem dL_law_346 : decode cL_law 346 = .ok (.iload 7, 2) := by decide +kernel
theorem dL_law_348 : decode cL_law 348 = .ok (.bipush 8, 2) := by decide +kernel
theorem dL_law_350 : decode cL_law 350 = .ok (.ishr, 1) := by decide +kernel
theorem dL_law_351 : decode cL_law 351 = .ok (.aload_n 1, 1) := by decide +kernel
theorem dL_law_352 : decode cL_law 352 = .ok (.invokevirtual 28, 3) := by decide +kernel
theorem dL_law_355 : decode cL_law 355 = .ok (.invokestatic 56, 3) := by decide +kernel
theorem dL_law_358 : decode cL_law 358 = .ok (.invokestatic 78, 3) := by decide +kernel
theorem dL_law_361 : decode cL_law 361 = .ok (.ifCond .eq 12, 3) := by decide +kernel
theorem dL_law_364 : decode cL_law 364 = .ok (.aload_n 1, 1) := by decide +kernel
theorem dL_law_365 : decode cL_law 365 = .ok (.iload_n 3, 1) := by decide +kernel
theorem dL_law_366 : decode cL_law 366 = .ok (.iload_n 2, 1) := by decide +kernel
theorem dL_law_367 : decode cL_law 367 = .ok (.invokestatic 82, 3) := by decide +kernel
theorem dL_law_370 : decode cL_law 370 = .ok (.ifCond .ne 5, 3) := by decide +kernel
theorem dL_law_373 : decode cL_law 373 = .ok (.iconst 0, 1) := by decide +kernel
theorem dL_law_374 : decode cL_law 374 = .ok (.ireturn, 1) := by decide +kernel
theorem dL_law_375 : decode cL_law 375 = .ok (.iinc 5 1, 3) := by decide +kernel
theorem dL_law_378 : decode cL_law 378 = .ok (.goto (-355), 3) := by decide +kernel
theorem dL_law_381 : decode cL_law 381 = .ok (.iconst 1, 1) := by decide +kernel
theorem dL_law_382 : decode cL_law 382 = .ok (.ireturn, 1) := by decide +kernel
end
section
/-! ===== making: rows for the constructors, the arrays' classes as the world names them ===== -/
/-- what a constructor needs of the tables that its words don't carry on -/
def Cw (U : State) : Prop := va_AOA .int U ∧ va_AO RX3 U ∧ va_Nw (.methodLinkNest RX4 9 yX2_init RX4) U ∧ va_Nw (.methodLinkNest RX4 18 yX3_init RX4) U ∧ va_Nw (.methodLinkNest RX4 36 yX0_init RX4) U
theorem va_AOA.moved {ty : FieldType} {u U : State} (hvm : u.vm.Alike U.vm) (h : va_AOA ty u) : va_AOA ty U := arrayOver_alikeB hvm h
theorem Cw.moved {u U : State} (hW : u.WarmedH U.vm) (h : Cw u) : Cw U := ⟨h.1.moved hW.alike, h.2.1.moved hW.alike, h.2.2.1.warmM hW, h.2.2.2.1.warmM hW, h.2.2.2.2.warmM hW⟩
theorem Cw.blind {U : State} {g : JFrame} {mk : MethodId} {a : Array Value} (h : Cw U) : Cw (U.calling g mk a) := ⟨va_AOA.moved (u := U) (U := U.calling g mk a) (Vm.Alike.refl U.vm) h.1, va_AO.moved (u := U) (U := U.calling g mk a) (Vm.Alike.refl U.vm) h.2.1, va_Nw.same (u := U) (U := U.calling g mk a) rfl rfl h.2.2.1, va_Nw.same (u := U) (U := U.calling g mk a) rfl rfl h.2.2.2.1, va_Nw.same (u := U) (U := U.calling g mk a) rfl rfl h.2.2.2.2⟩
/-- a constructor's start: the cells ws, the arrays' classes, the tables -/
def PrC (D : va_G) (cy : Nat → ClassId) (a : List Value) (ws : va_W) (sz : Nat) : Array Value → State → Prop := va_Pc a (fun U => U.heap.size = sz ∧ va_P D vwCl ws U.heap ∧ va_K D vwCl (tysO cy) U ∧ va_D (fun _ => True) ws ∧ Cw U)
theorem PrC.blind {D : va_G} {cy : Nat → ClassId} {a : List Value} {ws : va_W} {sz : Nat} : FrameBlind (PrC D cy a ws sz) := fun a U g mk q => by
  obtain ⟨q0, q1, qP, qK, qD, qC⟩ := q
  exact ⟨q0, q1, qP, va_K.moved (u := U) (U := U.calling g mk a) (Vm.Alike.refl U.vm) qK, qD, qC.blind⟩
/-- its end: the cells u -/
def BwC (D : va_G) (cy : Nat → ClassId) (A : Nat → Prop) : va_W → State → Prop := fun u t => va_P D vwCl u t.heap ∧ va_K D vwCl (tysO cy) t ∧ va_D A u
abbrev MetC (l : Launch) (y : MethodName) (wo : List Cond) (fr lo mc ms : Nat) (D : va_G) (cy : Nat → ClassId) (a : List Value) (ws : va_W) (post : va_W → Prop) : Prop := ∀ sz, Met l y wo ({ frames := fr, cells := mc, slots := ms, locals := lo }) (PrC D cy a ws sz) (va_Qv post (BwC D cy (va_A ws sz)) (va_A ws sz)) mc ms (va_A ws sz)
theorem tn_nd : ∀ n : Nat, ∀ k : Nat, va_nd (List.range' k n) = true := by
  intro n
  induction n with
  | zero => intro k; rfl
  | succ n ih =>
    intro k
    rw [List.range'_succ, va_nd, ih, Bool.and_true]
    refine decide_eq_true fun h => ?_
    have := (List.mem_range'_1.mp h).1
    omega
theorem tn_get {ws w2 : va_W} : (List.range ws.length).map (fun i => (ws ++ w2)[i]?) = ws.map some := by
  refine List.ext_getElem? fun i => ?_
  rw [List.getElem?_map, List.getElem?_map]
  by_cases h : i < ws.length
  · rw [List.getElem?_range h, Option.map_some, List.getElem?_append_left h, List.getElem?_eq_getElem h]
    rfl
  · rw [List.getElem?_eq_none (by rw [List.length_range]; omega), List.getElem?_eq_none (by omega)]
    rfl
/-- the callee's cell is the last one: what it made stands where that stood -/
theorem tn_join {A0 : Nat → Prop} {D : va_G} {ws w1 : va_W} {q : Nat} {e : va_E} {H H1 : Heap} (hP : va_P D vwCl (ws ++ [(q, e)]) H) (hD : va_D A0 (ws ++ [(q, e)])) (hk : ∀ x : Nat, x < H.size → ¬ va_A [(q, e)] H.size x → H1[x]? = H[x]?) (hF : ∀ x, va_A [(q, e)] H.size x → A0 x) (hP1 : va_P D vwCl w1 H1) (hD1 : va_D (va_A [(q, e)] H.size) w1) : va_P D vwCl (ws ++ w1) H1 ∧ va_D A0 (ws ++ w1) :=
  va_join (wc := [(q, e)]) (wr := ws) hP hD [ws.length] (List.range ws.length) (by simp) tn_get (by rw [List.range_eq_range']; exact tn_nd _ _) (fun i hi h => by rw [List.mem_range] at hi; rw [List.mem_singleton] at h; omega) hk hF hP1 hD1
theorem tn_lastP {D : va_G} {ws : va_W} {x : Nat × va_E} {H : Heap} (hP : va_P D vwCl (ws ++ [x]) H) : va_P D vwCl [x] H := hP.sub [ws.length] (by simp)
theorem tn_lastD {A0 : Nat → Prop} {ws : va_W} {x : Nat × va_E} (hD : va_D A0 (ws ++ [x])) : va_D A0 [x] := hD.sub [ws.length] (by simp [va_nd]) (by simp)
theorem tn_lastF {A0 : Nat → Prop} {ws : va_W} {x : Nat × va_E} {H0 H : Heap} {locs : List Loc} (hD : va_D A0 (ws ++ [x])) (hS : va_S A0 H0 H locs) (hA : ∀ q, H0.size ≤ q → A0 q) : ∀ q, va_A [x] H.size q → A0 q := va_free (wc := [x]) hD hS hA [ws.length] (by simp)
section TN
variable {p : Program} {l : Launch} {e : Env} {R : Room} {s : State} {m : MethodId} {args : Array Value} {below : List Frame} {meth : Method} {c : Code} {H : Heap} {locs : List Loc} {cells slots : Nat} {Q : State → Prop}
variable {cc : ByteArray} {pc : Nat} {ls : Array Slot} {rest : List Value} {D : va_G} {A : Nat → Prop} {ws : va_W} {H0 : Heap} {cy : Nat → ClassId}
theorem tn_cy {cA : ClassId} {ty : FieldType} {t0 : Nat} (ht : (tysO cy)[t0]? = some (cy t0, ty)) (hK : va_K D vwCl (tysO cy) s) (hK1 : va_K D vwCl (tysO cy ++ [(cA, ty)]) s) : cA = cy t0 := by
  have h1 := (hK.2 t0 _ ht).2
  have h2 := (hK1.2 3 (cA, ty) rfl).2
  cases ty with
  | object C =>
    obtain ⟨_, _, _, _, _, f1⟩ := h1
    obtain ⟨_, _, _, _, _, f2⟩ := h2
    exact Option.some.inj (f2.symm.trans f1)
  | _ => exact Option.some.inj ((show s.vm.findClass _ = some cA from h2).symm.trans h1)
theorem tn_newa (hexec : p.tables.exec = Jvm.exec) (hb : c.code = cc) (harr : (Cond.arrayClass .int).before args s = true) (hK : va_K D vwCl (tysO cy) s) (hP : va_P D vwCl ws H) (hD : va_D A ws) (hS : va_S A H0 H locs) (hA : ∀ q, H0.size ≤ q → A q)
    {n : Int32} {N' : Nat} (hn : ¬ n < 0) (hN : n.toNatClampNeg = N') (hbytes : N' * componentBytes .int ≤ 536870912) (hcells : cells + 1 ≤ R.cells) (hslots : slots + N' ≤ R.slots) (hdg : decode cc pc = .ok (.newarray .int, 2))
    (kk : ∀ (q : Nat) (H1 : Heap), va_P D vwCl (ws ++ [(q, .inl (cy 0, N', .inl (fun _ => 0)))]) H1 → va_D A (ws ++ [(q, .inl (cy 0, N', .inl (fun _ => 0)))]) → va_S A H0 H1 locs → W p l e R s m args below meth c H1 locs (cells + 1) (slots + N') Q (F0 m (pc + 2) ls (.ref q :: rest))) :
    W p l e R s m args below meth c H locs cells slots Q (F0 m pc ls (.int n :: rest)) :=
  va_newa (atype := .int) (ty := .int) (a0 := (N', .inl (fun _ => 0))) hexec hb harr rfl hK hP hD hS hA (fun cA => rfl) hn hN hbytes hcells hslots hdg (fun q cA H1 hK1 hP1 hD1 hS1 => by
    obtain rfl := tn_cy (t0 := 0) rfl hK hK1
    exact kk q H1 hP1 hD1 hS1)
theorem tn_newq (hexec : p.tables.exec = Jvm.exec) (hb : c.code = cc) {own : String} {index : Nat} (hown : s.vm.findClass own = some m.cls) (hclink : (Cond.classLink own index RX3).before args s = true) (hover : va_AO RX3 s) (hK : va_K D vwCl (tysO cy) s) (hP : va_P D vwCl ws H) (hD : va_D A ws) (hS : va_S A H0 H locs) (hA : ∀ q, H0.size ≤ q → A q)
    {n : Int32} {N' : Nat} (hn : ¬ n < 0) (hN : n.toNatClampNeg = N') (hbytes : N' * 4 ≤ 536870912) (hcells : cells + 1 ≤ R.cells) (hslots : slots + N' ≤ R.slots) (hdg : decode cc pc = .ok (.anewarray index, 3))
    (kk : ∀ (q : Nat) (H1 : Heap), va_P D vwCl (ws ++ [(q, .inl (cy 1, N', .inr (.inr (.inr (.inr (fun _ => none))))))]) H1 → va_D A (ws ++ [(q, .inl (cy 1, N', .inr (.inr (.inr (.inr (fun _ => none))))))]) → va_S A H0 H1 locs → W p l e R s m args below meth c H1 locs (cells + 1) (slots + N') Q (F0 m (pc + 3) ls (.ref q :: rest))) :
    W p l e R s m args below meth c H locs cells slots Q (F0 m pc ls (.int n :: rest)) :=
  va_newq hexec hb hown hclink hover hK hP hD hS hA hn hN hbytes hcells hslots hdg (fun q cA H1 hK1 hP1 hD1 hS1 => by
    obtain rfl := tn_cy (t0 := 1) rfl hK hK1
    exact kk q H1 hP1 hD1 hS1)
/-- int[N'][K'] -/
theorem tn_mna (hexec : p.tables.exec = Jvm.exec) (hb : c.code = cc) {own : String} {index : Nat} (hown : s.vm.findClass own = some m.cls) (hclink : (Cond.classLink own index "[[I").before args s = true) (hover : va_AOA .int s) (harr : (Cond.arrayClass .int).before args s = true)
    (hK : va_K D vwCl (tysO cy) s) (hP : va_P D vwCl ws H) (hD : va_D A ws) (hS : va_S A H0 H locs) (hA : ∀ q, H0.size ≤ q → A q) {n k : Int32} {N' K' : Nat} (hn : ¬ n < 0) (hk : ¬ k < 0) (hN : n.toNatClampNeg = N') (hM : k.toNatClampNeg = K')
    (hb1 : N' * 4 ≤ 536870912) (hb2 : K' * componentBytes .int ≤ 536870912) (hb3 : K' ≤ 536870912) (hcells : cells + (1 + N') ≤ R.cells) (hslots : slots + (N' + N' * K') ≤ R.slots) (hdg : decode cc pc = .ok (.multianewarray index 2, 4))
    (kk : ∀ (q : Nat) (r : Nat → Nat) (H1 : Heap), va_P D vwCl (ws ++ [(q, .inl (cy 2, N', .inr (.inr (.inr (.inr (fun i => if i < N' then some (r i) else none))))))] ++ (List.range N').map (fun i => (r i, .inl (cy 0, K', .inl (fun _ => 0))))) H1 →
      va_D A (ws ++ [(q, .inl (cy 2, N', .inr (.inr (.inr (.inr (fun i => if i < N' then some (r i) else none))))))] ++ (List.range N').map (fun i => (r i, .inl (cy 0, K', .inl (fun _ => 0))))) → va_S A H0 H1 locs →
      W p l e R s m args below meth c H1 locs (cells + 1 + N') (slots + N' + N' * K') Q (F0 m (pc + 4) ls (.ref q :: rest))) : W p l e R s m args below meth c H locs cells slots Q (F0 m pc ls (.int k :: .int n :: rest)) := by
  have hcy : s.vm.findClass (FieldType.array FieldType.int).toString = some (cy 0) := (hK.2 0 _ rfl).2
  refine va_mna (X := ws) (L := []) (f := fun _ => .inl (cy 0, 0, .inl (fun _ => 0))) (ty := .int) (cy := cy 0) (z := (K', .inl (fun _ => 0))) hexec hb hown hclink hover harr hcy hK (by rw [va_pl, List.map_nil, List.append_nil]; exact hP) (by rw [va_pl, List.map_nil, List.append_nil]; exact hD) hS hA hn hk hN hM hb1 hb2 hb3 rfl rfl hcells hslots (fun c9 => arrV_new (cI := c9) _ _) hdg (fun q r cA H1 hi hL hK1 hP1 hD1 hS1 => ?_)
  obtain rfl := tn_cy (t0 := 2) rfl hK hK1
  have he : va_pl ([] ++ (List.range N').map r) (vr_up (fun _ => (.inl (cy 0, 0, .inl (fun _ => 0)) : va_E)) ((List.range N').map r) (.inl (cy 0, K', .inl (fun _ => 0)))) = (List.range N').map (fun i => (r i, .inl (cy 0, K', .inl (fun _ => 0)))) := by
    rw [List.nil_append, va_pl, List.map_map]
    refine List.map_congr_left fun i hi => ?_
    show (r i, vr_up _ _ _ (r i)) = _
    rw [vr_up, if_pos (List.mem_map_of_mem hi)]
  rw [he] at hP1 hD1
  exact kk q r H1 hP1 hD1 hS1
end TN
end
section
/-! ===== the constructors ===== -/
set_option maxHeartbeats 4000000 in
set_option maxRecDepth 100000 in
theorem k_X2 (l : Launch) (D : va_G) (cy : Nat → ClassId) (h0 : Nat) : MetC l yX2_init wsX2_init 1 12 1 16 D cy [.ref h0] [(h0, .inr (2, [.null, .int 0]))] (fun u => ∃ q : Nat, u = [(h0, .inr (2, [.ref q, .int 0]))] ++ [(q, .inl (cy 0, 16, .inl (fun _ => 0)))]) := by
  intro sz
  refine Met.ofW (cc := cX2_init) (maxL := 1) (ret := none) (by decide) rfl ?_
  intro p e s m args below meth c s₁ B hml hv
  obtain ⟨rfl, hsz, hP, hK, hD0, hC⟩ := hv
  have hx := B.exec
  have hb := B.bytes
  have hr := B.returns
  have hts := atoms_spec (ws := wsX2_init) B.pre
  have hown : s.vm.findClass RX2 = some m.cls := findClass_of_methodNamed B.named
  have hlocks := B.notSynchronized
  have hin : meth.name = "<init>" := (name_of_methodNamed B.named B.method).1
  subst hsz
  have hD := hD0.self (sz := s.heap.size)
  generalize hAe : va_A [(h0, .inr (2, [.null, .int 0]))] s.heap.size = A at hD ⊢
  have hA : ∀ q : Nat, s.heap.size ≤ q → A q := fun q h => by rw [← hAe]; exact Or.inr h
  have hS : va_S A s.heap s.heap [] := va_S.rf
  have hl := lv_entry ([.ref h0]) (n := 1) (Nat.le_of_ble_eq_true rfl)
  rw [lg_entry_eq]
  generalize (lg_sl ([.ref h0]) ++ List.replicate (1 - (lg_sl ([.ref h0])).length) Slot.unset).toArray = ls at hl ⊢
  have hl : lv_has ls 1 [(0, .ref h0)] := hl
  have hin0 : ∀ w ∈ u_ws RX2 TX2 2, w ∈ wsX2_init := by decide +kernel
  refine lv_aload_n hx hb dX2_init_0 rfl (lv_at hl 0 rfl) ?_
  refine W.objInit hx hb hown (hts (.methodLink RX2 3 objectInit) (by decide +kernel)) (hts (.instanceMethod objectInit) (by decide +kernel)) (hts (.code objectInit ⟨#[0xb1]⟩ 1 none) (by decide +kernel)) rfl (by rw [hml]; exact hl.1) rfl dX2_init_1 (Nat.le_of_ble_eq_true rfl) (Nat.le_of_ble_eq_true rfl) ?_
  refine W.eq (g2 := F0 m 4 ls []) rfl ?_
  refine lv_aload_n hx hb dX2_init_4 rfl (lv_at hl 0 rfl) ?_
  refine lv_bipush (v := 16) hx hb dX2_init_5 (by decide) ?_
  refine tn_newa (N' := 16) hx hb (hts (.arrayClass .int) (by decide +kernel)) hK hP hD hS hA (by decide) (by decide) (Nat.le_of_ble_eq_true rfl) (Nat.le_of_ble_eq_true rfl) (Nat.le_of_ble_eq_true rfl) dX2_init_7 (fun q7 H hP hD hS => ?_)
  refine va_putF (D := D) (ci := 2) (v := .ref q7) (ty := .array .int) (C := RX2) (T := TX2) (N := 2) hx hb hts hin0 tyX2 tyX2_ok nmX2 hown hK hP hD hS 0 rfl rfl 0 (by decide) (hts (.fieldLink RX2 9 "Tonguetell$Spelling" "letters" "[I") (by decide +kernel)) (fun _ h9 => h9) rfl hin rfl (by decide +kernel) rfl rfl (Nat.le_of_ble_eq_true rfl) dX2_init_9 (fun H locs hP hD hS => ?_)
  have hP : va_P D vwCl ([(h0, .inr (2, [.ref q7, .int 0]))] ++ [(q7, .inl (cy 0, 16, .inl (fun _ => 0)))]) H := hP
  have hD : va_D A ([(h0, .inr (2, [.ref q7, .int 0]))] ++ [(q7, .inl (cy 0, 16, .inl (fun _ => 0)))]) := hD
  refine lv_aload_n hx hb dX2_init_12 rfl (lv_at hl 0 rfl) ?_
  refine lv_iconst (v := 0) hx hb dX2_init_13 (by decide) ?_
  refine va_put (D := D) (ci := 2) (v := .int 0) (ty := .int) (C := RX2) (T := TX2) (N := 2) hx hb hts hin0 tyX2 tyX2_ok nmX2 hown hK hP hD hS 0 rfl rfl 1 (by decide) (hts (.fieldLink RX2 15 "Tonguetell$Spelling" "length" "I") (by decide +kernel)) (fun _ h9 => h9) rfl (by decide +kernel) rfl rfl (Nat.le_of_ble_eq_true rfl) dX2_init_14 (fun H locs hP hD hS => ?_)
  have hP : va_P D vwCl ([(h0, .inr (2, [.ref q7, .int 0]))] ++ [(q7, .inl (cy 0, 16, .inl (fun _ => 0)))]) H := hP
  have hD : va_D A ([(h0, .inr (2, [.ref q7, .int 0]))] ++ [(q7, .inl (cy 0, 16, .inl (fun _ => 0)))]) := hD
  refine W.widen (k := 1) (n := 16) (Nat.le_of_ble_eq_true rfl) (Nat.le_of_ble_eq_true rfl) ?_
  exact W.vret hx hb hr (fun t ht hW => ⟨⟨_, rfl, ⟨q7, rfl⟩, by rw [ht]; exact hP, va_K.moved hW.alike hK, hD⟩, hS.F ht⟩) hS.2.2 dX2_init_17
set_option maxHeartbeats 4000000 in
set_option maxRecDepth 100000 in
theorem k_X3 (l : Launch) (D : va_G) (cy : Nat → ClassId) (h0 : Nat) : MetC l yX3_init wsX3_init 1 12 1 36 D cy [.ref h0] [(h0, .inr (3, [.null, .int 0]))] (fun u => ∃ q : Nat, u = [(h0, .inr (3, [.ref q, .int 0]))] ++ [(q, .inl (cy 0, 36, .inl (fun _ => 0)))]) := by
  intro sz
  refine Met.ofW (cc := cX3_init) (maxL := 1) (ret := none) (by decide) rfl ?_
  intro p e s m args below meth c s₁ B hml hv
  obtain ⟨rfl, hsz, hP, hK, hD0, hC⟩ := hv
  have hx := B.exec
  have hb := B.bytes
  have hr := B.returns
  have hts := atoms_spec (ws := wsX3_init) B.pre
  have hown : s.vm.findClass RX3 = some m.cls := findClass_of_methodNamed B.named
  have hlocks := B.notSynchronized
  have hin : meth.name = "<init>" := (name_of_methodNamed B.named B.method).1
  subst hsz
  have hD := hD0.self (sz := s.heap.size)
  generalize hAe : va_A [(h0, .inr (3, [.null, .int 0]))] s.heap.size = A at hD ⊢
  have hA : ∀ q : Nat, s.heap.size ≤ q → A q := fun q h => by rw [← hAe]; exact Or.inr h
  have hS : va_S A s.heap s.heap [] := va_S.rf
  have hl := lv_entry ([.ref h0]) (n := 1) (Nat.le_of_ble_eq_true rfl)
  rw [lg_entry_eq]
  generalize (lg_sl ([.ref h0]) ++ List.replicate (1 - (lg_sl ([.ref h0])).length) Slot.unset).toArray = ls at hl ⊢
  have hl : lv_has ls 1 [(0, .ref h0)] := hl
  have hin0 : ∀ w ∈ u_ws RX3 TX3 2, w ∈ wsX3_init := by decide +kernel
  refine lv_aload_n hx hb dX3_init_0 rfl (lv_at hl 0 rfl) ?_
  refine W.objInit hx hb hown (hts (.methodLink RX3 3 objectInit) (by decide +kernel)) (hts (.instanceMethod objectInit) (by decide +kernel)) (hts (.code objectInit ⟨#[0xb1]⟩ 1 none) (by decide +kernel)) rfl (by rw [hml]; exact hl.1) rfl dX3_init_1 (Nat.le_of_ble_eq_true rfl) (Nat.le_of_ble_eq_true rfl) ?_
  refine W.eq (g2 := F0 m 4 ls []) rfl ?_
  refine lv_aload_n hx hb dX3_init_4 rfl (lv_at hl 0 rfl) ?_
  refine lv_bipush (v := 36) hx hb dX3_init_5 (by decide) ?_
  refine tn_newa (N' := 36) hx hb (hts (.arrayClass .int) (by decide +kernel)) hK hP hD hS hA (by decide) (by decide) (Nat.le_of_ble_eq_true rfl) (Nat.le_of_ble_eq_true rfl) (Nat.le_of_ble_eq_true rfl) dX3_init_7 (fun q7 H hP hD hS => ?_)
  refine va_putF (D := D) (ci := 3) (v := .ref q7) (ty := .array .int) (C := RX3) (T := TX3) (N := 2) hx hb hts hin0 tyX3 tyX3_ok nmX3 hown hK hP hD hS 0 rfl rfl 0 (by decide) (hts (.fieldLink RX3 9 "Tonguetell$Tally" "counts" "[I") (by decide +kernel)) (fun _ h9 => h9) rfl hin rfl (by decide +kernel) rfl rfl (Nat.le_of_ble_eq_true rfl) dX3_init_9 (fun H locs hP hD hS => ?_)
  have hP : va_P D vwCl ([(h0, .inr (3, [.ref q7, .int 0]))] ++ [(q7, .inl (cy 0, 36, .inl (fun _ => 0)))]) H := hP
  have hD : va_D A ([(h0, .inr (3, [.ref q7, .int 0]))] ++ [(q7, .inl (cy 0, 36, .inl (fun _ => 0)))]) := hD
  refine lv_aload_n hx hb dX3_init_12 rfl (lv_at hl 0 rfl) ?_
  refine lv_iconst (v := 0) hx hb dX3_init_13 (by decide) ?_
  refine va_put (D := D) (ci := 3) (v := .int 0) (ty := .int) (C := RX3) (T := TX3) (N := 2) hx hb hts hin0 tyX3 tyX3_ok nmX3 hown hK hP hD hS 0 rfl rfl 1 (by decide) (hts (.fieldLink RX3 15 "Tonguetell$Tally" "sum" "I") (by decide +kernel)) (fun _ h9 => h9) rfl (by decide +kernel) rfl rfl (Nat.le_of_ble_eq_true rfl) dX3_init_14 (fun H locs hP hD hS => ?_)
  have hP : va_P D vwCl ([(h0, .inr (3, [.ref q7, .int 0]))] ++ [(q7, .inl (cy 0, 36, .inl (fun _ => 0)))]) H := hP
  have hD : va_D A ([(h0, .inr (3, [.ref q7, .int 0]))] ++ [(q7, .inl (cy 0, 36, .inl (fun _ => 0)))]) := hD
  refine W.widen (k := 1) (n := 36) (Nat.le_of_ble_eq_true rfl) (Nat.le_of_ble_eq_true rfl) ?_
  exact W.vret hx hb hr (fun t ht hW => ⟨⟨_, rfl, ⟨q7, rfl⟩, by rw [ht]; exact hP, va_K.moved hW.alike hK, hD⟩, hS.F ht⟩) hS.2.2 dX3_init_17
set_option maxHeartbeats 4000000 in
set_option maxRecDepth 100000 in
theorem k_X0 (l : Launch) (D : va_G) (cy : Nat → ClassId) (h0 : Nat) : MetC l yX0_init wsX0_init 1 12 37 221 D cy [.ref h0] [(h0, .inr (0, [.null, .null, .null, .int 0, .int 0, .int 0]))] (fun u => ∃ (q1 q2 q3 : Nat) (r1 r3 : Nat → Nat), u = ((((([(h0, .inr (0, [.ref q1, .ref q2, .ref q3, .int 0, .int 0, .int 0]))] ++ [(q1, .inl (cy 2, 17, .inr (.inr (.inr (.inr (fun i => if i < 17 then some (r1 i) else none))))))]) ++ (List.range 17).map (fun i => (r1 i, .inl (cy 0, 5, .inl (fun _ => 0))))) ++ [(q2, .inl (cy 0, 17, .inl (fun _ => 0)))]) ++ [(q3, .inl (cy 2, 17, .inr (.inr (.inr (.inr (fun i => if i < 17 then some (r3 i) else none))))))]) ++ (List.range 17).map (fun i => (r3 i, .inl (cy 0, 5, .inl (fun _ => 0)))))) := by
  intro sz
  refine Met.ofW (cc := cX0_init) (maxL := 1) (ret := none) (by decide) rfl ?_
  intro p e s m args below meth c s₁ B hml hv
  obtain ⟨rfl, hsz, hP, hK, hD0, hC⟩ := hv
  have hx := B.exec
  have hb := B.bytes
  have hr := B.returns
  have hts := atoms_spec (ws := wsX0_init) B.pre
  have hown : s.vm.findClass RX0 = some m.cls := findClass_of_methodNamed B.named
  have hlocks := B.notSynchronized
  have hin : meth.name = "<init>" := (name_of_methodNamed B.named B.method).1
  subst hsz
  have hD := hD0.self (sz := s.heap.size)
  generalize hAe : va_A [(h0, .inr (0, [.null, .null, .null, .int 0, .int 0, .int 0]))] s.heap.size = A at hD ⊢
  have hA : ∀ q : Nat, s.heap.size ≤ q → A q := fun q h => by rw [← hAe]; exact Or.inr h
  have hS : va_S A s.heap s.heap [] := va_S.rf
  have hl := lv_entry ([.ref h0]) (n := 1) (Nat.le_of_ble_eq_true rfl)
  rw [lg_entry_eq]
  generalize (lg_sl ([.ref h0]) ++ List.replicate (1 - (lg_sl ([.ref h0])).length) Slot.unset).toArray = ls at hl ⊢
  have hl : lv_has ls 1 [(0, .ref h0)] := hl
  have hin0 : ∀ w ∈ u_ws RX0 TX0 6, w ∈ wsX0_init := by decide +kernel
  refine lv_aload_n hx hb dX0_init_0 rfl (lv_at hl 0 rfl) ?_
  refine W.objInit hx hb hown (hts (.methodLink RX0 3 objectInit) (by decide +kernel)) (hts (.instanceMethod objectInit) (by decide +kernel)) (hts (.code objectInit ⟨#[0xb1]⟩ 1 none) (by decide +kernel)) rfl (by rw [hml]; exact hl.1) rfl dX0_init_1 (Nat.le_of_ble_eq_true rfl) (Nat.le_of_ble_eq_true rfl) ?_
  refine W.eq (g2 := F0 m 4 ls []) rfl ?_
  refine lv_aload_n hx hb dX0_init_4 rfl (lv_at hl 0 rfl) ?_
  refine lv_bipush (v := 17) hx hb dX0_init_5 (by decide) ?_
  refine lv_iconst (v := 5) hx hb dX0_init_7 (by decide) ?_
  refine tn_mna (N' := 17) (K' := 5) hx hb hown (hts (.classLink RX0 9 "[[I") (by decide +kernel)) hC.1 (hts (.arrayClass .int) (by decide +kernel)) hK hP hD hS hA (by decide) (by decide) (by decide) (by decide) (Nat.le_of_ble_eq_true rfl) (Nat.le_of_ble_eq_true rfl) (Nat.le_of_ble_eq_true rfl) (Nat.le_of_ble_eq_true rfl) (Nat.le_of_ble_eq_true rfl) dX0_init_8 (fun q8 r8 H hP hD hS => ?_)
  refine va_putF (D := D) (ci := 0) (v := .ref q8) (ty := .array (.array .int)) (C := RX0) (T := TX0) (N := 6) hx hb hts hin0 tyX0 tyX0_ok nmX0 hown hK hP hD hS 0 rfl rfl 0 (by decide) (hts (.fieldLink RX0 11 "Tonguetell$Cutter" "costs" "[[I") (by decide +kernel)) (fun _ h9 => h9) rfl hin rfl (by decide +kernel) rfl rfl (Nat.le_of_ble_eq_true rfl) dX0_init_12 (fun H locs hP hD hS => ?_)
  have hP : va_P D vwCl (([(h0, .inr (0, [.ref q8, .null, .null, .int 0, .int 0, .int 0]))] ++ [(q8, .inl (cy 2, 17, .inr (.inr (.inr (.inr (fun i => if i < 17 then some (r8 i) else none))))))]) ++ (List.range 17).map (fun i => (r8 i, .inl (cy 0, 5, .inl (fun _ => 0))))) H := hP
  have hD : va_D A (([(h0, .inr (0, [.ref q8, .null, .null, .int 0, .int 0, .int 0]))] ++ [(q8, .inl (cy 2, 17, .inr (.inr (.inr (.inr (fun i => if i < 17 then some (r8 i) else none))))))]) ++ (List.range 17).map (fun i => (r8 i, .inl (cy 0, 5, .inl (fun _ => 0))))) := hD
  refine lv_aload_n hx hb dX0_init_15 rfl (lv_at hl 0 rfl) ?_
  refine lv_bipush (v := 17) hx hb dX0_init_16 (by decide) ?_
  refine tn_newa (N' := 17) hx hb (hts (.arrayClass .int) (by decide +kernel)) hK hP hD hS hA (by decide) (by decide) (Nat.le_of_ble_eq_true rfl) (Nat.le_of_ble_eq_true rfl) (Nat.le_of_ble_eq_true rfl) dX0_init_18 (fun q18 H hP hD hS => ?_)
  refine va_putF (D := D) (ci := 0) (v := .ref q18) (ty := .array .int) (C := RX0) (T := TX0) (N := 6) hx hb hts hin0 tyX0 tyX0_ok nmX0 hown hK hP hD hS 0 rfl rfl 1 (by decide) (hts (.fieldLink RX0 16 "Tonguetell$Cutter" "told" "[I") (by decide +kernel)) (fun _ h9 => h9) rfl hin rfl (by decide +kernel) rfl rfl (Nat.le_of_ble_eq_true rfl) dX0_init_20 (fun H locs hP hD hS => ?_)
  have hP : va_P D vwCl ((([(h0, .inr (0, [.ref q8, .ref q18, .null, .int 0, .int 0, .int 0]))] ++ [(q8, .inl (cy 2, 17, .inr (.inr (.inr (.inr (fun i => if i < 17 then some (r8 i) else none))))))]) ++ (List.range 17).map (fun i => (r8 i, .inl (cy 0, 5, .inl (fun _ => 0))))) ++ [(q18, .inl (cy 0, 17, .inl (fun _ => 0)))]) H := hP
  have hD : va_D A ((([(h0, .inr (0, [.ref q8, .ref q18, .null, .int 0, .int 0, .int 0]))] ++ [(q8, .inl (cy 2, 17, .inr (.inr (.inr (.inr (fun i => if i < 17 then some (r8 i) else none))))))]) ++ (List.range 17).map (fun i => (r8 i, .inl (cy 0, 5, .inl (fun _ => 0))))) ++ [(q18, .inl (cy 0, 17, .inl (fun _ => 0)))]) := hD
  refine lv_aload_n hx hb dX0_init_23 rfl (lv_at hl 0 rfl) ?_
  refine lv_bipush (v := 17) hx hb dX0_init_24 (by decide) ?_
  refine lv_iconst (v := 5) hx hb dX0_init_26 (by decide) ?_
  refine tn_mna (N' := 17) (K' := 5) hx hb hown (hts (.classLink RX0 9 "[[I") (by decide +kernel)) hC.1 (hts (.arrayClass .int) (by decide +kernel)) hK hP hD hS hA (by decide) (by decide) (by decide) (by decide) (Nat.le_of_ble_eq_true rfl) (Nat.le_of_ble_eq_true rfl) (Nat.le_of_ble_eq_true rfl) (Nat.le_of_ble_eq_true rfl) (Nat.le_of_ble_eq_true rfl) dX0_init_27 (fun q27 r27 H hP hD hS => ?_)
  refine va_putF (D := D) (ci := 0) (v := .ref q27) (ty := .array (.array .int)) (C := RX0) (T := TX0) (N := 6) hx hb hts hin0 tyX0 tyX0_ok nmX0 hown hK hP hD hS 0 rfl rfl 2 (by decide) (hts (.fieldLink RX0 20 "Tonguetell$Cutter" "rest" "[[I") (by decide +kernel)) (fun _ h9 => h9) rfl hin rfl (by decide +kernel) rfl rfl (Nat.le_of_ble_eq_true rfl) dX0_init_31 (fun H locs hP hD hS => ?_)
  have hP : va_P D vwCl ((((([(h0, .inr (0, [.ref q8, .ref q18, .ref q27, .int 0, .int 0, .int 0]))] ++ [(q8, .inl (cy 2, 17, .inr (.inr (.inr (.inr (fun i => if i < 17 then some (r8 i) else none))))))]) ++ (List.range 17).map (fun i => (r8 i, .inl (cy 0, 5, .inl (fun _ => 0))))) ++ [(q18, .inl (cy 0, 17, .inl (fun _ => 0)))]) ++ [(q27, .inl (cy 2, 17, .inr (.inr (.inr (.inr (fun i => if i < 17 then some (r27 i) else none))))))]) ++ (List.range 17).map (fun i => (r27 i, .inl (cy 0, 5, .inl (fun _ => 0))))) H := hP
  have hD : va_D A ((((([(h0, .inr (0, [.ref q8, .ref q18, .ref q27, .int 0, .int 0, .int 0]))] ++ [(q8, .inl (cy 2, 17, .inr (.inr (.inr (.inr (fun i => if i < 17 then some (r8 i) else none))))))]) ++ (List.range 17).map (fun i => (r8 i, .inl (cy 0, 5, .inl (fun _ => 0))))) ++ [(q18, .inl (cy 0, 17, .inl (fun _ => 0)))]) ++ [(q27, .inl (cy 2, 17, .inr (.inr (.inr (.inr (fun i => if i < 17 then some (r27 i) else none))))))]) ++ (List.range 17).map (fun i => (r27 i, .inl (cy 0, 5, .inl (fun _ => 0))))) := hD
  refine lv_aload_n hx hb dX0_init_34 rfl (lv_at hl 0 rfl) ?_
  refine lv_iconst (v := 0) hx hb dX0_init_35 (by decide) ?_
  refine va_put (D := D) (ci := 0) (v := .int 0) (ty := .int) (C := RX0) (T := TX0) (N := 6) hx hb hts hin0 tyX0 tyX0_ok nmX0 hown hK hP hD hS 0 rfl rfl 3 (by decide) (hts (.fieldLink RX0 23 "Tonguetell$Cutter" "runCount" "I") (by decide +kernel)) (fun _ h9 => h9) rfl (by decide +kernel) rfl rfl (Nat.le_of_ble_eq_true rfl) dX0_init_36 (fun H locs hP hD hS => ?_)
  have hP : va_P D vwCl ((((([(h0, .inr (0, [.ref q8, .ref q18, .ref q27, .int 0, .int 0, .int 0]))] ++ [(q8, .inl (cy 2, 17, .inr (.inr (.inr (.inr (fun i => if i < 17 then some (r8 i) else none))))))]) ++ (List.range 17).map (fun i => (r8 i, .inl (cy 0, 5, .inl (fun _ => 0))))) ++ [(q18, .inl (cy 0, 17, .inl (fun _ => 0)))]) ++ [(q27, .inl (cy 2, 17, .inr (.inr (.inr (.inr (fun i => if i < 17 then some (r27 i) else none))))))]) ++ (List.range 17).map (fun i => (r27 i, .inl (cy 0, 5, .inl (fun _ => 0))))) H := hP
  have hD : va_D A ((((([(h0, .inr (0, [.ref q8, .ref q18, .ref q27, .int 0, .int 0, .int 0]))] ++ [(q8, .inl (cy 2, 17, .inr (.inr (.inr (.inr (fun i => if i < 17 then some (r8 i) else none))))))]) ++ (List.range 17).map (fun i => (r8 i, .inl (cy 0, 5, .inl (fun _ => 0))))) ++ [(q18, .inl (cy 0, 17, .inl (fun _ => 0)))]) ++ [(q27, .inl (cy 2, 17, .inr (.inr (.inr (.inr (fun i => if i < 17 then some (r27 i) else none))))))]) ++ (List.range 17).map (fun i => (r27 i, .inl (cy 0, 5, .inl (fun _ => 0))))) := hD
  refine lv_aload_n hx hb dX0_init_39 rfl (lv_at hl 0 rfl) ?_
  refine lv_iconst (v := 0) hx hb dX0_init_40 (by decide) ?_
  refine va_put (D := D) (ci := 0) (v := .int 0) (ty := .int) (C := RX0) (T := TX0) (N := 6) hx hb hts hin0 tyX0 tyX0_ok nmX0 hown hK hP hD hS 0 rfl rfl 4 (by decide) (hts (.fieldLink RX0 27 "Tonguetell$Cutter" "choices" "I") (by decide +kernel)) (fun _ h9 => h9) rfl (by decide +kernel) rfl rfl (Nat.le_of_ble_eq_true rfl) dX0_init_41 (fun H locs hP hD hS => ?_)
  have hP : va_P D vwCl ((((([(h0, .inr (0, [.ref q8, .ref q18, .ref q27, .int 0, .int 0, .int 0]))] ++ [(q8, .inl (cy 2, 17, .inr (.inr (.inr (.inr (fun i => if i < 17 then some (r8 i) else none))))))]) ++ (List.range 17).map (fun i => (r8 i, .inl (cy 0, 5, .inl (fun _ => 0))))) ++ [(q18, .inl (cy 0, 17, .inl (fun _ => 0)))]) ++ [(q27, .inl (cy 2, 17, .inr (.inr (.inr (.inr (fun i => if i < 17 then some (r27 i) else none))))))]) ++ (List.range 17).map (fun i => (r27 i, .inl (cy 0, 5, .inl (fun _ => 0))))) H := hP
  have hD : va_D A ((((([(h0, .inr (0, [.ref q8, .ref q18, .ref q27, .int 0, .int 0, .int 0]))] ++ [(q8, .inl (cy 2, 17, .inr (.inr (.inr (.inr (fun i => if i < 17 then some (r8 i) else none))))))]) ++ (List.range 17).map (fun i => (r8 i, .inl (cy 0, 5, .inl (fun _ => 0))))) ++ [(q18, .inl (cy 0, 17, .inl (fun _ => 0)))]) ++ [(q27, .inl (cy 2, 17, .inr (.inr (.inr (.inr (fun i => if i < 17 then some (r27 i) else none))))))]) ++ (List.range 17).map (fun i => (r27 i, .inl (cy 0, 5, .inl (fun _ => 0))))) := hD
  refine lv_aload_n hx hb dX0_init_44 rfl (lv_at hl 0 rfl) ?_
  refine lv_iconst (v := 0) hx hb dX0_init_45 (by decide) ?_
  refine va_put (D := D) (ci := 0) (v := .int 0) (ty := .int) (C := RX0) (T := TX0) (N := 6) hx hb hts hin0 tyX0 tyX0_ok nmX0 hown hK hP hD hS 0 rfl rfl 5 (by decide) (hts (.fieldLink RX0 30 "Tonguetell$Cutter" "changePrice" "I") (by decide +kernel)) (fun _ h9 => h9) rfl (by decide +kernel) rfl rfl (Nat.le_of_ble_eq_true rfl) dX0_init_46 (fun H locs hP hD hS => ?_)
  have hP : va_P D vwCl ((((([(h0, .inr (0, [.ref q8, .ref q18, .ref q27, .int 0, .int 0, .int 0]))] ++ [(q8, .inl (cy 2, 17, .inr (.inr (.inr (.inr (fun i => if i < 17 then some (r8 i) else none))))))]) ++ (List.range 17).map (fun i => (r8 i, .inl (cy 0, 5, .inl (fun _ => 0))))) ++ [(q18, .inl (cy 0, 17, .inl (fun _ => 0)))]) ++ [(q27, .inl (cy 2, 17, .inr (.inr (.inr (.inr (fun i => if i < 17 then some (r27 i) else none))))))]) ++ (List.range 17).map (fun i => (r27 i, .inl (cy 0, 5, .inl (fun _ => 0))))) H := hP
  have hD : va_D A ((((([(h0, .inr (0, [.ref q8, .ref q18, .ref q27, .int 0, .int 0, .int 0]))] ++ [(q8, .inl (cy 2, 17, .inr (.inr (.inr (.inr (fun i => if i < 17 then some (r8 i) else none))))))]) ++ (List.range 17).map (fun i => (r8 i, .inl (cy 0, 5, .inl (fun _ => 0))))) ++ [(q18, .inl (cy 0, 17, .inl (fun _ => 0)))]) ++ [(q27, .inl (cy 2, 17, .inr (.inr (.inr (.inr (fun i => if i < 17 then some (r27 i) else none))))))]) ++ (List.range 17).map (fun i => (r27 i, .inl (cy 0, 5, .inl (fun _ => 0))))) := hD
  refine W.widen (k := 37) (n := 221) (Nat.le_of_ble_eq_true rfl) (Nat.le_of_ble_eq_true rfl) ?_
  exact W.vret hx hb hr (fun t ht hW => ⟨⟨_, rfl, ⟨q8, q18, q27, r8, r27, rfl⟩, by rw [ht]; exact hP, va_K.moved hW.alike hK, hD⟩, hS.F ht⟩) hS.2.2 dX0_init_49
set_option maxHeartbeats 4000000 in
set_option maxRecDepth 100000 in
theorem k_X1 (l : Launch) (D : va_G) (cy : Nat → ClassId) (h0 : Nat) : MetC l yX1_init wsX1_init 1 13 34 630 D cy [.ref h0] [(h0, .inr (1, [.null, .null, .null, .null, .int 0]))] (fun u => ∃ (q1 q2 q3 q4 : Nat) (r : Nat → Nat), u = ((((([(h0, .inr (1, [.ref q1, .ref q2, .ref q3, .ref q4, .int 0]))] ++ [(q1, .inl (cy 0, 30, .inl (fun k => if k < 30 then -1 else 0)))]) ++ [(q2, .inl (cy 0, 30, .inl (fun _ => 0)))]) ++ [(q3, .inl (cy 0, 30, .inl (fun _ => 0)))]) ++ [(q4, .inl (cy 2, 30, .inr (.inr (.inr (.inr (fun i => if i < 30 then some (r i) else none))))))]) ++ (List.range 30).map (fun i => (r i, .inl (cy 0, 17, .inl (fun _ => 0)))))) := by
  intro sz
  refine Met.ofW (cc := cX1_init) (maxL := 2) (ret := none) (by decide) rfl ?_
  intro p e s m args below meth c s₁ B hml hv
  obtain ⟨rfl, hsz, hP, hK, hD0, hC⟩ := hv
  have hx := B.exec
  have hb := B.bytes
  have hr := B.returns
  have hts := atoms_spec (ws := wsX1_init) B.pre
  have hown : s.vm.findClass RX1 = some m.cls := findClass_of_methodNamed B.named
  have hlocks := B.notSynchronized
  have hin : meth.name = "<init>" := (name_of_methodNamed B.named B.method).1
  subst hsz
  have hD := hD0.self (sz := s.heap.size)
  generalize hAe : va_A [(h0, .inr (1, [.null, .null, .null, .null, .int 0]))] s.heap.size = A at hD ⊢
  have hA : ∀ q : Nat, s.heap.size ≤ q → A q := fun q h => by rw [← hAe]; exact Or.inr h
  have hS : va_S A s.heap s.heap [] := va_S.rf
  have hl := lv_entry ([.ref h0]) (n := 2) (Nat.le_of_ble_eq_true rfl)
  rw [lg_entry_eq]
  generalize (lg_sl ([.ref h0]) ++ List.replicate (2 - (lg_sl ([.ref h0])).length) Slot.unset).toArray = ls at hl ⊢
  have hl : lv_has ls 2 [(0, .ref h0)] := hl
  have hin0 : ∀ w ∈ u_ws RX1 TX1 5, w ∈ wsX1_init := by decide +kernel
  refine lv_aload_n hx hb dX1_init_0 rfl (lv_at hl 0 rfl) ?_
  refine W.objInit hx hb hown (hts (.methodLink RX1 3 objectInit) (by decide +kernel)) (hts (.instanceMethod objectInit) (by decide +kernel)) (hts (.code objectInit ⟨#[0xb1]⟩ 1 none) (by decide +kernel)) rfl (by rw [hml]; exact hl.1) rfl dX1_init_1 (Nat.le_of_ble_eq_true rfl) (Nat.le_of_ble_eq_true rfl) ?_
  refine W.eq (g2 := F0 m 4 ls []) rfl ?_
  refine lv_aload_n hx hb dX1_init_4 rfl (lv_at hl 0 rfl) ?_
  refine lv_bipush (v := 30) hx hb dX1_init_5 (by decide) ?_
  refine tn_newa (N' := 30) hx hb (hts (.arrayClass .int) (by decide +kernel)) hK hP hD hS hA (by decide) (by decide) (Nat.le_of_ble_eq_true rfl) (Nat.le_of_ble_eq_true rfl) (Nat.le_of_ble_eq_true rfl) dX1_init_7 (fun q7 H hP hD hS => ?_)
  refine va_putF (D := D) (ci := 1) (v := .ref q7) (ty := .array .int) (C := RX1) (T := TX1) (N := 5) hx hb hts hin0 tyX1 tyX1_ok nmX1 hown hK hP hD hS 0 rfl rfl 0 (by decide) (hts (.fieldLink RX1 9 "Tonguetell$Shelf" "numberIn" "[I") (by decide +kernel)) (fun _ h9 => h9) rfl hin rfl (by decide +kernel) rfl rfl (Nat.le_of_ble_eq_true rfl) dX1_init_9 (fun H locs hP hD hS => ?_)
  have hP : va_P D vwCl ([(h0, .inr (1, [.ref q7, .null, .null, .null, .int 0]))] ++ [(q7, .inl (cy 0, 30, .inl (fun _ => 0)))]) H := hP
  have hD : va_D A ([(h0, .inr (1, [.ref q7, .null, .null, .null, .int 0]))] ++ [(q7, .inl (cy 0, 30, .inl (fun _ => 0)))]) := hD
  refine lv_aload_n hx hb dX1_init_12 rfl (lv_at hl 0 rfl) ?_
  refine lv_bipush (v := 30) hx hb dX1_init_13 (by decide) ?_
  refine tn_newa (N' := 30) hx hb (hts (.arrayClass .int) (by decide +kernel)) hK hP hD hS hA (by decide) (by decide) (Nat.le_of_ble_eq_true rfl) (Nat.le_of_ble_eq_true rfl) (Nat.le_of_ble_eq_true rfl) dX1_init_15 (fun q15 H hP hD hS => ?_)
  refine va_putF (D := D) (ci := 1) (v := .ref q15) (ty := .array .int) (C := RX1) (T := TX1) (N := 5) hx hb hts hin0 tyX1 tyX1_ok nmX1 hown hK hP hD hS 0 rfl rfl 1 (by decide) (hts (.fieldLink RX1 15 "Tonguetell$Shelf" "tongueIn" "[I") (by decide +kernel)) (fun _ h9 => h9) rfl hin rfl (by decide +kernel) rfl rfl (Nat.le_of_ble_eq_true rfl) dX1_init_17 (fun H locs hP hD hS => ?_)
  have hP : va_P D vwCl (([(h0, .inr (1, [.ref q7, .ref q15, .null, .null, .int 0]))] ++ [(q7, .inl (cy 0, 30, .inl (fun _ => 0)))]) ++ [(q15, .inl (cy 0, 30, .inl (fun _ => 0)))]) H := hP
  have hD : va_D A (([(h0, .inr (1, [.ref q7, .ref q15, .null, .null, .int 0]))] ++ [(q7, .inl (cy 0, 30, .inl (fun _ => 0)))]) ++ [(q15, .inl (cy 0, 30, .inl (fun _ => 0)))]) := hD
  refine lv_aload_n hx hb dX1_init_20 rfl (lv_at hl 0 rfl) ?_
  refine lv_bipush (v := 30) hx hb dX1_init_21 (by decide) ?_
  refine tn_newa (N' := 30) hx hb (hts (.arrayClass .int) (by decide +kernel)) hK hP hD hS hA (by decide) (by decide) (Nat.le_of_ble_eq_true rfl) (Nat.le_of_ble_eq_true rfl) (Nat.le_of_ble_eq_true rfl) dX1_init_23 (fun q23 H hP hD hS => ?_)
  refine va_putF (D := D) (ci := 1) (v := .ref q23) (ty := .array .int) (C := RX1) (T := TX1) (N := 5) hx hb hts hin0 tyX1 tyX1_ok nmX1 hown hK hP hD hS 0 rfl rfl 2 (by decide) (hts (.fieldLink RX1 18 "Tonguetell$Shelf" "lengthIn" "[I") (by decide +kernel)) (fun _ h9 => h9) rfl hin rfl (by decide +kernel) rfl rfl (Nat.le_of_ble_eq_true rfl) dX1_init_25 (fun H locs hP hD hS => ?_)
  have hP : va_P D vwCl ((([(h0, .inr (1, [.ref q7, .ref q15, .ref q23, .null, .int 0]))] ++ [(q7, .inl (cy 0, 30, .inl (fun _ => 0)))]) ++ [(q15, .inl (cy 0, 30, .inl (fun _ => 0)))]) ++ [(q23, .inl (cy 0, 30, .inl (fun _ => 0)))]) H := hP
  have hD : va_D A ((([(h0, .inr (1, [.ref q7, .ref q15, .ref q23, .null, .int 0]))] ++ [(q7, .inl (cy 0, 30, .inl (fun _ => 0)))]) ++ [(q15, .inl (cy 0, 30, .inl (fun _ => 0)))]) ++ [(q23, .inl (cy 0, 30, .inl (fun _ => 0)))]) := hD
  refine lv_aload_n hx hb dX1_init_28 rfl (lv_at hl 0 rfl) ?_
  refine lv_bipush (v := 30) hx hb dX1_init_29 (by decide) ?_
  refine lv_bipush (v := 17) hx hb dX1_init_31 (by decide) ?_
  refine tn_mna (N' := 30) (K' := 17) hx hb hown (hts (.classLink RX1 21 "[[I") (by decide +kernel)) hC.1 (hts (.arrayClass .int) (by decide +kernel)) hK hP hD hS hA (by decide) (by decide) (by decide) (by decide) (Nat.le_of_ble_eq_true rfl) (Nat.le_of_ble_eq_true rfl) (Nat.le_of_ble_eq_true rfl) (Nat.le_of_ble_eq_true rfl) (Nat.le_of_ble_eq_true rfl) dX1_init_33 (fun q33 r33 H hP hD hS => ?_)
  refine va_putF (D := D) (ci := 1) (v := .ref q33) (ty := .array (.array .int)) (C := RX1) (T := TX1) (N := 5) hx hb hts hin0 tyX1 tyX1_ok nmX1 hown hK hP hD hS 0 rfl rfl 3 (by decide) (hts (.fieldLink RX1 23 "Tonguetell$Shelf" "runsIn" "[[I") (by decide +kernel)) (fun _ h9 => h9) rfl hin rfl (by decide +kernel) rfl rfl (Nat.le_of_ble_eq_true rfl) dX1_init_37 (fun H locs hP hD hS => ?_)
  have hP : va_P D vwCl ((((([(h0, .inr (1, [.ref q7, .ref q15, .ref q23, .ref q33, .int 0]))] ++ [(q7, .inl (cy 0, 30, .inl (fun _ => 0)))]) ++ [(q15, .inl (cy 0, 30, .inl (fun _ => 0)))]) ++ [(q23, .inl (cy 0, 30, .inl (fun _ => 0)))]) ++ [(q33, .inl (cy 2, 30, .inr (.inr (.inr (.inr (fun i => if i < 30 then some (r33 i) else none))))))]) ++ (List.range 30).map (fun i => (r33 i, .inl (cy 0, 17, .inl (fun _ => 0))))) H := hP
  have hD : va_D A ((((([(h0, .inr (1, [.ref q7, .ref q15, .ref q23, .ref q33, .int 0]))] ++ [(q7, .inl (cy 0, 30, .inl (fun _ => 0)))]) ++ [(q15, .inl (cy 0, 30, .inl (fun _ => 0)))]) ++ [(q23, .inl (cy 0, 30, .inl (fun _ => 0)))]) ++ [(q33, .inl (cy 2, 30, .inr (.inr (.inr (.inr (fun i => if i < 30 then some (r33 i) else none))))))]) ++ (List.range 30).map (fun i => (r33 i, .inl (cy 0, 17, .inl (fun _ => 0))))) := hD
  refine lv_aload_n hx hb dX1_init_40 rfl (lv_at hl 0 rfl) ?_
  refine lv_iconst (v := 0) hx hb dX1_init_41 (by decide) ?_
  refine va_put (D := D) (ci := 1) (v := .int 0) (ty := .int) (C := RX1) (T := TX1) (N := 5) hx hb hts hin0 tyX1 tyX1_ok nmX1 hown hK hP hD hS 0 rfl rfl 4 (by decide) (hts (.fieldLink RX1 26 "Tonguetell$Shelf" "nextNumber" "I") (by decide +kernel)) (fun _ h9 => h9) rfl (by decide +kernel) rfl rfl (Nat.le_of_ble_eq_true rfl) dX1_init_42 (fun H locs hP hD hS => ?_)
  have hP : va_P D vwCl ((((([(h0, .inr (1, [.ref q7, .ref q15, .ref q23, .ref q33, .int 0]))] ++ [(q7, .inl (cy 0, 30, .inl (fun _ => 0)))]) ++ [(q15, .inl (cy 0, 30, .inl (fun _ => 0)))]) ++ [(q23, .inl (cy 0, 30, .inl (fun _ => 0)))]) ++ [(q33, .inl (cy 2, 30, .inr (.inr (.inr (.inr (fun i => if i < 30 then some (r33 i) else none))))))]) ++ (List.range 30).map (fun i => (r33 i, .inl (cy 0, 17, .inl (fun _ => 0))))) H := hP
  have hD : va_D A ((((([(h0, .inr (1, [.ref q7, .ref q15, .ref q23, .ref q33, .int 0]))] ++ [(q7, .inl (cy 0, 30, .inl (fun _ => 0)))]) ++ [(q15, .inl (cy 0, 30, .inl (fun _ => 0)))]) ++ [(q23, .inl (cy 0, 30, .inl (fun _ => 0)))]) ++ [(q33, .inl (cy 2, 30, .inr (.inr (.inr (.inr (fun i => if i < 30 then some (r33 i) else none))))))]) ++ (List.range 30).map (fun i => (r33 i, .inl (cy 0, 17, .inl (fun _ => 0))))) := hD
  refine lv_iconst (v := 0) hx hb dX1_init_45 (by decide) ?_
  generalize hWl : (fun f : Nat → Int32 => (((((([(h0, .inr (1, [.ref q7, .ref q15, .ref q23, .ref q33, .int 0]))] ++ [(q7, .inl (cy 0, 30, .inl f))]) ++ [(q15, .inl (cy 0, 30, .inl (fun _ => 0)))]) ++ [(q23, .inl (cy 0, 30, .inl (fun _ => 0)))]) ++ [(q33, .inl (cy 2, 30, .inr (.inr (.inr (.inr (fun i => if i < 30 then some (r33 i) else none))))))]) ++ (List.range 30).map (fun i => (r33 i, .inl (cy 0, 17, .inl (fun _ => 0))))) : va_W)) = WL
  have hg : ∀ f : Nat → Int32, (WL f)[0]? = some (h0, .inr (1, [.ref q7, .ref q15, .ref q23, .ref q33, .int 0])) ∧ (WL f)[1]? = some (q7, .inl (cy 0, 30, .inl f)) ∧ ∀ g : Nat → Int32, (WL f).set 1 (q7, .inl (cy 0, 30, .inl g)) = WL g := fun f => by subst hWl; exact ⟨rfl, rfl, fun g => rfl⟩
  have loop : ∀ (n i : Nat), 30 - i < n → i ≤ 30 → ∀ (H : Heap) (locs : List Loc) (ls : Array Slot), va_P D vwCl (WL (fun k => if k < i then -1 else 0)) H → va_D A (WL (fun k => if k < i then -1 else 0)) → va_S A s.heap H locs → lv_has ls 2 [(1, .int (nI i)), (0, .ref h0)] → W p l e (headSpec wsX1_init ({ frames := 1, cells := 34, slots := 630, locals := 13 } : Room)).room s m #[.ref h0] below meth c H locs 34 630 (MQ below (va_Qv (fun u => ∃ (q1 q2 q3 q4 : Nat) (r : Nat → Nat), u = ((((([(h0, .inr (1, [.ref q1, .ref q2, .ref q3, .ref q4, .int 0]))] ++ [(q1, .inl (cy 0, 30, .inl (fun k => if k < 30 then -1 else 0)))]) ++ [(q2, .inl (cy 0, 30, .inl (fun _ => 0)))]) ++ [(q3, .inl (cy 0, 30, .inl (fun _ => 0)))]) ++ [(q4, .inl (cy 2, 30, .inr (.inr (.inr (.inr (fun i => if i < 30 then some (r i) else none))))))]) ++ (List.range 30).map (fun i => (r i, .inl (cy 0, 17, .inl (fun _ => 0)))))) (BwC D cy A) A) #[.ref h0] s 34 630 A) (F0 m 47 ls []) := by
    intro n
    induction n with
    | zero => intro i h; omega
    | succ n ih =>
      intro i hn hi H locs ls hP hD hS hl
      refine lv_iload_n hx hb dX1_init_47 rfl (lv_at hl 0 rfl) ?_
      refine lv_bipush (v := 30) hx hb dX1_init_48 (by decide) ?_
      refine lv_icmp_ge (tgt := 66) hx hb dX1_init_50 (by decide) (fun hge => ?_) (fun hlt => ?_)
      · obtain rfl : i = 30 := Nat.le_antisymm hi (Nat.not_lt.mp fun h => nI_ge h (by omega) hge)
        exact W.vret hx hb hr (fun t ht hW => ⟨⟨_, rfl, ⟨q7, q15, q23, q33, r33, by subst hWl; rfl⟩, by rw [ht]; exact hP, va_K.moved hW.alike hK, hD⟩, hS.F ht⟩) hS.2.2 dX1_init_66
      · have hi30 : i < 30 := Nat.lt_of_not_le fun h => hlt (nI_le h (by omega))
        refine lv_aload_n hx hb dX1_init_53 rfl (lv_at hl 1 rfl) ?_
        refine va_get (own := RX1) (C := RX1) (T := TX1) (N := 5) (ci := 1) hx hb hts hin0 hown hK hP 0 (hg _).1 rfl 0 (by decide) (hts (.fieldLink RX1 9 "Tonguetell$Shelf" "numberIn" "[I") (by decide +kernel)) (fun _ h9 => h9) rfl dX1_init_54 ?_
        refine lv_iload_n hx hb dX1_init_57 rfl (lv_at hl 0 rfl) ?_
        refine lv_iconst (v := -1) hx hb dX1_init_58 (by decide) ?_
        refine va_iast hx hb hK hP hD hS 1 0 (hg _).2.1 rfl (vp_in_nI hi30 (by omega)) dX1_init_59 (fun H locs hP hD hS => ?_)
        have hf : upd (fun k => if k < i then (-1 : Int32) else 0) (nI i).toNatClampNeg (-1) = fun k => if k < i + 1 then -1 else 0 := by
          rw [nI_clamp (by omega)]
          funext k
          unfold upd
          by_cases h1 : k = i
          · rw [if_pos h1, if_pos (by omega)]
          · rw [if_neg h1]
            show (if k < i then (-1 : Int32) else 0) = _
            by_cases h2 : k < i
            · rw [if_pos h2, if_pos (by omega)]
            · rw [if_neg h2, if_neg (by omega)]
        rw [(hg _).2.2, hf] at hP hD
        refine lv_iinc (v := nI (i + 1)) hx hb dX1_init_60 hl (k := 0) rfl (nI_succ i).symm (by decide) rfl (fun ls hl => ?_)
        refine lv_goto (tgt := 47) hx hb dX1_init_63 (by decide) ?_
        exact ih (i + 1) (by omega) (by omega) H locs ls hP hD hS hl
  refine lv_istore_n hx hb dX1_init_46 rfl hl (by decide) rfl (fun ls hl => ?_)
  refine W.widen (k := 34) (n := 630) (Nat.le_of_ble_eq_true rfl) (Nat.le_of_ble_eq_true rfl) ?_
  exact loop 31 0 (by omega) (by omega) H _ ls (by subst hWl; exact hP) (by subst hWl; exact hD) hS hl
end
section
/-! ===== the constructor of the whole ===== -/
theorem w4_1 : Cond.methodLink RX4 1 objectInit ∈ wsX4_init := List.mem_of_getElem? (i := 1) rfl
theorem w4_2 : Cond.instanceMethod objectInit ∈ wsX4_init := List.mem_of_getElem? (i := 2) rfl
theorem w4_3 : Cond.code objectInit ⟨#[0xb1]⟩ 1 none ∈ wsX4_init := List.mem_of_getElem? (i := 3) rfl
theorem w4_4 : Cond.classLink RX4 7 RX2 ∈ wsX4_init := List.mem_of_getElem? (i := 4) rfl
theorem w4_5 : Cond.instantiable RX2 2 ∈ wsX4_init := List.mem_of_getElem? (i := 5) rfl
theorem w4_6 : Cond.initialized RX2 ∈ wsX4_init := List.mem_of_getElem? (i := 6) rfl
theorem w4_7 : Cond.fieldLink RX4 10 "Tonguetell" "spelled" "LTonguetell$Spelling;" ∈ wsX4_init := List.mem_of_getElem? (i := 7) rfl
theorem w4_8 : Cond.classLink RX4 16 RX3 ∈ wsX4_init := List.mem_of_getElem? (i := 8) rfl
theorem w4_9 : Cond.instantiable RX3 2 ∈ wsX4_init := List.mem_of_getElem? (i := 9) rfl
theorem w4_10 : Cond.initialized RX3 ∈ wsX4_init := List.mem_of_getElem? (i := 10) rfl
theorem w4_11 : Cond.fieldLink RX4 19 "Tonguetell" "spelledTally" "LTonguetell$Tally;" ∈ wsX4_init := List.mem_of_getElem? (i := 11) rfl
theorem w4_12 : Cond.fieldLink RX4 23 "Tonguetell" "tallies" "[LTonguetell$Tally;" ∈ wsX4_init := List.mem_of_getElem? (i := 12) rfl
theorem w4_13 : Cond.classLink RX4 27 RX1 ∈ wsX4_init := List.mem_of_getElem? (i := 13) rfl
theorem w4_14 : Cond.instantiable RX1 5 ∈ wsX4_init := List.mem_of_getElem? (i := 14) rfl
theorem w4_15 : Cond.initialized RX1 ∈ wsX4_init := List.mem_of_getElem? (i := 15) rfl
theorem w4_16 : Cond.fieldLink RX4 30 "Tonguetell" "shelf" "LTonguetell$Shelf;" ∈ wsX4_init := List.mem_of_getElem? (i := 16) rfl
theorem w4_17 : Cond.classLink RX4 34 RX0 ∈ wsX4_init := List.mem_of_getElem? (i := 17) rfl
theorem w4_18 : Cond.instantiable RX0 6 ∈ wsX4_init := List.mem_of_getElem? (i := 18) rfl
theorem w4_19 : Cond.initialized RX0 ∈ wsX4_init := List.mem_of_getElem? (i := 19) rfl
theorem w4_20 : Cond.fieldLink RX4 37 "Tonguetell" "cutter" "LTonguetell$Cutter;" ∈ wsX4_init := List.mem_of_getElem? (i := 20) rfl
theorem w4_21 : Cond.fieldLink RX4 41 "Tonguetell" "tongueCount" "I" ∈ wsX4_init := List.mem_of_getElem? (i := 21) rfl
theorem w4_22 : Cond.fieldLink RX4 45 "Tonguetell" "margin" "I" ∈ wsX4_init := List.mem_of_getElem? (i := 22) rfl
theorem w4_23 : Cond.fieldLink RX4 48 "Tonguetell" "price" "I" ∈ wsX4_init := List.mem_of_getElem? (i := 23) rfl
theorem w4_24 : Cond.instanceMethod yX2_init ∈ wsX4_init := List.mem_of_getElem? (i := 24) rfl
theorem w4_30 : Cond.instanceMethod yX3_init ∈ wsX4_init := List.mem_of_getElem? (i := 30) rfl
theorem w4_35 : Cond.methodLink RX4 29 yX1_init ∈ wsX4_init := List.mem_of_getElem? (i := 35) rfl
theorem w4_36 : Cond.instanceMethod yX1_init ∈ wsX4_init := List.mem_of_getElem? (i := 36) rfl
theorem w4_45 : Cond.instanceMethod yX0_init ∈ wsX4_init := List.mem_of_getElem? (i := 45) rfl
theorem in4_0 : ∀ w ∈ wsX00, w ∈ wsX4_init := fun _ h => List.mem_cons_of_mem _ (List.mem_append_right _ h)
theorem in4_1 : ∀ w ∈ wsX10, w ∈ wsX4_init := fun _ h => List.mem_cons_of_mem _ (List.mem_append_left _ (List.mem_append_right _ h))
theorem in4_3 : ∀ w ∈ wsX30, w ∈ wsX4_init := fun _ h => List.mem_cons_of_mem _ (List.mem_append_left _ (List.mem_append_left _ (List.mem_append_right _ h)))
theorem in4_4 : ∀ w ∈ wsX40, w ∈ wsX4_init := fun _ h => List.mem_cons_of_mem _ (List.mem_append_left _ (List.mem_append_left _ (List.mem_append_left _ (List.mem_append_right _ h))))
theorem in4_2 : ∀ w ∈ wsX20, w ∈ wsX4_init := fun _ h => List.mem_cons_of_mem _ (List.mem_append_left _ (List.mem_append_left _ (List.mem_append_left _ (List.mem_append_left _ (List.mem_append_right _ h)))))
abbrev ap (a b : va_W) : va_W := a ++ b
abbrev sg2 (cy : Nat → ClassId) (h u : Nat) : va_W := ([(h, .inr (2, [.ref u, .int 0]))] ++ [(u, .inl (cy 0, 16, .inl (fun _ => 0)))])
abbrev sg3 (cy : Nat → ClassId) (h u : Nat) : va_W := ([(h, .inr (3, [.ref u, .int 0]))] ++ [(u, .inl (cy 0, 36, .inl (fun _ => 0)))])
abbrev sg1 (cy : Nat → ClassId) (h a b c d : Nat) (r : Nat → Nat) : va_W := ((((([(h, .inr (1, [.ref a, .ref b, .ref c, .ref d, .int 0]))] ++ [(a, .inl (cy 0, 30, .inl (fun k => if k < 30 then -1 else 0)))]) ++ [(b, .inl (cy 0, 30, .inl (fun _ => 0)))]) ++ [(c, .inl (cy 0, 30, .inl (fun _ => 0)))]) ++ [(d, .inl (cy 2, 30, .inr (.inr (.inr (.inr (fun i => if i < 30 then some (r i) else none))))))]) ++ (List.range 30).map (fun i => (r i, .inl (cy 0, 17, .inl (fun _ => 0)))))
abbrev sg0 (cy : Nat → ClassId) (h a b c : Nat) (r t : Nat → Nat) : va_W := ((((([(h, .inr (0, [.ref a, .ref b, .ref c, .int 0, .int 0, .int 0]))] ++ [(a, .inl (cy 2, 17, .inr (.inr (.inr (.inr (fun i => if i < 17 then some (r i) else none))))))]) ++ (List.range 17).map (fun i => (r i, .inl (cy 0, 5, .inl (fun _ => 0))))) ++ [(b, .inl (cy 0, 17, .inl (fun _ => 0)))]) ++ [(c, .inl (cy 2, 17, .inr (.inr (.inr (.inr (fun i => if i < 17 then some (t i) else none))))))]) ++ (List.range 17).map (fun i => (t i, .inl (cy 0, 5, .inl (fun _ => 0)))))
abbrev sgH (h : Nat) (vs : List Value) : va_W := [(h, .inr (4, vs))]
abbrev sgA (cy : Nat → ClassId) (q : Nat) (f : Nat → Option Nat) : va_W := [(q, .inl (cy 1, 5, .inr (.inr (.inr (.inr f)))))]
abbrev sgF : Nat → Option Nat := fun _ => none
abbrev wX4 (cy : Nat → ClassId) (h0 q5 u5 q16 u16 q28 q35 s1 s2 s3 s4 q46 c1 c2 c3 q83a u83a q83b u83b q83c u83c q83d u83d q83e u83e : Nat) (sr cr1 cr3 : Nat → Nat) : va_W := (ap (ap (ap (ap (ap (ap (ap (ap (ap (ap (sgH h0 [.ref q5, .ref q16, .ref q28, .ref q35, .ref q46, .int 0, .int 3, .int 4]) (sg2 cy q5 u5)) (sg3 cy q16 u16)) (sgA cy q28 (va_up (va_up (va_up (va_up (va_up sgF ((0 : Int32)).toNatClampNeg (some q83a)) ((1 : Int32)).toNatClampNeg (some q83b)) ((2 : Int32)).toNatClampNeg (some q83c)) ((3 : Int32)).toNatClampNeg (some q83d)) ((4 : Int32)).toNatClampNeg (some q83e)))) (sg1 cy q35 s1 s2 s3 s4 sr)) (sg0 cy q46 c1 c2 c3 cr1 cr3)) (sg3 cy q83a u83a)) (sg3 cy q83b u83b)) (sg3 cy q83c u83c)) (sg3 cy q83d u83d)) (sg3 cy q83e u83e))
set_option maxHeartbeats 4000000 in
set_option maxRecDepth 100000 in
theorem k_X4 (l : Launch) (D : va_G) (cy : Nat → ClassId) (h0 : Nat) : MetC l yX4_init wsX4_init 2 40 88 1113 D cy [.ref h0] [(h0, .inr (4, [.null, .null, .null, .null, .null, .int 0, .int 0, .int 0]))] (fun u => ∃ (q5 u5 q16 u16 q28 q35 s1 s2 s3 s4 q46 c1 c2 c3 q83a u83a q83b u83b q83c u83c q83d u83d q83e u83e : Nat) (sr cr1 cr3 : Nat → Nat), u = wX4 cy h0 q5 u5 q16 u16 q28 q35 s1 s2 s3 s4 q46 c1 c2 c3 q83a u83a q83b u83b q83c u83c q83d u83d q83e u83e sr cr1 cr3) := by
  intro sz
  refine Met.ofW (cc := cX4_init) (maxL := 2) (ret := none) (by decide) rfl ?_
  intro p e s m args below meth c s₁ B hml hv
  obtain ⟨rfl, hsz, hP, hK, hD0, hC⟩ := hv
  have hx := B.exec
  have hb := B.bytes
  have hr := B.returns
  have hts := atoms_spec (ws := wsX4_init) B.pre
  have hown : s.vm.findClass RX4 = some m.cls := findClass_of_methodNamed B.named
  have hlocks := B.notSynchronized
  have hin : meth.name = "<init>" := (name_of_methodNamed B.named B.method).1
  subst hsz
  have hD := hD0.self (sz := s.heap.size)
  generalize hAe : va_A [(h0, .inr (4, [.null, .null, .null, .null, .null, .int 0, .int 0, .int 0]))] s.heap.size = A at hD ⊢
  have hA : ∀ q : Nat, s.heap.size ≤ q → A q := fun q h => by rw [← hAe]; exact Or.inr h
  have hS : va_S A s.heap s.heap [] := va_S.rf
  have hl := lv_entry ([.ref h0]) (n := 2) (Nat.le_of_ble_eq_true rfl)
  rw [lg_entry_eq]
  generalize (lg_sl ([.ref h0]) ++ List.replicate (2 - (lg_sl ([.ref h0])).length) Slot.unset).toArray = ls at hl ⊢
  have hl : lv_has ls 2 [(0, .ref h0)] := hl
  have hin0 : ∀ w ∈ u_ws RX4 TX4 8, w ∈ wsX4_init := in4_4
  refine lv_aload_n hx hb dX4_init_0 rfl (lv_at hl 0 rfl) ?_
  refine W.objInit hx hb hown (hts _ w4_1) (hts _ w4_2) (hts _ w4_3) rfl (by rw [hml]; exact hl.1) rfl dX4_init_1 (Nat.le_of_ble_eq_true rfl) (Nat.le_of_ble_eq_true rfl) ?_
  refine W.eq (g2 := F0 m 4 ls []) rfl ?_
  refine lv_aload_n hx hb dX4_init_4 rfl (lv_at hl 0 rfl) ?_
  refine va_new (ci := 2) (fs := [.null, .int 0]) (C := RX2) (T := TX2) (N := 2) hx hb hts in4_2 tyX2 tyX2_ok hown (hts _ w4_4) (hts _ w4_5) (hts _ w4_6) hK hP hD hS hA rfl (by decide +kernel) (Nat.le_of_ble_eq_true rfl) (Nat.le_of_ble_eq_true rfl) dX4_init_5 (fun q5 H hP hD hS => ?_)
  refine lv_dup hx hb dX4_init_8 rfl ?_
  have hPc := tn_lastP hP
  have hDc := tn_lastD hD
  have hFc := tn_lastF hD hS hA
  refine va_callv (va_runIN (As := []) (rest := [.ref q5, .ref h0]) ⟨hx, hb, hml, hown, hts⟩ (k_X2 l D cy q5 H.size) ⟨va_cnB 0 hts gX4_init_X2_init_n9 rfl rfl rfl hC.2.2.1 (hts _ w4_6) (by decide +kernel) ⟨(Nat.le_of_ble_eq_true rfl), (Nat.le_of_ble_eq_true rfl)⟩, rfl, hts _ w4_24⟩ ⟨PrC.blind, fun U hU hW => ⟨rfl, by rw [hU], by rw [hU]; exact hPc, va_K.moved hW.alike hK, hDc.weaken (fun _ _ _ _ => trivial), hC.moved hW⟩⟩ rfl rfl hl.1 rfl (lv_room (Nat.le_of_ble_eq_true rfl)) dX4_init_9 ⟨(Nat.le_of_ble_eq_true rfl), (Nat.le_of_ble_eq_true rfl)⟩) hS (fun q _ h => hFc q h) hFc (fun u t H1 locs ht hvm hu hB hz1 hk1 hS => ?_)
  obtain ⟨hP1, hK1, hD1⟩ := hB
  rw [ht] at hP1
  obtain ⟨u5, rfl⟩ := hu
  obtain ⟨hP, hD⟩ := tn_join hP hD hk1 hFc hP1 hD1
  generalize H1 = H at hP hS ⊢
  have hP : va_P D vwCl (ap (sgH h0 [.null, .null, .null, .null, .null, .int 0, .int 0, .int 0]) (sg2 cy q5 u5)) H := hP
  have hD : va_D A (ap (sgH h0 [.null, .null, .null, .null, .null, .int 0, .int 0, .int 0]) (sg2 cy q5 u5)) := hD
  refine va_putF (D := D) (ci := 4) (v := .ref q5) (ty := .object "Tonguetell$Spelling") (C := RX4) (T := TX4) (N := 8) hx hb hts hin0 tyX4 tyX4_ok nmX4 hown hK hP hD hS 0 rfl rfl 0 (by decide) (hts _ w4_7) (fun _ h9 => h9) rfl hin rfl (by decide +kernel) rfl rfl (Nat.le_of_ble_eq_true rfl) dX4_init_12 (fun H locs hP hD hS => ?_)
  have hP : va_P D vwCl (ap (sgH h0 [.ref q5, .null, .null, .null, .null, .int 0, .int 0, .int 0]) (sg2 cy q5 u5)) H := hP
  have hD : va_D A (ap (sgH h0 [.ref q5, .null, .null, .null, .null, .int 0, .int 0, .int 0]) (sg2 cy q5 u5)) := hD
  refine lv_aload_n hx hb dX4_init_15 rfl (lv_at hl 0 rfl) ?_
  refine va_new (ci := 3) (fs := [.null, .int 0]) (C := RX3) (T := TX3) (N := 2) hx hb hts in4_3 tyX3 tyX3_ok hown (hts _ w4_8) (hts _ w4_9) (hts _ w4_10) hK hP hD hS hA rfl (by decide +kernel) (Nat.le_of_ble_eq_true rfl) (Nat.le_of_ble_eq_true rfl) dX4_init_16 (fun q16 H hP hD hS => ?_)
  refine lv_dup hx hb dX4_init_19 rfl ?_
  have hPc := tn_lastP hP
  have hDc := tn_lastD hD
  have hFc := tn_lastF hD hS hA
  refine va_callv (va_runIN (As := []) (rest := [.ref q16, .ref h0]) ⟨hx, hb, hml, hown, hts⟩ (k_X3 l D cy q16 H.size) ⟨va_cnB 0 hts gX4_init_X3_init_n18 rfl rfl rfl hC.2.2.2.1 (hts _ w4_10) (by decide +kernel) ⟨(Nat.le_of_ble_eq_true rfl), (Nat.le_of_ble_eq_true rfl)⟩, rfl, hts _ w4_30⟩ ⟨PrC.blind, fun U hU hW => ⟨rfl, by rw [hU], by rw [hU]; exact hPc, va_K.moved hW.alike hK, hDc.weaken (fun _ _ _ _ => trivial), hC.moved hW⟩⟩ rfl rfl hl.1 rfl (lv_room (Nat.le_of_ble_eq_true rfl)) dX4_init_20 ⟨(Nat.le_of_ble_eq_true rfl), (Nat.le_of_ble_eq_true rfl)⟩) hS (fun q _ h => hFc q h) hFc (fun u t H1 locs ht hvm hu hB hz1 hk1 hS => ?_)
  obtain ⟨hP1, hK1, hD1⟩ := hB
  rw [ht] at hP1
  obtain ⟨u16, rfl⟩ := hu
  obtain ⟨hP, hD⟩ := tn_join hP hD hk1 hFc hP1 hD1
  generalize H1 = H at hP hS ⊢
  have hP : va_P D vwCl (ap (ap (sgH h0 [.ref q5, .null, .null, .null, .null, .int 0, .int 0, .int 0]) (sg2 cy q5 u5)) (sg3 cy q16 u16)) H := hP
  have hD : va_D A (ap (ap (sgH h0 [.ref q5, .null, .null, .null, .null, .int 0, .int 0, .int 0]) (sg2 cy q5 u5)) (sg3 cy q16 u16)) := hD
  refine va_putF (D := D) (ci := 4) (v := .ref q16) (ty := .object "Tonguetell$Tally") (C := RX4) (T := TX4) (N := 8) hx hb hts hin0 tyX4 tyX4_ok nmX4 hown hK hP hD hS 0 rfl rfl 1 (by decide) (hts _ w4_11) (fun _ h9 => h9) rfl hin rfl (by decide +kernel) rfl rfl (Nat.le_of_ble_eq_true rfl) dX4_init_23 (fun H locs hP hD hS => ?_)
  have hP : va_P D vwCl (ap (ap (sgH h0 [.ref q5, .ref q16, .null, .null, .null, .int 0, .int 0, .int 0]) (sg2 cy q5 u5)) (sg3 cy q16 u16)) H := hP
  have hD : va_D A (ap (ap (sgH h0 [.ref q5, .ref q16, .null, .null, .null, .int 0, .int 0, .int 0]) (sg2 cy q5 u5)) (sg3 cy q16 u16)) := hD
  refine lv_aload_n hx hb dX4_init_26 rfl (lv_at hl 0 rfl) ?_
  refine lv_iconst (v := 5) hx hb dX4_init_27 (by decide) ?_
  refine tn_newq (N' := 5) hx hb hown (hts _ w4_8) hC.2.1 hK hP hD hS hA (by decide) (by decide) (Nat.le_of_ble_eq_true rfl) (Nat.le_of_ble_eq_true rfl) (Nat.le_of_ble_eq_true rfl) dX4_init_28 (fun q28 H hP hD hS => ?_)
  refine va_putF (D := D) (ci := 4) (v := .ref q28) (ty := .array (.object "Tonguetell$Tally")) (C := RX4) (T := TX4) (N := 8) hx hb hts hin0 tyX4 tyX4_ok nmX4 hown hK hP hD hS 0 rfl rfl 2 (by decide) (hts _ w4_12) (fun _ h9 => h9) rfl hin rfl (by decide +kernel) rfl rfl (Nat.le_of_ble_eq_true rfl) dX4_init_31 (fun H locs hP hD hS => ?_)
  have hP : va_P D vwCl (ap (ap (ap (sgH h0 [.ref q5, .ref q16, .ref q28, .null, .null, .int 0, .int 0, .int 0]) (sg2 cy q5 u5)) (sg3 cy q16 u16)) (sgA cy q28 sgF)) H := hP
  have hD : va_D A (ap (ap (ap (sgH h0 [.ref q5, .ref q16, .ref q28, .null, .null, .int 0, .int 0, .int 0]) (sg2 cy q5 u5)) (sg3 cy q16 u16)) (sgA cy q28 sgF)) := hD
  refine lv_aload_n hx hb dX4_init_34 rfl (lv_at hl 0 rfl) ?_
  refine va_new (ci := 1) (fs := [.null, .null, .null, .null, .int 0]) (C := RX1) (T := TX1) (N := 5) hx hb hts in4_1 tyX1 tyX1_ok hown (hts _ w4_13) (hts _ w4_14) (hts _ w4_15) hK hP hD hS hA rfl (by decide +kernel) (Nat.le_of_ble_eq_true rfl) (Nat.le_of_ble_eq_true rfl) dX4_init_35 (fun q35 H hP hD hS => ?_)
  refine lv_dup hx hb dX4_init_38 rfl ?_
  have hPc := tn_lastP hP
  have hDc := tn_lastD hD
  have hFc := tn_lastF hD hS hA
  refine va_callv (va_runI (As := []) (rest := [.ref q35, .ref h0]) ⟨hx, hb, hml, hown, hts⟩ (k_X1 l D cy q35 H.size) (cwI 0 hts gX4_init_X1_init rfl rfl rfl (hts _ w4_15) (hts _ w4_35) (hts _ w4_36) rfl (by decide +kernel) ⟨(Nat.le_of_ble_eq_true rfl), (Nat.le_of_ble_eq_true rfl)⟩) ⟨PrC.blind, fun U hU hW => ⟨rfl, by rw [hU], by rw [hU]; exact hPc, va_K.moved hW.alike hK, hDc.weaken (fun _ _ _ _ => trivial), hC.moved hW⟩⟩ rfl rfl hl.1 rfl (lv_room (Nat.le_of_ble_eq_true rfl)) dX4_init_39 ⟨(Nat.le_of_ble_eq_true rfl), (Nat.le_of_ble_eq_true rfl)⟩) hS (fun q _ h => hFc q h) hFc (fun u t H1 locs ht hvm hu hB hz1 hk1 hS => ?_)
  obtain ⟨hP1, hK1, hD1⟩ := hB
  rw [ht] at hP1
  obtain ⟨s1, s2, s3, s4, sr, rfl⟩ := hu
  obtain ⟨hP, hD⟩ := tn_join hP hD hk1 hFc hP1 hD1
  generalize H1 = H at hP hS ⊢
  have hP : va_P D vwCl (ap (ap (ap (ap (sgH h0 [.ref q5, .ref q16, .ref q28, .null, .null, .int 0, .int 0, .int 0]) (sg2 cy q5 u5)) (sg3 cy q16 u16)) (sgA cy q28 sgF)) (sg1 cy q35 s1 s2 s3 s4 sr)) H := hP
  have hD : va_D A (ap (ap (ap (ap (sgH h0 [.ref q5, .ref q16, .ref q28, .null, .null, .int 0, .int 0, .int 0]) (sg2 cy q5 u5)) (sg3 cy q16 u16)) (sgA cy q28 sgF)) (sg1 cy q35 s1 s2 s3 s4 sr)) := hD
  refine va_putF (D := D) (ci := 4) (v := .ref q35) (ty := .object "Tonguetell$Shelf") (C := RX4) (T := TX4) (N := 8) hx hb hts hin0 tyX4 tyX4_ok nmX4 hown hK hP hD hS 0 rfl rfl 3 (by decide) (hts _ w4_16) (fun _ h9 => h9) rfl hin rfl (by decide +kernel) rfl rfl (Nat.le_of_ble_eq_true rfl) dX4_init_42 (fun H locs hP hD hS => ?_)
  have hP : va_P D vwCl (ap (ap (ap (ap (sgH h0 [.ref q5, .ref q16, .ref q28, .ref q35, .null, .int 0, .int 0, .int 0]) (sg2 cy q5 u5)) (sg3 cy q16 u16)) (sgA cy q28 sgF)) (sg1 cy q35 s1 s2 s3 s4 sr)) H := hP
  have hD : va_D A (ap (ap (ap (ap (sgH h0 [.ref q5, .ref q16, .ref q28, .ref q35, .null, .int 0, .int 0, .int 0]) (sg2 cy q5 u5)) (sg3 cy q16 u16)) (sgA cy q28 sgF)) (sg1 cy q35 s1 s2 s3 s4 sr)) := hD
  refine lv_aload_n hx hb dX4_init_45 rfl (lv_at hl 0 rfl) ?_
  refine va_new (ci := 0) (fs := [.null, .null, .null, .int 0, .int 0, .int 0]) (C := RX0) (T := TX0) (N := 6) hx hb hts in4_0 tyX0 tyX0_ok hown (hts _ w4_17) (hts _ w4_18) (hts _ w4_19) hK hP hD hS hA rfl (by decide +kernel) (Nat.le_of_ble_eq_true rfl) (Nat.le_of_ble_eq_true rfl) dX4_init_46 (fun q46 H hP hD hS => ?_)
  refine lv_dup hx hb dX4_init_49 rfl ?_
  have hPc := tn_lastP hP
  have hDc := tn_lastD hD
  have hFc := tn_lastF hD hS hA
  refine va_callv (va_runIN (As := []) (rest := [.ref q46, .ref h0]) ⟨hx, hb, hml, hown, hts⟩ (k_X0 l D cy q46 H.size) ⟨va_cnB 0 hts gX4_init_X0_init_n36 rfl rfl rfl hC.2.2.2.2 (hts _ w4_19) (by decide +kernel) ⟨(Nat.le_of_ble_eq_true rfl), (Nat.le_of_ble_eq_true rfl)⟩, rfl, hts _ w4_45⟩ ⟨PrC.blind, fun U hU hW => ⟨rfl, by rw [hU], by rw [hU]; exact hPc, va_K.moved hW.alike hK, hDc.weaken (fun _ _ _ _ => trivial), hC.moved hW⟩⟩ rfl rfl hl.1 rfl (lv_room (Nat.le_of_ble_eq_true rfl)) dX4_init_50 ⟨(Nat.le_of_ble_eq_true rfl), (Nat.le_of_ble_eq_true rfl)⟩) hS (fun q _ h => hFc q h) hFc (fun u t H1 locs ht hvm hu hB hz1 hk1 hS => ?_)
  obtain ⟨hP1, hK1, hD1⟩ := hB
  rw [ht] at hP1
  obtain ⟨c1, c2, c3, cr1, cr3, rfl⟩ := hu
  obtain ⟨hP, hD⟩ := tn_join hP hD hk1 hFc hP1 hD1
  generalize H1 = H at hP hS ⊢
  have hP : va_P D vwCl (ap (ap (ap (ap (ap (sgH h0 [.ref q5, .ref q16, .ref q28, .ref q35, .null, .int 0, .int 0, .int 0]) (sg2 cy q5 u5)) (sg3 cy q16 u16)) (sgA cy q28 sgF)) (sg1 cy q35 s1 s2 s3 s4 sr)) (sg0 cy q46 c1 c2 c3 cr1 cr3)) H := hP
  have hD : va_D A (ap (ap (ap (ap (ap (sgH h0 [.ref q5, .ref q16, .ref q28, .ref q35, .null, .int 0, .int 0, .int 0]) (sg2 cy q5 u5)) (sg3 cy q16 u16)) (sgA cy q28 sgF)) (sg1 cy q35 s1 s2 s3 s4 sr)) (sg0 cy q46 c1 c2 c3 cr1 cr3)) := hD
  refine va_putF (D := D) (ci := 4) (v := .ref q46) (ty := .object "Tonguetell$Cutter") (C := RX4) (T := TX4) (N := 8) hx hb hts hin0 tyX4 tyX4_ok nmX4 hown hK hP hD hS 0 rfl rfl 4 (by decide) (hts _ w4_20) (fun _ h9 => h9) rfl hin rfl (by decide +kernel) rfl rfl (Nat.le_of_ble_eq_true rfl) dX4_init_53 (fun H locs hP hD hS => ?_)
  have hP : va_P D vwCl (ap (ap (ap (ap (ap (sgH h0 [.ref q5, .ref q16, .ref q28, .ref q35, .ref q46, .int 0, .int 0, .int 0]) (sg2 cy q5 u5)) (sg3 cy q16 u16)) (sgA cy q28 sgF)) (sg1 cy q35 s1 s2 s3 s4 sr)) (sg0 cy q46 c1 c2 c3 cr1 cr3)) H := hP
  have hD : va_D A (ap (ap (ap (ap (ap (sgH h0 [.ref q5, .ref q16, .ref q28, .ref q35, .ref q46, .int 0, .int 0, .int 0]) (sg2 cy q5 u5)) (sg3 cy q16 u16)) (sgA cy q28 sgF)) (sg1 cy q35 s1 s2 s3 s4 sr)) (sg0 cy q46 c1 c2 c3 cr1 cr3)) := hD
  refine lv_aload_n hx hb dX4_init_56 rfl (lv_at hl 0 rfl) ?_
  refine lv_iconst (v := 0) hx hb dX4_init_57 (by decide) ?_
  refine va_put (D := D) (ci := 4) (v := .int 0) (ty := .int) (C := RX4) (T := TX4) (N := 8) hx hb hts hin0 tyX4 tyX4_ok nmX4 hown hK hP hD hS 0 rfl rfl 5 (by decide) (hts _ w4_21) (fun _ h9 => h9) rfl (by decide +kernel) rfl rfl (Nat.le_of_ble_eq_true rfl) dX4_init_58 (fun H locs hP hD hS => ?_)
  have hP : va_P D vwCl (ap (ap (ap (ap (ap (sgH h0 [.ref q5, .ref q16, .ref q28, .ref q35, .ref q46, .int 0, .int 0, .int 0]) (sg2 cy q5 u5)) (sg3 cy q16 u16)) (sgA cy q28 sgF)) (sg1 cy q35 s1 s2 s3 s4 sr)) (sg0 cy q46 c1 c2 c3 cr1 cr3)) H := hP
  have hD : va_D A (ap (ap (ap (ap (ap (sgH h0 [.ref q5, .ref q16, .ref q28, .ref q35, .ref q46, .int 0, .int 0, .int 0]) (sg2 cy q5 u5)) (sg3 cy q16 u16)) (sgA cy q28 sgF)) (sg1 cy q35 s1 s2 s3 s4 sr)) (sg0 cy q46 c1 c2 c3 cr1 cr3)) := hD
  refine lv_aload_n hx hb dX4_init_61 rfl (lv_at hl 0 rfl) ?_
  refine lv_iconst (v := 3) hx hb dX4_init_62 (by decide) ?_
  refine va_put (D := D) (ci := 4) (v := .int 3) (ty := .int) (C := RX4) (T := TX4) (N := 8) hx hb hts hin0 tyX4 tyX4_ok nmX4 hown hK hP hD hS 0 rfl rfl 6 (by decide) (hts _ w4_22) (fun _ h9 => h9) rfl (by decide +kernel) rfl rfl (Nat.le_of_ble_eq_true rfl) dX4_init_63 (fun H locs hP hD hS => ?_)
  have hP : va_P D vwCl (ap (ap (ap (ap (ap (sgH h0 [.ref q5, .ref q16, .ref q28, .ref q35, .ref q46, .int 0, .int 3, .int 0]) (sg2 cy q5 u5)) (sg3 cy q16 u16)) (sgA cy q28 sgF)) (sg1 cy q35 s1 s2 s3 s4 sr)) (sg0 cy q46 c1 c2 c3 cr1 cr3)) H := hP
  have hD : va_D A (ap (ap (ap (ap (ap (sgH h0 [.ref q5, .ref q16, .ref q28, .ref q35, .ref q46, .int 0, .int 3, .int 0]) (sg2 cy q5 u5)) (sg3 cy q16 u16)) (sgA cy q28 sgF)) (sg1 cy q35 s1 s2 s3 s4 sr)) (sg0 cy q46 c1 c2 c3 cr1 cr3)) := hD
  refine lv_aload_n hx hb dX4_init_66 rfl (lv_at hl 0 rfl) ?_
  refine lv_iconst (v := 4) hx hb dX4_init_67 (by decide) ?_
  refine va_put (D := D) (ci := 4) (v := .int 4) (ty := .int) (C := RX4) (T := TX4) (N := 8) hx hb hts hin0 tyX4 tyX4_ok nmX4 hown hK hP hD hS 0 rfl rfl 7 (by decide) (hts _ w4_23) (fun _ h9 => h9) rfl (by decide +kernel) rfl rfl (Nat.le_of_ble_eq_true rfl) dX4_init_68 (fun H locs hP hD hS => ?_)
  have hP : va_P D vwCl (ap (ap (ap (ap (ap (sgH h0 [.ref q5, .ref q16, .ref q28, .ref q35, .ref q46, .int 0, .int 3, .int 4]) (sg2 cy q5 u5)) (sg3 cy q16 u16)) (sgA cy q28 sgF)) (sg1 cy q35 s1 s2 s3 s4 sr)) (sg0 cy q46 c1 c2 c3 cr1 cr3)) H := hP
  have hD : va_D A (ap (ap (ap (ap (ap (sgH h0 [.ref q5, .ref q16, .ref q28, .ref q35, .ref q46, .int 0, .int 3, .int 4]) (sg2 cy q5 u5)) (sg3 cy q16 u16)) (sgA cy q28 sgF)) (sg1 cy q35 s1 s2 s3 s4 sr)) (sg0 cy q46 c1 c2 c3 cr1 cr3)) := hD
  refine lv_iconst (v := 0) hx hb dX4_init_71 (by decide) ?_
  refine lv_istore_n hx hb dX4_init_72 rfl hl (by decide) rfl (fun ls hl => ?_)
  refine lv_iload_n (x := 0) hx hb dX4_init_73 rfl (lv_at hl 0 rfl) ?_
  refine lv_iconst (v := 5) hx hb dX4_init_74 (by decide) ?_
  refine lv_icmp_ge (tgt := 97) hx hb dX4_init_75 (by decide) (fun h9 => absurd h9 (by decide)) (fun _ => ?_)
  refine lv_aload_n hx hb dX4_init_78 rfl (lv_at hl 1 rfl) ?_
  refine va_get (own := RX4) (C := RX4) (T := TX4) (N := 8) (ci := 4) hx hb hts hin0 hown hK hP 0 rfl rfl 2 (by decide) (hts _ w4_12) (fun _ h9 => h9) rfl dX4_init_79 ?_
  refine lv_iload_n (x := 0) hx hb dX4_init_82 rfl (lv_at hl 0 rfl) ?_
  refine va_new (ci := 3) (fs := [.null, .int 0]) (C := RX3) (T := TX3) (N := 2) hx hb hts in4_3 tyX3 tyX3_ok hown (hts _ w4_8) (hts _ w4_9) (hts _ w4_10) hK hP hD hS hA rfl (by decide +kernel) (Nat.le_of_ble_eq_true rfl) (Nat.le_of_ble_eq_true rfl) dX4_init_83 (fun q83a H hP hD hS => ?_)
  refine lv_dup hx hb dX4_init_86 rfl ?_
  have hPc := tn_lastP hP
  have hDc := tn_lastD hD
  have hFc := tn_lastF hD hS hA
  refine va_callv (va_runIN (As := []) (rest := [.ref q83a, .int 0, .ref q28]) ⟨hx, hb, hml, hown, hts⟩ (k_X3 l D cy q83a H.size) ⟨va_cnB 0 hts gX4_init_X3_init_n18 rfl rfl rfl hC.2.2.2.1 (hts _ w4_10) (by decide +kernel) ⟨(Nat.le_of_ble_eq_true rfl), (Nat.le_of_ble_eq_true rfl)⟩, rfl, hts _ w4_30⟩ ⟨PrC.blind, fun U hU hW => ⟨rfl, by rw [hU], by rw [hU]; exact hPc, va_K.moved hW.alike hK, hDc.weaken (fun _ _ _ _ => trivial), hC.moved hW⟩⟩ rfl rfl hl.1 rfl (lv_room (Nat.le_of_ble_eq_true rfl)) dX4_init_87 ⟨(Nat.le_of_ble_eq_true rfl), (Nat.le_of_ble_eq_true rfl)⟩) hS (fun q _ h => hFc q h) hFc (fun u t H1 locs ht hvm hu hB hz1 hk1 hS => ?_)
  obtain ⟨hP1, hK1, hD1⟩ := hB
  rw [ht] at hP1
  obtain ⟨u83a, rfl⟩ := hu
  obtain ⟨hP, hD⟩ := tn_join hP hD hk1 hFc hP1 hD1
  generalize H1 = H at hP hS ⊢
  have hP : va_P D vwCl (ap (ap (ap (ap (ap (ap (sgH h0 [.ref q5, .ref q16, .ref q28, .ref q35, .ref q46, .int 0, .int 3, .int 4]) (sg2 cy q5 u5)) (sg3 cy q16 u16)) (sgA cy q28 sgF)) (sg1 cy q35 s1 s2 s3 s4 sr)) (sg0 cy q46 c1 c2 c3 cr1 cr3)) (sg3 cy q83a u83a)) H := hP
  have hD : va_D A (ap (ap (ap (ap (ap (ap (sgH h0 [.ref q5, .ref q16, .ref q28, .ref q35, .ref q46, .int 0, .int 3, .int 4]) (sg2 cy q5 u5)) (sg3 cy q16 u16)) (sgA cy q28 sgF)) (sg1 cy q35 s1 s2 s3 s4 sr)) (sg0 cy q46 c1 c2 c3 cr1 cr3)) (sg3 cy q83a u83a)) := hD
  refine va_astq (r := (RX3, TX3, 2)) hx hb hK hP hD hS 5 1 79 3 rfl rfl rfl rfl (show vp_in (nI 0) 5 from vp_in_nI (by decide) (by decide)) dX4_init_90 (fun H locs hP hD hS => ?_)
  have hP : va_P D vwCl (ap (ap (ap (ap (ap (ap (sgH h0 [.ref q5, .ref q16, .ref q28, .ref q35, .ref q46, .int 0, .int 3, .int 4]) (sg2 cy q5 u5)) (sg3 cy q16 u16)) (sgA cy q28 (va_up sgF ((0 : Int32)).toNatClampNeg (some q83a)))) (sg1 cy q35 s1 s2 s3 s4 sr)) (sg0 cy q46 c1 c2 c3 cr1 cr3)) (sg3 cy q83a u83a)) H := hP
  have hD : va_D A (ap (ap (ap (ap (ap (ap (sgH h0 [.ref q5, .ref q16, .ref q28, .ref q35, .ref q46, .int 0, .int 3, .int 4]) (sg2 cy q5 u5)) (sg3 cy q16 u16)) (sgA cy q28 (va_up sgF ((0 : Int32)).toNatClampNeg (some q83a)))) (sg1 cy q35 s1 s2 s3 s4 sr)) (sg0 cy q46 c1 c2 c3 cr1 cr3)) (sg3 cy q83a u83a)) := hD
  refine lv_iinc (v := 1) hx hb dX4_init_91 hl (k := 0) rfl (by decide) (by decide) rfl (fun ls hl => ?_)
  refine lv_goto (tgt := 73) hx hb dX4_init_94 (by decide) ?_
  refine lv_iload_n (x := 1) hx hb dX4_init_73 rfl (lv_at hl 0 rfl) ?_
  refine lv_iconst (v := 5) hx hb dX4_init_74 (by decide) ?_
  refine lv_icmp_ge (tgt := 97) hx hb dX4_init_75 (by decide) (fun h9 => absurd h9 (by decide)) (fun _ => ?_)
  refine lv_aload_n hx hb dX4_init_78 rfl (lv_at hl 1 rfl) ?_
  refine va_get (own := RX4) (C := RX4) (T := TX4) (N := 8) (ci := 4) hx hb hts hin0 hown hK hP 0 rfl rfl 2 (by decide) (hts _ w4_12) (fun _ h9 => h9) rfl dX4_init_79 ?_
  refine lv_iload_n (x := 1) hx hb dX4_init_82 rfl (lv_at hl 0 rfl) ?_
  refine va_new (ci := 3) (fs := [.null, .int 0]) (C := RX3) (T := TX3) (N := 2) hx hb hts in4_3 tyX3 tyX3_ok hown (hts _ w4_8) (hts _ w4_9) (hts _ w4_10) hK hP hD hS hA rfl (by decide +kernel) (Nat.le_of_ble_eq_true rfl) (Nat.le_of_ble_eq_true rfl) dX4_init_83 (fun q83b H hP hD hS => ?_)
  refine lv_dup hx hb dX4_init_86 rfl ?_
  have hPc := tn_lastP hP
  have hDc := tn_lastD hD
  have hFc := tn_lastF hD hS hA
  refine va_callv (va_runIN (As := []) (rest := [.ref q83b, .int 1, .ref q28]) ⟨hx, hb, hml, hown, hts⟩ (k_X3 l D cy q83b H.size) ⟨va_cnB 0 hts gX4_init_X3_init_n18 rfl rfl rfl hC.2.2.2.1 (hts _ w4_10) (by decide +kernel) ⟨(Nat.le_of_ble_eq_true rfl), (Nat.le_of_ble_eq_true rfl)⟩, rfl, hts _ w4_30⟩ ⟨PrC.blind, fun U hU hW => ⟨rfl, by rw [hU], by rw [hU]; exact hPc, va_K.moved hW.alike hK, hDc.weaken (fun _ _ _ _ => trivial), hC.moved hW⟩⟩ rfl rfl hl.1 rfl (lv_room (Nat.le_of_ble_eq_true rfl)) dX4_init_87 ⟨(Nat.le_of_ble_eq_true rfl), (Nat.le_of_ble_eq_true rfl)⟩) hS (fun q _ h => hFc q h) hFc (fun u t H1 locs ht hvm hu hB hz1 hk1 hS => ?_)
  obtain ⟨hP1, hK1, hD1⟩ := hB
  rw [ht] at hP1
  obtain ⟨u83b, rfl⟩ := hu
  obtain ⟨hP, hD⟩ := tn_join hP hD hk1 hFc hP1 hD1
  generalize H1 = H at hP hS ⊢
  have hP : va_P D vwCl (ap (ap (ap (ap (ap (ap (ap (sgH h0 [.ref q5, .ref q16, .ref q28, .ref q35, .ref q46, .int 0, .int 3, .int 4]) (sg2 cy q5 u5)) (sg3 cy q16 u16)) (sgA cy q28 (va_up sgF ((0 : Int32)).toNatClampNeg (some q83a)))) (sg1 cy q35 s1 s2 s3 s4 sr)) (sg0 cy q46 c1 c2 c3 cr1 cr3)) (sg3 cy q83a u83a)) (sg3 cy q83b u83b)) H := hP
  have hD : va_D A (ap (ap (ap (ap (ap (ap (ap (sgH h0 [.ref q5, .ref q16, .ref q28, .ref q35, .ref q46, .int 0, .int 3, .int 4]) (sg2 cy q5 u5)) (sg3 cy q16 u16)) (sgA cy q28 (va_up sgF ((0 : Int32)).toNatClampNeg (some q83a)))) (sg1 cy q35 s1 s2 s3 s4 sr)) (sg0 cy q46 c1 c2 c3 cr1 cr3)) (sg3 cy q83a u83a)) (sg3 cy q83b u83b)) := hD
  refine va_astq (r := (RX3, TX3, 2)) hx hb hK hP hD hS 5 1 81 3 rfl rfl rfl rfl (show vp_in (nI 1) 5 from vp_in_nI (by decide) (by decide)) dX4_init_90 (fun H locs hP hD hS => ?_)
  have hP : va_P D vwCl (ap (ap (ap (ap (ap (ap (ap (sgH h0 [.ref q5, .ref q16, .ref q28, .ref q35, .ref q46, .int 0, .int 3, .int 4]) (sg2 cy q5 u5)) (sg3 cy q16 u16)) (sgA cy q28 (va_up (va_up sgF ((0 : Int32)).toNatClampNeg (some q83a)) ((1 : Int32)).toNatClampNeg (some q83b)))) (sg1 cy q35 s1 s2 s3 s4 sr)) (sg0 cy q46 c1 c2 c3 cr1 cr3)) (sg3 cy q83a u83a)) (sg3 cy q83b u83b)) H := hP
  have hD : va_D A (ap (ap (ap (ap (ap (ap (ap (sgH h0 [.ref q5, .ref q16, .ref q28, .ref q35, .ref q46, .int 0, .int 3, .int 4]) (sg2 cy q5 u5)) (sg3 cy q16 u16)) (sgA cy q28 (va_up (va_up sgF ((0 : Int32)).toNatClampNeg (some q83a)) ((1 : Int32)).toNatClampNeg (some q83b)))) (sg1 cy q35 s1 s2 s3 s4 sr)) (sg0 cy q46 c1 c2 c3 cr1 cr3)) (sg3 cy q83a u83a)) (sg3 cy q83b u83b)) := hD
  refine lv_iinc (v := 2) hx hb dX4_init_91 hl (k := 0) rfl (by decide) (by decide) rfl (fun ls hl => ?_)
  refine lv_goto (tgt := 73) hx hb dX4_init_94 (by decide) ?_
  refine lv_iload_n (x := 2) hx hb dX4_init_73 rfl (lv_at hl 0 rfl) ?_
  refine lv_iconst (v := 5) hx hb dX4_init_74 (by decide) ?_
  refine lv_icmp_ge (tgt := 97) hx hb dX4_init_75 (by decide) (fun h9 => absurd h9 (by decide)) (fun _ => ?_)
  refine lv_aload_n hx hb dX4_init_78 rfl (lv_at hl 1 rfl) ?_
  refine va_get (own := RX4) (C := RX4) (T := TX4) (N := 8) (ci := 4) hx hb hts hin0 hown hK hP 0 rfl rfl 2 (by decide) (hts _ w4_12) (fun _ h9 => h9) rfl dX4_init_79 ?_
  refine lv_iload_n (x := 2) hx hb dX4_init_82 rfl (lv_at hl 0 rfl) ?_
  refine va_new (ci := 3) (fs := [.null, .int 0]) (C := RX3) (T := TX3) (N := 2) hx hb hts in4_3 tyX3 tyX3_ok hown (hts _ w4_8) (hts _ w4_9) (hts _ w4_10) hK hP hD hS hA rfl (by decide +kernel) (Nat.le_of_ble_eq_true rfl) (Nat.le_of_ble_eq_true rfl) dX4_init_83 (fun q83c H hP hD hS => ?_)
  refine lv_dup hx hb dX4_init_86 rfl ?_
  have hPc := tn_lastP hP
  have hDc := tn_lastD hD
  have hFc := tn_lastF hD hS hA
  refine va_callv (va_runIN (As := []) (rest := [.ref q83c, .int 2, .ref q28]) ⟨hx, hb, hml, hown, hts⟩ (k_X3 l D cy q83c H.size) ⟨va_cnB 0 hts gX4_init_X3_init_n18 rfl rfl rfl hC.2.2.2.1 (hts _ w4_10) (by decide +kernel) ⟨(Nat.le_of_ble_eq_true rfl), (Nat.le_of_ble_eq_true rfl)⟩, rfl, hts _ w4_30⟩ ⟨PrC.blind, fun U hU hW => ⟨rfl, by rw [hU], by rw [hU]; exact hPc, va_K.moved hW.alike hK, hDc.weaken (fun _ _ _ _ => trivial), hC.moved hW⟩⟩ rfl rfl hl.1 rfl (lv_room (Nat.le_of_ble_eq_true rfl)) dX4_init_87 ⟨(Nat.le_of_ble_eq_true rfl), (Nat.le_of_ble_eq_true rfl)⟩) hS (fun q _ h => hFc q h) hFc (fun u t H1 locs ht hvm hu hB hz1 hk1 hS => ?_)
  obtain ⟨hP1, hK1, hD1⟩ := hB
  rw [ht] at hP1
  obtain ⟨u83c, rfl⟩ := hu
  obtain ⟨hP, hD⟩ := tn_join hP hD hk1 hFc hP1 hD1
  generalize H1 = H at hP hS ⊢
  have hP : va_P D vwCl (ap (ap (ap (ap (ap (ap (ap (ap (sgH h0 [.ref q5, .ref q16, .ref q28, .ref q35, .ref q46, .int 0, .int 3, .int 4]) (sg2 cy q5 u5)) (sg3 cy q16 u16)) (sgA cy q28 (va_up (va_up sgF ((0 : Int32)).toNatClampNeg (some q83a)) ((1 : Int32)).toNatClampNeg (some q83b)))) (sg1 cy q35 s1 s2 s3 s4 sr)) (sg0 cy q46 c1 c2 c3 cr1 cr3)) (sg3 cy q83a u83a)) (sg3 cy q83b u83b)) (sg3 cy q83c u83c)) H := hP
  have hD : va_D A (ap (ap (ap (ap (ap (ap (ap (ap (sgH h0 [.ref q5, .ref q16, .ref q28, .ref q35, .ref q46, .int 0, .int 3, .int 4]) (sg2 cy q5 u5)) (sg3 cy q16 u16)) (sgA cy q28 (va_up (va_up sgF ((0 : Int32)).toNatClampNeg (some q83a)) ((1 : Int32)).toNatClampNeg (some q83b)))) (sg1 cy q35 s1 s2 s3 s4 sr)) (sg0 cy q46 c1 c2 c3 cr1 cr3)) (sg3 cy q83a u83a)) (sg3 cy q83b u83b)) (sg3 cy q83c u83c)) := hD
  refine va_astq (r := (RX3, TX3, 2)) hx hb hK hP hD hS 5 1 83 3 rfl rfl rfl rfl (show vp_in (nI 2) 5 from vp_in_nI (by decide) (by decide)) dX4_init_90 (fun H locs hP hD hS => ?_)
  have hP : va_P D vwCl (ap (ap (ap (ap (ap (ap (ap (ap (sgH h0 [.ref q5, .ref q16, .ref q28, .ref q35, .ref q46, .int 0, .int 3, .int 4]) (sg2 cy q5 u5)) (sg3 cy q16 u16)) (sgA cy q28 (va_up (va_up (va_up sgF ((0 : Int32)).toNatClampNeg (some q83a)) ((1 : Int32)).toNatClampNeg (some q83b)) ((2 : Int32)).toNatClampNeg (some q83c)))) (sg1 cy q35 s1 s2 s3 s4 sr)) (sg0 cy q46 c1 c2 c3 cr1 cr3)) (sg3 cy q83a u83a)) (sg3 cy q83b u83b)) (sg3 cy q83c u83c)) H := hP
  have hD : va_D A (ap (ap (ap (ap (ap (ap (ap (ap (sgH h0 [.ref q5, .ref q16, .ref q28, .ref q35, .ref q46, .int 0, .int 3, .int 4]) (sg2 cy q5 u5)) (sg3 cy q16 u16)) (sgA cy q28 (va_up (va_up (va_up sgF ((0 : Int32)).toNatClampNeg (some q83a)) ((1 : Int32)).toNatClampNeg (some q83b)) ((2 : Int32)).toNatClampNeg (some q83c)))) (sg1 cy q35 s1 s2 s3 s4 sr)) (sg0 cy q46 c1 c2 c3 cr1 cr3)) (sg3 cy q83a u83a)) (sg3 cy q83b u83b)) (sg3 cy q83c u83c)) := hD
  refine lv_iinc (v := 3) hx hb dX4_init_91 hl (k := 0) rfl (by decide) (by decide) rfl (fun ls hl => ?_)
  refine lv_goto (tgt := 73) hx hb dX4_init_94 (by decide) ?_
  refine lv_iload_n (x := 3) hx hb dX4_init_73 rfl (lv_at hl 0 rfl) ?_
  refine lv_iconst (v := 5) hx hb dX4_init_74 (by decide) ?_
  refine lv_icmp_ge (tgt := 97) hx hb dX4_init_75 (by decide) (fun h9 => absurd h9 (by decide)) (fun _ => ?_)
  refine lv_aload_n hx hb dX4_init_78 rfl (lv_at hl 1 rfl) ?_
  refine va_get (own := RX4) (C := RX4) (T := TX4) (N := 8) (ci := 4) hx hb hts hin0 hown hK hP 0 rfl rfl 2 (by decide) (hts _ w4_12) (fun _ h9 => h9) rfl dX4_init_79 ?_
  refine lv_iload_n (x := 3) hx hb dX4_init_82 rfl (lv_at hl 0 rfl) ?_
  refine va_new (ci := 3) (fs := [.null, .int 0]) (C := RX3) (T := TX3) (N := 2) hx hb hts in4_3 tyX3 tyX3_ok hown (hts _ w4_8) (hts _ w4_9) (hts _ w4_10) hK hP hD hS hA rfl (by decide +kernel) (Nat.le_of_ble_eq_true rfl) (Nat.le_of_ble_eq_true rfl) dX4_init_83 (fun q83d H hP hD hS => ?_)
  refine lv_dup hx hb dX4_init_86 rfl ?_
  have hPc := tn_lastP hP
  have hDc := tn_lastD hD
  have hFc := tn_lastF hD hS hA
  refine va_callv (va_runIN (As := []) (rest := [.ref q83d, .int 3, .ref q28]) ⟨hx, hb, hml, hown, hts⟩ (k_X3 l D cy q83d H.size) ⟨va_cnB 0 hts gX4_init_X3_init_n18 rfl rfl rfl hC.2.2.2.1 (hts _ w4_10) (by decide +kernel) ⟨(Nat.le_of_ble_eq_true rfl), (Nat.le_of_ble_eq_true rfl)⟩, rfl, hts _ w4_30⟩ ⟨PrC.blind, fun U hU hW => ⟨rfl, by rw [hU], by rw [hU]; exact hPc, va_K.moved hW.alike hK, hDc.weaken (fun _ _ _ _ => trivial), hC.moved hW⟩⟩ rfl rfl hl.1 rfl (lv_room (Nat.le_of_ble_eq_true rfl)) dX4_init_87 ⟨(Nat.le_of_ble_eq_true rfl), (Nat.le_of_ble_eq_true rfl)⟩) hS (fun q _ h => hFc q h) hFc (fun u t H1 locs ht hvm hu hB hz1 hk1 hS => ?_)
  obtain ⟨hP1, hK1, hD1⟩ := hB
  rw [ht] at hP1
  obtain ⟨u83d, rfl⟩ := hu
  obtain ⟨hP, hD⟩ := tn_join hP hD hk1 hFc hP1 hD1
  generalize H1 = H at hP hS ⊢
  have hP : va_P D vwCl (ap (ap (ap (ap (ap (ap (ap (ap (ap (sgH h0 [.ref q5, .ref q16, .ref q28, .ref q35, .ref q46, .int 0, .int 3, .int 4]) (sg2 cy q5 u5)) (sg3 cy q16 u16)) (sgA cy q28 (va_up (va_up (va_up sgF ((0 : Int32)).toNatClampNeg (some q83a)) ((1 : Int32)).toNatClampNeg (some q83b)) ((2 : Int32)).toNatClampNeg (some q83c)))) (sg1 cy q35 s1 s2 s3 s4 sr)) (sg0 cy q46 c1 c2 c3 cr1 cr3)) (sg3 cy q83a u83a)) (sg3 cy q83b u83b)) (sg3 cy q83c u83c)) (sg3 cy q83d u83d)) H := hP
  have hD : va_D A (ap (ap (ap (ap (ap (ap (ap (ap (ap (sgH h0 [.ref q5, .ref q16, .ref q28, .ref q35, .ref q46, .int 0, .int 3, .int 4]) (sg2 cy q5 u5)) (sg3 cy q16 u16)) (sgA cy q28 (va_up (va_up (va_up sgF ((0 : Int32)).toNatClampNeg (some q83a)) ((1 : Int32)).toNatClampNeg (some q83b)) ((2 : Int32)).toNatClampNeg (some q83c)))) (sg1 cy q35 s1 s2 s3 s4 sr)) (sg0 cy q46 c1 c2 c3 cr1 cr3)) (sg3 cy q83a u83a)) (sg3 cy q83b u83b)) (sg3 cy q83c u83c)) (sg3 cy q83d u83d)) := hD
  refine va_astq (r := (RX3, TX3, 2)) hx hb hK hP hD hS 5 1 85 3 rfl rfl rfl rfl (show vp_in (nI 3) 5 from vp_in_nI (by decide) (by decide)) dX4_init_90 (fun H locs hP hD hS => ?_)
  have hP : va_P D vwCl (ap (ap (ap (ap (ap (ap (ap (ap (ap (sgH h0 [.ref q5, .ref q16, .ref q28, .ref q35, .ref q46, .int 0, .int 3, .int 4]) (sg2 cy q5 u5)) (sg3 cy q16 u16)) (sgA cy q28 (va_up (va_up (va_up (va_up sgF ((0 : Int32)).toNatClampNeg (some q83a)) ((1 : Int32)).toNatClampNeg (some q83b)) ((2 : Int32)).toNatClampNeg (some q83c)) ((3 : Int32)).toNatClampNeg (some q83d)))) (sg1 cy q35 s1 s2 s3 s4 sr)) (sg0 cy q46 c1 c2 c3 cr1 cr3)) (sg3 cy q83a u83a)) (sg3 cy q83b u83b)) (sg3 cy q83c u83c)) (sg3 cy q83d u83d)) H := hP
  have hD : va_D A (ap (ap (ap (ap (ap (ap (ap (ap (ap (sgH h0 [.ref q5, .ref q16, .ref q28, .ref q35, .ref q46, .int 0, .int 3, .int 4]) (sg2 cy q5 u5)) (sg3 cy q16 u16)) (sgA cy q28 (va_up (va_up (va_up (va_up sgF ((0 : Int32)).toNatClampNeg (some q83a)) ((1 : Int32)).toNatClampNeg (some q83b)) ((2 : Int32)).toNatClampNeg (some q83c)) ((3 : Int32)).toNatClampNeg (some q83d)))) (sg1 cy q35 s1 s2 s3 s4 sr)) (sg0 cy q46 c1 c2 c3 cr1 cr3)) (sg3 cy q83a u83a)) (sg3 cy q83b u83b)) (sg3 cy q83c u83c)) (sg3 cy q83d u83d)) := hD
  refine lv_iinc (v := 4) hx hb dX4_init_91 hl (k := 0) rfl (by decide) (by decide) rfl (fun ls hl => ?_)
  refine lv_goto (tgt := 73) hx hb dX4_init_94 (by decide) ?_
  refine lv_iload_n (x := 4) hx hb dX4_init_73 rfl (lv_at hl 0 rfl) ?_
  refine lv_iconst (v := 5) hx hb dX4_init_74 (by decide) ?_
  refine lv_icmp_ge (tgt := 97) hx hb dX4_init_75 (by decide) (fun h9 => absurd h9 (by decide)) (fun _ => ?_)
  refine lv_aload_n hx hb dX4_init_78 rfl (lv_at hl 1 rfl) ?_
  refine va_get (own := RX4) (C := RX4) (T := TX4) (N := 8) (ci := 4) hx hb hts hin0 hown hK hP 0 rfl rfl 2 (by decide) (hts _ w4_12) (fun _ h9 => h9) rfl dX4_init_79 ?_
  refine lv_iload_n (x := 4) hx hb dX4_init_82 rfl (lv_at hl 0 rfl) ?_
  refine va_new (ci := 3) (fs := [.null, .int 0]) (C := RX3) (T := TX3) (N := 2) hx hb hts in4_3 tyX3 tyX3_ok hown (hts _ w4_8) (hts _ w4_9) (hts _ w4_10) hK hP hD hS hA rfl (by decide +kernel) (Nat.le_of_ble_eq_true rfl) (Nat.le_of_ble_eq_true rfl) dX4_init_83 (fun q83e H hP hD hS => ?_)
  refine lv_dup hx hb dX4_init_86 rfl ?_
  have hPc := tn_lastP hP
  have hDc := tn_lastD hD
  have hFc := tn_lastF hD hS hA
  refine va_callv (va_runIN (As := []) (rest := [.ref q83e, .int 4, .ref q28]) ⟨hx, hb, hml, hown, hts⟩ (k_X3 l D cy q83e H.size) ⟨va_cnB 0 hts gX4_init_X3_init_n18 rfl rfl rfl hC.2.2.2.1 (hts _ w4_10) (by decide +kernel) ⟨(Nat.le_of_ble_eq_true rfl), (Nat.le_of_ble_eq_true rfl)⟩, rfl, hts _ w4_30⟩ ⟨PrC.blind, fun U hU hW => ⟨rfl, by rw [hU], by rw [hU]; exact hPc, va_K.moved hW.alike hK, hDc.weaken (fun _ _ _ _ => trivial), hC.moved hW⟩⟩ rfl rfl hl.1 rfl (lv_room (Nat.le_of_ble_eq_true rfl)) dX4_init_87 ⟨(Nat.le_of_ble_eq_true rfl), (Nat.le_of_ble_eq_true rfl)⟩) hS (fun q _ h => hFc q h) hFc (fun u t H1 locs ht hvm hu hB hz1 hk1 hS => ?_)
  obtain ⟨hP1, hK1, hD1⟩ := hB
  rw [ht] at hP1
  obtain ⟨u83e, rfl⟩ := hu
  obtain ⟨hP, hD⟩ := tn_join hP hD hk1 hFc hP1 hD1
  generalize H1 = H at hP hS ⊢
  have hP : va_P D vwCl (ap (ap (ap (ap (ap (ap (ap (ap (ap (ap (sgH h0 [.ref q5, .ref q16, .ref q28, .ref q35, .ref q46, .int 0, .int 3, .int 4]) (sg2 cy q5 u5)) (sg3 cy q16 u16)) (sgA cy q28 (va_up (va_up (va_up (va_up sgF ((0 : Int32)).toNatClampNeg (some q83a)) ((1 : Int32)).toNatClampNeg (some q83b)) ((2 : Int32)).toNatClampNeg (some q83c)) ((3 : Int32)).toNatClampNeg (some q83d)))) (sg1 cy q35 s1 s2 s3 s4 sr)) (sg0 cy q46 c1 c2 c3 cr1 cr3)) (sg3 cy q83a u83a)) (sg3 cy q83b u83b)) (sg3 cy q83c u83c)) (sg3 cy q83d u83d)) (sg3 cy q83e u83e)) H := hP
  have hD : va_D A (ap (ap (ap (ap (ap (ap (ap (ap (ap (ap (sgH h0 [.ref q5, .ref q16, .ref q28, .ref q35, .ref q46, .int 0, .int 3, .int 4]) (sg2 cy q5 u5)) (sg3 cy q16 u16)) (sgA cy q28 (va_up (va_up (va_up (va_up sgF ((0 : Int32)).toNatClampNeg (some q83a)) ((1 : Int32)).toNatClampNeg (some q83b)) ((2 : Int32)).toNatClampNeg (some q83c)) ((3 : Int32)).toNatClampNeg (some q83d)))) (sg1 cy q35 s1 s2 s3 s4 sr)) (sg0 cy q46 c1 c2 c3 cr1 cr3)) (sg3 cy q83a u83a)) (sg3 cy q83b u83b)) (sg3 cy q83c u83c)) (sg3 cy q83d u83d)) (sg3 cy q83e u83e)) := hD
  refine va_astq (r := (RX3, TX3, 2)) hx hb hK hP hD hS 5 1 87 3 rfl rfl rfl rfl (show vp_in (nI 4) 5 from vp_in_nI (by decide) (by decide)) dX4_init_90 (fun H locs hP hD hS => ?_)
  have hP : va_P D vwCl (ap (ap (ap (ap (ap (ap (ap (ap (ap (ap (sgH h0 [.ref q5, .ref q16, .ref q28, .ref q35, .ref q46, .int 0, .int 3, .int 4]) (sg2 cy q5 u5)) (sg3 cy q16 u16)) (sgA cy q28 (va_up (va_up (va_up (va_up (va_up sgF ((0 : Int32)).toNatClampNeg (some q83a)) ((1 : Int32)).toNatClampNeg (some q83b)) ((2 : Int32)).toNatClampNeg (some q83c)) ((3 : Int32)).toNatClampNeg (some q83d)) ((4 : Int32)).toNatClampNeg (some q83e)))) (sg1 cy q35 s1 s2 s3 s4 sr)) (sg0 cy q46 c1 c2 c3 cr1 cr3)) (sg3 cy q83a u83a)) (sg3 cy q83b u83b)) (sg3 cy q83c u83c)) (sg3 cy q83d u83d)) (sg3 cy q83e u83e)) H := hP
  have hD : va_D A (ap (ap (ap (ap (ap (ap (ap (ap (ap (ap (sgH h0 [.ref q5, .ref q16, .ref q28, .ref q35, .ref q46, .int 0, .int 3, .int 4]) (sg2 cy q5 u5)) (sg3 cy q16 u16)) (sgA cy q28 (va_up (va_up (va_up (va_up (va_up sgF ((0 : Int32)).toNatClampNeg (some q83a)) ((1 : Int32)).toNatClampNeg (some q83b)) ((2 : Int32)).toNatClampNeg (some q83c)) ((3 : Int32)).toNatClampNeg (some q83d)) ((4 : Int32)).toNatClampNeg (some q83e)))) (sg1 cy q35 s1 s2 s3 s4 sr)) (sg0 cy q46 c1 c2 c3 cr1 cr3)) (sg3 cy q83a u83a)) (sg3 cy q83b u83b)) (sg3 cy q83c u83c)) (sg3 cy q83d u83d)) (sg3 cy q83e u83e)) := hD
  refine lv_iinc (v := 5) hx hb dX4_init_91 hl (k := 0) rfl (by decide) (by decide) rfl (fun ls hl => ?_)
  refine lv_goto (tgt := 73) hx hb dX4_init_94 (by decide) ?_
  refine lv_iload_n (x := 5) hx hb dX4_init_73 rfl (lv_at hl 0 rfl) ?_
  refine lv_iconst (v := 5) hx hb dX4_init_74 (by decide) ?_
  refine lv_icmp_ge (tgt := 97) hx hb dX4_init_75 (by decide) (fun _ => ?_) (fun h9 => absurd (by decide) h9)
  refine W.widen (k := 88) (n := 1113) (Nat.le_of_ble_eq_true rfl) (Nat.le_of_ble_eq_true rfl) ?_
  exact W.vret hx hb hr (fun t ht hW => ⟨⟨_, rfl, ⟨q5, u5, q16, u16, q28, q35, s1, s2, s3, s4, q46, c1, c2, c3, q83a, u83a, q83b, u83b, q83c, u83c, q83d, u83d, q83e, u83e, sr, cr1, cr3, rfl⟩, by rw [ht]; exact hP, va_K.moved hW.alike hK, hD⟩, hS.F ht⟩) hS.2.2 dX4_init_97
end
section
/-! ===== what holds between two turns of the law: the class's numbers, and that the counts of a tongue are together its total ===== -/
def un {α : Type} (f : Nat → α) (a : Nat) (v : α) : Nat → α := fun k => if k = a then v else f k
theorem un_eq {α : Type} (f : Nat → α) (a : Nat) (v : α) : un f a v a = v := if_pos rfl
theorem un_ne {α : Type} (f : Nat → α) {a k : Nat} (v : α) (h : k ≠ a) : un f a v k = f k := if_neg h
theorem upd_eq9 (f : Nat → Int32) (a : Nat) (v : Int32) : upd f a v a = v := if_pos rfl
theorem upd_ne9 (f : Nat → Int32) {a k : Nat} (v : Int32) (h : k ≠ a) : upd f a v k = f k := if_neg h
theorem nI_inj {a b : Nat} (ha : a ≤ 10000) (hb : b ≤ 10000) (h : nI a = nI b) : a = b := (nI_eq (by omega) (by omega)).mp h
theorem rc_0 {n : Nat} (h : n = 0) : rc n = 0 := if_pos h
theorem rc_1 {n : Nat} (h : ¬ n = 0) : rc n = n + 1 := if_neg h
theorem bv_of {b : Nat} (h : 0 < b) : nI (b - 1) = bv b := by
  cases b with
  | zero => omega
  | succ t => rfl
def Inv (σ : sS) (n : Nat) (w : Nat → Nat) (tc pr tx nx : Nat) (ct : Nat → Nat → Nat) (mt : Nat → Nat) : Prop :=
  Sp σ n w ∧ Xs σ tc 3 pr ∧ Ta σ ct mt ∧ (∀ t, t < 5 → sm (ct t) 36 = mt t ∧ mt t ≤ 17 * tx ∧ ∀ r, ct t r ≤ 17 * tx) ∧ σ 16 4 = nI nx ∧ occ (σ 17) = tx ∧ ∀ s, s < 30 → σ 17 s = -1 ∨ ∃ m, m < nx ∧ σ 17 s = nI m
section InvS
variable {σ τ τ2 : sS} {n : Nat} {w : Nat → Nat} {tc pr tx nx : Nat} {ct : Nat → Nat → Nat} {mt : Nat → Nat}
theorem Inv.S (h : Inv σ n w tc pr tx nx ct mt) : Sp σ n w := h.1
theorem Inv.X (h : Inv σ n w tc pr tx nx ct mt) : Xs σ tc 3 pr := h.2.1
theorem Inv.T (h : Inv σ n w tc pr tx nx ct mt) : Ta σ ct mt := h.2.2.1
theorem Inv.tx_le (h : Inv σ n w tc pr tx nx ct mt) : tx ≤ 30 := by
  have h1 : occ (σ 17) ≤ 30 * 1 := sm_le (B := 1) 30 (fun k _ => by split <;> omega)
  rw [h.2.2.2.2.2.1] at h1
  omega
/-- what the cutter, the spelled text's tally do doesn't matter -/
theorem Inv.fr (h : Inv σ n w tc pr tx nx ct mt) (e : ∀ j, j < 51 → τ j = σ j) : Inv τ n w tc pr tx nx ct mt := by
  obtain ⟨h1, h2, h3, h4, h5, h6, h7⟩ := h
  exact ⟨h1.fr (e 1 (by decide)) (e 2 (by decide)), h2.fr (e 0 (by decide)), h3.fr (fun j _ h => e j (by omega)), h4, by rw [e 16 (by decide)]; exact h5, by rw [e 17 (by decide)]; exact h6, by rw [e 17 (by decide)]; exact h7⟩
theorem Inv.spell (h : Inv σ n w tc pr tx nx ct mt) {v : Nat} (hv : v < 6) (hn : n < 16) : Inv (su (su σ 2 n (nI v)) 1 1 (nI (n + 1))) (n + 1) (un w n v) tc pr tx nx ct mt := by
  obtain ⟨h1, h2, h3, h4, h5, h6, h7⟩ := h
  refine ⟨⟨su_eq _ _ _ _, by omega, fun k hk => ?_⟩, h2.fr (by rw [su_ni _ _ _ (by decide), su_ni _ _ _ (by decide)]), h3.fr (fun j a b => by rw [su_ni _ _ _ (by omega), su_ni _ _ _ (by omega)]), h4, by rw [su_ni _ _ _ (by decide), su_ni _ _ _ (by decide)]; exact h5, by rw [su_ni _ _ _ (by decide), su_ni _ _ _ (by decide)]; exact h6, by rw [su_ni _ _ _ (by decide), su_ni _ _ _ (by decide)]; exact h7⟩
  rw [su_ni _ _ _ (by decide)]
  by_cases ek : k = n
  · subst ek
    rw [su_eq, un_eq]
    exact ⟨rfl, hv⟩
  · rw [su_nk _ _ _ ek, un_ne _ _ ek]
    exact h1.2.2 k (by omega)
theorem Inv.clear (h : Inv σ n w tc pr tx nx ct mt) : Inv (su σ 1 1 (nI 0)) 0 w tc pr tx nx ct mt := by
  obtain ⟨h1, h2, h3, h4, h5, h6, h7⟩ := h
  exact ⟨⟨su_eq _ _ _ _, by omega, fun k hk => by omega⟩, h2.fr (su_ni _ _ _ (by decide)), h3.fr (fun j a b => su_ni _ _ _ (by omega)), h4, by rw [su_ni _ _ _ (by decide)]; exact h5, by rw [su_ni _ _ _ (by decide)]; exact h6, by rw [su_ni _ _ _ (by decide)]; exact h7⟩
theorem Inv.price (h : Inv σ n w tc pr tx nx ct mt) {np : Nat} (hp : np ≤ 100) : Inv (su σ 0 7 (nI np)) n w tc np tx nx ct mt := by
  obtain ⟨h1, h2, h3, h4, h5, h6, h7⟩ := h
  refine ⟨h1.fr (su_ni _ _ _ (by decide)) (su_ni _ _ _ (by decide)), ⟨?_, ?_, su_eq _ _ _ _, h2.2.2.2.1, h2.2.2.2.2.1, hp⟩, h3.fr (fun j a b => su_ni _ _ _ (by omega)), h4, by rw [su_ni _ _ _ (by decide)]; exact h5, by rw [su_ni _ _ _ (by decide)]; exact h6, by rw [su_ni _ _ _ (by decide)]; exact h7⟩
  · rw [su_nk _ _ _ (by decide)]; exact h2.1
  · rw [su_nk _ _ _ (by decide)]; exact h2.2.1
theorem Inv.tongue (h : Inv σ n w tc pr tx nx ct mt) (ht : tc < 5) : Inv (su σ 0 5 (nI (tc + 1))) n w (tc + 1) pr tx nx ct mt := by
  obtain ⟨h1, h2, h3, h4, h5, h6, h7⟩ := h
  refine ⟨h1.fr (su_ni _ _ _ (by decide)) (su_ni _ _ _ (by decide)), ⟨su_eq _ _ _ _, ?_, ?_, by omega, h2.2.2.2.2⟩, h3.fr (fun j a b => su_ni _ _ _ (by omega)), h4, by rw [su_ni _ _ _ (by decide)]; exact h5, by rw [su_ni _ _ _ (by decide)]; exact h6, by rw [su_ni _ _ _ (by decide)]; exact h7⟩
  · rw [su_nk _ _ _ (by decide)]; exact h2.2.1
  · rw [su_nk _ _ _ (by decide)]; exact h2.2.2.1
theorem Inv.free (h : Inv σ n w tc pr tx nx ct mt) (htx : tx < 30) : fsw (σ 17) (-1) 30 0 < 30 ∧ σ 17 (fsw (σ 17) (-1) 30 0) = -1 := by
  have h1 : fsw (σ 17) (-1) 30 0 < 30 := occ_free (by rw [h.2.2.2.2.2.1]; exact htx)
  exact ⟨h1, fsw_at _ _ 30 0 (by omega)⟩
/-- a text taught -/
theorem Inv.teach (h : Inv σ n w tc pr tx nx ct mt) {t s : Nat} (ht : t < 5) (hs : s < 30) (hs1 : σ 17 s = -1) (htx : tx < 30) (hnx : nx < 10000) (K : Kept σ τ s nx t (rc n) 0 n w (ct t) (mt t)) :
    Inv τ n w tc pr (tx + 1) (nx + 1) (un ct t (fun r => ct t r + ownF n w 0 (rc n) r)) (un mt t (mt t + rc n)) := by
  obtain ⟨h1, h2, h3, h4, h5, h6, h7⟩ := h
  obtain ⟨k1, k2, k3, k4, k5, k6, k7⟩ := K
  have hrc := rc_le h1.2.1
  refine ⟨h1.fr (k7 1 (by decide) (by decide) (by decide) (by decide) (by omega) (by omega) (by omega)) (k7 2 (by decide) (by decide) (by decide) (by decide) (by omega) (by omega) (by omega)), h2.fr (k7 0 (by decide) (by decide) (by decide) (by decide) (by omega) (by omega) (by omega)), fun u hu => ?_, fun u hu => ?_, k4, ?_, fun x hx => ?_⟩
  · by_cases e : u = t
    · subst e; rw [un_eq, un_eq]; exact k6
    · rw [un_ne _ _ e, un_ne _ _ e]
      exact (h3 u hu).fr (k7 _ (by omega) (by omega) (by omega) (by omega) (by omega) (by omega) (by omega)) (k7 _ (by omega) (by omega) (by omega) (by omega) (by omega) (by omega) (by omega))
  · by_cases e : u = t
    · subst e
      rw [un_eq, un_eq]
      obtain ⟨a1, a2, a3⟩ := h4 u hu
      refine ⟨by rw [sm_add, a1, sm_ownF (rn_lt (fun k hk => (h1.2.2 k hk).2))], by omega, fun r => ?_⟩
      have := ownF_le n w 0 (rc n) r
      have := a3 r
      show ct u r + ownF n w 0 (rc n) r ≤ _
      omega
    · rw [un_ne _ _ e, un_ne _ _ e]
      obtain ⟨a1, a2, a3⟩ := h4 u hu
      exact ⟨a1, by omega, fun r => by have := a3 r; omega⟩
  · rw [k1, occ_take hs hs1 (m1_ne (by omega)), h6]
  · rw [k1]
    by_cases e : x = s
    · subst e; exact Or.inr ⟨nx, by omega, upd_eq9 _ _ _⟩
    · rw [upd_ne9 _ _ e]
      rcases h7 x hx with h | ⟨m, hm, h⟩
      · exact Or.inl h
      · exact Or.inr ⟨m, by omega, h⟩
/-- .. and withdrawn at once -/
theorem Inv.withdraw (h : Inv σ n w tc pr tx nx ct mt) {t s : Nat} (ht : t < 5) (hs : s < 30) (hs1 : σ 17 s = -1) (htx : tx < 30) (hnx : nx < 10000) (K : Kept σ τ s nx t (rc n) 0 n w (ct t) (mt t))
    (e17 : τ2 17 = upd (τ 17) s (-1)) (eT : Tl τ2 (6 + t) (11 + t) (fun r => (un ct t (fun r => ct t r + ownF n w 0 (rc n) r)) t r - ownF n w 0 (rc n) r) ((un mt t (mt t + rc n)) t - rc n)) (eo : ∀ j, j ≠ 17 → j ≠ 6 + t → j ≠ 11 + t → τ2 j = τ j) :
    Inv τ2 n w tc pr tx (nx + 1) ct mt := by
  have g := h.teach ht hs hs1 htx hnx K
  obtain ⟨h1, h2, h3, h4, h5, h6, h7⟩ := h
  obtain ⟨g1, g2, g3, g4, g5, g6, g7⟩ := g
  refine ⟨g1.fr (eo 1 (by decide) (by omega) (by omega)) (eo 2 (by decide) (by omega) (by omega)), g2.fr (eo 0 (by decide) (by omega) (by omega)), fun u hu => ?_, h4, by rw [eo 16 (by decide) (by omega) (by omega)]; exact g5, ?_, fun x hx => ?_⟩
  · by_cases e : u = t
    · subst e
      rw [un_eq, un_eq] at eT
      have e1 : (fun r => (fun r => ct u r + ownF n w 0 (rc n) r) r - ownF n w 0 (rc n) r) = ct u := funext fun r => Nat.add_sub_cancel _ _
      rw [e1, Nat.add_sub_cancel] at eT
      exact eT
    · have := g3 u hu
      rw [un_ne _ _ e, un_ne _ _ e] at this
      exact this.fr (eo _ (by omega) (by omega) (by omega)) (eo _ (by omega) (by omega) (by omega))
  · rw [e17]
    have h8 : ¬ τ 17 s = -1 := by rw [K.1, upd_eq9]; exact m1_ne (by omega)
    have := occ_drop hs h8
    omega
  · rw [e17]
    by_cases e : x = s
    · subst e; exact Or.inl (upd_eq9 _ _ _)
    · rw [upd_ne9 _ _ e]; exact g7 x hx
end InvS
end
section
/-! ===== the calls as the law makes them: none throws ===== -/
theorem y_total (l : Launch) (hl0 : l.stackTraces = false) (D : va_G) (cy : Nat → ClassId) (ad : Nat → Nat) (hDis : Dis ad) (σ : sS) {tc mg pr : Nat} (hX : Xs σ tc mg pr) {ct : Nat → Nat → Nat} {mt : Nat → Nat} (hT : Ta σ ct mt) {t d : Nat} (ht : t < tc) (hd : mt t = d) : Yi l yX4_total wsX4_total 7 111 1 6 D cy ad [.ref (ad 0), .int (nI t)] σ (fun r τ => r = nI d ∧ σ = τ) :=
  (c_X4_total l hl0 D cy ad hDis σ hX hT (x := nI t)).yi (fun r τ h => by
    obtain ⟨⟨t2, h1, h2, h3⟩, h4⟩ := h
    obtain rfl : t = t2 := nI_inj (by have := hX.2.2.2.1; omega) (by have := hX.2.2.2.1; omega) h2
    exact ⟨by rw [h3, hd], h4⟩) (fun E τ h => h.2.1 ⟨t, ht, rfl⟩)
theorem y_textCost (l : Launch) (hl0 : l.stackTraces = false) (D : va_G) (cy : Nat → ClassId) (ad : Nat → Nat) (hDis : Dis ad) (σ : sS) {tc mg pr : Nat} (hX : Xs σ tc mg pr) {n : Nat} {w : Nat → Nat} (hS : Sp σ n w) {ct : Nat → Nat → Nat} {mt : Nat → Nat} (hT : Ta σ ct mt) {t d : Nat} (ht : t < tc) (hd : ctxN n w (ct t) (mt t) = d) : Yi l yX4_textCost wsX4_textCost 7 111 1 6 D cy ad [.ref (ad 0), .int (nI t)] σ (fun r τ => r = nI d ∧ σ = τ) :=
  (c_X4_textCost l hl0 D cy ad hDis σ hX hS hT (x := nI t)).yi (fun r τ h => by
    obtain ⟨⟨t2, h1, h2, h3⟩, h4⟩ := h
    obtain rfl : t = t2 := nI_inj (by have := hX.2.2.2.1; omega) (by have := hX.2.2.2.1; omega) h2
    exact ⟨by rw [h3, hd], h4⟩) (fun E τ h => h.2.1 ⟨t, ht, rfl⟩)
theorem y_count (l : Launch) (hl0 : l.stackTraces = false) (D : va_G) (cy : Nat → ClassId) (ad : Nat → Nat) (hDis : Dis ad) (σ : sS) {tc mg pr : Nat} (hX : Xs σ tc mg pr) {ct : Nat → Nat → Nat} {mt : Nat → Nat} (hT : Ta σ ct mt) {t k d : Nat} (ht : t < tc) (hk : k < 36) (hd : ct t k = d) : Yi l yX4_count wsX4_count 7 111 2 12 D cy ad [.ref (ad 0), .int (nI t), .int (nI k)] σ (fun r τ => r = nI d ∧ σ = τ) :=
  (c_X4_count l hl0 D cy ad hDis σ hX hT (x := nI t) (y := nI k)).yi (fun r τ h => by
    obtain ⟨⟨t2, k2, h1, h1k, h2, h2k, h3⟩, h4⟩ := h
    obtain rfl : t = t2 := nI_inj (by have := hX.2.2.2.1; omega) (by have := hX.2.2.2.1; omega) h2
    obtain rfl : k = k2 := nI_inj (by omega) (by omega) h2k
    exact ⟨by rw [h3, hd], h4⟩) (fun E τ h => h.2.1 ⟨⟨t, ht, rfl⟩, ⟨k, hk, rfl⟩⟩)
theorem y_cost (l : Launch) (hl0 : l.stackTraces = false) (D : va_G) (cy : Nat → ClassId) (ad : Nat → Nat) (hDis : Dis ad) (σ : sS) {tc mg pr : Nat} (hX : Xs σ tc mg pr) {ct : Nat → Nat → Nat} {mt : Nat → Nat} (hT : Ta σ ct mt) {t k d : Nat} (ht : t < tc) (hk : k < 36) (hd : costN (ct t k) (mt t) = d) : Yi l yX4_cost wsX4_cost 7 111 2 12 D cy ad [.ref (ad 0), .int (nI t), .int (nI k)] σ (fun r τ => r = nI d ∧ σ = τ) :=
  (c_X4_cost l hl0 D cy ad hDis σ hX hT (x := nI t) (y := nI k)).yi (fun r τ h => by
    obtain ⟨⟨t2, k2, h1, h1k, h2, h2k, h3⟩, h4⟩ := h
    obtain rfl : t = t2 := nI_inj (by have := hX.2.2.2.1; omega) (by have := hX.2.2.2.1; omega) h2
    obtain rfl : k = k2 := nI_inj (by omega) (by omega) h2k
    exact ⟨by rw [h3, hd], h4⟩) (fun E τ h => h.2.1 ⟨⟨t, ht, rfl⟩, ⟨k, hk, rfl⟩⟩)
theorem y_runAt (l : Launch) (hl0 : l.stackTraces = false) (D : va_G) (cy : Nat → ClassId) (ad : Nat → Nat) (hDis : Dis ad) (σ : sS) {n : Nat} {w : Nat → Nat} (hS : Sp σ n w) {k d : Nat} (hk : k < rc n) (hd : rn n w k = d) : Yi l yX4_runAt wsX4_runAt 7 111 1 6 D cy ad [.ref (ad 0), .int (nI k)] σ (fun r τ => r = nI d ∧ σ = τ) :=
  (c_X4_runAt l hl0 D cy ad hDis σ hS (x := nI k)).yi (fun r τ h => by
    obtain ⟨⟨k2, h1, h2, h3⟩, h4⟩ := h
    have hr := rc_le hS.2.1
    obtain rfl : k = k2 := nI_inj (by omega) (by omega) h2
    exact ⟨by rw [h3, hd], h4⟩) (fun E τ h => h.2.1 ⟨k, hk, rfl⟩)
theorem y_cutCost (l : Launch) (hl0 : l.stackTraces = false) (D : va_G) (cy : Nat → ClassId) (ad : Nat → Nat) (hDis : Dis ad) (σ : sS) {tc mg pr : Nat} (hX : Xs σ tc mg pr) {n : Nat} {w : Nat → Nat} (hS : Sp σ n w) {ct : Nat → Nat → Nat} {mt : Nat → Nat} (hT : Ta σ ct mt) {K : Nat → Nat → Nat} {N9 : Nat} (hK : kst n w ct mt = K) (hN : rc n = N9) (htc : 0 < tc) : Yi l yX4_cutCost wsX4_cutCost 7 134 1 6 D cy ad [.ref (ad 0)] σ (fun r τ => r = nI (lb K pr tc N9 N9 0) ∧ ∀ j, j < 51 → τ j = σ j) :=
  (c_X4_cutCost l hl0 D cy ad hDis σ hX hS hT).yi (fun r τ h => by
    subst hK
    subst hN
    exact ⟨h.2.1, fun j hj => h.2.2 j (Or.inl hj)⟩) (fun E τ h => absurd h.2.1 (by omega))
theorem y_stretches (l : Launch) (hl0 : l.stackTraces = false) (D : va_G) (cy : Nat → ClassId) (ad : Nat → Nat) (hDis : Dis ad) (σ : sS) {tc mg pr : Nat} (hX : Xs σ tc mg pr) {n : Nat} {w : Nat → Nat} (hS : Sp σ n w) {ct : Nat → Nat → Nat} {mt : Nat → Nat} (hT : Ta σ ct mt) {K : Nat → Nat → Nat} {N9 : Nat} (hK : kst n w ct mt = K) (hN : rc n = N9) (htc : 0 < tc) : Yi l yX4_stretches wsX4_stretches 7 136 1 6 D cy ad [.ref (ad 0)] σ (fun r τ => r = nI (stc (fun i => tdb K pr tc N9 (i + 1) - 1) N9) ∧ ∀ j, j < 51 → τ j = σ j) :=
  (c_X4_stretches l hl0 D cy ad hDis σ hX hS hT).yi (fun r τ h => by
    subst hK
    subst hN
    exact ⟨h.2.1, fun j hj => h.2.2 j (Or.inl hj)⟩) (fun E τ h => absurd h.2.1 (by omega))
theorem y_cutCostByTrying (l : Launch) (hl0 : l.stackTraces = false) (D : va_G) (cy : Nat → ClassId) (ad : Nat → Nat) (hDis : Dis ad) (σ : sS) {tc mg pr : Nat} (hX : Xs σ tc mg pr) {n : Nat} {w : Nat → Nat} (hS : Sp σ n w) {ct : Nat → Nat → Nat} {mt : Nat → Nat} (hT : Ta σ ct mt) {K : Nat → Nat → Nat} {N9 : Nat} (hK : kst n w ct mt = K) (hN : rc n = N9) (htc : 0 < tc) (hn5 : n ≤ 5) : Yi l yX4_cutCostByTrying wsX4_cutCostByTrying 8 195 2 12 D cy ad [.ref (ad 0)] σ (fun r τ => r = nI (lb K pr tc N9 N9 0) ∧ ∀ j, j < 51 → τ j = σ j) :=
  (c_X4_cutCostByTrying l hl0 D cy ad hDis σ hX hS hT).yi (fun r τ h => by
    subst hK
    subst hN
    exact ⟨h.2.2.1, fun j hj => h.2.2.2 j (Or.inl hj)⟩) (fun E τ h => by have := h.2.1; omega)
theorem y_cutTongue (l : Launch) (hl0 : l.stackTraces = false) (D : va_G) (cy : Nat → ClassId) (ad : Nat → Nat) (hDis : Dis ad) (σ : sS) {tc mg pr : Nat} (hX : Xs σ tc mg pr) {n : Nat} {w : Nat → Nat} (hS : Sp σ n w) {ct : Nat → Nat → Nat} {mt : Nat → Nat} (hT : Ta σ ct mt) {K : Nat → Nat → Nat} {N9 : Nat} (hK : kst n w ct mt = K) (hN : rc n = N9) (htc : 0 < tc) {k : Nat} (hk : k < N9) : Yi l yX4_cutTongue wsX4_cutTongue 7 136 2 12 D cy ad [.ref (ad 0), .int (nI k)] σ (fun r τ => r = nI (tdb K pr tc N9 (k + 1) - 1) ∧ ∀ j, j < 51 → τ j = σ j) :=
  (c_X4_cutTongue l hl0 D cy ad hDis σ hX hS hT (x := nI k)).yi (fun r τ h => by
    subst hK
    subst hN
    obtain ⟨-, ⟨k2, h1, h2, h3⟩, h4⟩ := h
    have hr := rc_le hS.2.1
    obtain rfl : k = k2 := nI_inj (by omega) (by omega) h2
    exact ⟨h3, fun j hj => h4 j (Or.inl hj)⟩) (fun E τ h => by
  subst hN
  rcases h.1 with h | h
  · omega
  · exact h.2.2 ⟨k, hk, rfl⟩)
theorem y_spell (l : Launch) (hl0 : l.stackTraces = false) (D : va_G) (cy : Nat → ClassId) (ad : Nat → Nat) (hDis : Dis ad) (σ : sS) {n : Nat} {w : Nat → Nat} (hS : Sp σ n w) {x : Int32} {v : Nat} (hv : lnI x = nI v) (hv6 : v < 6) (hn : n < 16) : Yi l yX4_spell wsX4_spell 6 90 1 6 D cy ad [.ref (ad 0), .int x] σ (fun r τ => r = nI (n + 1) ∧ τ = su (su σ 2 n (nI v)) 1 1 (nI (n + 1))) :=
  (c_X4_spell l hl0 D cy ad hDis σ hS (x := x)).yi (fun r τ h => by
    rw [hv] at h
    exact ⟨h.2.2.1, h.2.2.2⟩) (fun E τ h => by
  rw [hv] at h
  rcases h.1 with h | h
  · exact m1_ne (by omega) h.2
  · omega)
theorem y_addTongue (l : Launch) (hl0 : l.stackTraces = false) (D : va_G) (cy : Nat → ClassId) (ad : Nat → Nat) (hDis : Dis ad) (σ : sS) {tc mg pr : Nat} (hX : Xs σ tc mg pr) (ht : tc < 5) : Yi l yX4_addTongue wsX4_addTongue 6 90 1 6 D cy ad [.ref (ad 0)] σ (fun r τ => r = nI tc ∧ τ = su σ 0 5 (nI (tc + 1))) :=
  (c_X4_addTongue l hl0 D cy ad hDis σ hX).yi (fun r τ h => by
    exact ⟨h.2.1, h.2.2⟩) (fun E τ h => by have := h.2.1; omega)
theorem y_setPrice (l : Launch) (hl0 : l.stackTraces = false) (D : va_G) (cy : Nat → ClassId) (ad : Nat → Nat) (hDis : Dis ad) (σ : sS) {tc mg pr : Nat} (hX : Xs σ tc mg pr) {q : Nat} (hq : q ≤ 100) : Yi l yX4_setPrice wsX4_setPrice 6 90 1 6 D cy ad [.ref (ad 0), .int (nI q)] σ (fun r τ => r = nI pr ∧ τ = su σ 0 7 (nI q)) :=
  (c_X4_setPrice l hl0 D cy ad hDis σ hX (x := nI q)).yi (fun r τ h => by
    exact ⟨h.2.1, h.2.2⟩) (fun E τ h => h.2.1 ⟨q, by omega, rfl⟩)
theorem y_teach (l : Launch) (hl0 : l.stackTraces = false) (D : va_G) (cy : Nat → ClassId) (ad : Nat → Nat) (hDis : Dis ad) (σ : sS) {tc mg pr : Nat} (hX : Xs σ tc mg pr) {n : Nat} {w : Nat → Nat} (hS : Sp σ n w) {ct : Nat → Nat → Nat} {mt : Nat → Nat} (hT : Ta σ ct mt) {nx : Nat} (h4 : σ 16 4 = nI nx) (hnx : nx ≤ 10000) (hB : ∀ t, t < 5 → mt t ≤ 510 ∧ ∀ r, ct t r ≤ 510) {t : Nat} (ht : t < tc) (hn : 0 < n) (hs : fsw (σ 17) (-1) 30 0 < 30) : Yi l yX4_teach wsX4_teach 7 111 2 12 D cy ad [.ref (ad 0), .int (nI t)] σ (fun r τ => r = nI nx ∧ Kept σ τ (fsw (σ 17) (-1) 30 0) nx t (rc n) 0 n w (ct t) (mt t)) :=
  (c_X4_teach l hl0 D cy ad hDis σ hX hS hT h4 hnx hB (x := nI t)).yi (fun r τ h => by
    obtain ⟨t2, h1, h2, h3, h5, h6, h7⟩ := h
    obtain rfl : t = t2 := nI_inj (by have := hX.2.2.2.1; omega) (by have := hX.2.2.2.1; omega) h2
    exact ⟨h6, h7⟩) (fun E τ h => by
  rcases h.1 with h | h
  · exact h.2 ⟨t, ht, rfl⟩
  · omega)
theorem y_tongueOf (l : Launch) (hl0 : l.stackTraces = false) (D : va_G) (cy : Nat → ClassId) (ad : Nat → Nat) (hDis : Dis ad) (σ : sS) {nx s t : Nat} (hnx : nx ≤ 10000) (hf : fsw (σ 17) (nI nx) 30 0 = s) (hs : s < 30) (h18 : σ 18 s = nI t) : Yi l yX4_tongueOf wsX4_tongueOf 7 112 1 6 D cy ad [.ref (ad 0), .int (nI nx)] σ (fun r τ => r = nI t ∧ σ = τ) :=
  (c_X4_tongueOf l hl0 D cy ad hDis σ (x := nI nx)).yi (fun r τ h => by
    rw [hf, h18] at h
    exact ⟨h.2.2.1, h.2.2.2⟩) (fun E τ h => by
  rw [hf] at h
  rcases h.2.1 with h | h
  · exact nI_pos (by omega) h
  · omega)
theorem y_withdraw (l : Launch) (hl0 : l.stackTraces = false) (D : va_G) (cy : Nat → ClassId) (ad : Nat → Nat) (hDis : Dis ad) (σ : sS) {ct : Nat → Nat → Nat} {mt : Nat → Nat} (hT : Ta σ ct mt) {nx s t ln : Nat} {rr : Nat → Nat} (hnx : nx ≤ 10000) (hf : fsw (σ 17) (nI nx) 30 0 = s) (hs : s < 30) (h18 : σ 18 s = nI t) (ht : t < 5) (h19 : σ 19 s = nI ln) (hln : ln ≤ 17) (hrr : ∀ p, p < ln → σ (21 + s) p = nI (rr p) ∧ rr p < 36) (hc : ∀ r, cntF rr ln r ≤ ct t r) (hm : ln ≤ mt t) : Yi l yX4_withdraw wsX4_withdraw 7 112 1 6 D cy ad [.ref (ad 0), .int (nI nx)] σ (fun r τ => r = nI ln ∧ τ 17 = upd (σ 17) s (-1) ∧ Tl τ (6 + t) (11 + t) (fun r => ct t r - cntF rr ln r) (mt t - ln) ∧ ∀ j, j ≠ 17 → j ≠ 6 + t → j ≠ 11 + t → τ j = σ j) :=
  (c_X4_withdraw l hl0 D cy ad hDis σ hT (x := nI nx) (t := t) (ln := ln) (rr := rr) (fun _ _ => by rw [hf]; exact ⟨h18, ht, h19, hln, hrr, hc, hm⟩)).yi (fun r τ h => by
    rw [hf] at h
    exact h.2.2) (fun E τ h => by
  rw [hf] at h
  rcases h.2.1 with h | h
  · exact nI_pos (by omega) h
  · omega)
theorem stc_st1 {k : Nat → Nat → Nat} {pr tc N i : Nat} (h : tdb k pr tc N i = tdb k pr tc N (i + 1)) : (if i = 0 ∨ (fun i => tdb k pr tc N (i + 1) - 1) i ≠ (fun i => tdb k pr tc N (i + 1) - 1) (i - 1) then 1 else 0) = 0 := by
  refine if_neg (fun q => ?_)
  rcases q with q | q
  · subst q
    simp [tdb] at h
  · refine q ?_
    cases i with
    | zero => simp [tdb] at h
    | succ j =>
      show tdb k pr tc N (j + 1 + 1) - 1 = tdb k pr tc N (j + 1) - 1
      rw [h]
theorem stc_st2 {k : Nat → Nat → Nat} {pr tc N i : Nat} (h : ¬ tdb k pr tc N i = tdb k pr tc N (i + 1)) : (if i = 0 ∨ (fun i => tdb k pr tc N (i + 1) - 1) i ≠ (fun i => tdb k pr tc N (i + 1) - 1) (i - 1) then 1 else 0) = 1 := by
  refine if_pos ?_
  cases i with
  | zero => exact Or.inl rfl
  | succ j =>
    refine Or.inr (fun q => h ?_)
    have q : tdb k pr tc N (j + 1 + 1) - 1 = tdb k pr tc N (j + 1) - 1 := q
    have h1 : tdb k pr tc N (j + 1 + 1) = amin (fun u => rb k pr tc N (N - (j + 1)) u + chg pr (tdb k pr tc N (j + 1)) u) tc + 1 := rfl
    have h2 : tdb k pr tc N (j + 1) = amin (fun u => rb k pr tc N (N - j) u + chg pr (tdb k pr tc N j) u) tc + 1 := rfl
    omega
theorem lnI_v {x : Int32} (h1 : nI 97 ≤ x) (h2 : x ≤ nI 101) : ∃ v, v < 6 ∧ x - nI 97 + nI 1 = nI v := by
  obtain ⟨j, hj, rfl⟩ := nI_of (x := x) (Int32.not_lt.mpr (Int32.le_trans (by decide) h1))
  have h3 := (nI_leI (by omega) hj).mp h1
  have h4 := (nI_leI hj (by omega)).mp h2
  exact ⟨j - 96, by omega, by rw [pk_sub h3, nI_add]; congr 1; omega⟩
theorem lnI_c (x : Int32) : lnI x = -1 ∨ ∃ v, v < 6 ∧ lnI x = nI v := by
  unfold lnI
  split
  · exact Or.inr ⟨0, by omega, rfl⟩
  · split
    · rename_i h; obtain ⟨v, h1, h2⟩ := lnI_v h.1 h.2; exact Or.inr ⟨v, h1, h2⟩
    · exact Or.inl rfl
end
section
/-! ===== the law reads its script; a number made small ===== -/
set_option maxHeartbeats 4000000 in
set_option maxRecDepth 100000 in
theorem c_L_cell (l : Launch) (D : va_G) (cy : Nat → ClassId) (ad : Nat → Nat) (hDis : Dis ad) (σ : sS) {b L k : Nat} {xs : Nat → Int32} (hL : L ≤ 260) (hk : k ≤ 200) : Si l yL_cell wsL_cell 0 0 D cy ad [.ref b, .int (nI k)] σ b L xs (fun r τ => σ = τ) := by
  refine Si.of (cc := cL_cell) (nL := 2) (own := RL) hDis (by decide) rfl [(0, .ref b), (1, .int (nI k))] rfl (Nat.le_of_ble_eq_true rfl) rfl ?_
  intro p e s m args below meth c A Q C hXs hbl hbA hret
  refine tg_iload_n C dL_cell_0 1 rfl rfl 1 rfl ?_
  refine tg_aload_n C dL_cell_1 2 rfl rfl 0 rfl ?_
  refine tg_slen C hXs hbl hbA dL_cell_2 3 rfl ?_
  refine tg_icmp_ge C 12 dL_cell_3 (by decide) 6 rfl (fun c3 => ?_) (fun c3 => ?_)
  · -- to 12
    replace c3 : L ≤ k := (nI_leI (by omega) (by omega)).mp c3
    refine tg_sipush C (nI 7919) dL_cell_12 15 rfl (by decide) ?_
    refine tg_iload_n C dL_cell_15 16 rfl rfl 1 rfl ?_
    refine tg_iconst C (nI 3) dL_cell_16 17 rfl (by decide) ?_
    refine tg_iadd C (nI (k + 3)) dL_cell_17 18 rfl (nI_add k 3) ?_
    refine tg_imul C (nI (7919 * (k + 3))) dL_cell_18 19 rfl (pk_mul 7919 (k + 3)) ?_
    refine tg_iload_n C dL_cell_19 20 rfl rfl 1 rfl ?_
    refine tg_bipush C (nI 11) dL_cell_20 22 rfl (by decide) ?_
    refine tg_iadd C (nI (k + 11)) dL_cell_22 23 rfl (nI_add k 11) ?_
    refine tg_imul C (nI ((7919 * (k + 3)) * (k + 11))) dL_cell_23 24 rfl (pk_mul (7919 * (k + 3)) (k + 11)) ?_
    exact hret dL_cell_24 rfl
  · -- on
    replace c3 : ¬ L ≤ k := fun q => c3 ((nI_leI (by omega) (by omega)).mpr q)
    refine tg_aload_n C dL_cell_6 7 rfl rfl 0 rfl ?_
    refine tg_iload_n C dL_cell_7 8 rfl rfl 1 rfl ?_
    refine tg_sld C hXs hbl hbA (vp_in_nI (by omega) (by omega)) dL_cell_8 9 rfl ?_
    refine tg_goto C 24 dL_cell_9 (by decide) ?_
    exact hret dL_cell_24 rfl
set_option maxHeartbeats 4000000 in
set_option maxRecDepth 100000 in
theorem c_L_low (l : Launch) (D : va_G) (cy : Nat → ClassId) (ad : Nat → Nat) (hDis : Dis ad) (σ : sS) {x : Int32} {N9 : Nat} (hN0 : 0 < N9) (hN1 : N9 ≤ 1000) : Mi l yL_low wsL_low 0 0 D cy ad [.int x, .int (nI N9)] σ (fun r τ => (∃ j, j < N9 ∧ r = nI j) ∧ σ = τ) := by
  have w0 : Cond.constant RL 7 (2147483647) ∈ wsL_low := by decide +kernel
  refine Mi.of (cc := cL_low) (nL := 2) (own := RL) hDis (by decide) rfl [(0, .int x), (1, .int (nI N9))] rfl (Nat.le_of_ble_eq_true rfl) rfl ?_
  intro p e s m args below meth c A Q C hret
  refine tg_iload_n C dL_low_0 1 rfl rfl 0 rfl ?_
  refine tg_ldc C (nI 2147483647) dL_low_1 3 rfl w0 ?_
  obtain ⟨j, hj, hje⟩ := pk_andE x (m := nI 2147483647) 31 (by decide)
  refine tg_iand C (nI j) dL_low_3 4 rfl (hje) ?_
  refine tg_iload_n C dL_low_4 5 rfl rfl 1 rfl ?_
  refine tg_irem C (nI (j % N9)) (nI_ne0 hN0 (by omega)) dL_low_5 6 rfl (pk_rem (by omega) hN0 (by omega)) ?_
  exact hret dL_low_6 ⟨⟨j % N9, Nat.mod_lt _ hN0, rfl⟩, rfl⟩
end
section
/-! ===== areCosts: the counts are together the total, each cost is the least power that is enough ===== -/
set_option maxHeartbeats 4000000 in
set_option maxRecDepth 100000 in
theorem c_L_areCosts (l : Launch) (hl0 : l.stackTraces = false) (D : va_G) (cy : Nat → ClassId) (ad : Nat → Nat) (hDis : Dis ad) (σ : sS) {tc mg pr : Nat} (hX : Xs σ tc mg pr) {ct : Nat → Nat → Nat} {mt : Nat → Nat} (hT : Ta σ ct mt) {t : Nat} (ht : t < tc) (hsum : sm (ct t) 36 = mt t) : Yi l yL_areCosts wsL_areCosts 8 133 145 870 D cy ad [.ref (ad 0), .int (nI t)] σ (fun r τ => r = nI 1 ∧ σ = τ) := by
  obtain ⟨m9, hm9⟩ : ∃ z, mt t = z := ⟨_, rfl⟩
  have htc := hX.2.2.2.1
  have hmb : mt t ≤ 600 := (hT t (by omega)).2.1
  have hmb9 : m9 ≤ 600 := hm9 ▸ hmb
  refine Yz.of (cc := cL_areCosts) (nL := 10) (own := RL) hDis (by decide) rfl [(0, .ref (ad 0)), (1, .int (nI t))] rfl (Nat.le_of_ble_eq_true rfl) rfl ?_
  intro p e s m args below meth c A Q C hE hret
  refine tg_aload_n C dL_areCosts_0 1 rfl rfl 0 rfl ?_
  refine tg_iload_n C dL_areCosts_1 2 rfl rfl 1 rfl ?_
  refine tg_callYV C hE 0 (by decide) (e_0 ad cy _) rfl (y_total l hl0 D cy ad hDis σ hX hT ht (d := m9) hm9) (cwV 1 C.2.2.2.2.1 gL_areCosts_X4_total rfl rfl rfl (by decide +kernel) ⟨(Nat.le_of_ble_eq_true rfl), (Nat.le_of_ble_eq_true rfl)⟩) rfl rfl (Nat.le_of_ble_eq_true rfl) ⟨(show 0 + 1 ≤ 145 by omega), (show 0 + 6 ≤ 870 by omega)⟩ dL_areCosts_2 5 rfl (fun r2 τ2 h2 => ?_)
  obtain ⟨h2, h2s⟩ := h2
  subst h2s
  subst h2
  refine tg_istore_n C dL_areCosts_5 6 rfl rfl [(2, .int (nI m9)), (0, .ref (ad 0)), (1, .int (nI t))] (by decide) rfl ?_
  refine tg_iconst C (nI 0) dL_areCosts_6 7 rfl (by decide) ?_
  refine tg_istore_n C dL_areCosts_7 8 rfl rfl [(3, .int (nI 0)), (2, .int (nI m9)), (0, .ref (ad 0)), (1, .int (nI t))] (by decide) rfl ?_
  refine tg_iconst C (nI 1) dL_areCosts_8 9 rfl (by decide) ?_
  refine tg_istore C dL_areCosts_9 11 rfl [(4, .int (nI 1)), (3, .int (nI 0)), (2, .int (nI m9)), (0, .ref (ad 0)), (1, .int (nI t))] (by decide) rfl ?_
  refine tg_iconst C (nI 0) dL_areCosts_11 12 rfl (by decide) ?_
  refine tg_istore C dL_areCosts_12 14 rfl [(5, .int (nI 0)), (4, .int (nI 1)), (3, .int (nI 0)), (2, .int (nI m9)), (0, .ref (ad 0)), (1, .int (nI t))] (by decide) rfl ?_
  have L14 : ∀ (n14 : Nat) (i s3 : Nat), (i ≤ 36 ∧ s3 = sm (ct t) i) → 36 - i < n14 → TT p l e (Rx 8 133 145 870) s m args below meth c D cy ad A 10 (1 + 4 * i) (6 + 24 * i) Q σ 14 [(0, .ref (ad 0)), (1, .int (nI t)), (2, .int (nI m9)), (3, .int (nI s3)), (4, .int (nI 1)), (5, .int (nI i))] [] := by
    intro n14
    induction n14 with
    | zero => intro i s3 _ hn14; exact absurd hn14 (Nat.not_lt_zero _)
    | succ n14 ih14 =>
      intro i s3 ⟨hi, hs3⟩ hn14
      refine tg_iload C dL_areCosts_14 16 rfl 5 rfl ?_
      refine tg_bipush C (nI 36) dL_areCosts_16 18 rfl (by decide) ?_
      refine tg_icmp_ge C 148 dL_areCosts_18 (by decide) 21 rfl (fun c18 => ?_) (fun c18 => ?_)
      · -- to 148
        replace c18 : 36 ≤ i := (nI_leI (by omega) (by omega)).mp c18
        refine tg_iload C dL_areCosts_148 150 rfl 4 rfl ?_
        refine tg_if_eq C 162 dL_areCosts_150 (by decide) 153 rfl (fun c150 => absurd c150 (by decide)) (fun c150 => ?_)
        refine tg_iload_n C dL_areCosts_153 154 rfl rfl 3 rfl ?_
        refine tg_iload_n C dL_areCosts_154 155 rfl rfl 2 rfl ?_
        refine tg_icmp_ne C 162 dL_areCosts_155 (by decide) 158 rfl (fun c155 => absurd (by rw [hs3, show i = 36 by omega, hsum, hm9]) c155) (fun c155 => ?_)
        refine tg_iconst C (nI 1) dL_areCosts_158 159 rfl (by decide) ?_
        refine tg_goto C 163 dL_areCosts_159 (by decide) ?_
        exact hret (show 1 + 4 * i ≤ 145 by omega) (show 6 + 24 * i ≤ 870 by omega) dL_areCosts_163 rfl ⟨rfl, rfl⟩
      · -- on
        replace c18 : ¬ 36 ≤ i := fun q => c18 ((nI_leI (by omega) (by omega)).mpr q)
        refine tg_iload C dL_areCosts_21 23 rfl 4 rfl ?_
        refine tg_if_eq C 148 dL_areCosts_23 (by decide) 26 rfl (fun c23 => absurd c23 (by decide)) (fun c23 => ?_)
        obtain ⟨c9, hc9⟩ : ∃ z, ct t i = z := ⟨_, rfl⟩
        obtain ⟨d9, hd9⟩ : ∃ z, costN (ct t i) (mt t) = z := ⟨_, rfl⟩
        have hcb : c9 ≤ 600 := by rw [← hc9]; exact ((hT t (by omega)).2.2 i (by omega)).2
        have hdb : d9 ≤ 10 := by rw [← hd9]; exact costN_le _ _
        have hdz : d9 = 0 → m9 + 36 ≤ c9 + 1 := fun q => by rw [← hm9, ← hc9]; exact costN_zero hmb (by rw [hd9]; exact q)
        have hdp : 0 < d9 → m9 + 36 ≤ (c9 + 1) * 2 * 2 ^ (d9 - 1) ∧ (c9 + 1) * 2 ^ (d9 - 1) < m9 + 36 := fun q => by rw [← hm9, ← hc9, ← hd9]; exact costN_pos hmb (by rw [hd9]; exact q)
        refine tg_aload_n C dL_areCosts_26 27 rfl rfl 0 rfl ?_
        refine tg_iload_n C dL_areCosts_27 28 rfl rfl 1 rfl ?_
        refine tg_iload C dL_areCosts_28 30 rfl 5 rfl ?_
        refine tg_callYV C hE 0 (by decide) (e_0 ad cy _) rfl (y_count l hl0 D cy ad hDis σ hX hT ht (k := i) (by omega) hc9) (cwV 2 C.2.2.2.2.1 gL_areCosts_X4_count rfl rfl rfl (by decide +kernel) ⟨(Nat.le_of_ble_eq_true rfl), (Nat.le_of_ble_eq_true rfl)⟩) rfl rfl (Nat.le_of_ble_eq_true rfl) ⟨(show 1 + 4 * i + 2 ≤ 145 by omega), (show 6 + 24 * i + 12 ≤ 870 by omega)⟩ dL_areCosts_30 33 rfl (fun r30 τ30 h30 => ?_)
        obtain ⟨h30, h30s⟩ := h30
        subst h30s
        subst h30
        refine tg_istore C dL_areCosts_33 35 rfl [(6, .int (nI c9)), (0, .ref (ad 0)), (1, .int (nI t)), (2, .int (nI m9)), (3, .int (nI s3)), (4, .int (nI 1)), (5, .int (nI i))] (by decide) rfl ?_
        refine tg_iconst C (nI 1) dL_areCosts_35 36 rfl (by decide) ?_
        refine tg_istore C dL_areCosts_36 38 rfl [(7, .int (nI 1)), (6, .int (nI c9)), (0, .ref (ad 0)), (1, .int (nI t)), (2, .int (nI m9)), (3, .int (nI s3)), (4, .int (nI 1)), (5, .int (nI i))] (by decide) rfl ?_
        refine tg_aload_n C dL_areCosts_38 39 rfl rfl 2 rfl ?_
        refine tg_iload_n C dL_areCosts_39 40 rfl rfl 3 rfl ?_
        refine tg_iload C dL_areCosts_40 42 rfl 7 rfl ?_
        refine tg_callYV C hE 0 (by decide) (e_0 ad cy _) rfl (y_cost l hl0 D cy ad hDis σ hX hT ht (k := i) (by omega) hd9) (cwV 2 C.2.2.2.2.1 gL_areCosts_X4_cost rfl rfl rfl (by decide +kernel) ⟨(Nat.le_of_ble_eq_true rfl), (Nat.le_of_ble_eq_true rfl)⟩) rfl rfl (Nat.le_of_ble_eq_true rfl) ⟨(show 1 + 4 * i + 2 + 2 ≤ 145 by omega), (show 6 + 24 * i + 12 + 12 ≤ 870 by omega)⟩ dL_areCosts_42 45 rfl (fun r42 τ42 h42 => ?_)
        obtain ⟨h42, h42s⟩ := h42
        subst h42s
        subst h42
        refine tg_istore C dL_areCosts_45 47 rfl [(8, .int (nI d9)), (7, .int (nI 1)), (6, .int (nI c9)), (0, .ref (ad 0)), (1, .int (nI t)), (2, .int (nI m9)), (3, .int (nI s3)), (4, .int (nI 1)), (5, .int (nI i))] (by decide) rfl ?_
        refine tg_iconst C (nI 1) dL_areCosts_47 48 rfl (by decide) ?_
        refine tg_istore C dL_areCosts_48 50 rfl [(9, .int (nI 1)), (8, .int (nI d9)), (7, .int (nI 1)), (6, .int (nI c9)), (0, .ref (ad 0)), (1, .int (nI t)), (2, .int (nI m9)), (3, .int (nI s3)), (4, .int (nI 1)), (5, .int (nI i))] (by decide) rfl ?_
        have L50 : ∀ (n50 : Nat) (k P : Nat), (1 ≤ k ∧ (k ≤ d9 ∨ k = 1) ∧ P = 2 ^ (k - 1)) → 20 - k < n50 → TT p l e (Rx 8 133 145 870) s m args below meth c D cy ad A 10 (1 + 4 * i + 2 + 2) (6 + 24 * i + 12 + 12) Q σ 50 [(0, .ref (ad 0)), (1, .int (nI t)), (2, .int (nI m9)), (3, .int (nI s3)), (4, .int (nI 1)), (5, .int (nI i)), (6, .int (nI c9)), (7, .int (nI P)), (8, .int (nI d9)), (9, .int (nI k))] [] := by
          intro n50
          induction n50 with
          | zero => intro k P _ hn50; exact absurd hn50 (Nat.not_lt_zero _)
          | succ n50 ih50 =>
            intro k P ⟨hk1, hk2, hP⟩ hn50
            refine tg_iload C dL_areCosts_50 52 rfl 9 rfl ?_
            refine tg_iload C dL_areCosts_52 54 rfl 8 rfl ?_
            refine tg_icmp_ge C 69 dL_areCosts_54 (by decide) 57 rfl (fun c54 => ?_) (fun c54 => ?_)
            · -- to 69
              replace c54 : d9 ≤ k := (nI_leI (by omega) (by omega)).mp c54
              obtain rfl : P = 2 ^ (d9 - 1) := by rw [hP]; congr 1; omega
              have hp9 := pow_le9 hdb
              generalize 2 ^ (d9 - 1) = P at hdp hp9 ⊢
              have hq1 : (c9 + 1) * P ≤ 601 * 512 := Nat.mul_le_mul (by omega) hp9
              have hq2 : (c9 + 1) * 2 * P ≤ 1202 * 512 := Nat.mul_le_mul (by omega) hp9
              refine tg_iload_n C dL_areCosts_69 70 rfl rfl 3 rfl ?_
              refine tg_iload C dL_areCosts_70 72 rfl 6 rfl ?_
              refine tg_iadd C (nI (s3 + c9)) dL_areCosts_72 73 rfl (nI_add s3 c9) ?_
              refine tg_istore_n C dL_areCosts_73 74 rfl rfl [(3, .int (nI (s3 + c9))), (0, .ref (ad 0)), (1, .int (nI t)), (2, .int (nI m9)), (4, .int (nI 1)), (5, .int (nI i)), (6, .int (nI c9)), (7, .int (nI P)), (8, .int (nI d9)), (9, .int (nI k))] (by decide) rfl ?_
              refine tg_iload C dL_areCosts_74 76 rfl 8 rfl ?_
              refine tg_if_lt C 139 dL_areCosts_76 (by decide) 79 rfl (fun c76 => absurd c76 (z_nlt (by omega))) (fun c76 => ?_)
              refine tg_iload C dL_areCosts_79 81 rfl 8 rfl ?_
              refine tg_bipush C (nI 20) dL_areCosts_81 83 rfl (by decide) ?_
              refine tg_icmp_ge C 139 dL_areCosts_83 (by decide) 86 rfl (fun c83 => absurd c83 (nI_ge (by omega) (by omega))) (fun c83 => ?_)
              refine tg_iload C dL_areCosts_86 88 rfl 8 rfl ?_
              refine tg_if_ne C 105 dL_areCosts_88 (by decide) 91 rfl (fun c88 => ?_) (fun c88 => ?_)
              · -- to 105
                replace c88 : ¬ d9 = 0 := fun q => c88 ((z_eq (by omega)).mpr q)
                refine tg_iload C dL_areCosts_105 107 rfl 6 rfl ?_
                refine tg_iconst C (nI 1) dL_areCosts_107 108 rfl (by decide) ?_
                refine tg_iadd C (nI (c9 + 1)) dL_areCosts_108 109 rfl (nI_add c9 1) ?_
                refine tg_iconst C (nI 2) dL_areCosts_109 110 rfl (by decide) ?_
                refine tg_imul C (nI ((c9 + 1) * 2)) dL_areCosts_110 111 rfl (pk_mul (c9 + 1) 2) ?_
                refine tg_iload C dL_areCosts_111 113 rfl 7 rfl ?_
                refine tg_imul C (nI (((c9 + 1) * 2) * P)) dL_areCosts_113 114 rfl (pk_mul ((c9 + 1) * 2) P) ?_
                refine tg_iload_n C dL_areCosts_114 115 rfl rfl 3 rfl ?_
                refine tg_bipush C (nI 36) dL_areCosts_115 117 rfl (by decide) ?_
                refine tg_iadd C (nI (m9 + 36)) dL_areCosts_117 118 rfl (nI_add m9 36) ?_
                refine tg_icmp_lt C 139 dL_areCosts_118 (by decide) 121 rfl (fun c118 => absurd c118 (nI_nlt (hdp (by omega)).1 (by omega))) (fun c118 => ?_)
                refine tg_iload C dL_areCosts_121 123 rfl 6 rfl ?_
                refine tg_iconst C (nI 1) dL_areCosts_123 124 rfl (by decide) ?_
                refine tg_iadd C (nI (c9 + 1)) dL_areCosts_124 125 rfl (nI_add c9 1) ?_
                refine tg_iload C dL_areCosts_125 127 rfl 7 rfl ?_
                refine tg_imul C (nI ((c9 + 1) * P)) dL_areCosts_127 128 rfl (pk_mul (c9 + 1) P) ?_
                refine tg_iload_n C dL_areCosts_128 129 rfl rfl 3 rfl ?_
                refine tg_bipush C (nI 36) dL_areCosts_129 131 rfl (by decide) ?_
                refine tg_iadd C (nI (m9 + 36)) dL_areCosts_131 132 rfl (nI_add m9 36) ?_
                refine tg_icmp_ge C 139 dL_areCosts_132 (by decide) 135 rfl (fun c132 => absurd c132 (nI_ge (hdp (by omega)).2 (by omega))) (fun c132 => ?_)
                refine tg_iconst C (nI 1) dL_areCosts_135 136 rfl (by decide) ?_
                refine tg_goto C 140 dL_areCosts_136 (by decide) ?_
                refine tg_istore C dL_areCosts_140 142 rfl [(4, .int (nI 1)), (3, .int (nI (s3 + c9))), (0, .ref (ad 0)), (1, .int (nI t)), (2, .int (nI m9)), (5, .int (nI i)), (6, .int (nI c9)), (7, .int (nI P)), (8, .int (nI d9)), (9, .int (nI k))] (by decide) rfl ?_
                refine tg_iinc C (nI (i + 1)) dL_areCosts_142 145 rfl 5 rfl (nI_add i 1) [(5, .int (nI (i + 1))), (4, .int (nI 1)), (3, .int (nI (s3 + c9))), (0, .ref (ad 0)), (1, .int (nI t)), (2, .int (nI m9)), (6, .int (nI c9)), (7, .int (nI P)), (8, .int (nI d9)), (9, .int (nI k))] (by decide) rfl ?_
                refine tg_goto C 14 dL_areCosts_145 (by decide) ?_
                refine tg_sub [3, 4, 5, 2, 1, 0] rfl ?_
                refine tg_widen (k := 1 + 4 * (i + 1)) (n := 6 + 24 * (i + 1)) (by omega) (by omega) ?_
                exact ih14 (i + 1) (s3 + c9) ⟨by omega, by rw [hs3, ← hc9]; rfl⟩ (by omega)
              · -- on
                replace c88 : d9 = 0 := (z_eq (by omega)).mp c88
                refine tg_iload C dL_areCosts_91 93 rfl 6 rfl ?_
                refine tg_iconst C (nI 1) dL_areCosts_93 94 rfl (by decide) ?_
                refine tg_iadd C (nI (c9 + 1)) dL_areCosts_94 95 rfl (nI_add c9 1) ?_
                refine tg_iload_n C dL_areCosts_95 96 rfl rfl 3 rfl ?_
                refine tg_bipush C (nI 36) dL_areCosts_96 98 rfl (by decide) ?_
                refine tg_iadd C (nI (m9 + 36)) dL_areCosts_98 99 rfl (nI_add m9 36) ?_
                refine tg_icmp_lt C 139 dL_areCosts_99 (by decide) 102 rfl (fun c99 => absurd c99 (nI_nlt (hdz c88) (by omega))) (fun c99 => ?_)
                refine tg_goto C 135 dL_areCosts_102 (by decide) ?_
                refine tg_iconst C (nI 1) dL_areCosts_135 136 rfl (by decide) ?_
                refine tg_goto C 140 dL_areCosts_136 (by decide) ?_
                refine tg_istore C dL_areCosts_140 142 rfl [(4, .int (nI 1)), (3, .int (nI (s3 + c9))), (0, .ref (ad 0)), (1, .int (nI t)), (2, .int (nI m9)), (5, .int (nI i)), (6, .int (nI c9)), (7, .int (nI P)), (8, .int (nI d9)), (9, .int (nI k))] (by decide) rfl ?_
                refine tg_iinc C (nI (i + 1)) dL_areCosts_142 145 rfl 5 rfl (nI_add i 1) [(5, .int (nI (i + 1))), (4, .int (nI 1)), (3, .int (nI (s3 + c9))), (0, .ref (ad 0)), (1, .int (nI t)), (2, .int (nI m9)), (6, .int (nI c9)), (7, .int (nI P)), (8, .int (nI d9)), (9, .int (nI k))] (by decide) rfl ?_
                refine tg_goto C 14 dL_areCosts_145 (by decide) ?_
                refine tg_sub [3, 4, 5, 2, 1, 0] rfl ?_
                refine tg_widen (k := 1 + 4 * (i + 1)) (n := 6 + 24 * (i + 1)) (by omega) (by omega) ?_
                exact ih14 (i + 1) (s3 + c9) ⟨by omega, by rw [hs3, ← hc9]; rfl⟩ (by omega)
            · -- on
              replace c54 : ¬ d9 ≤ k := fun q => c54 ((nI_leI (by omega) (by omega)).mpr q)
              refine tg_iload C dL_areCosts_57 59 rfl 7 rfl ?_
              refine tg_iconst C (nI 2) dL_areCosts_59 60 rfl (by decide) ?_
              refine tg_imul C (nI (P * 2)) dL_areCosts_60 61 rfl (pk_mul P 2) ?_
              refine tg_istore C dL_areCosts_61 63 rfl [(7, .int (nI (P * 2))), (0, .ref (ad 0)), (1, .int (nI t)), (2, .int (nI m9)), (3, .int (nI s3)), (4, .int (nI 1)), (5, .int (nI i)), (6, .int (nI c9)), (8, .int (nI d9)), (9, .int (nI k))] (by decide) rfl ?_
              refine tg_iinc C (nI (k + 1)) dL_areCosts_63 66 rfl 9 rfl (nI_add k 1) [(9, .int (nI (k + 1))), (7, .int (nI (P * 2))), (0, .ref (ad 0)), (1, .int (nI t)), (2, .int (nI m9)), (3, .int (nI s3)), (4, .int (nI 1)), (5, .int (nI i)), (6, .int (nI c9)), (8, .int (nI d9))] (by decide) rfl ?_
              refine tg_goto C 50 dL_areCosts_66 (by decide) ?_
              refine tg_sub [2, 3, 4, 5, 6, 7, 8, 1, 9, 0] rfl ?_
              exact ih50 (k + 1) (P * 2) ⟨by omega, Or.inl (by omega), by rw [hP, ← Nat.pow_succ]; congr 1; omega⟩ (by omega)
        refine tg_sub [4, 5, 6, 7, 8, 9, 3, 2, 1, 0] rfl ?_
        exact L50 _ 1 1 ⟨by omega, Or.inr rfl, rfl⟩ (Nat.lt_succ_self _)
  refine tg_sub [4, 5, 3, 2, 1, 0] rfl ?_
  refine tg_widen (k := 1 + 4 * 0) (n := 6 + 24 * 0) (by omega) (by omega) ?_
  exact L14 _ 0 0 ⟨by omega, rfl⟩ (Nat.lt_succ_self _)
end
section
/-! ===== the world as the law begins ===== -/
def s0w : sS := fun i => match i with | 0 => (fun k => if k = 6 then 3 else if k = 7 then 4 else 0) | 17 => (fun k => if k < 30 then -1 else 0) | _ => fun _ => 0
def Eqv (e1 e2 : va_E) : Prop := e1 = e2 ∨ ∃ (c : ClassId) (n : Nat) (f g : Nat → Option Nat), e1 = .inl (c, n, .inr (.inr (.inr (.inr f)))) ∧ e2 = .inl (c, n, .inr (.inr (.inr (.inr g)))) ∧ ∀ k, k < n → f k = g k
theorem arrV_agree {cA : ClassId} {n : Nat} {f g : Nat → Value} (h : ∀ k, k < n → f k = g k) : arrV cA n f = arrV cA n g := by
  unfold arrV
  congr 1
  refine Array.ext_getElem? fun i => ?_
  by_cases hi : i < n
  · simp [hi, h i hi]
  · simp [hi]
theorem Eqv.at {D : va_G} {a : Nat} {e1 e2 : va_E} {H : Heap} (h : Eqv e1 e2) (hP : va_at D vwCl (a, e1) H) : va_at D vwCl (a, e2) H := by
  rcases h with rfl | ⟨c, n, f, g, rfl, rfl, hk⟩
  · exact hP
  · have h1 : H[a]? = some (vp_cell c (n, .inr (.inr (.inr (.inr f))))) := hP
    show H[a]? = some (vp_cell c (n, .inr (.inr (.inr (.inr g)))))
    rw [h1, vp_cell_q, vp_cell_q, arrV_agree (fun k h => by rw [hk k h])]
def pi37 (i : Nat) : Nat := if i < 6 then i else if i < 11 then 79 + 2 * (i - 6) else if i < 16 then 80 + 2 * (i - 11) else if i < 89 then i - 10 else i
theorem pi37_inj : ∀ i, i < 89 → ∀ j, j < 89 → pi37 i = pi37 j → i = j := by decide +kernel
theorem wld_placed {D : va_G} {A : Nat → Prop} {W : va_W} {H : Heap} {ad : Nat → Nat} {cy : Nat → ClassId} {σ : sS} (hP : va_P D vwCl W H) (hD : va_D A W) (h : ∀ i, i < 89 → ∃ e, W[pi37 i]? = some (ad i, e) ∧ Eqv e (ent ad cy i (σ i))) : va_P D vwCl (wld ad cy σ) H ∧ Dis ad ∧ ∀ i, i < 89 → A (ad i) := by
  refine ⟨fun k q hq => ?_, fun i j hi hj e => ?_, fun i hi => ?_⟩
  · obtain ⟨hk, rfl⟩ := wld_of hq
    obtain ⟨e, h1, h2⟩ := h k hk
    exact h2.at (hP _ _ h1)
  · obtain ⟨e1, h1, -⟩ := h i hi
    obtain ⟨e2, h2, -⟩ := h j hj
    exact pi37_inj i hi j hj (hD.1 _ _ _ _ h1 h2 e)
  · obtain ⟨e1, h1, -⟩ := h i hi
    exact hD.2 _ _ h1
def ad37 (h0 q5 u5 q16 u16 q28 q35 s1 s2 s3 s4 q46 c1 c2 c3 q83a u83a q83b u83b q83c u83c q83d u83d q83e u83e : Nat) (sr cr1 cr3 : Nat → Nat) : Nat → Nat := fun i => if 21 ≤ i ∧ i < 51 then sr (i - 21) else if 53 ≤ i ∧ i < 70 then cr1 (i - 53) else if 72 ≤ i ∧ i < 89 then cr3 (i - 72) else [h0, q5, u5, q16, u16, q28, q83a, q83b, q83c, q83d, q83e, u83a, u83b, u83c, u83d, u83e, q35, s1, s2, s3, s4, 0, 0, 0, 0, 0, 0, 0, 0, 0, 0, 0, 0, 0, 0, 0, 0, 0, 0, 0, 0, 0, 0, 0, 0, 0, 0, 0, 0, 0, 0, q46, c1, 0, 0, 0, 0, 0, 0, 0, 0, 0, 0, 0, 0, 0, 0, 0, 0, 0, c2, c3, 0, 0, 0, 0, 0, 0, 0, 0, 0, 0, 0, 0, 0, 0, 0, 0, 0].getD i 0
abbrev wAll (cy : Nat → ClassId) (h0 q5 u5 q16 u16 q28 q35 s1 s2 s3 s4 q46 c1 c2 c3 q83a u83a q83b u83b q83c u83c q83d u83d q83e u83e : Nat) (sr cr1 cr3 : Nat → Nat) : va_W := wX4 cy h0 q5 u5 q16 u16 q28 q35 s1 s2 s3 s4 q46 c1 c2 c3 q83a u83a q83b u83b q83c u83c q83d u83d q83e u83e sr cr1 cr3
def AllB (P : Nat → Prop) : Nat → Prop | 0 => True | n + 1 => AllB P n ∧ P n
theorem AllB.at {P : Nat → Prop} : ∀ {n : Nat}, AllB P n → ∀ i, i < n → P i
  | n + 1, h, i, hi => by
    by_cases e : i = n
    · exact e ▸ h.2
    · exact AllB.at h.1 i (by omega)
section W37
variable (cy : Nat → ClassId) (h0 q5 u5 q16 u16 q28 q35 s1 s2 s3 s4 q46 c1 c2 c3 q83a u83a q83b u83b q83c u83c q83d u83d q83e u83e : Nat) (sr cr1 cr3 : Nat → Nat)
abbrev wLit : va_W := [(h0, .inr (4, [.ref q5, .ref q16, .ref q28, .ref q35, .ref q46, .int 0, .int 3, .int 4])), (q5, .inr (2, [.ref u5, .int 0])), (u5, .inl (cy 0, 16, .inl (fun _ => 0))), (q16, .inr (3, [.ref u16, .int 0])), (u16, .inl (cy 0, 36, .inl (fun _ => 0))), (q28, .inl (cy 1, 5, .inr (.inr (.inr (.inr (va_up (va_up (va_up (va_up (va_up sgF ((0 : Int32)).toNatClampNeg (some q83a)) ((1 : Int32)).toNatClampNeg (some q83b)) ((2 : Int32)).toNatClampNeg (some q83c)) ((3 : Int32)).toNatClampNeg (some q83d)) ((4 : Int32)).toNatClampNeg (some q83e))))))), (q35, .inr (1, [.ref s1, .ref s2, .ref s3, .ref s4, .int 0])), (s1, .inl (cy 0, 30, .inl (fun k => if k < 30 then -1 else 0))), (s2, .inl (cy 0, 30, .inl (fun _ => 0))), (s3, .inl (cy 0, 30, .inl (fun _ => 0))), (s4, .inl (cy 2, 30, .inr (.inr (.inr (.inr (fun i => if i < 30 then some (sr i) else none)))))), (sr 0, .inl (cy 0, 17, .inl (fun _ => 0))), (sr 1, .inl (cy 0, 17, .inl (fun _ => 0))), (sr 2, .inl (cy 0, 17, .inl (fun _ => 0))), (sr 3, .inl (cy 0, 17, .inl (fun _ => 0))), (sr 4, .inl (cy 0, 17, .inl (fun _ => 0))), (sr 5, .inl (cy 0, 17, .inl (fun _ => 0))), (sr 6, .inl (cy 0, 17, .inl (fun _ => 0))), (sr 7, .inl (cy 0, 17, .inl (fun _ => 0))), (sr 8, .inl (cy 0, 17, .inl (fun _ => 0))), (sr 9, .inl (cy 0, 17, .inl (fun _ => 0))), (sr 10, .inl (cy 0, 17, .inl (fun _ => 0))), (sr 11, .inl (cy 0, 17, .inl (fun _ => 0))), (sr 12, .inl (cy 0, 17, .inl (fun _ => 0))), (sr 13, .inl (cy 0, 17, .inl (fun _ => 0))), (sr 14, .inl (cy 0, 17, .inl (fun _ => 0))), (sr 15, .inl (cy 0, 17, .inl (fun _ => 0))), (sr 16, .inl (cy 0, 17, .inl (fun _ => 0))), (sr 17, .inl (cy 0, 17, .inl (fun _ => 0))), (sr 18, .inl (cy 0, 17, .inl (fun _ => 0))), (sr 19, .inl (cy 0, 17, .inl (fun _ => 0))), (sr 20, .inl (cy 0, 17, .inl (fun _ => 0))), (sr 21, .inl (cy 0, 17, .inl (fun _ => 0))), (sr 22, .inl (cy 0, 17, .inl (fun _ => 0))), (sr 23, .inl (cy 0, 17, .inl (fun _ => 0))), (sr 24, .inl (cy 0, 17, .inl (fun _ => 0))), (sr 25, .inl (cy 0, 17, .inl (fun _ => 0))), (sr 26, .inl (cy 0, 17, .inl (fun _ => 0))), (sr 27, .inl (cy 0, 17, .inl (fun _ => 0))), (sr 28, .inl (cy 0, 17, .inl (fun _ => 0))), (sr 29, .inl (cy 0, 17, .inl (fun _ => 0))), (q46, .inr (0, [.ref c1, .ref c2, .ref c3, .int 0, .int 0, .int 0])), (c1, .inl (cy 2, 17, .inr (.inr (.inr (.inr (fun i => if i < 17 then some (cr1 i) else none)))))), (cr1 0, .inl (cy 0, 5, .inl (fun _ => 0))), (cr1 1, .inl (cy 0, 5, .inl (fun _ => 0))), (cr1 2, .inl (cy 0, 5, .inl (fun _ => 0))), (cr1 3, .inl (cy 0, 5, .inl (fun _ => 0))), (cr1 4, .inl (cy 0, 5, .inl (fun _ => 0))), (cr1 5, .inl (cy 0, 5, .inl (fun _ => 0))), (cr1 6, .inl (cy 0, 5, .inl (fun _ => 0))), (cr1 7, .inl (cy 0, 5, .inl (fun _ => 0))), (cr1 8, .inl (cy 0, 5, .inl (fun _ => 0))), (cr1 9, .inl (cy 0, 5, .inl (fun _ => 0))), (cr1 10, .inl (cy 0, 5, .inl (fun _ => 0))), (cr1 11, .inl (cy 0, 5, .inl (fun _ => 0))), (cr1 12, .inl (cy 0, 5, .inl (fun _ => 0))), (cr1 13, .inl (cy 0, 5, .inl (fun _ => 0))), (cr1 14, .inl (cy 0, 5, .inl (fun _ => 0))), (cr1 15, .inl (cy 0, 5, .inl (fun _ => 0))), (cr1 16, .inl (cy 0, 5, .inl (fun _ => 0))), (c2, .inl (cy 0, 17, .inl (fun _ => 0))), (c3, .inl (cy 2, 17, .inr (.inr (.inr (.inr (fun i => if i < 17 then some (cr3 i) else none)))))), (cr3 0, .inl (cy 0, 5, .inl (fun _ => 0))), (cr3 1, .inl (cy 0, 5, .inl (fun _ => 0))), (cr3 2, .inl (cy 0, 5, .inl (fun _ => 0))), (cr3 3, .inl (cy 0, 5, .inl (fun _ => 0))), (cr3 4, .inl (cy 0, 5, .inl (fun _ => 0))), (cr3 5, .inl (cy 0, 5, .inl (fun _ => 0))), (cr3 6, .inl (cy 0, 5, .inl (fun _ => 0))), (cr3 7, .inl (cy 0, 5, .inl (fun _ => 0))), (cr3 8, .inl (cy 0, 5, .inl (fun _ => 0))), (cr3 9, .inl (cy 0, 5, .inl (fun _ => 0))), (cr3 10, .inl (cy 0, 5, .inl (fun _ => 0))), (cr3 11, .inl (cy 0, 5, .inl (fun _ => 0))), (cr3 12, .inl (cy 0, 5, .inl (fun _ => 0))), (cr3 13, .inl (cy 0, 5, .inl (fun _ => 0))), (cr3 14, .inl (cy 0, 5, .inl (fun _ => 0))), (cr3 15, .inl (cy 0, 5, .inl (fun _ => 0))), (cr3 16, .inl (cy 0, 5, .inl (fun _ => 0))), (q83a, .inr (3, [.ref u83a, .int 0])), (u83a, .inl (cy 0, 36, .inl (fun _ => 0))), (q83b, .inr (3, [.ref u83b, .int 0])), (u83b, .inl (cy 0, 36, .inl (fun _ => 0))), (q83c, .inr (3, [.ref u83c, .int 0])), (u83c, .inl (cy 0, 36, .inl (fun _ => 0))), (q83d, .inr (3, [.ref u83d, .int 0])), (u83d, .inl (cy 0, 36, .inl (fun _ => 0))), (q83e, .inr (3, [.ref u83e, .int 0])), (u83e, .inl (cy 0, 36, .inl (fun _ => 0)))]
set_option maxRecDepth 100000 in
set_option maxHeartbeats 4000000 in
theorem wAll_lit : wAll cy h0 q5 u5 q16 u16 q28 q35 s1 s2 s3 s4 q46 c1 c2 c3 q83a u83a q83b u83b q83c u83c q83d u83d q83e u83e sr cr1 cr3 = wLit cy h0 q5 u5 q16 u16 q28 q35 s1 s2 s3 s4 q46 c1 c2 c3 q83a u83a q83b u83b q83c u83c q83d u83d q83e u83e sr cr1 cr3 := rfl
def P37 (i : Nat) : Prop := ∃ e, (wLit cy h0 q5 u5 q16 u16 q28 q35 s1 s2 s3 s4 q46 c1 c2 c3 q83a u83a q83b u83b q83c u83c q83d u83d q83e u83e sr cr1 cr3)[pi37 i]? = some ((ad37 h0 q5 u5 q16 u16 q28 q35 s1 s2 s3 s4 q46 c1 c2 c3 q83a u83a q83b u83b q83c u83c q83d u83d q83e u83e sr cr1 cr3) i, e) ∧ Eqv e (ent (ad37 h0 q5 u5 q16 u16 q28 q35 s1 s2 s3 s4 q46 c1 c2 c3 q83a u83a q83b u83b q83c u83c q83d u83d q83e u83e sr cr1 cr3) cy i (s0w i))
set_option maxRecDepth 100000 in
set_option maxHeartbeats 2000000 in
theorem w37_0 : P37 cy h0 q5 u5 q16 u16 q28 q35 s1 s2 s3 s4 q46 c1 c2 c3 q83a u83a q83b u83b q83c u83c q83d u83d q83e u83e sr cr1 cr3 0 := ⟨_, rfl, Or.inl rfl⟩
set_option maxRecDepth 100000 in
set_option maxHeartbeats 2000000 in
theorem w37_1 : P37 cy h0 q5 u5 q16 u16 q28 q35 s1 s2 s3 s4 q46 c1 c2 c3 q83a u83a q83b u83b q83c u83c q83d u83d q83e u83e sr cr1 cr3 1 := ⟨_, rfl, Or.inl rfl⟩
set_option maxRecDepth 100000 in
set_option maxHeartbeats 2000000 in
theorem w37_2 : P37 cy h0 q5 u5 q16 u16 q28 q35 s1 s2 s3 s4 q46 c1 c2 c3 q83a u83a q83b u83b q83c u83c q83d u83d q83e u83e sr cr1 cr3 2 := ⟨_, rfl, Or.inl rfl⟩
set_option maxRecDepth 100000 in
set_option maxHeartbeats 2000000 in
theorem w37_3 : P37 cy h0 q5 u5 q16 u16 q28 q35 s1 s2 s3 s4 q46 c1 c2 c3 q83a u83a q83b u83b q83c u83c q83d u83d q83e u83e sr cr1 cr3 3 := ⟨_, rfl, Or.inl rfl⟩
set_option maxRecDepth 100000 in
set_option maxHeartbeats 2000000 in
theorem w37_4 : P37 cy h0 q5 u5 q16 u16 q28 q35 s1 s2 s3 s4 q46 c1 c2 c3 q83a u83a q83b u83b q83c u83c q83d u83d q83e u83e sr cr1 cr3 4 := ⟨_, rfl, Or.inl rfl⟩
set_option maxRecDepth 100000 in
set_option maxHeartbeats 2000000 in
theorem w37_5 : P37 cy h0 q5 u5 q16 u16 q28 q35 s1 s2 s3 s4 q46 c1 c2 c3 q83a u83a q83b u83b q83c u83c q83d u83d q83e u83e sr cr1 cr3 5 := ⟨_, rfl, Or.inr ⟨cy 1, 5, _, _, rfl, rfl, fun k hk => by match k, hk with | 0, _ => rfl | 1, _ => rfl | 2, _ => rfl | 3, _ => rfl | 4, _ => rfl⟩⟩
set_option maxRecDepth 100000 in
set_option maxHeartbeats 2000000 in
theorem w37_6 : P37 cy h0 q5 u5 q16 u16 q28 q35 s1 s2 s3 s4 q46 c1 c2 c3 q83a u83a q83b u83b q83c u83c q83d u83d q83e u83e sr cr1 cr3 6 := ⟨_, rfl, Or.inl rfl⟩
set_option maxRecDepth 100000 in
set_option maxHeartbeats 2000000 in
theorem w37_7 : P37 cy h0 q5 u5 q16 u16 q28 q35 s1 s2 s3 s4 q46 c1 c2 c3 q83a u83a q83b u83b q83c u83c q83d u83d q83e u83e sr cr1 cr3 7 := ⟨_, rfl, Or.inl rfl⟩
set_option maxRecDepth 100000 in
set_option maxHeartbeats 2000000 in
theorem w37_8 : P37 cy h0 q5 u5 q16 u16 q28 q35 s1 s2 s3 s4 q46 c1 c2 c3 q83a u83a q83b u83b q83c u83c q83d u83d q83e u83e sr cr1 cr3 8 := ⟨_, rfl, Or.inl rfl⟩
set_option maxRecDepth 100000 in
set_option maxHeartbeats 2000000 in
theorem w37_9 : P37 cy h0 q5 u5 q16 u16 q28 q35 s1 s2 s3 s4 q46 c1 c2 c3 q83a u83a q83b u83b q83c u83c q83d u83d q83e u83e sr cr1 cr3 9 := ⟨_, rfl, Or.inl rfl⟩
set_option maxRecDepth 100000 in
set_option maxHeartbeats 2000000 in
theorem w37_10 : P37 cy h0 q5 u5 q16 u16 q28 q35 s1 s2 s3 s4 q46 c1 c2 c3 q83a u83a q83b u83b q83c u83c q83d u83d q83e u83e sr cr1 cr3 10 := ⟨_, rfl, Or.inl rfl⟩
set_option maxRecDepth 100000 in
set_option maxHeartbeats 2000000 in
theorem w37_11 : P37 cy h0 q5 u5 q16 u16 q28 q35 s1 s2 s3 s4 q46 c1 c2 c3 q83a u83a q83b u83b q83c u83c q83d u83d q83e u83e sr cr1 cr3 11 := ⟨_, rfl, Or.inl rfl⟩
set_option maxRecDepth 100000 in
set_option maxHeartbeats 2000000 in
theorem w37_12 : P37 cy h0 q5 u5 q16 u16 q28 q35 s1 s2 s3 s4 q46 c1 c2 c3 q83a u83a q83b u83b q83c u83c q83d u83d q83e u83e sr cr1 cr3 12 := ⟨_, rfl, Or.inl rfl⟩
set_option maxRecDepth 100000 in
set_option maxHeartbeats 2000000 in
theorem w37_13 : P37 cy h0 q5 u5 q16 u16 q28 q35 s1 s2 s3 s4 q46 c1 c2 c3 q83a u83a q83b u83b q83c u83c q83d u83d q83e u83e sr cr1 cr3 13 := ⟨_, rfl, Or.inl rfl⟩
set_option maxRecDepth 100000 in
set_option maxHeartbeats 2000000 in
theorem w37_14 : P37 cy h0 q5 u5 q16 u16 q28 q35 s1 s2 s3 s4 q46 c1 c2 c3 q83a u83a q83b u83b q83c u83c q83d u83d q83e u83e sr cr1 cr3 14 := ⟨_, rfl, Or.inl rfl⟩
set_option maxRecDepth 100000 in
set_option maxHeartbeats 2000000 in
theorem w37_15 : P37 cy h0 q5 u5 q16 u16 q28 q35 s1 s2 s3 s4 q46 c1 c2 c3 q83a u83a q83b u83b q83c u83c q83d u83d q83e u83e sr cr1 cr3 15 := ⟨_, rfl, Or.inl rfl⟩
set_option maxRecDepth 100000 in
set_option maxHeartbeats 2000000 in
theorem w37_16 : P37 cy h0 q5 u5 q16 u16 q28 q35 s1 s2 s3 s4 q46 c1 c2 c3 q83a u83a q83b u83b q83c u83c q83d u83d q83e u83e sr cr1 cr3 16 := ⟨_, rfl, Or.inl rfl⟩
set_option maxRecDepth 100000 in
set_option maxHeartbeats 2000000 in
theorem w37_17 : P37 cy h0 q5 u5 q16 u16 q28 q35 s1 s2 s3 s4 q46 c1 c2 c3 q83a u83a q83b u83b q83c u83c q83d u83d q83e u83e sr cr1 cr3 17 := ⟨_, rfl, Or.inl rfl⟩
set_option maxRecDepth 100000 in
set_option maxHeartbeats 2000000 in
theorem w37_18 : P37 cy h0 q5 u5 q16 u16 q28 q35 s1 s2 s3 s4 q46 c1 c2 c3 q83a u83a q83b u83b q83c u83c q83d u83d q83e u83e sr cr1 cr3 18 := ⟨_, rfl, Or.inl rfl⟩
set_option maxRecDepth 100000 in
set_option maxHeartbeats 2000000 in
theorem w37_19 : P37 cy h0 q5 u5 q16 u16 q28 q35 s1 s2 s3 s4 q46 c1 c2 c3 q83a u83a q83b u83b q83c u83c q83d u83d q83e u83e sr cr1 cr3 19 := ⟨_, rfl, Or.inl rfl⟩
set_option maxRecDepth 100000 in
set_option maxHeartbeats 2000000 in
theorem w37_20 : P37 cy h0 q5 u5 q16 u16 q28 q35 s1 s2 s3 s4 q46 c1 c2 c3 q83a u83a q83b u83b q83c u83c q83d u83d q83e u83e sr cr1 cr3 20 := ⟨_, rfl, Or.inr ⟨cy 2, 30, _, _, rfl, rfl, fun k hk => by rw [if_pos hk]; refine congrArg some ?_; unfold ad37; rw [if_pos (by omega), Nat.add_sub_cancel_left]⟩⟩
set_option maxRecDepth 100000 in
set_option maxHeartbeats 2000000 in
theorem w37_21 : P37 cy h0 q5 u5 q16 u16 q28 q35 s1 s2 s3 s4 q46 c1 c2 c3 q83a u83a q83b u83b q83c u83c q83d u83d q83e u83e sr cr1 cr3 21 := ⟨_, rfl, Or.inl rfl⟩
set_option maxRecDepth 100000 in
set_option maxHeartbeats 2000000 in
theorem w37_22 : P37 cy h0 q5 u5 q16 u16 q28 q35 s1 s2 s3 s4 q46 c1 c2 c3 q83a u83a q83b u83b q83c u83c q83d u83d q83e u83e sr cr1 cr3 22 := ⟨_, rfl, Or.inl rfl⟩
set_option maxRecDepth 100000 in
set_option maxHeartbeats 2000000 in
theorem w37_23 : P37 cy h0 q5 u5 q16 u16 q28 q35 s1 s2 s3 s4 q46 c1 c2 c3 q83a u83a q83b u83b q83c u83c q83d u83d q83e u83e sr cr1 cr3 23 := ⟨_, rfl, Or.inl rfl⟩
set_option maxRecDepth 100000 in
set_option maxHeartbeats 2000000 in
theorem w37_24 : P37 cy h0 q5 u5 q16 u16 q28 q35 s1 s2 s3 s4 q46 c1 c2 c3 q83a u83a q83b u83b q83c u83c q83d u83d q83e u83e sr cr1 cr3 24 := ⟨_, rfl, Or.inl rfl⟩
set_option maxRecDepth 100000 in
set_option maxHeartbeats 2000000 in
theorem w37_25 : P37 cy h0 q5 u5 q16 u16 q28 q35 s1 s2 s3 s4 q46 c1 c2 c3 q83a u83a q83b u83b q83c u83c q83d u83d q83e u83e sr cr1 cr3 25 := ⟨_, rfl, Or.inl rfl⟩
set_option maxRecDepth 100000 in
set_option maxHeartbeats 2000000 in
theorem w37_26 : P37 cy h0 q5 u5 q16 u16 q28 q35 s1 s2 s3 s4 q46 c1 c2 c3 q83a u83a q83b u83b q83c u83c q83d u83d q83e u83e sr cr1 cr3 26 := ⟨_, rfl, Or.inl rfl⟩
set_option maxRecDepth 100000 in
set_option maxHeartbeats 2000000 in
theorem w37_27 : P37 cy h0 q5 u5 q16 u16 q28 q35 s1 s2 s3 s4 q46 c1 c2 c3 q83a u83a q83b u83b q83c u83c q83d u83d q83e u83e sr cr1 cr3 27 := ⟨_, rfl, Or.inl rfl⟩
set_option maxRecDepth 100000 in
set_option maxHeartbeats 2000000 in
theorem w37_28 : P37 cy h0 q5 u5 q16 u16 q28 q35 s1 s2 s3 s4 q46 c1 c2 c3 q83a u83a q83b u83b q83c u83c q83d u83d q83e u83e sr cr1 cr3 28 := ⟨_, rfl, Or.inl rfl⟩
set_option maxRecDepth 100000 in
set_option maxHeartbeats 2000000 in
theorem w37_29 : P37 cy h0 q5 u5 q16 u16 q28 q35 s1 s2 s3 s4 q46 c1 c2 c3 q83a u83a q83b u83b q83c u83c q83d u83d q83e u83e sr cr1 cr3 29 := ⟨_, rfl, Or.inl rfl⟩
set_option maxRecDepth 100000 in
set_option maxHeartbeats 2000000 in
theorem w37_30 : P37 cy h0 q5 u5 q16 u16 q28 q35 s1 s2 s3 s4 q46 c1 c2 c3 q83a u83a q83b u83b q83c u83c q83d u83d q83e u83e sr cr1 cr3 30 := ⟨_, rfl, Or.inl rfl⟩
set_option maxRecDepth 100000 in
set_option maxHeartbeats 2000000 in
theorem w37_31 : P37 cy h0 q5 u5 q16 u16 q28 q35 s1 s2 s3 s4 q46 c1 c2 c3 q83a u83a q83b u83b q83c u83c q83d u83d q83e u83e sr cr1 cr3 31 := ⟨_, rfl, Or.inl rfl⟩
set_option maxRecDepth 100000 in
set_option maxHeartbeats 2000000 in
theorem w37_32 : P37 cy h0 q5 u5 q16 u16 q28 q35 s1 s2 s3 s4 q46 c1 c2 c3 q83a u83a q83b u83b q83c u83c q83d u83d q83e u83e sr cr1 cr3 32 := ⟨_, rfl, Or.inl rfl⟩
set_option maxRecDepth 100000 in
set_option maxHeartbeats 2000000 in
theorem w37_33 : P37 cy h0 q5 u5 q16 u16 q28 q35 s1 s2 s3 s4 q46 c1 c2 c3 q83a u83a q83b u83b q83c u83c q83d u83d q83e u83e sr cr1 cr3 33 := ⟨_, rfl, Or.inl rfl⟩
set_option maxRecDepth 100000 in
set_option maxHeartbeats 2000000 in
theorem w37_34 : P37 cy h0 q5 u5 q16 u16 q28 q35 s1 s2 s3 s4 q46 c1 c2 c3 q83a u83a q83b u83b q83c u83c q83d u83d q83e u83e sr cr1 cr3 34 := ⟨_, rfl, Or.inl rfl⟩
set_option maxRecDepth 100000 in
set_option maxHeartbeats 2000000 in
theorem w37_35 : P37 cy h0 q5 u5 q16 u16 q28 q35 s1 s2 s3 s4 q46 c1 c2 c3 q83a u83a q83b u83b q83c u83c q83d u83d q83e u83e sr cr1 cr3 35 := ⟨_, rfl, Or.inl rfl⟩
set_option maxRecDepth 100000 in
set_option maxHeartbeats 2000000 in
theorem w37_36 : P37 cy h0 q5 u5 q16 u16 q28 q35 s1 s2 s3 s4 q46 c1 c2 c3 q83a u83a q83b u83b q83c u83c q83d u83d q83e u83e sr cr1 cr3 36 := ⟨_, rfl, Or.inl rfl⟩
set_option maxRecDepth 100000 in
set_option maxHeartbeats 2000000 in
theorem w37_37 : P37 cy h0 q5 u5 q16 u16 q28 q35 s1 s2 s3 s4 q46 c1 c2 c3 q83a u83a q83b u83b q83c u83c q83d u83d q83e u83e sr cr1 cr3 37 := ⟨_, rfl, Or.inl rfl⟩
set_option maxRecDepth 100000 in
set_option maxHeartbeats 2000000 in
theorem w37_38 : P37 cy h0 q5 u5 q16 u16 q28 q35 s1 s2 s3 s4 q46 c1 c2 c3 q83a u83a q83b u83b q83c u83c q83d u83d q83e u83e sr cr1 cr3 38 := ⟨_, rfl, Or.inl rfl⟩
set_option maxRecDepth 100000 in
set_option maxHeartbeats 2000000 in
theorem w37_39 : P37 cy h0 q5 u5 q16 u16 q28 q35 s1 s2 s3 s4 q46 c1 c2 c3 q83a u83a q83b u83b q83c u83c q83d u83d q83e u83e sr cr1 cr3 39 := ⟨_, rfl, Or.inl rfl⟩
set_option maxRecDepth 100000 in
set_option maxHeartbeats 2000000 in
theorem w37_40 : P37 cy h0 q5 u5 q16 u16 q28 q35 s1 s2 s3 s4 q46 c1 c2 c3 q83a u83a q83b u83b q83c u83c q83d u83d q83e u83e sr cr1 cr3 40 := ⟨_, rfl, Or.inl rfl⟩
set_option maxRecDepth 100000 in
set_option maxHeartbeats 2000000 in
theorem w37_41 : P37 cy h0 q5 u5 q16 u16 q28 q35 s1 s2 s3 s4 q46 c1 c2 c3 q83a u83a q83b u83b q83c u83c q83d u83d q83e u83e sr cr1 cr3 41 := ⟨_, rfl, Or.inl rfl⟩
set_option maxRecDepth 100000 in
set_option maxHeartbeats 2000000 in
theorem w37_42 : P37 cy h0 q5 u5 q16 u16 q28 q35 s1 s2 s3 s4 q46 c1 c2 c3 q83a u83a q83b u83b q83c u83c q83d u83d q83e u83e sr cr1 cr3 42 := ⟨_, rfl, Or.inl rfl⟩
set_option maxRecDepth 100000 in
set_option maxHeartbeats 2000000 in
theorem w37_43 : P37 cy h0 q5 u5 q16 u16 q28 q35 s1 s2 s3 s4 q46 c1 c2 c3 q83a u83a q83b u83b q83c u83c q83d u83d q83e u83e sr cr1 cr3 43 := ⟨_, rfl, Or.inl rfl⟩
set_option maxRecDepth 100000 in
set_option maxHeartbeats 2000000 in
theorem w37_44 : P37 cy h0 q5 u5 q16 u16 q28 q35 s1 s2 s3 s4 q46 c1 c2 c3 q83a u83a q83b u83b q83c u83c q83d u83d q83e u83e sr cr1 cr3 44 := ⟨_, rfl, Or.inl rfl⟩
set_option maxRecDepth 100000 in
set_option maxHeartbeats 2000000 in
theorem w37_45 : P37 cy h0 q5 u5 q16 u16 q28 q35 s1 s2 s3 s4 q46 c1 c2 c3 q83a u83a q83b u83b q83c u83c q83d u83d q83e u83e sr cr1 cr3 45 := ⟨_, rfl, Or.inl rfl⟩
set_option maxRecDepth 100000 in
set_option maxHeartbeats 2000000 in
theorem w37_46 : P37 cy h0 q5 u5 q16 u16 q28 q35 s1 s2 s3 s4 q46 c1 c2 c3 q83a u83a q83b u83b q83c u83c q83d u83d q83e u83e sr cr1 cr3 46 := ⟨_, rfl, Or.inl rfl⟩
set_option maxRecDepth 100000 in
set_option maxHeartbeats 2000000 in
theorem w37_47 : P37 cy h0 q5 u5 q16 u16 q28 q35 s1 s2 s3 s4 q46 c1 c2 c3 q83a u83a q83b u83b q83c u83c q83d u83d q83e u83e sr cr1 cr3 47 := ⟨_, rfl, Or.inl rfl⟩
set_option maxRecDepth 100000 in
set_option maxHeartbeats 2000000 in
theorem w37_48 : P37 cy h0 q5 u5 q16 u16 q28 q35 s1 s2 s3 s4 q46 c1 c2 c3 q83a u83a q83b u83b q83c u83c q83d u83d q83e u83e sr cr1 cr3 48 := ⟨_, rfl, Or.inl rfl⟩
set_option maxRecDepth 100000 in
set_option maxHeartbeats 2000000 in
theorem w37_49 : P37 cy h0 q5 u5 q16 u16 q28 q35 s1 s2 s3 s4 q46 c1 c2 c3 q83a u83a q83b u83b q83c u83c q83d u83d q83e u83e sr cr1 cr3 49 := ⟨_, rfl, Or.inl rfl⟩
set_option maxRecDepth 100000 in
set_option maxHeartbeats 2000000 in
theorem w37_50 : P37 cy h0 q5 u5 q16 u16 q28 q35 s1 s2 s3 s4 q46 c1 c2 c3 q83a u83a q83b u83b q83c u83c q83d u83d q83e u83e sr cr1 cr3 50 := ⟨_, rfl, Or.inl rfl⟩
set_option maxRecDepth 100000 in
set_option maxHeartbeats 2000000 in
theorem w37_51 : P37 cy h0 q5 u5 q16 u16 q28 q35 s1 s2 s3 s4 q46 c1 c2 c3 q83a u83a q83b u83b q83c u83c q83d u83d q83e u83e sr cr1 cr3 51 := ⟨_, rfl, Or.inl rfl⟩
set_option maxRecDepth 100000 in
set_option maxHeartbeats 2000000 in
theorem w37_52 : P37 cy h0 q5 u5 q16 u16 q28 q35 s1 s2 s3 s4 q46 c1 c2 c3 q83a u83a q83b u83b q83c u83c q83d u83d q83e u83e sr cr1 cr3 52 := ⟨_, rfl, Or.inr ⟨cy 2, 17, _, _, rfl, rfl, fun k hk => by rw [if_pos hk]; refine congrArg some ?_; unfold ad37; rw [if_neg (by omega), if_pos (by omega), Nat.add_sub_cancel_left]⟩⟩
set_option maxRecDepth 100000 in
set_option maxHeartbeats 2000000 in
theorem w37_53 : P37 cy h0 q5 u5 q16 u16 q28 q35 s1 s2 s3 s4 q46 c1 c2 c3 q83a u83a q83b u83b q83c u83c q83d u83d q83e u83e sr cr1 cr3 53 := ⟨_, rfl, Or.inl rfl⟩
set_option maxRecDepth 100000 in
set_option maxHeartbeats 2000000 in
theorem w37_54 : P37 cy h0 q5 u5 q16 u16 q28 q35 s1 s2 s3 s4 q46 c1 c2 c3 q83a u83a q83b u83b q83c u83c q83d u83d q83e u83e sr cr1 cr3 54 := ⟨_, rfl, Or.inl rfl⟩
set_option maxRecDepth 100000 in
set_option maxHeartbeats 2000000 in
theorem w37_55 : P37 cy h0 q5 u5 q16 u16 q28 q35 s1 s2 s3 s4 q46 c1 c2 c3 q83a u83a q83b u83b q83c u83c q83d u83d q83e u83e sr cr1 cr3 55 := ⟨_, rfl, Or.inl rfl⟩
set_option maxRecDepth 100000 in
set_option maxHeartbeats 2000000 in
theorem w37_56 : P37 cy h0 q5 u5 q16 u16 q28 q35 s1 s2 s3 s4 q46 c1 c2 c3 q83a u83a q83b u83b q83c u83c q83d u83d q83e u83e sr cr1 cr3 56 := ⟨_, rfl, Or.inl rfl⟩
set_option maxRecDepth 100000 in
set_option maxHeartbeats 2000000 in
theorem w37_57 : P37 cy h0 q5 u5 q16 u16 q28 q35 s1 s2 s3 s4 q46 c1 c2 c3 q83a u83a q83b u83b q83c u83c q83d u83d q83e u83e sr cr1 cr3 57 := ⟨_, rfl, Or.inl rfl⟩
set_option maxRecDepth 100000 in
set_option maxHeartbeats 2000000 in
theorem w37_58 : P37 cy h0 q5 u5 q16 u16 q28 q35 s1 s2 s3 s4 q46 c1 c2 c3 q83a u83a q83b u83b q83c u83c q83d u83d q83e u83e sr cr1 cr3 58 := ⟨_, rfl, Or.inl rfl⟩
set_option maxRecDepth 100000 in
set_option maxHeartbeats 2000000 in
theorem w37_59 : P37 cy h0 q5 u5 q16 u16 q28 q35 s1 s2 s3 s4 q46 c1 c2 c3 q83a u83a q83b u83b q83c u83c q83d u83d q83e u83e sr cr1 cr3 59 := ⟨_, rfl, Or.inl rfl⟩
set_option maxRecDepth 100000 in
set_option maxHeartbeats 2000000 in
theorem w37_60 : P37 cy h0 q5 u5 q16 u16 q28 q35 s1 s2 s3 s4 q46 c1 c2 c3 q83a u83a q83b u83b q83c u83c q83d u83d q83e u83e sr cr1 cr3 60 := ⟨_, rfl, Or.inl rfl⟩
set_option maxRecDepth 100000 in
set_option maxHeartbeats 2000000 in
theorem w37_61 : P37 cy h0 q5 u5 q16 u16 q28 q35 s1 s2 s3 s4 q46 c1 c2 c3 q83a u83a q83b u83b q83c u83c q83d u83d q83e u83e sr cr1 cr3 61 := ⟨_, rfl, Or.inl rfl⟩
set_option maxRecDepth 100000 in
set_option maxHeartbeats 2000000 in
theorem w37_62 : P37 cy h0 q5 u5 q16 u16 q28 q35 s1 s2 s3 s4 q46 c1 c2 c3 q83a u83a q83b u83b q83c u83c q83d u83d q83e u83e sr cr1 cr3 62 := ⟨_, rfl, Or.inl rfl⟩
set_option maxRecDepth 100000 in
set_option maxHeartbeats 2000000 in
theorem w37_63 : P37 cy h0 q5 u5 q16 u16 q28 q35 s1 s2 s3 s4 q46 c1 c2 c3 q83a u83a q83b u83b q83c u83c q83d u83d q83e u83e sr cr1 cr3 63 := ⟨_, rfl, Or.inl rfl⟩
set_option maxRecDepth 100000 in
set_option maxHeartbeats 2000000 in
theorem w37_64 : P37 cy h0 q5 u5 q16 u16 q28 q35 s1 s2 s3 s4 q46 c1 c2 c3 q83a u83a q83b u83b q83c u83c q83d u83d q83e u83e sr cr1 cr3 64 := ⟨_, rfl, Or.inl rfl⟩
set_option maxRecDepth 100000 in
set_option maxHeartbeats 2000000 in
theorem w37_65 : P37 cy h0 q5 u5 q16 u16 q28 q35 s1 s2 s3 s4 q46 c1 c2 c3 q83a u83a q83b u83b q83c u83c q83d u83d q83e u83e sr cr1 cr3 65 := ⟨_, rfl, Or.inl rfl⟩
set_option maxRecDepth 100000 in
set_option maxHeartbeats 2000000 in
theorem w37_66 : P37 cy h0 q5 u5 q16 u16 q28 q35 s1 s2 s3 s4 q46 c1 c2 c3 q83a u83a q83b u83b q83c u83c q83d u83d q83e u83e sr cr1 cr3 66 := ⟨_, rfl, Or.inl rfl⟩
set_option maxRecDepth 100000 in
set_option maxHeartbeats 2000000 in
theorem w37_67 : P37 cy h0 q5 u5 q16 u16 q28 q35 s1 s2 s3 s4 q46 c1 c2 c3 q83a u83a q83b u83b q83c u83c q83d u83d q83e u83e sr cr1 cr3 67 := ⟨_, rfl, Or.inl rfl⟩
set_option maxRecDepth 100000 in
set_option maxHeartbeats 2000000 in
theorem w37_68 : P37 cy h0 q5 u5 q16 u16 q28 q35 s1 s2 s3 s4 q46 c1 c2 c3 q83a u83a q83b u83b q83c u83c q83d u83d q83e u83e sr cr1 cr3 68 := ⟨_, rfl, Or.inl rfl⟩
set_option maxRecDepth 100000 in
set_option maxHeartbeats 2000000 in
theorem w37_69 : P37 cy h0 q5 u5 q16 u16 q28 q35 s1 s2 s3 s4 q46 c1 c2 c3 q83a u83a q83b u83b q83c u83c q83d u83d q83e u83e sr cr1 cr3 69 := ⟨_, rfl, Or.inl rfl⟩
set_option maxRecDepth 100000 in
set_option maxHeartbeats 2000000 in
theorem w37_70 : P37 cy h0 q5 u5 q16 u16 q28 q35 s1 s2 s3 s4 q46 c1 c2 c3 q83a u83a q83b u83b q83c u83c q83d u83d q83e u83e sr cr1 cr3 70 := ⟨_, rfl, Or.inl rfl⟩
set_option maxRecDepth 100000 in
set_option maxHeartbeats 2000000 in
theorem w37_71 : P37 cy h0 q5 u5 q16 u16 q28 q35 s1 s2 s3 s4 q46 c1 c2 c3 q83a u83a q83b u83b q83c u83c q83d u83d q83e u83e sr cr1 cr3 71 := ⟨_, rfl, Or.inr ⟨cy 2, 17, _, _, rfl, rfl, fun k hk => by rw [if_pos hk]; refine congrArg some ?_; unfold ad37; rw [if_neg (by omega), if_neg (by omega), if_pos (by omega), Nat.add_sub_cancel_left]⟩⟩
set_option maxRecDepth 100000 in
set_option maxHeartbeats 2000000 in
theorem w37_72 : P37 cy h0 q5 u5 q16 u16 q28 q35 s1 s2 s3 s4 q46 c1 c2 c3 q83a u83a q83b u83b q83c u83c q83d u83d q83e u83e sr cr1 cr3 72 := ⟨_, rfl, Or.inl rfl⟩
set_option maxRecDepth 100000 in
set_option maxHeartbeats 2000000 in
theorem w37_73 : P37 cy h0 q5 u5 q16 u16 q28 q35 s1 s2 s3 s4 q46 c1 c2 c3 q83a u83a q83b u83b q83c u83c q83d u83d q83e u83e sr cr1 cr3 73 := ⟨_, rfl, Or.inl rfl⟩
set_option maxRecDepth 100000 in
set_option maxHeartbeats 2000000 in
theorem w37_74 : P37 cy h0 q5 u5 q16 u16 q28 q35 s1 s2 s3 s4 q46 c1 c2 c3 q83a u83a q83b u83b q83c u83c q83d u83d q83e u83e sr cr1 cr3 74 := ⟨_, rfl, Or.inl rfl⟩
set_option maxRecDepth 100000 in
set_option maxHeartbeats 2000000 in
theorem w37_75 : P37 cy h0 q5 u5 q16 u16 q28 q35 s1 s2 s3 s4 q46 c1 c2 c3 q83a u83a q83b u83b q83c u83c q83d u83d q83e u83e sr cr1 cr3 75 := ⟨_, rfl, Or.inl rfl⟩
set_option maxRecDepth 100000 in
set_option maxHeartbeats 2000000 in
theorem w37_76 : P37 cy h0 q5 u5 q16 u16 q28 q35 s1 s2 s3 s4 q46 c1 c2 c3 q83a u83a q83b u83b q83c u83c q83d u83d q83e u83e sr cr1 cr3 76 := ⟨_, rfl, Or.inl rfl⟩
set_option maxRecDepth 100000 in
set_option maxHeartbeats 2000000 in
theorem w37_77 : P37 cy h0 q5 u5 q16 u16 q28 q35 s1 s2 s3 s4 q46 c1 c2 c3 q83a u83a q83b u83b q83c u83c q83d u83d q83e u83e sr cr1 cr3 77 := ⟨_, rfl, Or.inl rfl⟩
set_option maxRecDepth 100000 in
set_option maxHeartbeats 2000000 in
theorem w37_78 : P37 cy h0 q5 u5 q16 u16 q28 q35 s1 s2 s3 s4 q46 c1 c2 c3 q83a u83a q83b u83b q83c u83c q83d u83d q83e u83e sr cr1 cr3 78 := ⟨_, rfl, Or.inl rfl⟩
set_option maxRecDepth 100000 in
set_option maxHeartbeats 2000000 in
theorem w37_79 : P37 cy h0 q5 u5 q16 u16 q28 q35 s1 s2 s3 s4 q46 c1 c2 c3 q83a u83a q83b u83b q83c u83c q83d u83d q83e u83e sr cr1 cr3 79 := ⟨_, rfl, Or.inl rfl⟩
set_option maxRecDepth 100000 in
set_option maxHeartbeats 2000000 in
theorem w37_80 : P37 cy h0 q5 u5 q16 u16 q28 q35 s1 s2 s3 s4 q46 c1 c2 c3 q83a u83a q83b u83b q83c u83c q83d u83d q83e u83e sr cr1 cr3 80 := ⟨_, rfl, Or.inl rfl⟩
set_option maxRecDepth 100000 in
set_option maxHeartbeats 2000000 in
theorem w37_81 : P37 cy h0 q5 u5 q16 u16 q28 q35 s1 s2 s3 s4 q46 c1 c2 c3 q83a u83a q83b u83b q83c u83c q83d u83d q83e u83e sr cr1 cr3 81 := ⟨_, rfl, Or.inl rfl⟩
set_option maxRecDepth 100000 in
set_option maxHeartbeats 2000000 in
theorem w37_82 : P37 cy h0 q5 u5 q16 u16 q28 q35 s1 s2 s3 s4 q46 c1 c2 c3 q83a u83a q83b u83b q83c u83c q83d u83d q83e u83e sr cr1 cr3 82 := ⟨_, rfl, Or.inl rfl⟩
set_option maxRecDepth 100000 in
set_option maxHeartbeats 2000000 in
theorem w37_83 : P37 cy h0 q5 u5 q16 u16 q28 q35 s1 s2 s3 s4 q46 c1 c2 c3 q83a u83a q83b u83b q83c u83c q83d u83d q83e u83e sr cr1 cr3 83 := ⟨_, rfl, Or.inl rfl⟩
set_option maxRecDepth 100000 in
set_option maxHeartbeats 2000000 in
theorem w37_84 : P37 cy h0 q5 u5 q16 u16 q28 q35 s1 s2 s3 s4 q46 c1 c2 c3 q83a u83a q83b u83b q83c u83c q83d u83d q83e u83e sr cr1 cr3 84 := ⟨_, rfl, Or.inl rfl⟩
set_option maxRecDepth 100000 in
set_option maxHeartbeats 2000000 in
theorem w37_85 : P37 cy h0 q5 u5 q16 u16 q28 q35 s1 s2 s3 s4 q46 c1 c2 c3 q83a u83a q83b u83b q83c u83c q83d u83d q83e u83e sr cr1 cr3 85 := ⟨_, rfl, Or.inl rfl⟩
set_option maxRecDepth 100000 in
set_option maxHeartbeats 2000000 in
theorem w37_86 : P37 cy h0 q5 u5 q16 u16 q28 q35 s1 s2 s3 s4 q46 c1 c2 c3 q83a u83a q83b u83b q83c u83c q83d u83d q83e u83e sr cr1 cr3 86 := ⟨_, rfl, Or.inl rfl⟩
set_option maxRecDepth 100000 in
set_option maxHeartbeats 2000000 in
theorem w37_87 : P37 cy h0 q5 u5 q16 u16 q28 q35 s1 s2 s3 s4 q46 c1 c2 c3 q83a u83a q83b u83b q83c u83c q83d u83d q83e u83e sr cr1 cr3 87 := ⟨_, rfl, Or.inl rfl⟩
set_option maxRecDepth 100000 in
set_option maxHeartbeats 2000000 in
theorem w37_88 : P37 cy h0 q5 u5 q16 u16 q28 q35 s1 s2 s3 s4 q46 c1 c2 c3 q83a u83a q83b u83b q83c u83c q83d u83d q83e u83e sr cr1 cr3 88 := ⟨_, rfl, Or.inl rfl⟩
theorem a37_10 : AllB (P37 cy h0 q5 u5 q16 u16 q28 q35 s1 s2 s3 s4 q46 c1 c2 c3 q83a u83a q83b u83b q83c u83c q83d u83d q83e u83e sr cr1 cr3) 10 := ⟨⟨⟨⟨⟨⟨⟨⟨⟨⟨trivial, w37_0 cy h0 q5 u5 q16 u16 q28 q35 s1 s2 s3 s4 q46 c1 c2 c3 q83a u83a q83b u83b q83c u83c q83d u83d q83e u83e sr cr1 cr3⟩, w37_1 cy h0 q5 u5 q16 u16 q28 q35 s1 s2 s3 s4 q46 c1 c2 c3 q83a u83a q83b u83b q83c u83c q83d u83d q83e u83e sr cr1 cr3⟩, w37_2 cy h0 q5 u5 q16 u16 q28 q35 s1 s2 s3 s4 q46 c1 c2 c3 q83a u83a q83b u83b q83c u83c q83d u83d q83e u83e sr cr1 cr3⟩, w37_3 cy h0 q5 u5 q16 u16 q28 q35 s1 s2 s3 s4 q46 c1 c2 c3 q83a u83a q83b u83b q83c u83c q83d u83d q83e u83e sr cr1 cr3⟩, w37_4 cy h0 q5 u5 q16 u16 q28 q35 s1 s2 s3 s4 q46 c1 c2 c3 q83a u83a q83b u83b q83c u83c q83d u83d q83e u83e sr cr1 cr3⟩, w37_5 cy h0 q5 u5 q16 u16 q28 q35 s1 s2 s3 s4 q46 c1 c2 c3 q83a u83a q83b u83b q83c u83c q83d u83d q83e u83e sr cr1 cr3⟩, w37_6 cy h0 q5 u5 q16 u16 q28 q35 s1 s2 s3 s4 q46 c1 c2 c3 q83a u83a q83b u83b q83c u83c q83d u83d q83e u83e sr cr1 cr3⟩, w37_7 cy h0 q5 u5 q16 u16 q28 q35 s1 s2 s3 s4 q46 c1 c2 c3 q83a u83a q83b u83b q83c u83c q83d u83d q83e u83e sr cr1 cr3⟩, w37_8 cy h0 q5 u5 q16 u16 q28 q35 s1 s2 s3 s4 q46 c1 c2 c3 q83a u83a q83b u83b q83c u83c q83d u83d q83e u83e sr cr1 cr3⟩, w37_9 cy h0 q5 u5 q16 u16 q28 q35 s1 s2 s3 s4 q46 c1 c2 c3 q83a u83a q83b u83b q83c u83c q83d u83d q83e u83e sr cr1 cr3⟩
theorem a37_20 : AllB (P37 cy h0 q5 u5 q16 u16 q28 q35 s1 s2 s3 s4 q46 c1 c2 c3 q83a u83a q83b u83b q83c u83c q83d u83d q83e u83e sr cr1 cr3) 20 := ⟨⟨⟨⟨⟨⟨⟨⟨⟨⟨a37_10 cy h0 q5 u5 q16 u16 q28 q35 s1 s2 s3 s4 q46 c1 c2 c3 q83a u83a q83b u83b q83c u83c q83d u83d q83e u83e sr cr1 cr3, w37_10 cy h0 q5 u5 q16 u16 q28 q35 s1 s2 s3 s4 q46 c1 c2 c3 q83a u83a q83b u83b q83c u83c q83d u83d q83e u83e sr cr1 cr3⟩, w37_11 cy h0 q5 u5 q16 u16 q28 q35 s1 s2 s3 s4 q46 c1 c2 c3 q83a u83a q83b u83b q83c u83c q83d u83d q83e u83e sr cr1 cr3⟩, w37_12 cy h0 q5 u5 q16 u16 q28 q35 s1 s2 s3 s4 q46 c1 c2 c3 q83a u83a q83b u83b q83c u83c q83d u83d q83e u83e sr cr1 cr3⟩, w37_13 cy h0 q5 u5 q16 u16 q28 q35 s1 s2 s3 s4 q46 c1 c2 c3 q83a u83a q83b u83b q83c u83c q83d u83d q83e u83e sr cr1 cr3⟩, w37_14 cy h0 q5 u5 q16 u16 q28 q35 s1 s2 s3 s4 q46 c1 c2 c3 q83a u83a q83b u83b q83c u83c q83d u83d q83e u83e sr cr1 cr3⟩, w37_15 cy h0 q5 u5 q16 u16 q28 q35 s1 s2 s3 s4 q46 c1 c2 c3 q83a u83a q83b u83b q83c u83c q83d u83d q83e u83e sr cr1 cr3⟩, w37_16 cy h0 q5 u5 q16 u16 q28 q35 s1 s2 s3 s4 q46 c1 c2 c3 q83a u83a q83b u83b q83c u83c q83d u83d q83e u83e sr cr1 cr3⟩, w37_17 cy h0 q5 u5 q16 u16 q28 q35 s1 s2 s3 s4 q46 c1 c2 c3 q83a u83a q83b u83b q83c u83c q83d u83d q83e u83e sr cr1 cr3⟩, w37_18 cy h0 q5 u5 q16 u16 q28 q35 s1 s2 s3 s4 q46 c1 c2 c3 q83a u83a q83b u83b q83c u83c q83d u83d q83e u83e sr cr1 cr3⟩, w37_19 cy h0 q5 u5 q16 u16 q28 q35 s1 s2 s3 s4 q46 c1 c2 c3 q83a u83a q83b u83b q83c u83c q83d u83d q83e u83e sr cr1 cr3⟩
theorem a37_30 : AllB (P37 cy h0 q5 u5 q16 u16 q28 q35 s1 s2 s3 s4 q46 c1 c2 c3 q83a u83a q83b u83b q83c u83c q83d u83d q83e u83e sr cr1 cr3) 30 := ⟨⟨⟨⟨⟨⟨⟨⟨⟨⟨a37_20 cy h0 q5 u5 q16 u16 q28 q35 s1 s2 s3 s4 q46 c1 c2 c3 q83a u83a q83b u83b q83c u83c q83d u83d q83e u83e sr cr1 cr3, w37_20 cy h0 q5 u5 q16 u16 q28 q35 s1 s2 s3 s4 q46 c1 c2 c3 q83a u83a q83b u83b q83c u83c q83d u83d q83e u83e sr cr1 cr3⟩, w37_21 cy h0 q5 u5 q16 u16 q28 q35 s1 s2 s3 s4 q46 c1 c2 c3 q83a u83a q83b u83b q83c u83c q83d u83d q83e u83e sr cr1 cr3⟩, w37_22 cy h0 q5 u5 q16 u16 q28 q35 s1 s2 s3 s4 q46 c1 c2 c3 q83a u83a q83b u83b q83c u83c q83d u83d q83e u83e sr cr1 cr3⟩, w37_23 cy h0 q5 u5 q16 u16 q28 q35 s1 s2 s3 s4 q46 c1 c2 c3 q83a u83a q83b u83b q83c u83c q83d u83d q83e u83e sr cr1 cr3⟩, w37_24 cy h0 q5 u5 q16 u16 q28 q35 s1 s2 s3 s4 q46 c1 c2 c3 q83a u83a q83b u83b q83c u83c q83d u83d q83e u83e sr cr1 cr3⟩, w37_25 cy h0 q5 u5 q16 u16 q28 q35 s1 s2 s3 s4 q46 c1 c2 c3 q83a u83a q83b u83b q83c u83c q83d u83d q83e u83e sr cr1 cr3⟩, w37_26 cy h0 q5 u5 q16 u16 q28 q35 s1 s2 s3 s4 q46 c1 c2 c3 q83a u83a q83b u83b q83c u83c q83d u83d q83e u83e sr cr1 cr3⟩, w37_27 cy h0 q5 u5 q16 u16 q28 q35 s1 s2 s3 s4 q46 c1 c2 c3 q83a u83a q83b u83b q83c u83c q83d u83d q83e u83e sr cr1 cr3⟩, w37_28 cy h0 q5 u5 q16 u16 q28 q35 s1 s2 s3 s4 q46 c1 c2 c3 q83a u83a q83b u83b q83c u83c q83d u83d q83e u83e sr cr1 cr3⟩, w37_29 cy h0 q5 u5 q16 u16 q28 q35 s1 s2 s3 s4 q46 c1 c2 c3 q83a u83a q83b u83b q83c u83c q83d u83d q83e u83e sr cr1 cr3⟩
theorem a37_40 : AllB (P37 cy h0 q5 u5 q16 u16 q28 q35 s1 s2 s3 s4 q46 c1 c2 c3 q83a u83a q83b u83b q83c u83c q83d u83d q83e u83e sr cr1 cr3) 40 := ⟨⟨⟨⟨⟨⟨⟨⟨⟨⟨a37_30 cy h0 q5 u5 q16 u16 q28 q35 s1 s2 s3 s4 q46 c1 c2 c3 q83a u83a q83b u83b q83c u83c q83d u83d q83e u83e sr cr1 cr3, w37_30 cy h0 q5 u5 q16 u16 q28 q35 s1 s2 s3 s4 q46 c1 c2 c3 q83a u83a q83b u83b q83c u83c q83d u83d q83e u83e sr cr1 cr3⟩, w37_31 cy h0 q5 u5 q16 u16 q28 q35 s1 s2 s3 s4 q46 c1 c2 c3 q83a u83a q83b u83b q83c u83c q83d u83d q83e u83e sr cr1 cr3⟩, w37_32 cy h0 q5 u5 q16 u16 q28 q35 s1 s2 s3 s4 q46 c1 c2 c3 q83a u83a q83b u83b q83c u83c q83d u83d q83e u83e sr cr1 cr3⟩, w37_33 cy h0 q5 u5 q16 u16 q28 q35 s1 s2 s3 s4 q46 c1 c2 c3 q83a u83a q83b u83b q83c u83c q83d u83d q83e u83e sr cr1 cr3⟩, w37_34 cy h0 q5 u5 q16 u16 q28 q35 s1 s2 s3 s4 q46 c1 c2 c3 q83a u83a q83b u83b q83c u83c q83d u83d q83e u83e sr cr1 cr3⟩, w37_35 cy h0 q5 u5 q16 u16 q28 q35 s1 s2 s3 s4 q46 c1 c2 c3 q83a u83a q83b u83b q83c u83c q83d u83d q83e u83e sr cr1 cr3⟩, w37_36 cy h0 q5 u5 q16 u16 q28 q35 s1 s2 s3 s4 q46 c1 c2 c3 q83a u83a q83b u83b q83c u83c q83d u83d q83e u83e sr cr1 cr3⟩, w37_37 cy h0 q5 u5 q16 u16 q28 q35 s1 s2 s3 s4 q46 c1 c2 c3 q83a u83a q83b u83b q83c u83c q83d u83d q83e u83e sr cr1 cr3⟩, w37_38 cy h0 q5 u5 q16 u16 q28 q35 s1 s2 s3 s4 q46 c1 c2 c3 q83a u83a q83b u83b q83c u83c q83d u83d q83e u83e sr cr1 cr3⟩, w37_39 cy h0 q5 u5 q16 u16 q28 q35 s1 s2 s3 s4 q46 c1 c2 c3 q83a u83a q83b u83b q83c u83c q83d u83d q83e u83e sr cr1 cr3⟩
theorem a37_50 : AllB (P37 cy h0 q5 u5 q16 u16 q28 q35 s1 s2 s3 s4 q46 c1 c2 c3 q83a u83a q83b u83b q83c u83c q83d u83d q83e u83e sr cr1 cr3) 50 := ⟨⟨⟨⟨⟨⟨⟨⟨⟨⟨a37_40 cy h0 q5 u5 q16 u16 q28 q35 s1 s2 s3 s4 q46 c1 c2 c3 q83a u83a q83b u83b q83c u83c q83d u83d q83e u83e sr cr1 cr3, w37_40 cy h0 q5 u5 q16 u16 q28 q35 s1 s2 s3 s4 q46 c1 c2 c3 q83a u83a q83b u83b q83c u83c q83d u83d q83e u83e sr cr1 cr3⟩, w37_41 cy h0 q5 u5 q16 u16 q28 q35 s1 s2 s3 s4 q46 c1 c2 c3 q83a u83a q83b u83b q83c u83c q83d u83d q83e u83e sr cr1 cr3⟩, w37_42 cy h0 q5 u5 q16 u16 q28 q35 s1 s2 s3 s4 q46 c1 c2 c3 q83a u83a q83b u83b q83c u83c q83d u83d q83e u83e sr cr1 cr3⟩, w37_43 cy h0 q5 u5 q16 u16 q28 q35 s1 s2 s3 s4 q46 c1 c2 c3 q83a u83a q83b u83b q83c u83c q83d u83d q83e u83e sr cr1 cr3⟩, w37_44 cy h0 q5 u5 q16 u16 q28 q35 s1 s2 s3 s4 q46 c1 c2 c3 q83a u83a q83b u83b q83c u83c q83d u83d q83e u83e sr cr1 cr3⟩, w37_45 cy h0 q5 u5 q16 u16 q28 q35 s1 s2 s3 s4 q46 c1 c2 c3 q83a u83a q83b u83b q83c u83c q83d u83d q83e u83e sr cr1 cr3⟩, w37_46 cy h0 q5 u5 q16 u16 q28 q35 s1 s2 s3 s4 q46 c1 c2 c3 q83a u83a q83b u83b q83c u83c q83d u83d q83e u83e sr cr1 cr3⟩, w37_47 cy h0 q5 u5 q16 u16 q28 q35 s1 s2 s3 s4 q46 c1 c2 c3 q83a u83a q83b u83b q83c u83c q83d u83d q83e u83e sr cr1 cr3⟩, w37_48 cy h0 q5 u5 q16 u16 q28 q35 s1 s2 s3 s4 q46 c1 c2 c3 q83a u83a q83b u83b q83c u83c q83d u83d q83e u83e sr cr1 cr3⟩, w37_49 cy h0 q5 u5 q16 u16 q28 q35 s1 s2 s3 s4 q46 c1 c2 c3 q83a u83a q83b u83b q83c u83c q83d u83d q83e u83e sr cr1 cr3⟩
theorem a37_60 : AllB (P37 cy h0 q5 u5 q16 u16 q28 q35 s1 s2 s3 s4 q46 c1 c2 c3 q83a u83a q83b u83b q83c u83c q83d u83d q83e u83e sr cr1 cr3) 60 := ⟨⟨⟨⟨⟨⟨⟨⟨⟨⟨a37_50 cy h0 q5 u5 q16 u16 q28 q35 s1 s2 s3 s4 q46 c1 c2 c3 q83a u83a q83b u83b q83c u83c q83d u83d q83e u83e sr cr1 cr3, w37_50 cy h0 q5 u5 q16 u16 q28 q35 s1 s2 s3 s4 q46 c1 c2 c3 q83a u83a q83b u83b q83c u83c q83d u83d q83e u83e sr cr1 cr3⟩, w37_51 cy h0 q5 u5 q16 u16 q28 q35 s1 s2 s3 s4 q46 c1 c2 c3 q83a u83a q83b u83b q83c u83c q83d u83d q83e u83e sr cr1 cr3⟩, w37_52 cy h0 q5 u5 q16 u16 q28 q35 s1 s2 s3 s4 q46 c1 c2 c3 q83a u83a q83b u83b q83c u83c q83d u83d q83e u83e sr cr1 cr3⟩, w37_53 cy h0 q5 u5 q16 u16 q28 q35 s1 s2 s3 s4 q46 c1 c2 c3 q83a u83a q83b u83b q83c u83c q83d u83d q83e u83e sr cr1 cr3⟩, w37_54 cy h0 q5 u5 q16 u16 q28 q35 s1 s2 s3 s4 q46 c1 c2 c3 q83a u83a q83b u83b q83c u83c q83d u83d q83e u83e sr cr1 cr3⟩, w37_55 cy h0 q5 u5 q16 u16 q28 q35 s1 s2 s3 s4 q46 c1 c2 c3 q83a u83a q83b u83b q83c u83c q83d u83d q83e u83e sr cr1 cr3⟩, w37_56 cy h0 q5 u5 q16 u16 q28 q35 s1 s2 s3 s4 q46 c1 c2 c3 q83a u83a q83b u83b q83c u83c q83d u83d q83e u83e sr cr1 cr3⟩, w37_57 cy h0 q5 u5 q16 u16 q28 q35 s1 s2 s3 s4 q46 c1 c2 c3 q83a u83a q83b u83b q83c u83c q83d u83d q83e u83e sr cr1 cr3⟩, w37_58 cy h0 q5 u5 q16 u16 q28 q35 s1 s2 s3 s4 q46 c1 c2 c3 q83a u83a q83b u83b q83c u83c q83d u83d q83e u83e sr cr1 cr3⟩, w37_59 cy h0 q5 u5 q16 u16 q28 q35 s1 s2 s3 s4 q46 c1 c2 c3 q83a u83a q83b u83b q83c u83c q83d u83d q83e u83e sr cr1 cr3⟩
theorem a37_70 : AllB (P37 cy h0 q5 u5 q16 u16 q28 q35 s1 s2 s3 s4 q46 c1 c2 c3 q83a u83a q83b u83b q83c u83c q83d u83d q83e u83e sr cr1 cr3) 70 := ⟨⟨⟨⟨⟨⟨⟨⟨⟨⟨a37_60 cy h0 q5 u5 q16 u16 q28 q35 s1 s2 s3 s4 q46 c1 c2 c3 q83a u83a q83b u83b q83c u83c q83d u83d q83e u83e sr cr1 cr3, w37_60 cy h0 q5 u5 q16 u16 q28 q35 s1 s2 s3 s4 q46 c1 c2 c3 q83a u83a q83b u83b q83c u83c q83d u83d q83e u83e sr cr1 cr3⟩, w37_61 cy h0 q5 u5 q16 u16 q28 q35 s1 s2 s3 s4 q46 c1 c2 c3 q83a u83a q83b u83b q83c u83c q83d u83d q83e u83e sr cr1 cr3⟩, w37_62 cy h0 q5 u5 q16 u16 q28 q35 s1 s2 s3 s4 q46 c1 c2 c3 q83a u83a q83b u83b q83c u83c q83d u83d q83e u83e sr cr1 cr3⟩, w37_63 cy h0 q5 u5 q16 u16 q28 q35 s1 s2 s3 s4 q46 c1 c2 c3 q83a u83a q83b u83b q83c u83c q83d u83d q83e u83e sr cr1 cr3⟩, w37_64 cy h0 q5 u5 q16 u16 q28 q35 s1 s2 s3 s4 q46 c1 c2 c3 q83a u83a q83b u83b q83c u83c q83d u83d q83e u83e sr cr1 cr3⟩, w37_65 cy h0 q5 u5 q16 u16 q28 q35 s1 s2 s3 s4 q46 c1 c2 c3 q83a u83a q83b u83b q83c u83c q83d u83d q83e u83e sr cr1 cr3⟩, w37_66 cy h0 q5 u5 q16 u16 q28 q35 s1 s2 s3 s4 q46 c1 c2 c3 q83a u83a q83b u83b q83c u83c q83d u83d q83e u83e sr cr1 cr3⟩, w37_67 cy h0 q5 u5 q16 u16 q28 q35 s1 s2 s3 s4 q46 c1 c2 c3 q83a u83a q83b u83b q83c u83c q83d u83d q83e u83e sr cr1 cr3⟩, w37_68 cy h0 q5 u5 q16 u16 q28 q35 s1 s2 s3 s4 q46 c1 c2 c3 q83a u83a q83b u83b q83c u83c q83d u83d q83e u83e sr cr1 cr3⟩, w37_69 cy h0 q5 u5 q16 u16 q28 q35 s1 s2 s3 s4 q46 c1 c2 c3 q83a u83a q83b u83b q83c u83c q83d u83d q83e u83e sr cr1 cr3⟩
theorem a37_80 : AllB (P37 cy h0 q5 u5 q16 u16 q28 q35 s1 s2 s3 s4 q46 c1 c2 c3 q83a u83a q83b u83b q83c u83c q83d u83d q83e u83e sr cr1 cr3) 80 := ⟨⟨⟨⟨⟨⟨⟨⟨⟨⟨a37_70 cy h0 q5 u5 q16 u16 q28 q35 s1 s2 s3 s4 q46 c1 c2 c3 q83a u83a q83b u83b q83c u83c q83d u83d q83e u83e sr cr1 cr3, w37_70 cy h0 q5 u5 q16 u16 q28 q35 s1 s2 s3 s4 q46 c1 c2 c3 q83a u83a q83b u83b q83c u83c q83d u83d q83e u83e sr cr1 cr3⟩, w37_71 cy h0 q5 u5 q16 u16 q28 q35 s1 s2 s3 s4 q46 c1 c2 c3 q83a u83a q83b u83b q83c u83c q83d u83d q83e u83e sr cr1 cr3⟩, w37_72 cy h0 q5 u5 q16 u16 q28 q35 s1 s2 s3 s4 q46 c1 c2 c3 q83a u83a q83b u83b q83c u83c q83d u83d q83e u83e sr cr1 cr3⟩, w37_73 cy h0 q5 u5 q16 u16 q28 q35 s1 s2 s3 s4 q46 c1 c2 c3 q83a u83a q83b u83b q83c u83c q83d u83d q83e u83e sr cr1 cr3⟩, w37_74 cy h0 q5 u5 q16 u16 q28 q35 s1 s2 s3 s4 q46 c1 c2 c3 q83a u83a q83b u83b q83c u83c q83d u83d q83e u83e sr cr1 cr3⟩, w37_75 cy h0 q5 u5 q16 u16 q28 q35 s1 s2 s3 s4 q46 c1 c2 c3 q83a u83a q83b u83b q83c u83c q83d u83d q83e u83e sr cr1 cr3⟩, w37_76 cy h0 q5 u5 q16 u16 q28 q35 s1 s2 s3 s4 q46 c1 c2 c3 q83a u83a q83b u83b q83c u83c q83d u83d q83e u83e sr cr1 cr3⟩, w37_77 cy h0 q5 u5 q16 u16 q28 q35 s1 s2 s3 s4 q46 c1 c2 c3 q83a u83a q83b u83b q83c u83c q83d u83d q83e u83e sr cr1 cr3⟩, w37_78 cy h0 q5 u5 q16 u16 q28 q35 s1 s2 s3 s4 q46 c1 c2 c3 q83a u83a q83b u83b q83c u83c q83d u83d q83e u83e sr cr1 cr3⟩, w37_79 cy h0 q5 u5 q16 u16 q28 q35 s1 s2 s3 s4 q46 c1 c2 c3 q83a u83a q83b u83b q83c u83c q83d u83d q83e u83e sr cr1 cr3⟩
theorem a37_89 : AllB (P37 cy h0 q5 u5 q16 u16 q28 q35 s1 s2 s3 s4 q46 c1 c2 c3 q83a u83a q83b u83b q83c u83c q83d u83d q83e u83e sr cr1 cr3) 89 := ⟨⟨⟨⟨⟨⟨⟨⟨⟨a37_80 cy h0 q5 u5 q16 u16 q28 q35 s1 s2 s3 s4 q46 c1 c2 c3 q83a u83a q83b u83b q83c u83c q83d u83d q83e u83e sr cr1 cr3, w37_80 cy h0 q5 u5 q16 u16 q28 q35 s1 s2 s3 s4 q46 c1 c2 c3 q83a u83a q83b u83b q83c u83c q83d u83d q83e u83e sr cr1 cr3⟩, w37_81 cy h0 q5 u5 q16 u16 q28 q35 s1 s2 s3 s4 q46 c1 c2 c3 q83a u83a q83b u83b q83c u83c q83d u83d q83e u83e sr cr1 cr3⟩, w37_82 cy h0 q5 u5 q16 u16 q28 q35 s1 s2 s3 s4 q46 c1 c2 c3 q83a u83a q83b u83b q83c u83c q83d u83d q83e u83e sr cr1 cr3⟩, w37_83 cy h0 q5 u5 q16 u16 q28 q35 s1 s2 s3 s4 q46 c1 c2 c3 q83a u83a q83b u83b q83c u83c q83d u83d q83e u83e sr cr1 cr3⟩, w37_84 cy h0 q5 u5 q16 u16 q28 q35 s1 s2 s3 s4 q46 c1 c2 c3 q83a u83a q83b u83b q83c u83c q83d u83d q83e u83e sr cr1 cr3⟩, w37_85 cy h0 q5 u5 q16 u16 q28 q35 s1 s2 s3 s4 q46 c1 c2 c3 q83a u83a q83b u83b q83c u83c q83d u83d q83e u83e sr cr1 cr3⟩, w37_86 cy h0 q5 u5 q16 u16 q28 q35 s1 s2 s3 s4 q46 c1 c2 c3 q83a u83a q83b u83b q83c u83c q83d u83d q83e u83e sr cr1 cr3⟩, w37_87 cy h0 q5 u5 q16 u16 q28 q35 s1 s2 s3 s4 q46 c1 c2 c3 q83a u83a q83b u83b q83c u83c q83d u83d q83e u83e sr cr1 cr3⟩, w37_88 cy h0 q5 u5 q16 u16 q28 q35 s1 s2 s3 s4 q46 c1 c2 c3 q83a u83a q83b u83b q83c u83c q83d u83d q83e u83e sr cr1 cr3⟩
theorem wAll_at : ∀ i, i < 89 → ∃ e, (wAll cy h0 q5 u5 q16 u16 q28 q35 s1 s2 s3 s4 q46 c1 c2 c3 q83a u83a q83b u83b q83c u83c q83d u83d q83e u83e sr cr1 cr3)[pi37 i]? = some ((ad37 h0 q5 u5 q16 u16 q28 q35 s1 s2 s3 s4 q46 c1 c2 c3 q83a u83a q83b u83b q83c u83c q83d u83d q83e u83e sr cr1 cr3) i, e) ∧ Eqv e (ent (ad37 h0 q5 u5 q16 u16 q28 q35 s1 s2 s3 s4 q46 c1 c2 c3 q83a u83a q83b u83b q83c u83c q83d u83d q83e u83e sr cr1 cr3) cy i (s0w i)) := fun i hi => by
  rw [wAll_lit]
  exact (a37_89 cy h0 q5 u5 q16 u16 q28 q35 s1 s2 s3 s4 q46 c1 c2 c3 q83a u83a q83b u83b q83c u83c q83d u83d q83e u83e sr cr1 cr3).at i hi
end W37
end
