/-! ===== making: rows for the constructors, the arrays' classes as the world names them ===== -/
/-- what a constructor needs of the tables that its words don't carry on -/
def Cw (U : State) : Prop := va_AOA .int U ∧ va_AO RX3 U ∧ va_Nw (.methodLinkNest RX4 9 yX2_init RX4) U ∧ va_Nw (.methodLinkNest RX4 18 yX3_init RX4) U ∧ va_Nw (.methodLinkNest RX4 36 yX0_init RX4) U
theorem va_AOA.moved {ty : FieldType} {u U : State} (hvm : u.vm.Alike U.vm) (h : va_AOA ty u) : va_AOA ty U := arrayOver_alikeB hvm h
theorem Cw.moved {u U : State} (hW : u.WarmedH U.vm) (h : Cw u) : Cw U := ⟨h.1.moved hW.alike, h.2.1.moved hW.alike, h.2.2.1.warmM hW, h.2.2.2.1.warmM hW, h.2.2.2.2.warmM hW⟩
theorem Cw.blind {U : State} {g : JFrame} {mk : MethodId} {a : Array Value} (h : Cw U) : Cw (U.calling g mk a) := ⟨va_AOA.moved (u := U) (U := U.calling g mk a) (Vm.Alike.refl U.vm) h.1, va_AO.moved (u := U) (U := U.calling g mk a) (Vm.Alike.refl U.vm) h.2.1, va_Nw.same (u := U) (U := U.calling g mk a) rfl rfl h.2.2.1, va_Nw.same (u := U) (U := U.calling g mk a) rfl rfl h.2.2.2.1, va_Nw.same (u := U) (U := U.calling g mk a) rfl rfl h.2.2.2.2⟩
/-- a constructor's start: the cells ws, the arrays' classes, the tables -/
def PrC (D : va_G) (cy : Nat → ClassId) (a : List Value) (ws : va_W) (sz : Nat) : Array Value → State → Prop := va_Pc a (fun U => U.heap.size = sz ∧ va_P D vwCl ws U.heap ∧ va_K D vwCl (tysO cy) U ∧ va_D (fun _ => True) ws ∧ Cw U)
theorem PrC.blind {D : va_G} {cy : Nat → ClassId} {a : List Value} {ws : va_W} {sz : Nat} : FrameBlind (PrC D cy a ws sz) := fun a U g mk q => by
  obtain ⟨q0, q1, qP, qK, qD, qC⟩ := q
  exact ⟨q0, q1, qP, va_K.moved (u := U) (U := U.calling g mk a) (Vm.Alike.refl U.vm) qK, qD, qC.blind⟩
/-- its end: the cells u -/
def BwC (D : va_G) (cy : Nat → ClassId) (A : Nat → Prop) : va_W → State → Prop := fun u t => va_P D vwCl u t.heap ∧ va_K D vwCl (tysO cy) t ∧ va_D A u
abbrev MetC (l : Launch) (y : MethodName) (wo : List Cond) (fr lo mc ms : Nat) (D : va_G) (cy : Nat → ClassId) (a : List Value) (ws : va_W) (post : va_W → Prop) : Prop := ∀ sz, Met l y wo ({ frames := fr, cells := mc, slots := ms, locals := lo }) (PrC D cy a ws sz) (va_Qv post (BwC D cy (va_A ws sz)) (va_A ws sz)) mc ms (va_A ws sz)
theorem tn_nd : ∀ n : Nat, ∀ k : Nat, va_nd (List.range' k n) = true := by
  intro n
  induction n with
  | zero => intro k; rfl
  | succ n ih =>
    intro k
    rw [List.range'_succ, va_nd, ih, Bool.and_true]
    refine decide_eq_true fun h => ?_
    have := (List.mem_range'_1.mp h).1
    omega
theorem tn_get {ws w2 : va_W} : (List.range ws.length).map (fun i => (ws ++ w2)[i]?) = ws.map some := by
  refine List.ext_getElem? fun i => ?_
  rw [List.getElem?_map, List.getElem?_map]
  by_cases h : i < ws.length
  · rw [List.getElem?_range h, Option.map_some, List.getElem?_append_left h, List.getElem?_eq_getElem h]
    rfl
  · rw [List.getElem?_eq_none (by rw [List.length_range]; omega), List.getElem?_eq_none (by omega)]
    rfl
/-- the callee's cell is the last one: what it made stands where that stood -/
theorem tn_join {A0 : Nat → Prop} {D : va_G} {ws w1 : va_W} {q : Nat} {e : va_E} {H H1 : Heap} (hP : va_P D vwCl (ws ++ [(q, e)]) H) (hD : va_D A0 (ws ++ [(q, e)])) (hk : ∀ x : Nat, x < H.size → ¬ va_A [(q, e)] H.size x → H1[x]? = H[x]?) (hF : ∀ x, va_A [(q, e)] H.size x → A0 x) (hP1 : va_P D vwCl w1 H1) (hD1 : va_D (va_A [(q, e)] H.size) w1) : va_P D vwCl (ws ++ w1) H1 ∧ va_D A0 (ws ++ w1) :=
  va_join (wc := [(q, e)]) (wr := ws) hP hD [ws.length] (List.range ws.length) (by simp) tn_get (by rw [List.range_eq_range']; exact tn_nd _ _) (fun i hi h => by rw [List.mem_range] at hi; rw [List.mem_singleton] at h; omega) hk hF hP1 hD1
theorem tn_lastP {D : va_G} {ws : va_W} {x : Nat × va_E} {H : Heap} (hP : va_P D vwCl (ws ++ [x]) H) : va_P D vwCl [x] H := hP.sub [ws.length] (by simp)
theorem tn_lastD {A0 : Nat → Prop} {ws : va_W} {x : Nat × va_E} (hD : va_D A0 (ws ++ [x])) : va_D A0 [x] := hD.sub [ws.length] (by simp [va_nd]) (by simp)
theorem tn_lastF {A0 : Nat → Prop} {ws : va_W} {x : Nat × va_E} {H0 H : Heap} {locs : List Loc} (hD : va_D A0 (ws ++ [x])) (hS : va_S A0 H0 H locs) (hA : ∀ q, H0.size ≤ q → A0 q) : ∀ q, va_A [x] H.size q → A0 q := va_free (wc := [x]) hD hS hA [ws.length] (by simp)
section TN
variable {p : Program} {l : Launch} {e : Env} {R : Room} {s : State} {m : MethodId} {args : Array Value} {below : List Frame} {meth : Method} {c : Code} {H : Heap} {locs : List Loc} {cells slots : Nat} {Q : State → Prop}
variable {cc : ByteArray} {pc : Nat} {ls : Array Slot} {rest : List Value} {D : va_G} {A : Nat → Prop} {ws : va_W} {H0 : Heap} {cy : Nat → ClassId}
theorem tn_cy {cA : ClassId} {ty : FieldType} {t0 : Nat} (ht : (tysO cy)[t0]? = some (cy t0, ty)) (hK : va_K D vwCl (tysO cy) s) (hK1 : va_K D vwCl (tysO cy ++ [(cA, ty)]) s) : cA = cy t0 := by
  have h1 := (hK.2 t0 _ ht).2
  have h2 := (hK1.2 3 (cA, ty) rfl).2
  cases ty with
  | object C =>
    obtain ⟨_, _, _, _, _, f1⟩ := h1
    obtain ⟨_, _, _, _, _, f2⟩ := h2
    exact Option.some.inj (f2.symm.trans f1)
  | _ => exact Option.some.inj ((show s.vm.findClass _ = some cA from h2).symm.trans h1)
theorem tn_newa (hexec : p.tables.exec = Jvm.exec) (hb : c.code = cc) (harr : (Cond.arrayClass .int).before args s = true) (hK : va_K D vwCl (tysO cy) s) (hP : va_P D vwCl ws H) (hD : va_D A ws) (hS : va_S A H0 H locs) (hA : ∀ q, H0.size ≤ q → A q)
    {n : Int32} {N' : Nat} (hn : ¬ n < 0) (hN : n.toNatClampNeg = N') (hbytes : N' * componentBytes .int ≤ 536870912) (hcells : cells + 1 ≤ R.cells) (hslots : slots + N' ≤ R.slots) (hdg : decode cc pc = .ok (.newarray .int, 2))
    (kk : ∀ (q : Nat) (H1 : Heap), va_P D vwCl (ws ++ [(q, .inl (cy 0, N', .inl (fun _ => 0)))]) H1 → va_D A (ws ++ [(q, .inl (cy 0, N', .inl (fun _ => 0)))]) → va_S A H0 H1 locs → W p l e R s m args below meth c H1 locs (cells + 1) (slots + N') Q (F0 m (pc + 2) ls (.ref q :: rest))) :
    W p l e R s m args below meth c H locs cells slots Q (F0 m pc ls (.int n :: rest)) :=
  va_newa (atype := .int) (ty := .int) (a0 := (N', .inl (fun _ => 0))) hexec hb harr rfl hK hP hD hS hA (fun cA => rfl) hn hN hbytes hcells hslots hdg (fun q cA H1 hK1 hP1 hD1 hS1 => by
    obtain rfl := tn_cy (t0 := 0) rfl hK hK1
    exact kk q H1 hP1 hD1 hS1)
theorem tn_newq (hexec : p.tables.exec = Jvm.exec) (hb : c.code = cc) {own : String} {index : Nat} (hown : s.vm.findClass own = some m.cls) (hclink : (Cond.classLink own index RX3).before args s = true) (hover : va_AO RX3 s) (hK : va_K D vwCl (tysO cy) s) (hP : va_P D vwCl ws H) (hD : va_D A ws) (hS : va_S A H0 H locs) (hA : ∀ q, H0.size ≤ q → A q)
    {n : Int32} {N' : Nat} (hn : ¬ n < 0) (hN : n.toNatClampNeg = N') (hbytes : N' * 4 ≤ 536870912) (hcells : cells + 1 ≤ R.cells) (hslots : slots + N' ≤ R.slots) (hdg : decode cc pc = .ok (.anewarray index, 3))
    (kk : ∀ (q : Nat) (H1 : Heap), va_P D vwCl (ws ++ [(q, .inl (cy 1, N', .inr (.inr (.inr (.inr (fun _ => none))))))]) H1 → va_D A (ws ++ [(q, .inl (cy 1, N', .inr (.inr (.inr (.inr (fun _ => none))))))]) → va_S A H0 H1 locs → W p l e R s m args below meth c H1 locs (cells + 1) (slots + N') Q (F0 m (pc + 3) ls (.ref q :: rest))) :
    W p l e R s m args below meth c H locs cells slots Q (F0 m pc ls (.int n :: rest)) :=
  va_newq hexec hb hown hclink hover hK hP hD hS hA hn hN hbytes hcells hslots hdg (fun q cA H1 hK1 hP1 hD1 hS1 => by
    obtain rfl := tn_cy (t0 := 1) rfl hK hK1
    exact kk q H1 hP1 hD1 hS1)
/-- int[N'][K'] -/
theorem tn_mna (hexec : p.tables.exec = Jvm.exec) (hb : c.code = cc) {own : String} {index : Nat} (hown : s.vm.findClass own = some m.cls) (hclink : (Cond.classLink own index "[[I").before args s = true) (hover : va_AOA .int s) (harr : (Cond.arrayClass .int).before args s = true)
    (hK : va_K D vwCl (tysO cy) s) (hP : va_P D vwCl ws H) (hD : va_D A ws) (hS : va_S A H0 H locs) (hA : ∀ q, H0.size ≤ q → A q) {n k : Int32} {N' K' : Nat} (hn : ¬ n < 0) (hk : ¬ k < 0) (hN : n.toNatClampNeg = N') (hM : k.toNatClampNeg = K')
    (hb1 : N' * 4 ≤ 536870912) (hb2 : K' * componentBytes .int ≤ 536870912) (hb3 : K' ≤ 536870912) (hcells : cells + (1 + N') ≤ R.cells) (hslots : slots + (N' + N' * K') ≤ R.slots) (hdg : decode cc pc = .ok (.multianewarray index 2, 4))
    (kk : ∀ (q : Nat) (r : Nat → Nat) (H1 : Heap), va_P D vwCl (ws ++ [(q, .inl (cy 2, N', .inr (.inr (.inr (.inr (fun i => if i < N' then some (r i) else none))))))] ++ (List.range N').map (fun i => (r i, .inl (cy 0, K', .inl (fun _ => 0))))) H1 →
      va_D A (ws ++ [(q, .inl (cy 2, N', .inr (.inr (.inr (.inr (fun i => if i < N' then some (r i) else none))))))] ++ (List.range N').map (fun i => (r i, .inl (cy 0, K', .inl (fun _ => 0))))) → va_S A H0 H1 locs →
      W p l e R s m args below meth c H1 locs (cells + 1 + N') (slots + N' + N' * K') Q (F0 m (pc + 4) ls (.ref q :: rest))) : W p l e R s m args below meth c H locs cells slots Q (F0 m pc ls (.int k :: .int n :: rest)) := by
  have hcy : s.vm.findClass (FieldType.array FieldType.int).toString = some (cy 0) := (hK.2 0 _ rfl).2
  refine va_mna (X := ws) (L := []) (f := fun _ => .inl (cy 0, 0, .inl (fun _ => 0))) (ty := .int) (cy := cy 0) (z := (K', .inl (fun _ => 0))) hexec hb hown hclink hover harr hcy hK (by rw [va_pl, List.map_nil, List.append_nil]; exact hP) (by rw [va_pl, List.map_nil, List.append_nil]; exact hD) hS hA hn hk hN hM hb1 hb2 hb3 rfl rfl hcells hslots (fun c9 => arrV_new (cI := c9) _ _) hdg (fun q r cA H1 hi hL hK1 hP1 hD1 hS1 => ?_)
  obtain rfl := tn_cy (t0 := 2) rfl hK hK1
  have he : va_pl ([] ++ (List.range N').map r) (vr_up (fun _ => (.inl (cy 0, 0, .inl (fun _ => 0)) : va_E)) ((List.range N').map r) (.inl (cy 0, K', .inl (fun _ => 0)))) = (List.range N').map (fun i => (r i, .inl (cy 0, K', .inl (fun _ => 0)))) := by
    rw [List.nil_append, va_pl, List.map_map]
    refine List.map_congr_left fun i hi => ?_
    show (r i, vr_up _ _ _ (r i)) = _
    rw [vr_up, if_pos (List.mem_map_of_mem hi)]
  rw [he] at hP1 hD1
  exact kk q r H1 hP1 hD1 hS1
end TN
