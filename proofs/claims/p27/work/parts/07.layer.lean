/-! ===== the world of a run: 89 cells at the addresses ad i; what cell i holds is told by its ints σ i ===== -/
abbrev sS : Type := Nat → Nat → Int32
def ent (ad : Nat → Nat) (cy : Nat → ClassId) (i : Nat) (f : Nat → Int32) : va_E :=
  if i = 0 then .inr (4, [.ref (ad 1), .ref (ad 3), .ref (ad 5), .ref (ad 16), .ref (ad 51), .int (f 5), .int (f 6), .int (f 7)])
  else if i = 1 then .inr (2, [.ref (ad 2), .int (f 1)])
  else if i = 2 then .inl (cy 0, 16, .inl f)
  else if i = 3 then .inr (3, [.ref (ad 4), .int (f 1)])
  else if i = 4 then .inl (cy 0, 36, .inl f)
  else if i = 5 then .inl (cy 1, 5, .inr (.inr (.inr (.inr (fun t => some (ad (6 + t)))))))
  else if i < 11 then .inr (3, [.ref (ad (i + 5)), .int (f 1)])
  else if i < 16 then .inl (cy 0, 36, .inl f)
  else if i = 16 then .inr (1, [.ref (ad 17), .ref (ad 18), .ref (ad 19), .ref (ad 20), .int (f 4)])
  else if i < 20 then .inl (cy 0, 30, .inl f)
  else if i = 20 then .inl (cy 2, 30, .inr (.inr (.inr (.inr (fun t => some (ad (21 + t)))))))
  else if i < 51 then .inl (cy 0, 17, .inl f)
  else if i = 51 then .inr (0, [.ref (ad 52), .ref (ad 70), .ref (ad 71), .int (f 3), .int (f 4), .int (f 5)])
  else if i = 52 then .inl (cy 2, 17, .inr (.inr (.inr (.inr (fun t => some (ad (53 + t)))))))
  else if i < 70 then .inl (cy 0, 5, .inl f)
  else if i = 70 then .inl (cy 0, 17, .inl f)
  else if i = 71 then .inl (cy 2, 17, .inr (.inr (.inr (.inr (fun t => some (ad (72 + t)))))))
  else if i < 89 then .inl (cy 0, 5, .inl f)
  else .inl (cy 0, 5, .inl f)
def wld (ad : Nat → Nat) (cy : Nat → ClassId) (σ : sS) : va_W := (List.range 89).map (fun i => (ad i, ent ad cy i (σ i)))
theorem wld_len (ad : Nat → Nat) (cy : Nat → ClassId) (σ : sS) : (wld ad cy σ).length = 89 := by simp [wld]
theorem wld_at (ad : Nat → Nat) (cy : Nat → ClassId) (σ : sS) {i : Nat} (h : i < 89) : (wld ad cy σ)[i]? = some (ad i, ent ad cy i (σ i)) := by
  simp [wld, h]
theorem wld_of {ad : Nat → Nat} {cy : Nat → ClassId} {σ : sS} {i : Nat} {q : Nat × va_E} (h : (wld ad cy σ)[i]? = some q) : i < 89 ∧ q = (ad i, ent ad cy i (σ i)) := by
  have h1 : i < 89 := by
    have := (List.getElem?_eq_some_iff.mp h).1
    rw [wld_len] at this
    exact this
  exact ⟨h1, Option.some.inj (h.symm.trans (wld_at ad cy σ h1))⟩
theorem wld_set (ad : Nat → Nat) (cy : Nat → ClassId) (σ : sS) {i : Nat} (f : Nat → Int32) : (wld ad cy σ).set i (ad i, ent ad cy i f) = wld ad cy (va_up σ i f) := by
  apply List.ext_getElem?
  intro j
  rw [List.getElem?_set, wld_len]
  by_cases hj : i = j
  · subst hj
    by_cases h : i < 89
    · rw [if_pos rfl, if_pos h, wld_at _ _ _ h, va_up_self]
    · rw [if_pos rfl, if_neg h, List.getElem?_eq_none (by rw [wld_len]; omega)]
  · rw [if_neg hj]
    by_cases h : j < 89
    · rw [wld_at _ _ _ h, wld_at _ _ _ h, va_up_ne _ _ (fun q => hj q.symm)]
    · rw [List.getElem?_eq_none (by rw [wld_len]; omega), List.getElem?_eq_none (by rw [wld_len]; omega)]
/-- place k of cell i gets x -/
def su (σ : sS) (i k : Nat) (x : Int32) : sS := va_up σ i (upd (σ i) k x)
theorem su_eq (σ : sS) (i k : Nat) (x : Int32) : su σ i k x i k = x := by simp [su, va_up, upd]
theorem su_ni (σ : sS) {i j : Nat} (k : Nat) (x : Int32) (h : j ≠ i) : su σ i k x j = σ j := by simp [su, va_up, h]
theorem su_nk (σ : sS) (i : Nat) {k n : Nat} (x : Int32) (h : n ≠ k) : su σ i k x i n = σ i n := by simp [su, va_up, upd, h]
theorem su_ap (σ : sS) (i k j n : Nat) (x : Int32) : su σ i k x j n = if j = i ∧ n = k then x else σ j n := by
  by_cases h : j = i
  · subst h
    by_cases h2 : n = k
    · subst h2; rw [su_eq, if_pos ⟨rfl, rfl⟩]
    · rw [su_nk _ _ _ h2, if_neg (fun q => h2 q.2)]
  · rw [su_ni _ _ _ h, if_neg (fun q => h q.1)]
abbrev tysO (cy : Nat → ClassId) : List (ClassId × FieldType) := [(cy 0, .int), (cy 1, .object RX3), (cy 2, .array .int)]
def Dis (ad : Nat → Nat) : Prop := ∀ i j, i < 89 → j < 89 → ad i = ad j → i = j
theorem Dis.D {ad : Nat → Nat} (h : Dis ad) {A : Nat → Prop} (hA : ∀ i, i < 89 → A (ad i)) (cy : Nat → ClassId) (σ : sS) : va_D A (wld ad cy σ) := by
  refine ⟨fun i j p q hp hq e => ?_, fun k q hq => ?_⟩
  · obtain ⟨h1, rfl⟩ := wld_of hp
    obtain ⟨h2, rfl⟩ := wld_of hq
    exact h i j h1 h2 e
  · obtain ⟨h1, rfl⟩ := wld_of hq
    exact hA k h1
/-- what a method may write: the world's cells, and new ones -/
def Aw (ad : Nat → Nat) (sz : Nat) : Nat → Prop := fun q => (∃ i, i < 89 ∧ q = ad i) ∨ sz ≤ q
/-- the fixed facts of a walk -/
def Cx (p : Program) (s : State) (m : MethodId) (args : Array Value) (c : Code) (cc : ByteArray) (nL : Nat) (own : String) (Ts : List Cond) (D : va_G) (cy : Nat → ClassId) (ad : Nat → Nat) (A : Nat → Prop) : Prop :=
  p.tables.exec = Jvm.exec ∧ c.code = cc ∧ c.maxLocals = nL ∧ s.vm.findClass own = some m.cls ∧ (∀ w ∈ Ts, w.before args s = true) ∧ va_K D vwCl (tysO cy) s ∧ Dis ad ∧ (∀ i, i < 89 → A (ad i)) ∧ ∀ q, s.heap.size ≤ q → A q
/-- from here, in every heap that holds the world σ, the machine comes to Q -/
def TT (p : Program) (l : Launch) (e : Env) (R : Room) (s : State) (m : MethodId) (args : Array Value) (below : List Frame) (meth : Method) (c : Code) (D : va_G) (cy : Nat → ClassId) (ad : Nat → Nat) (A : Nat → Prop) (nL : Nat) (cells slots : Nat) (Q : State → Prop) (σ : sS) (pc : Nat) (lv : List (Nat × Value)) (st : List Value) : Prop :=
  ∀ (H : Heap) (locs : List Loc) (ls : Array Slot), va_P D vwCl (wld ad cy σ) H → va_S A s.heap H locs → lv_has ls nL lv → W p l e R s m args below meth c H locs cells slots Q (F0 m pc ls st)
section TTS
variable {p : Program} {l : Launch} {e : Env} {R : Room} {s : State} {m : MethodId} {args : Array Value} {below : List Frame} {meth : Method} {c : Code} {D : va_G} {cy : Nat → ClassId} {ad : Nat → Nat} {A : Nat → Prop} {nL : Nat} {cells slots : Nat} {Q : State → Prop}
variable {cc : ByteArray} {own : String} {Ts : List Cond} {σ : sS} {pc : Nat} {lv : List (Nat × Value)} {st : List Value}

theorem tg_iconst (C : Cx p s m args c cc nL own Ts D cy ad A) {n : Int} (v : Int32) (hdg : decode cc pc = .ok (.iconst n, 1)) (pc' : Nat) (hp : pc + 1 = pc') (hv : Int32.ofInt n = v) (k : TT p l e R s m args below meth c D cy ad A nL cells slots Q σ pc' lv (.int v :: st)) : TT p l e R s m args below meth c D cy ad A nL cells slots Q σ pc lv st := by
  subst hp
  intro H locs ls hP hS hl
  exact lv_iconst C.1 C.2.1 hdg hv (k H locs ls hP hS hl)
theorem tg_bipush (C : Cx p s m args c cc nL own Ts D cy ad A) {n : Int} (v : Int32) (hdg : decode cc pc = .ok (.bipush n, 2)) (pc' : Nat) (hp : pc + 2 = pc') (hv : (Int8.ofInt n).toInt32 = v) (k : TT p l e R s m args below meth c D cy ad A nL cells slots Q σ pc' lv (.int v :: st)) : TT p l e R s m args below meth c D cy ad A nL cells slots Q σ pc lv st := by
  subst hp
  intro H locs ls hP hS hl
  exact lv_bipush C.1 C.2.1 hdg hv (k H locs ls hP hS hl)
theorem tg_sipush (C : Cx p s m args c cc nL own Ts D cy ad A) {n : Int} (v : Int32) (hdg : decode cc pc = .ok (.sipush n, 3)) (pc' : Nat) (hp : pc + 3 = pc') (hv : (Int16.ofInt n).toInt32 = v) (k : TT p l e R s m args below meth c D cy ad A nL cells slots Q σ pc' lv (.int v :: st)) : TT p l e R s m args below meth c D cy ad A nL cells slots Q σ pc lv st := by
  subst hp
  intro H locs ls hP hS hl
  exact lv_sipush C.1 C.2.1 hdg hv (k H locs ls hP hS hl)
theorem tg_ldc (C : Cx p s m args c cc nL own Ts D cy ad A) {index : Nat} (v : Int32) (hdg : decode cc pc = .ok (.ldc index, 2)) (pc' : Nat) (hp : pc + 2 = pc') (hv : Jvm.Cond.constant own index v ∈ Ts) (k : TT p l e R s m args below meth c D cy ad A nL cells slots Q σ pc' lv (.int v :: st)) : TT p l e R s m args below meth c D cy ad A nL cells slots Q σ pc lv st := by
  subst hp
  intro H locs ls hP hS hl
  exact lv_ldc C.1 C.2.1 C.2.2.2.1 (C.2.2.2.2.1 _ hv) hdg (k H locs ls hP hS hl)
theorem tg_iload_n (C : Cx p s m args c cc nL own Ts D cy ad A) {k4 : Fin 4} {i : Nat} {x : Int32} (hdg : decode cc pc = .ok (.iload_n k4, 1)) (pc' : Nat) (hp : pc + 1 = pc') (hi : (k4 : Nat) = i) (j : Nat) (hj : lv[j]? = some (i, .int x)) (k : TT p l e R s m args below meth c D cy ad A nL cells slots Q σ pc' lv (.int x :: st)) : TT p l e R s m args below meth c D cy ad A nL cells slots Q σ pc lv st := by
  subst hp
  intro H locs ls hP hS hl
  exact lv_iload_n C.1 C.2.1 hdg hi (lv_at hl j hj) (k H locs ls hP hS hl)
theorem tg_iload (C : Cx p s m args c cc nL own Ts D cy ad A) {i : Nat} {x : Int32} (hdg : decode cc pc = .ok (.iload i, 2)) (pc' : Nat) (hp : pc + 2 = pc') (j : Nat) (hj : lv[j]? = some (i, .int x)) (k : TT p l e R s m args below meth c D cy ad A nL cells slots Q σ pc' lv (.int x :: st)) : TT p l e R s m args below meth c D cy ad A nL cells slots Q σ pc lv st := by
  subst hp
  intro H locs ls hP hS hl
  exact lv_iload C.1 C.2.1 hdg (lv_at hl j hj) (k H locs ls hP hS hl)
theorem tg_aload_n (C : Cx p s m args c cc nL own Ts D cy ad A) {k4 : Fin 4} {i : Nat} {x : Nat} (hdg : decode cc pc = .ok (.aload_n k4, 1)) (pc' : Nat) (hp : pc + 1 = pc') (hi : (k4 : Nat) = i) (j : Nat) (hj : lv[j]? = some (i, .ref x)) (k : TT p l e R s m args below meth c D cy ad A nL cells slots Q σ pc' lv (.ref x :: st)) : TT p l e R s m args below meth c D cy ad A nL cells slots Q σ pc lv st := by
  subst hp
  intro H locs ls hP hS hl
  exact lv_aload_n C.1 C.2.1 hdg hi (lv_at hl j hj) (k H locs ls hP hS hl)
theorem tg_aload (C : Cx p s m args c cc nL own Ts D cy ad A) {i : Nat} {x : Nat} (hdg : decode cc pc = .ok (.aload i, 2)) (pc' : Nat) (hp : pc + 2 = pc') (j : Nat) (hj : lv[j]? = some (i, .ref x)) (k : TT p l e R s m args below meth c D cy ad A nL cells slots Q σ pc' lv (.ref x :: st)) : TT p l e R s m args below meth c D cy ad A nL cells slots Q σ pc lv st := by
  subst hp
  intro H locs ls hP hS hl
  exact lv_aload C.1 C.2.1 hdg (lv_at hl j hj) (k H locs ls hP hS hl)
theorem tg_istore_n (C : Cx p s m args c cc nL own Ts D cy ad A) {k4 : Fin 4} {i : Nat} {x : Int32} (hdg : decode cc pc = .ok (.istore_n k4, 1)) (pc' : Nat) (hp : pc + 1 = pc') (hi : (k4 : Nat) = i) (lv' : List (Nat × Value)) (hn : i < nL) (hl0 : (i, Value.int x) :: lv.filter (fun q => !(q.1 == i) && !(q.1 + 1 == i && q.2.category == 2)) = lv') (k : TT p l e R s m args below meth c D cy ad A nL cells slots Q σ pc' lv' st) : TT p l e R s m args below meth c D cy ad A nL cells slots Q σ pc lv (.int x :: st) := by
  subst hp
  intro H locs ls hP hS hl
  exact lv_istore_n C.1 C.2.1 hdg hi hl hn hl0 (fun ls' hl' => k H locs ls' hP hS hl')
theorem tg_istore (C : Cx p s m args c cc nL own Ts D cy ad A) {i : Nat} {x : Int32} (hdg : decode cc pc = .ok (.istore i, 2)) (pc' : Nat) (hp : pc + 2 = pc') (lv' : List (Nat × Value)) (hn : i < nL) (hl0 : (i, Value.int x) :: lv.filter (fun q => !(q.1 == i) && !(q.1 + 1 == i && q.2.category == 2)) = lv') (k : TT p l e R s m args below meth c D cy ad A nL cells slots Q σ pc' lv' st) : TT p l e R s m args below meth c D cy ad A nL cells slots Q σ pc lv (.int x :: st) := by
  subst hp
  intro H locs ls hP hS hl
  exact lv_istore C.1 C.2.1 hdg hl hn hl0 (fun ls' hl' => k H locs ls' hP hS hl')
theorem tg_astore_n (C : Cx p s m args c cc nL own Ts D cy ad A) {k4 : Fin 4} {i : Nat} {x : Nat} (hdg : decode cc pc = .ok (.astore_n k4, 1)) (pc' : Nat) (hp : pc + 1 = pc') (hi : (k4 : Nat) = i) (lv' : List (Nat × Value)) (hn : i < nL) (hl0 : (i, Value.ref x) :: lv.filter (fun q => !(q.1 == i) && !(q.1 + 1 == i && q.2.category == 2)) = lv') (k : TT p l e R s m args below meth c D cy ad A nL cells slots Q σ pc' lv' st) : TT p l e R s m args below meth c D cy ad A nL cells slots Q σ pc lv (.ref x :: st) := by
  subst hp
  intro H locs ls hP hS hl
  exact lv_astore_n C.1 C.2.1 hdg hi hl hn hl0 (fun ls' hl' => k H locs ls' hP hS hl')
theorem tg_astore (C : Cx p s m args c cc nL own Ts D cy ad A) {i : Nat} {x : Nat} (hdg : decode cc pc = .ok (.astore i, 2)) (pc' : Nat) (hp : pc + 2 = pc') (lv' : List (Nat × Value)) (hn : i < nL) (hl0 : (i, Value.ref x) :: lv.filter (fun q => !(q.1 == i) && !(q.1 + 1 == i && q.2.category == 2)) = lv') (k : TT p l e R s m args below meth c D cy ad A nL cells slots Q σ pc' lv' st) : TT p l e R s m args below meth c D cy ad A nL cells slots Q σ pc lv (.ref x :: st) := by
  subst hp
  intro H locs ls hP hS hl
  exact lv_astore C.1 C.2.1 hdg hl hn hl0 (fun ls' hl' => k H locs ls' hP hS hl')
theorem tg_iinc (C : Cx p s m args c cc nL own Ts D cy ad A) {i : Nat} {n : Int} {x : Int32} (v : Int32) (hdg : decode cc pc = .ok (.iinc i n, 3)) (pc' : Nat) (hp : pc + 3 = pc') (j : Nat) (hj : lv[j]? = some (i, .int x)) (hv : x + Int32.ofInt n = v) (lv' : List (Nat × Value)) (hn : i < nL) (hl0 : (i, Value.int v) :: lv.filter (fun q => !(q.1 == i) && !(q.1 + 1 == i && q.2.category == 2)) = lv') (k : TT p l e R s m args below meth c D cy ad A nL cells slots Q σ pc' lv' st) : TT p l e R s m args below meth c D cy ad A nL cells slots Q σ pc lv st := by
  subst hp
  intro H locs ls hP hS hl
  exact lv_iinc C.1 C.2.1 hdg hl hj hv hn hl0 (fun ls' hl' => k H locs ls' hP hS hl')
theorem tg_iadd (C : Cx p s m args c cc nL own Ts D cy ad A) {x y : Int32} (z : Int32) (hdg : decode cc pc = .ok (.iadd, 1)) (pc' : Nat) (hp : pc + 1 = pc') (hz : x + y = z) (k : TT p l e R s m args below meth c D cy ad A nL cells slots Q σ pc' lv (.int z :: st)) : TT p l e R s m args below meth c D cy ad A nL cells slots Q σ pc lv (.int y :: .int x :: st) := by
  subst hp
  subst hz
  intro H locs ls hP hS hl
  exact lv_iadd C.1 C.2.1 hdg (k H locs ls hP hS hl)
theorem tg_isub (C : Cx p s m args c cc nL own Ts D cy ad A) {x y : Int32} (z : Int32) (hdg : decode cc pc = .ok (.isub, 1)) (pc' : Nat) (hp : pc + 1 = pc') (hz : x - y = z) (k : TT p l e R s m args below meth c D cy ad A nL cells slots Q σ pc' lv (.int z :: st)) : TT p l e R s m args below meth c D cy ad A nL cells slots Q σ pc lv (.int y :: .int x :: st) := by
  subst hp
  subst hz
  intro H locs ls hP hS hl
  exact lv_isub C.1 C.2.1 hdg (k H locs ls hP hS hl)
theorem tg_imul (C : Cx p s m args c cc nL own Ts D cy ad A) {x y : Int32} (z : Int32) (hdg : decode cc pc = .ok (.imul, 1)) (pc' : Nat) (hp : pc + 1 = pc') (hz : x * y = z) (k : TT p l e R s m args below meth c D cy ad A nL cells slots Q σ pc' lv (.int z :: st)) : TT p l e R s m args below meth c D cy ad A nL cells slots Q σ pc lv (.int y :: .int x :: st) := by
  subst hp
  subst hz
  intro H locs ls hP hS hl
  exact lv_imul C.1 C.2.1 hdg (k H locs ls hP hS hl)
theorem tg_iand (C : Cx p s m args c cc nL own Ts D cy ad A) {x y : Int32} (z : Int32) (hdg : decode cc pc = .ok (.iand, 1)) (pc' : Nat) (hp : pc + 1 = pc') (hz : x &&& y = z) (k : TT p l e R s m args below meth c D cy ad A nL cells slots Q σ pc' lv (.int z :: st)) : TT p l e R s m args below meth c D cy ad A nL cells slots Q σ pc lv (.int y :: .int x :: st) := by
  subst hp
  subst hz
  intro H locs ls hP hS hl
  exact lv_iand C.1 C.2.1 hdg (k H locs ls hP hS hl)
theorem tg_dup (C : Cx p s m args c cc nL own Ts D cy ad A) {v : Value} (hdg : decode cc pc = .ok (.dup, 1)) (pc' : Nat) (hp : pc + 1 = pc') (hc : v.category = 1) (k : TT p l e R s m args below meth c D cy ad A nL cells slots Q σ pc' lv (v :: v :: st)) : TT p l e R s m args below meth c D cy ad A nL cells slots Q σ pc lv (v :: st) := by
  subst hp
  intro H locs ls hP hS hl
  exact lv_dup C.1 C.2.1 hdg hc (k H locs ls hP hS hl)
theorem tg_pop (C : Cx p s m args c cc nL own Ts D cy ad A) {v : Value} (hdg : decode cc pc = .ok (.pop, 1)) (pc' : Nat) (hp : pc + 1 = pc') (hc : v.category = 1) (k : TT p l e R s m args below meth c D cy ad A nL cells slots Q σ pc' lv st) : TT p l e R s m args below meth c D cy ad A nL cells slots Q σ pc lv (v :: st) := by
  subst hp
  intro H locs ls hP hS hl
  exact lv_pop C.1 C.2.1 hdg hc (k H locs ls hP hS hl)
theorem tg_dup2 (C : Cx p s m args c cc nL own Ts D cy ad A) {v w : Value} (hdg : decode cc pc = .ok (.dup2, 1)) (pc' : Nat) (hp : pc + 1 = pc') (hc : v.category = 1) (hd : w.category = 1) (k : TT p l e R s m args below meth c D cy ad A nL cells slots Q σ pc' lv (v :: w :: v :: w :: st)) : TT p l e R s m args below meth c D cy ad A nL cells slots Q σ pc lv (v :: w :: st) := by
  subst hp
  intro H locs ls hP hS hl
  exact lv_dup2_11 C.1 C.2.1 hdg hc hd (k H locs ls hP hS hl)
theorem tg_i2l (C : Cx p s m args c cc nL own Ts D cy ad A) {x : Int32} (hdg : decode cc pc = .ok (.i2l, 1)) (pc' : Nat) (hp : pc + 1 = pc')  (k : TT p l e R s m args below meth c D cy ad A nL cells slots Q σ pc' lv (.long x.toInt64 :: st)) : TT p l e R s m args below meth c D cy ad A nL cells slots Q σ pc lv (.int x :: st) := by
  subst hp
  intro H locs ls hP hS hl
  exact lv_i2l C.1 C.2.1 hdg rfl (k H locs ls hP hS hl)
theorem tg_i2c (C : Cx p s m args c cc nL own Ts D cy ad A) {x : Int32} (hdg : decode cc pc = .ok (.i2c, 1)) (pc' : Nat) (hp : pc + 1 = pc')  (k : TT p l e R s m args below meth c D cy ad A nL cells slots Q σ pc' lv (.int (x.toUInt32 % 65536).toInt32 :: st)) : TT p l e R s m args below meth c D cy ad A nL cells slots Q σ pc lv (.int x :: st) := by
  subst hp
  intro H locs ls hP hS hl
  exact lv_i2c C.1 C.2.1 hdg rfl (k H locs ls hP hS hl)
theorem tg_lcmp (C : Cx p s m args c cc nL own Ts D cy ad A) {x y : Int64} (hdg : decode cc pc = .ok (.lcmp, 1)) (pc' : Nat) (hp : pc + 1 = pc')  (k : TT p l e R s m args below meth c D cy ad A nL cells slots Q σ pc' lv (.int (lg_cmp x y) :: st)) : TT p l e R s m args below meth c D cy ad A nL cells slots Q σ pc lv (.long y :: .long x :: st) := by
  subst hp
  intro H locs ls hP hS hl
  exact W.lcmp C.1 C.2.1 hdg (k H locs ls hP hS hl)
theorem tg_goto (C : Cx p s m args c cc nL own Ts D cy ad A) {off : Int} (tgt : Nat) (hdg : decode cc pc = .ok (.goto off, 3)) (ht : (pc : Int) + off = (tgt : Int)) (k : TT p l e R s m args below meth c D cy ad A nL cells slots Q σ tgt lv st) : TT p l e R s m args below meth c D cy ad A nL cells slots Q σ pc lv st := fun H locs ls hP hS hl => lv_goto C.1 C.2.1 hdg ht (k H locs ls hP hS hl)
theorem tg_icmp_eq (C : Cx p s m args c cc nL own Ts D cy ad A) {x y : Int32} {off : Int} (tgt : Nat) (hdg : decode cc pc = .ok (.if_icmp .eq off, 3)) (ht : (pc : Int) + off = (tgt : Int)) (pc' : Nat) (hp : pc + 3 = pc') (kt : x = y → TT p l e R s m args below meth c D cy ad A nL cells slots Q σ tgt lv st) (kf : ¬ x = y → TT p l e R s m args below meth c D cy ad A nL cells slots Q σ pc' lv st) : TT p l e R s m args below meth c D cy ad A nL cells slots Q σ pc lv (.int y :: .int x :: st) := by
  subst hp
  intro H locs ls hP hS hl
  exact lv_icmp_eq C.1 C.2.1 hdg ht (fun h => kt h H locs ls hP hS hl) (fun h => kf h H locs ls hP hS hl)
theorem tg_icmp_lt (C : Cx p s m args c cc nL own Ts D cy ad A) {x y : Int32} {off : Int} (tgt : Nat) (hdg : decode cc pc = .ok (.if_icmp .lt off, 3)) (ht : (pc : Int) + off = (tgt : Int)) (pc' : Nat) (hp : pc + 3 = pc') (kt : x < y → TT p l e R s m args below meth c D cy ad A nL cells slots Q σ tgt lv st) (kf : ¬ x < y → TT p l e R s m args below meth c D cy ad A nL cells slots Q σ pc' lv st) : TT p l e R s m args below meth c D cy ad A nL cells slots Q σ pc lv (.int y :: .int x :: st) := by
  subst hp
  intro H locs ls hP hS hl
  exact lv_icmp_lt C.1 C.2.1 hdg ht (fun h => kt h H locs ls hP hS hl) (fun h => kf h H locs ls hP hS hl)
theorem tg_icmp_ge (C : Cx p s m args c cc nL own Ts D cy ad A) {x y : Int32} {off : Int} (tgt : Nat) (hdg : decode cc pc = .ok (.if_icmp .ge off, 3)) (ht : (pc : Int) + off = (tgt : Int)) (pc' : Nat) (hp : pc + 3 = pc') (kt : y ≤ x → TT p l e R s m args below meth c D cy ad A nL cells slots Q σ tgt lv st) (kf : ¬ y ≤ x → TT p l e R s m args below meth c D cy ad A nL cells slots Q σ pc' lv st) : TT p l e R s m args below meth c D cy ad A nL cells slots Q σ pc lv (.int y :: .int x :: st) := by
  subst hp
  intro H locs ls hP hS hl
  exact lv_icmp_ge C.1 C.2.1 hdg ht (fun h => kt h H locs ls hP hS hl) (fun h => kf h H locs ls hP hS hl)
theorem tg_icmp_gt (C : Cx p s m args c cc nL own Ts D cy ad A) {x y : Int32} {off : Int} (tgt : Nat) (hdg : decode cc pc = .ok (.if_icmp .gt off, 3)) (ht : (pc : Int) + off = (tgt : Int)) (pc' : Nat) (hp : pc + 3 = pc') (kt : y < x → TT p l e R s m args below meth c D cy ad A nL cells slots Q σ tgt lv st) (kf : ¬ y < x → TT p l e R s m args below meth c D cy ad A nL cells slots Q σ pc' lv st) : TT p l e R s m args below meth c D cy ad A nL cells slots Q σ pc lv (.int y :: .int x :: st) := by
  subst hp
  intro H locs ls hP hS hl
  exact lv_icmp_gt C.1 C.2.1 hdg ht (fun h => kt h H locs ls hP hS hl) (fun h => kf h H locs ls hP hS hl)
theorem tg_icmp_le (C : Cx p s m args c cc nL own Ts D cy ad A) {x y : Int32} {off : Int} (tgt : Nat) (hdg : decode cc pc = .ok (.if_icmp .le off, 3)) (ht : (pc : Int) + off = (tgt : Int)) (pc' : Nat) (hp : pc + 3 = pc') (kt : x ≤ y → TT p l e R s m args below meth c D cy ad A nL cells slots Q σ tgt lv st) (kf : ¬ x ≤ y → TT p l e R s m args below meth c D cy ad A nL cells slots Q σ pc' lv st) : TT p l e R s m args below meth c D cy ad A nL cells slots Q σ pc lv (.int y :: .int x :: st) := by
  subst hp
  intro H locs ls hP hS hl
  exact lv_icmp_le C.1 C.2.1 hdg ht (fun h => kt h H locs ls hP hS hl) (fun h => kf h H locs ls hP hS hl)
theorem tg_icmp_ne (C : Cx p s m args c cc nL own Ts D cy ad A) {x y : Int32} {off : Int} (tgt : Nat) (hdg : decode cc pc = .ok (.if_icmp .ne off, 3)) (ht : (pc : Int) + off = (tgt : Int)) (pc' : Nat) (hp : pc + 3 = pc') (kt : ¬ x = y → TT p l e R s m args below meth c D cy ad A nL cells slots Q σ tgt lv st) (kf : x = y → TT p l e R s m args below meth c D cy ad A nL cells slots Q σ pc' lv st) : TT p l e R s m args below meth c D cy ad A nL cells slots Q σ pc lv (.int y :: .int x :: st) := by
  subst hp
  intro H locs ls hP hS hl
  exact lv_icmp_ne C.1 C.2.1 hdg ht (fun h => kt h H locs ls hP hS hl) (fun h => kf h H locs ls hP hS hl)
theorem tg_if_eq (C : Cx p s m args c cc nL own Ts D cy ad A) {x : Int32} {off : Int} (tgt : Nat) (hdg : decode cc pc = .ok (.ifCond .eq off, 3)) (ht : (pc : Int) + off = (tgt : Int)) (pc' : Nat) (hp : pc + 3 = pc') (kt : x = 0 → TT p l e R s m args below meth c D cy ad A nL cells slots Q σ tgt lv st) (kf : ¬ x = 0 → TT p l e R s m args below meth c D cy ad A nL cells slots Q σ pc' lv st) : TT p l e R s m args below meth c D cy ad A nL cells slots Q σ pc lv (.int x :: st) := by
  subst hp
  intro H locs ls hP hS hl
  exact lv_if_eq C.1 C.2.1 hdg ht (fun h => kt h H locs ls hP hS hl) (fun h => kf h H locs ls hP hS hl)
theorem tg_if_lt (C : Cx p s m args c cc nL own Ts D cy ad A) {x : Int32} {off : Int} (tgt : Nat) (hdg : decode cc pc = .ok (.ifCond .lt off, 3)) (ht : (pc : Int) + off = (tgt : Int)) (pc' : Nat) (hp : pc + 3 = pc') (kt : x < 0 → TT p l e R s m args below meth c D cy ad A nL cells slots Q σ tgt lv st) (kf : ¬ x < 0 → TT p l e R s m args below meth c D cy ad A nL cells slots Q σ pc' lv st) : TT p l e R s m args below meth c D cy ad A nL cells slots Q σ pc lv (.int x :: st) := by
  subst hp
  intro H locs ls hP hS hl
  exact lv_if_lt C.1 C.2.1 hdg ht (fun h => kt h H locs ls hP hS hl) (fun h => kf h H locs ls hP hS hl)
theorem tg_if_ge (C : Cx p s m args c cc nL own Ts D cy ad A) {x : Int32} {off : Int} (tgt : Nat) (hdg : decode cc pc = .ok (.ifCond .ge off, 3)) (ht : (pc : Int) + off = (tgt : Int)) (pc' : Nat) (hp : pc + 3 = pc') (kt : 0 ≤ x → TT p l e R s m args below meth c D cy ad A nL cells slots Q σ tgt lv st) (kf : ¬ 0 ≤ x → TT p l e R s m args below meth c D cy ad A nL cells slots Q σ pc' lv st) : TT p l e R s m args below meth c D cy ad A nL cells slots Q σ pc lv (.int x :: st) := by
  subst hp
  intro H locs ls hP hS hl
  exact lv_if_ge C.1 C.2.1 hdg ht (fun h => kt h H locs ls hP hS hl) (fun h => kf h H locs ls hP hS hl)
theorem tg_if_gt (C : Cx p s m args c cc nL own Ts D cy ad A) {x : Int32} {off : Int} (tgt : Nat) (hdg : decode cc pc = .ok (.ifCond .gt off, 3)) (ht : (pc : Int) + off = (tgt : Int)) (pc' : Nat) (hp : pc + 3 = pc') (kt : 0 < x → TT p l e R s m args below meth c D cy ad A nL cells slots Q σ tgt lv st) (kf : ¬ 0 < x → TT p l e R s m args below meth c D cy ad A nL cells slots Q σ pc' lv st) : TT p l e R s m args below meth c D cy ad A nL cells slots Q σ pc lv (.int x :: st) := by
  subst hp
  intro H locs ls hP hS hl
  exact lv_if_gt C.1 C.2.1 hdg ht (fun h => kt h H locs ls hP hS hl) (fun h => kf h H locs ls hP hS hl)
theorem tg_if_le (C : Cx p s m args c cc nL own Ts D cy ad A) {x : Int32} {off : Int} (tgt : Nat) (hdg : decode cc pc = .ok (.ifCond .le off, 3)) (ht : (pc : Int) + off = (tgt : Int)) (pc' : Nat) (hp : pc + 3 = pc') (kt : x ≤ 0 → TT p l e R s m args below meth c D cy ad A nL cells slots Q σ tgt lv st) (kf : ¬ x ≤ 0 → TT p l e R s m args below meth c D cy ad A nL cells slots Q σ pc' lv st) : TT p l e R s m args below meth c D cy ad A nL cells slots Q σ pc lv (.int x :: st) := by
  subst hp
  intro H locs ls hP hS hl
  exact lv_if_le C.1 C.2.1 hdg ht (fun h => kt h H locs ls hP hS hl) (fun h => kf h H locs ls hP hS hl)
theorem tg_if_ne (C : Cx p s m args c cc nL own Ts D cy ad A) {x : Int32} {off : Int} (tgt : Nat) (hdg : decode cc pc = .ok (.ifCond .ne off, 3)) (ht : (pc : Int) + off = (tgt : Int)) (pc' : Nat) (hp : pc + 3 = pc') (kt : ¬ x = 0 → TT p l e R s m args below meth c D cy ad A nL cells slots Q σ tgt lv st) (kf : x = 0 → TT p l e R s m args below meth c D cy ad A nL cells slots Q σ pc' lv st) : TT p l e R s m args below meth c D cy ad A nL cells slots Q σ pc lv (.int x :: st) := by
  subst hp
  intro H locs ls hP hS hl
  exact lv_if_ne C.1 C.2.1 hdg ht (fun h => kt h H locs ls hP hS hl) (fun h => kf h H locs ls hP hS hl)
theorem tg_sub {lv' : List (Nat × Value)} (ks : List Nat) (hl0 : lv_pick lv ks = lv') (k : TT p l e R s m args below meth c D cy ad A nL cells slots Q σ pc lv' st) : TT p l e R s m args below meth c D cy ad A nL cells slots Q σ pc lv st := fun H locs ls hP hS hl => k H locs ls hP hS (lv_sub hl ks hl0)
theorem tg_widen {k n : Nat} (h1 : cells ≤ k) (h2 : slots ≤ n) (kk : TT p l e R s m args below meth c D cy ad A nL k n Q σ pc lv st) : TT p l e R s m args below meth c D cy ad A nL cells slots Q σ pc lv st := fun H locs ls hP hS hl => W.widen h1 h2 (kk H locs ls hP hS hl)
theorem tg_get (C : Cx p s m args c cc nL own Ts D cy ad A) {ci N : Nat} {Cn ref : String} {T : u_T} (i : Nat) {fs : List Value} {v : Value} {index : Nat} (hi : i < 89) (he : ent ad cy i (σ i) = .inr (ci, fs)) (hc : vwCl[ci]? = some (Cn, T, N)) (hin : ∀ w ∈ u_ws Cn T N, w ∈ Ts) (k : Nat) (hk : k < N) (hlink : Cond.fieldLink own index ref (T k).2.1 (T k).2.2.1 ∈ Ts) (hsame : (T k).1 = ref) (hv : fs[k]? = some v) (hdg : decode cc pc = .ok (.getfield index, 3)) (pc' : Nat) (hp : pc + 3 = pc') (kk : TT p l e R s m args below meth c D cy ad A nL cells slots Q σ pc' lv (v :: st)) : TT p l e R s m args below meth c D cy ad A nL cells slots Q σ pc lv (.ref (ad i) :: st) := by
  subst hp
  intro H locs ls hP hS hl
  exact va_get (own := own) (C := Cn) (T := T) (N := N) (ci := ci) (Ts := Ts) C.1 C.2.1 C.2.2.2.2.1 hin C.2.2.2.1 C.2.2.2.2.2.1 hP i (by rw [wld_at _ _ _ hi, he]) hc k hk (C.2.2.2.2.1 _ hlink) (fun _ h9 => by rw [hsame] at h9; exact h9) hv hdg (kk H locs ls hP hS hl)
theorem tg_put (C : Cx p s m args c cc nL own Ts D cy ad A) {ci N : Nat} {Cn ref : String} {T : u_T} (ty0 : Nat → FieldType) (hty : ∀ k, k < N → parseFieldDescriptor (T k).2.2.1 = some (ty0 k)) (hnm : ∀ a, a < N → ∀ b, b < N → a ≠ b → (T a).2.1 ≠ (T b).2.1) (i : Nat) {fs : List Value} {x : Int32} {index : Nat} (hi : i < 89) (he : ent ad cy i (σ i) = .inr (ci, fs)) (hc : vwCl[ci]? = some (Cn, T, N)) (hin : ∀ w ∈ u_ws Cn T N, w ∈ Ts) (k : Nat) (hk : k < N) (hlink : Cond.fieldLink own index ref (T k).2.1 (T k).2.2.1 ∈ Ts) (hsame : (T k).1 = ref) (hfin : (T k).2.2.2 = false) (hd : parseFieldDescriptor (T k).2.2.1 = some .int) (hl9 : k < fs.length) (he2 : ent ad cy i (upd (σ i) k x) = .inr (ci, fs.set k (.int x))) (hdg : decode cc pc = .ok (.putfield index, 3)) (pc' : Nat) (hp : pc + 3 = pc') (kk : TT p l e R s m args below meth c D cy ad A nL cells slots Q (su σ i k x) pc' lv st) : TT p l e R s m args below meth c D cy ad A nL cells slots Q σ pc lv (.int x :: .ref (ad i) :: st) := by
  subst hp
  intro H locs ls hP hS hl
  refine va_put (own := own) (C := Cn) (T := T) (N := N) (ci := ci) (Ts := Ts) (ty := .int) C.1 C.2.1 C.2.2.2.2.1 hin ty0 hty hnm C.2.2.2.1 C.2.2.2.2.2.1 hP (C.2.2.2.2.2.2.1.D C.2.2.2.2.2.2.2.1 cy σ) hS i (by rw [wld_at _ _ _ hi, he]) hc k hk (C.2.2.2.2.1 _ hlink) (fun _ h9 => by rw [hsame] at h9; exact h9) hfin hd rfl rfl hl9 hdg (fun H1 locs1 hP1 _ hS1 => kk H1 locs1 ls ?_ hS1 hl)
  rw [← he2, wld_set] at hP1
  exact hP1
theorem tg_iald (C : Cx p s m args c cc nL own Ts D cy ad A) (i : Nat) {n : Nat} {x : Int32} (hi : i < 89) (he : ent ad cy i (σ i) = .inl (cy 0, n, .inl (σ i))) (j : Nat) (hx : x = nI j) (hj : j < n) (hn : n < 1000) (hdg : decode cc pc = .ok (.iaload, 1)) (pc' : Nat) (hp : pc + 1 = pc') (kk : TT p l e R s m args below meth c D cy ad A nL cells slots Q σ pc' lv (.int (σ i j) :: st)) : TT p l e R s m args below meth c D cy ad A nL cells slots Q σ pc lv (.int x :: .ref (ad i) :: st) := by
  subst hp
  subst hx
  intro H locs ls hP hS hl
  refine va_iald C.1 C.2.1 C.2.2.2.2.2.1 hP i 0 (by rw [wld_at _ _ _ hi, he]) rfl (vp_in_nI hj (by omega)) hdg ?_
  rw [nI_clamp (by omega)]
  exact kk H locs ls hP hS hl
theorem tg_iast (C : Cx p s m args c cc nL own Ts D cy ad A) (i : Nat) {n : Nat} {x v : Int32} (hi : i < 89) (he : ∀ f, ent ad cy i f = .inl (cy 0, n, .inl f)) (j : Nat) (hx : x = nI j) (hj : j < n) (hn : n < 1000) (hdg : decode cc pc = .ok (.iastore, 1)) (pc' : Nat) (hp : pc + 1 = pc') (kk : TT p l e R s m args below meth c D cy ad A nL cells slots Q (su σ i j v) pc' lv st) : TT p l e R s m args below meth c D cy ad A nL cells slots Q σ pc lv (.int v :: .int x :: .ref (ad i) :: st) := by
  subst hp
  subst hx
  intro H locs ls hP hS hl
  refine va_iast C.1 C.2.1 C.2.2.2.2.2.1 hP (C.2.2.2.2.2.2.1.D C.2.2.2.2.2.2.2.1 cy σ) hS i 0 (by rw [wld_at _ _ _ hi, he]) rfl (vp_in_nI hj (by omega)) hdg (fun H1 locs1 hP1 _ hS1 => kk H1 locs1 ls ?_ hS1 hl)
  rw [← he, wld_set, nI_clamp (by omega)] at hP1
  exact hP1
theorem tg_aald (C : Cx p s m args c cc nL own Ts D cy ad A) (i : Nat) {n b : Nat} (t0 : Nat) {cA : ClassId} {ty : FieldType} {x : Int32} (hi : i < 89) (he : ent ad cy i (σ i) = .inl (cA, n, .inr (.inr (.inr (.inr (fun t => some (ad (b + t)))))))) (ht : (tysO cy)[t0]? = some (cA, ty)) (hty : ty.isReference = true) (j : Nat) (hx : x = nI j) (hj : j < n) (hn : n < 1000) (hdg : decode cc pc = .ok (.aaload, 1)) (pc' : Nat) (hp : pc + 1 = pc') (kk : TT p l e R s m args below meth c D cy ad A nL cells slots Q σ pc' lv (.ref (ad (b + j)) :: st)) : TT p l e R s m args below meth c D cy ad A nL cells slots Q σ pc lv (.int x :: .ref (ad i) :: st) := by
  subst hp
  subst hx
  intro H locs ls hP hS hl
  have hin : vp_in (nI j) n := vp_in_nI hj (by omega)
  have h0 := hP i _ (wld_at ad cy σ hi)
  rw [he] at h0
  exact W.aald (v := .ref (ad (b + j))) (ty := ty) C.1 C.2.1 h0 ((C.2.2.2.2.2.1.2 t0 _ ht).1 n (fun t => va_rf (some (ad (b + t))))) hty (fun q => by cases q) (by show ¬ (nI j < 0 ∨ (arrV _ _ _).slots.size ≤ _); rw [arrV_size]; exact hin) (by show (arrV _ _ _).slots[_]? = _; rw [nI_clamp (by omega), arrV_read _ _ hj]; rfl) rfl rfl hdg (kk H locs ls hP hS hl)

/-! contracts over the whole world: start in σ, end in some σ' -/
def Pr (D : va_G) (cy : Nat → ClassId) (ad : Nat → Nat) (a : List Value) (σ : sS) (sz : Nat) : Array Value → State → Prop := va_Pc a (fun U => U.heap.size = sz ∧ va_P D vwCl (wld ad cy σ) U.heap ∧ va_K D vwCl (tysO cy) U)
def Bw (D : va_G) (cy : Nat → ClassId) (ad : Nat → Nat) (σ : sS) (t : State) : Prop := va_P D vwCl (wld ad cy σ) t.heap ∧ va_K D vwCl (tysO cy) t
abbrev Rm (fr lo : Nat) : Room := { frames := fr, cells := 0, slots := 0, locals := lo }
/-- a method that answers an int (or a truth value) -/
def Mi (l : Launch) (y : MethodName) (ws : List Cond) (fr lo : Nat) (D : va_G) (cy : Nat → ClassId) (ad : Nat → Nat) (a : List Value) (σ : sS) (post : Int32 → sS → Prop) : Prop := ∀ sz, Met l y ws (Rm fr lo) (Pr D cy ad a σ sz) (va_Qi post (Bw D cy ad) (Aw ad sz)) 0 0 (Aw ad sz)
/-- a method without an answer -/
def Mv (l : Launch) (y : MethodName) (ws : List Cond) (fr lo : Nat) (D : va_G) (cy : Nat → ClassId) (ad : Nat → Nat) (a : List Value) (σ : sS) (post : sS → Prop) : Prop := ∀ sz, Met l y ws (Rm fr lo) (Pr D cy ad a σ sz) (va_Qv post (Bw D cy ad) (Aw ad sz)) 0 0 (Aw ad sz)
theorem Pr.blind {a : List Value} {sz : Nat} : FrameBlind (Pr D cy ad a σ sz) := fun a U g mk q => by
  obtain ⟨q0, q1, qP, qK⟩ := q
  exact ⟨q0, q1, qP, va_K.moved (u := U) (U := U.calling g mk a) (Vm.Alike.refl U.vm) qK⟩
theorem Aw.cx (C : Cx p s m args c cc nL own Ts D cy ad A) {sz q : Nat} (hs : s.heap.size ≤ sz) (h : Aw ad sz q) : A q := by
  rcases h with ⟨i, hi, rfl⟩ | h
  · exact C.2.2.2.2.2.2.2.1 i hi
  · exact C.2.2.2.2.2.2.2.2 q (Nat.le_trans hs h)
theorem Mi.of0 {y : MethodName} {ws ws' : List Cond} {fr lo : Nat} {a : List Value} {Qc : Array Value → State → Outcome → State → Prop} {sz : Nat} {ret : Option FieldType} (hDis : Dis ad) (hy : plainName y.cls = true) (hw : ws = Cond.code y cc nL ret :: ws') (lv0 : List (Nat × Value)) (hlv : lv_args 0 a = lv0) (hle : (lg_sl a).length ≤ nL) (hown : y.cls = own)
    (body : ∀ (p : Program) (e : Env) (s : State) (m : MethodId) (below : List Frame) (meth : Method) (c : Code), s.heap.size = sz → Cx p s m a.toArray c cc nL own ws D cy ad (Aw ad sz) → meth.sig.returnType = ret → meth.locks = false → TT p l e (Rm fr lo) s m a.toArray below meth c D cy ad (Aw ad sz) nL 0 0 (MQ below Qc a.toArray s 0 0 (Aw ad sz)) σ 0 lv0 []) : Met l y ws (Rm fr lo) (Pr D cy ad a σ sz) Qc 0 0 (Aw ad sz) := by
  refine Met.ofW (cc := cc) (maxL := nL) (ret := ret) hy hw ?_
  intro p e s m args below meth c s₁ B hml hv
  obtain ⟨rfl, hsz, hP, hK⟩ := hv
  have hts := atoms_spec (ws := ws) B.pre
  have hown' : s.vm.findClass own = some m.cls := hown ▸ findClass_of_methodNamed B.named
  rw [lg_entry_eq]
  exact body p e s m below meth c hsz ⟨B.exec, B.bytes, hml, hown', hts, hK, hDis, fun i hi => Or.inl ⟨i, hi, rfl⟩, fun q hq => Or.inr (hsz ▸ hq)⟩ B.returns B.notSynchronized s.heap [] _ hP va_S.rf (hlv ▸ lv_entry a hle)
theorem tg_iret (C : Cx p s m args c cc nL own Ts D cy ad A) {post : Int32 → sS → Prop} {v : Int32} (hr : meth.sig.returnType = some .int) (hlk : meth.locks = false) (hdg : decode cc pc = .ok (.ireturn, 1)) (hpost : post v σ) : TT p l e R s m args below meth c D cy ad A nL cells slots (MQ below (va_Qi post (Bw D cy ad) A) args s cells slots A) σ pc lv [.int v] := by
  intro H locs ls hP hS hl
  exact W.iret (v := v) C.1 C.2.1 hr (fun t ht hW => ⟨⟨v, σ, rfl, hpost, by rw [ht]; exact hP, va_K.moved hW.alike C.2.2.2.2.2.1⟩, hS.F ht⟩) hS.2.2 hdg hlk
theorem tg_zret (C : Cx p s m args c cc nL own Ts D cy ad A) {post : Int32 → sS → Prop} {v : Int32} (hr : meth.sig.returnType = some .boolean) (hlk : meth.locks = false) (hn : narrow .boolean (.int v) = .int v) (hdg : decode cc pc = .ok (.ireturn, 1)) (hpost : post v σ) : TT p l e R s m args below meth c D cy ad A nL cells slots (MQ below (va_Qi post (Bw D cy ad) A) args s cells slots A) σ pc lv [.int v] := by
  intro H locs ls hP hS hl
  exact W.zret (v := v) (ty := .boolean) C.1 C.2.1 hr hn (fun t ht hW => ⟨⟨v, σ, rfl, hpost, by rw [ht]; exact hP, va_K.moved hW.alike C.2.2.2.2.2.1⟩, hS.F ht⟩) hS.2.2 hdg hlk
theorem tg_vret (C : Cx p s m args c cc nL own Ts D cy ad A) {post : sS → Prop} (hr : meth.sig.returnType = none) (hlk : meth.locks = false) (hdg : decode cc pc = .ok (.return_, 1)) (hpost : post σ) : TT p l e R s m args below meth c D cy ad A nL cells slots (MQ below (va_Qv post (Bw D cy ad) A) args s cells slots A) σ pc lv [] := by
  intro H locs ls hP hS hl
  exact W.vret C.1 C.2.1 hr (fun t ht hW => ⟨⟨σ, rfl, hpost, by rw [ht]; exact hP, va_K.moved hW.alike C.2.2.2.2.2.1⟩, hS.F ht⟩) hS.2.2 hdg hlk

theorem tg_callVi (C : Cx p s m args c cc nL own Ts D cy ad A) {y : MethodName} {ws : List Cond} {fr lo index maxL n : Nat} {bytes : ByteArray} {ret : Option FieldType} (i : Nat) {ci N : Nat} {Cn : String} {T : u_T} {fs : List Value} (hi : i < 89) (he : ent ad cy i (σ i) = .inr (ci, fs)) (hc : vwCl[ci]? = some (Cn, T, N)) {As : List Value} {post : Int32 → sS → Prop} (hM : Mi l y ws fr lo D cy ad (Value.ref (ad i) :: As) σ post) (cw : CallW R s args own Cn index y bytes maxL ret ws (Rm fr lo) 0 0 n) (hn : As.length = n) {stk : List Value} (hst : stk = As.reverse ++ .ref (ad i) :: st) (hcat : (st.map fun v => v.category).sum ≤ 8) (hcl : cells ≤ R.cells ∧ slots ≤ R.slots) (hdg : decode cc pc = .ok (.invokevirtual index, 3)) (pc' : Nat) (hp : pc + 3 = pc')
    (kk : ∀ (r : Int32) (τ : sS), post r τ → TT p l e R s m args below meth c D cy ad A nL cells slots Q τ pc' lv (.int r :: st)) : TT p l e R s m args below meth c D cy ad A nL cells slots Q σ pc lv stk := by
  subst hp
  subst hst
  intro H locs ls hP hS hl
  exact va_calli (va_runV (As := As) (rest := st) ⟨C.1, C.2.1, C.2.2.1, C.2.2.2.1, C.2.2.2.2.1⟩ (hM H.size) cw ⟨Pr.blind, va_recv C.2.2.2.2.2.1 hP hc (q0 := i) (by rw [wld_at _ _ _ hi, he]), fun U hU hW => ⟨rfl, by rw [hU], by rw [hU]; exact hP, va_K.moved hW.alike C.2.2.2.2.2.1⟩⟩ rfl hn hl.1 rfl (lv_room hcat) hdg hcl) hS (fun q _ h => Aw.cx C hS.1 h) (fun q h => Aw.cx C hS.1 h) (fun r u t H1 locs1 ht hvm hw hB _ _ hS1 => kk r u hw H1 locs1 ls (by rw [← ht]; exact hB.1) hS1 hl)
theorem tg_callVv (C : Cx p s m args c cc nL own Ts D cy ad A) {y : MethodName} {ws : List Cond} {fr lo index maxL n : Nat} {bytes : ByteArray} {ret : Option FieldType} (i : Nat) {ci N : Nat} {Cn : String} {T : u_T} {fs : List Value} (hi : i < 89) (he : ent ad cy i (σ i) = .inr (ci, fs)) (hc : vwCl[ci]? = some (Cn, T, N)) {As : List Value} {post : sS → Prop} (hM : Mv l y ws fr lo D cy ad (Value.ref (ad i) :: As) σ post) (cw : CallW R s args own Cn index y bytes maxL ret ws (Rm fr lo) 0 0 n) (hn : As.length = n) {stk : List Value} (hst : stk = As.reverse ++ .ref (ad i) :: st) (hcat : (st.map fun v => v.category).sum ≤ 8) (hcl : cells ≤ R.cells ∧ slots ≤ R.slots) (hdg : decode cc pc = .ok (.invokevirtual index, 3)) (pc' : Nat) (hp : pc + 3 = pc')
    (kk : ∀ (τ : sS), post τ → TT p l e R s m args below meth c D cy ad A nL cells slots Q τ pc' lv st) : TT p l e R s m args below meth c D cy ad A nL cells slots Q σ pc lv stk := by
  subst hp
  subst hst
  intro H locs ls hP hS hl
  exact va_callv (va_runV (As := As) (rest := st) ⟨C.1, C.2.1, C.2.2.1, C.2.2.2.1, C.2.2.2.2.1⟩ (hM H.size) cw ⟨Pr.blind, va_recv C.2.2.2.2.2.1 hP hc (q0 := i) (by rw [wld_at _ _ _ hi, he]), fun U hU hW => ⟨rfl, by rw [hU], by rw [hU]; exact hP, va_K.moved hW.alike C.2.2.2.2.2.1⟩⟩ rfl hn hl.1 rfl (lv_room hcat) hdg hcl) hS (fun q _ h => Aw.cx C hS.1 h) (fun q h => Aw.cx C hS.1 h) (fun u t H1 locs1 ht hvm hw hB _ _ hS1 => kk u hw H1 locs1 ls (by rw [← ht]; exact hB.1) hS1 hl)
theorem tg_callSi (C : Cx p s m args c cc nL own Ts D cy ad A) {y : MethodName} {ws : List Cond} {fr lo index maxL n : Nat} {bytes : ByteArray} {ret : Option FieldType} {As : List Value} {post : Int32 → sS → Prop} (hM : Mi l y ws fr lo D cy ad As σ post) (cw : CallB R s args own index y bytes maxL ret ws (Rm fr lo) 0 0 n ∧ (Cond.static y).before args s = true) (hn : As.length = n) {stk : List Value} (hst : stk = As.reverse ++ st) (hcat : (st.map fun v => v.category).sum ≤ 8) (hcl : cells ≤ R.cells ∧ slots ≤ R.slots) (hdg : decode cc pc = .ok (.invokestatic index, 3)) (pc' : Nat) (hp : pc + 3 = pc')
    (kk : ∀ (r : Int32) (τ : sS), post r τ → TT p l e R s m args below meth c D cy ad A nL cells slots Q τ pc' lv (.int r :: st)) : TT p l e R s m args below meth c D cy ad A nL cells slots Q σ pc lv stk := by
  subst hp
  subst hst
  intro H locs ls hP hS hl
  exact va_calli (va_runS (As := As) (rest := st) ⟨C.1, C.2.1, C.2.2.1, C.2.2.2.1, C.2.2.2.2.1⟩ (hM H.size) cw ⟨Pr.blind, fun U hU hW => ⟨rfl, by rw [hU], by rw [hU]; exact hP, va_K.moved hW.alike C.2.2.2.2.2.1⟩⟩ rfl hn hl.1 rfl (lv_room hcat) hdg hcl) hS (fun q _ h => Aw.cx C hS.1 h) (fun q h => Aw.cx C hS.1 h) (fun r u t H1 locs1 ht hvm hw hB _ _ hS1 => kk r u hw H1 locs1 ls (by rw [← ht]; exact hB.1) hS1 hl)
theorem tg_callSv (C : Cx p s m args c cc nL own Ts D cy ad A) {y : MethodName} {ws : List Cond} {fr lo index maxL n : Nat} {bytes : ByteArray} {ret : Option FieldType} {As : List Value} {post : sS → Prop} (hM : Mv l y ws fr lo D cy ad As σ post) (cw : CallB R s args own index y bytes maxL ret ws (Rm fr lo) 0 0 n ∧ (Cond.static y).before args s = true) (hn : As.length = n) {stk : List Value} (hst : stk = As.reverse ++ st) (hcat : (st.map fun v => v.category).sum ≤ 8) (hcl : cells ≤ R.cells ∧ slots ≤ R.slots) (hdg : decode cc pc = .ok (.invokestatic index, 3)) (pc' : Nat) (hp : pc + 3 = pc')
    (kk : ∀ (τ : sS), post τ → TT p l e R s m args below meth c D cy ad A nL cells slots Q τ pc' lv st) : TT p l e R s m args below meth c D cy ad A nL cells slots Q σ pc lv stk := by
  subst hp
  subst hst
  intro H locs ls hP hS hl
  exact va_callv (va_runS (As := As) (rest := st) ⟨C.1, C.2.1, C.2.2.1, C.2.2.2.1, C.2.2.2.2.1⟩ (hM H.size) cw ⟨Pr.blind, fun U hU hW => ⟨rfl, by rw [hU], by rw [hU]; exact hP, va_K.moved hW.alike C.2.2.2.2.2.1⟩⟩ rfl hn hl.1 rfl (lv_room hcat) hdg hcl) hS (fun q _ h => Aw.cx C hS.1 h) (fun q h => Aw.cx C hS.1 h) (fun u t H1 locs1 ht hvm hw hB _ _ hS1 => kk u hw H1 locs1 ls (by rw [← ht]; exact hB.1) hS1 hl)
theorem Mi.of {y : MethodName} {ws ws' : List Cond} {fr lo : Nat} {a : List Value} {post : Int32 → sS → Prop} (hDis : Dis ad) (hy : plainName y.cls = true) (hw : ws = Cond.code y cc nL (some .int) :: ws') (lv0 : List (Nat × Value)) (hlv : lv_args 0 a = lv0) (hle : (lg_sl a).length ≤ nL) (hown : y.cls = own)
    (body : ∀ (p : Program) (e : Env) (s : State) (m : MethodId) (args : Array Value) (below : List Frame) (meth : Method) (c : Code) (A : Nat → Prop) (Q : State → Prop), Cx p s m args c cc nL own ws D cy ad A → (∀ {pc : Nat} {lv : List (Nat × Value)} {v : Int32} {τ : sS}, decode cc pc = .ok (.ireturn, 1) → post v τ → TT p l e (Rm fr lo) s m args below meth c D cy ad A nL 0 0 Q τ pc lv [.int v]) → TT p l e (Rm fr lo) s m args below meth c D cy ad A nL 0 0 Q σ 0 lv0 []) : Mi l y ws fr lo D cy ad a σ post := by
  intro sz
  refine Mi.of0 hDis hy hw lv0 hlv hle hown ?_
  intro p e s m below meth c hsz C hr hlk
  subst hsz
  exact body p e s m a.toArray below meth c _ _ C (fun hdg hp => tg_iret C hr hlk hdg hp)
theorem Mz.of {y : MethodName} {ws ws' : List Cond} {fr lo : Nat} {a : List Value} {post : Int32 → sS → Prop} (hDis : Dis ad) (hy : plainName y.cls = true) (hw : ws = Cond.code y cc nL (some .boolean) :: ws') (lv0 : List (Nat × Value)) (hlv : lv_args 0 a = lv0) (hle : (lg_sl a).length ≤ nL) (hown : y.cls = own)
    (body : ∀ (p : Program) (e : Env) (s : State) (m : MethodId) (args : Array Value) (below : List Frame) (meth : Method) (c : Code) (A : Nat → Prop) (Q : State → Prop), Cx p s m args c cc nL own ws D cy ad A → (∀ {pc : Nat} {lv : List (Nat × Value)} {v : Int32} {τ : sS}, decode cc pc = .ok (.ireturn, 1) → narrow .boolean (.int v) = .int v → post v τ → TT p l e (Rm fr lo) s m args below meth c D cy ad A nL 0 0 Q τ pc lv [.int v]) → TT p l e (Rm fr lo) s m args below meth c D cy ad A nL 0 0 Q σ 0 lv0 []) : Mi l y ws fr lo D cy ad a σ post := by
  intro sz
  refine Mi.of0 hDis hy hw lv0 hlv hle hown ?_
  intro p e s m below meth c hsz C hr hlk
  subst hsz
  exact body p e s m a.toArray below meth c _ _ C (fun hdg hn hp => tg_zret C hr hlk hn hdg hp)
theorem Mv.of {y : MethodName} {ws ws' : List Cond} {fr lo : Nat} {a : List Value} {post : sS → Prop} (hDis : Dis ad) (hy : plainName y.cls = true) (hw : ws = Cond.code y cc nL none :: ws') (lv0 : List (Nat × Value)) (hlv : lv_args 0 a = lv0) (hle : (lg_sl a).length ≤ nL) (hown : y.cls = own)
    (body : ∀ (p : Program) (e : Env) (s : State) (m : MethodId) (args : Array Value) (below : List Frame) (meth : Method) (c : Code) (A : Nat → Prop) (Q : State → Prop), Cx p s m args c cc nL own ws D cy ad A → (∀ {pc : Nat} {lv : List (Nat × Value)} {τ : sS}, decode cc pc = .ok (.return_, 1) → post τ → TT p l e (Rm fr lo) s m args below meth c D cy ad A nL 0 0 Q τ pc lv []) → TT p l e (Rm fr lo) s m args below meth c D cy ad A nL 0 0 Q σ 0 lv0 []) : Mv l y ws fr lo D cy ad a σ post := by
  intro sz
  refine Mi.of0 hDis hy hw lv0 hlv hle hown ?_
  intro p e s m below meth c hsz C hr hlk
  subst hsz
  exact body p e s m a.toArray below meth c _ _ C (fun hdg hp => tg_vret C hr hlk hdg hp)
theorem tg_top {x y : Int32} (h : x = y) (k : TT p l e R s m args below meth c D cy ad A nL cells slots Q σ pc lv (.int y :: st)) : TT p l e R s m args below meth c D cy ad A nL cells slots Q σ pc lv (.int x :: st) := h ▸ k
theorem tg_nm {x : Int32} (k : ∀ y : Int32, y = x → TT p l e R s m args below meth c D cy ad A nL cells slots Q σ pc lv (.int y :: st)) : TT p l e R s m args below meth c D cy ad A nL cells slots Q σ pc lv (.int x :: st) := k x rfl
theorem tg_sig {τ : sS} (h : σ = τ) (k : TT p l e R s m args below meth c D cy ad A nL cells slots Q τ pc lv st) : TT p l e R s m args below meth c D cy ad A nL cells slots Q σ pc lv st := h ▸ k
theorem tg_mmin (C : Cx p s m args c cc nL own Ts D cy ad A) {index : Nat} (hlink : Cond.methodLink own index Lib.Math.min.name ∈ Ts) (hstat : Cond.static Lib.Math.min.name ∈ Ts) (hini : Cond.initialized "java/lang/Math" ∈ Ts) (hcode : Cond.code Lib.Math.min.name Lib.Math.min.code 2 (some .int) ∈ Ts) (hframes : 1 ≤ R.frames) (hlocals : (st.map fun v => v.category).sum + 13 ≤ R.locals) (hcl : cells ≤ R.cells ∧ slots ≤ R.slots) {x y : Int32} (hdg : decode cc pc = .ok (.invokestatic index, 3)) (pc' : Nat) (hp : pc + 3 = pc') (k : TT p l e R s m args below meth c D cy ad A nL cells slots Q σ pc' lv (.int (if y < x then y else x) :: st)) : TT p l e R s m args below meth c D cy ad A nL cells slots Q σ pc lv (.int y :: .int x :: st) := by
  subst hp
  intro H locs ls hP hS hl
  exact va_mmin C.1 C.2.1 (C.2.2.1.trans hl.1.symm) C.2.2.2.1 (C.2.2.2.2.1 _ hlink) (C.2.2.2.2.1 _ hstat) (C.2.2.2.2.1 _ hini) (C.2.2.2.2.1 _ hcode) hframes hlocals hcl.1 hcl.2 hdg (k H locs ls hP hS hl)
theorem tg_mabs (C : Cx p s m args c cc nL own Ts D cy ad A) {index : Nat} (hlink : Cond.methodLink own index Lib.Math.abs.name ∈ Ts) (hstat : Cond.static Lib.Math.abs.name ∈ Ts) (hini : Cond.initialized "java/lang/Math" ∈ Ts) (hcode : Cond.code Lib.Math.abs.name Lib.Math.abs.code 1 (some .int) ∈ Ts) (hframes : 1 ≤ R.frames) (hlocals : (st.map fun v => v.category).sum + 13 ≤ R.locals) (hcl : cells ≤ R.cells ∧ slots ≤ R.slots) {x : Int32} (hdg : decode cc pc = .ok (.invokestatic index, 3)) (pc' : Nat) (hp : pc + 3 = pc') (k : TT p l e R s m args below meth c D cy ad A nL cells slots Q σ pc' lv (.int (if 0 ≤ x then x else 0 - x) :: st)) : TT p l e R s m args below meth c D cy ad A nL cells slots Q σ pc lv (.int x :: st) := by
  subst hp
  intro H locs ls hP hS hl
  exact va_mabs C.1 C.2.1 (C.2.2.1.trans hl.1.symm) C.2.2.2.1 (C.2.2.2.2.1 _ hlink) (C.2.2.2.2.1 _ hstat) (C.2.2.2.2.1 _ hini) (C.2.2.2.2.1 _ hcode) hframes hlocals hcl.1 hcl.2 hdg (k H locs ls hP hS hl)
end TTS
/-! what lies where -/
theorem e_0 (ad : Nat → Nat) (cy : Nat → ClassId) (f : Nat → Int32) : ent ad cy 0 f = .inr (4, [.ref (ad 1), .ref (ad 3), .ref (ad 5), .ref (ad 16), .ref (ad 51), .int (f 5), .int (f 6), .int (f 7)]) := rfl
theorem e_1 (ad : Nat → Nat) (cy : Nat → ClassId) (f : Nat → Int32) : ent ad cy 1 f = .inr (2, [.ref (ad 2), .int (f 1)]) := rfl
theorem e_2 (ad : Nat → Nat) (cy : Nat → ClassId) (f : Nat → Int32) : ent ad cy 2 f = .inl (cy 0, 16, .inl f) := rfl
theorem e_5 (ad : Nat → Nat) (cy : Nat → ClassId) (f : Nat → Int32) : ent ad cy 5 f = .inl (cy 1, 5, .inr (.inr (.inr (.inr (fun t => some (ad (6 + t))))))) := rfl
theorem e_16 (ad : Nat → Nat) (cy : Nat → ClassId) (f : Nat → Int32) : ent ad cy 16 f = .inr (1, [.ref (ad 17), .ref (ad 18), .ref (ad 19), .ref (ad 20), .int (f 4)]) := rfl
theorem e_17 (ad : Nat → Nat) (cy : Nat → ClassId) (f : Nat → Int32) : ent ad cy 17 f = .inl (cy 0, 30, .inl f) := rfl
theorem e_18 (ad : Nat → Nat) (cy : Nat → ClassId) (f : Nat → Int32) : ent ad cy 18 f = .inl (cy 0, 30, .inl f) := rfl
theorem e_19 (ad : Nat → Nat) (cy : Nat → ClassId) (f : Nat → Int32) : ent ad cy 19 f = .inl (cy 0, 30, .inl f) := rfl
theorem e_20 (ad : Nat → Nat) (cy : Nat → ClassId) (f : Nat → Int32) : ent ad cy 20 f = .inl (cy 2, 30, .inr (.inr (.inr (.inr (fun t => some (ad (21 + t))))))) := rfl
theorem e_51 (ad : Nat → Nat) (cy : Nat → ClassId) (f : Nat → Int32) : ent ad cy 51 f = .inr (0, [.ref (ad 52), .ref (ad 70), .ref (ad 71), .int (f 3), .int (f 4), .int (f 5)]) := rfl
theorem e_52 (ad : Nat → Nat) (cy : Nat → ClassId) (f : Nat → Int32) : ent ad cy 52 f = .inl (cy 2, 17, .inr (.inr (.inr (.inr (fun t => some (ad (53 + t))))))) := rfl
theorem e_70 (ad : Nat → Nat) (cy : Nat → ClassId) (f : Nat → Int32) : ent ad cy 70 f = .inl (cy 0, 17, .inl f) := rfl
theorem e_71 (ad : Nat → Nat) (cy : Nat → ClassId) (f : Nat → Int32) : ent ad cy 71 f = .inl (cy 2, 17, .inr (.inr (.inr (.inr (fun t => some (ad (72 + t))))))) := rfl
/-- cell a is a Tally, its counts in cell b -/
def isTy (a b : Nat) : Prop := (a = 3 ∧ b = 4) ∨ (6 ≤ a ∧ a < 11 ∧ b = a + 5)
theorem isTy.own : isTy 3 4 := Or.inl ⟨rfl, rfl⟩
theorem isTy.at {t : Nat} (h : t < 5) : isTy (6 + t) (11 + t) := Or.inr ⟨by omega, by omega, by omega⟩
theorem isTy.lt {a b : Nat} (h : isTy a b) : a < 89 := by rcases h with h | h <;> omega
theorem isTy.lt2 {a b : Nat} (h : isTy a b) : b < 89 := by rcases h with h | h <;> omega
theorem isTy.ne {a b : Nat} (h : isTy a b) : b ≠ a := by rcases h with h | h <;> omega
theorem isTy.e (ad : Nat → Nat) (cy : Nat → ClassId) {a b : Nat} (h : isTy a b) (f : Nat → Int32) : ent ad cy a f = .inr (3, [.ref (ad b), .int (f 1)]) := by
  rcases h with ⟨rfl, rfl⟩ | ⟨h1, h2, rfl⟩
  · rfl
  · unfold ent
    rw [if_neg (by omega), if_neg (by omega), if_neg (by omega), if_neg (by omega), if_neg (by omega), if_neg (by omega), if_pos h2]
theorem isTy.e2 (ad : Nat → Nat) (cy : Nat → ClassId) {a b : Nat} (h : isTy a b) (f : Nat → Int32) : ent ad cy b f = .inl (cy 0, 36, .inl f) := by
  rcases h with ⟨rfl, rfl⟩ | ⟨h1, h2, rfl⟩
  · rfl
  · unfold ent
    rw [if_neg (by omega), if_neg (by omega), if_neg (by omega), if_neg (by omega), if_neg (by omega), if_neg (by omega), if_neg (by omega), if_pos (by omega)]
theorem e_rowR (ad : Nat → Nat) (cy : Nat → ClassId) {t : Nat} (h : t < 30) (f : Nat → Int32) : ent ad cy (21 + t) f = .inl (cy 0, 17, .inl f) := by
  unfold ent
  repeat rw [if_neg (by omega)]
  rw [if_pos (by omega)]
theorem e_rowC (ad : Nat → Nat) (cy : Nat → ClassId) {t : Nat} (h : t < 17) (f : Nat → Int32) : ent ad cy (53 + t) f = .inl (cy 0, 5, .inl f) := by
  unfold ent
  repeat rw [if_neg (by omega)]
  rw [if_pos (by omega)]
theorem e_rowB (ad : Nat → Nat) (cy : Nat → ClassId) {t : Nat} (h : t < 17) (f : Nat → Int32) : ent ad cy (72 + t) f = .inl (cy 0, 5, .inl f) := by
  unfold ent
  repeat rw [if_neg (by omega)]
  rw [if_pos (by omega)]
