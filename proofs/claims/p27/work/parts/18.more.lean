/-! ===== rows that p27's law asks beside whole's: the rest of a division, a shift; contracts that never throw; the script's reader ===== -/
section More
variable {p : Program} {l : Launch} {e : Env} {R : Room} {s : State} {m : MethodId} {args : Array Value} {below : List Frame} {meth : Method} {c : Code} {D : va_G} {cy : Nat → ClassId} {ad : Nat → Nat} {A : Nat → Prop} {nL : Nat} {cells slots : Nat} {Q : State → Prop}
variable {cc : ByteArray} {own : String} {Ts : List Cond} {σ : sS} {pc : Nat} {lv : List (Nat × Value)} {st : List Value} {mc ms : Nat}
theorem tg_irem (C : Cx p s m args c cc nL own Ts D cy ad A) {x y : Int32} (z : Int32) (hne : ¬ y = 0) (hdg : decode cc pc = .ok (.irem, 1)) (pc' : Nat) (hp : pc + 1 = pc') (hz : x - x / y * y = z) (k : TT p l e R s m args below meth c D cy ad A nL cells slots Q σ pc' lv (.int z :: st)) : TT p l e R s m args below meth c D cy ad A nL cells slots Q σ pc lv (.int y :: .int x :: st) := by
  subst hp
  subst hz
  intro H locs ls hP hS hl
  exact lv_irem C.1 C.2.1 hdg hne (k H locs ls hP hS hl)
theorem tg_ishr (C : Cx p s m args c cc nL own Ts D cy ad A) {x y : Int32} (hdg : decode cc pc = .ok (.ishr, 1)) (pc' : Nat) (hp : pc + 1 = pc') (k : ∀ z : Int32, TT p l e R s m args below meth c D cy ad A nL cells slots Q σ pc' lv (.int z :: st)) : TT p l e R s m args below meth c D cy ad A nL cells slots Q σ pc lv (.int y :: .int x :: st) := by
  subst hp
  intro H locs ls hP hS hl
  exact lv_ishr C.1 C.2.1 hdg (k _ H locs ls hP hS hl)
/-- a method that may make mc cells and returns an int (or a truth value), what it calls never throwing to it -/
def Yi (l : Launch) (y : MethodName) (ws : List Cond) (fr lo mc ms : Nat) (D : va_G) (cy : Nat → ClassId) (ad : Nat → Nat) (a : List Value) (σ : sS) (post : Int32 → sS → Prop) : Prop := ∀ sz, Met l y ws (Rx fr lo mc ms) (PrX D cy ad a σ sz) (va_Qi post (Bw D cy ad) (Aw ad sz)) mc ms (Aw ad sz)
/-- a contract of a method that throws, where it can't throw -/
theorem Xi.yi {y : MethodName} {ws : List Cond} {fr lo mc ms : Nat} {a : List Value} {post post' : Int32 → sS → Prop} {qx : String → sS → Prop} (hM : Xi l y ws fr lo mc ms D cy ad a σ post qx) (h1 : ∀ r τ, post r τ → post' r τ) (h2 : ∀ E τ, ¬ qx E τ) : Yi l y ws fr lo mc ms D cy ad a σ post' := by
  intro sz p e ha hc hk s m args below hf happ hP hK
  obtain ⟨n, o, g1, g2, g3, g4⟩ := hM sz p e ha hc hk s m args below hf happ hP hK
  refine ⟨n, o, g1, g2, g3, ?_⟩
  rcases g4 with g4 | g4
  · obtain ⟨⟨⟨r, u, e1, e2, e3⟩, e4⟩, e5⟩ := g4
    exact ⟨⟨⟨r, u, e1, h1 r u e2, e3⟩, e4⟩, e5⟩
  · obtain ⟨q, -, E, ce, L, ⟨u, -, ⟨hx, -⟩, -⟩, -⟩ := g4
    exact absurd hx (h2 _ _)
theorem Yi.of0 {y : MethodName} {ws ws' : List Cond} {fr lo : Nat} {a : List Value} {Qc : Array Value → State → Outcome → State → Prop} {sz : Nat} {ret : Option FieldType} (hDis : Dis ad) (hy : plainName y.cls = true) (hw : ws = Cond.code y cc nL ret :: ws') (lv0 : List (Nat × Value)) (hlv : lv_args 0 a = lv0) (hle : (lg_sl a).length ≤ nL) (hown : y.cls = own)
    (body : ∀ (p : Program) (e : Env) (s : State) (m : MethodId) (below : List Frame) (meth : Method) (c : Code), s.heap.size = sz → Cx p s m a.toArray c cc nL own ws D cy ad (Aw ad sz) → meth.sig.returnType = ret → meth.locks = false → Ev (Aw ad sz) s s.heap → TT p l e (Rx fr lo mc ms) s m a.toArray below meth c D cy ad (Aw ad sz) nL 0 0 (MQ below Qc a.toArray s mc ms (Aw ad sz)) σ 0 lv0 []) : Met l y ws (Rx fr lo mc ms) (PrX D cy ad a σ sz) Qc mc ms (Aw ad sz) := by
  refine Met.ofW (cc := cc) (maxL := nL) (ret := ret) hy hw ?_
  intro p e s m args below meth c s₁ B hml hv
  obtain ⟨rfl, hsz, hP, hK, hE⟩ := hv
  have hts := atoms_spec (ws := ws) B.pre
  have hown' : s.vm.findClass own = some m.cls := hown ▸ findClass_of_methodNamed B.named
  rw [lg_entry_eq]
  exact body p e s m below meth c hsz ⟨B.exec, B.bytes, hml, hown', hts, hK, hDis, fun i hi => Or.inl ⟨i, hi, rfl⟩, fun q hq => Or.inr (hsz ▸ hq)⟩ B.returns B.notSynchronized hE s.heap [] _ hP va_S.rf (hlv ▸ lv_entry a hle)
theorem Yz.of {y : MethodName} {ws ws' : List Cond} {fr lo : Nat} {a : List Value} {post : Int32 → sS → Prop} (hDis : Dis ad) (hy : plainName y.cls = true) (hw : ws = Cond.code y cc nL (some .boolean) :: ws') (lv0 : List (Nat × Value)) (hlv : lv_args 0 a = lv0) (hle : (lg_sl a).length ≤ nL) (hown : y.cls = own)
    (body : ∀ (p : Program) (e : Env) (s : State) (m : MethodId) (args : Array Value) (below : List Frame) (meth : Method) (c : Code) (A : Nat → Prop) (Q : State → Prop), Cx p s m args c cc nL own ws D cy ad A → Ev A s s.heap → (∀ {pc cells slots : Nat} {lv : List (Nat × Value)} {v : Int32} {τ : sS}, cells ≤ mc → slots ≤ ms → decode cc pc = .ok (.ireturn, 1) → narrow .boolean (.int v) = .int v → post v τ → TT p l e (Rx fr lo mc ms) s m args below meth c D cy ad A nL cells slots Q τ pc lv [.int v]) → TT p l e (Rx fr lo mc ms) s m args below meth c D cy ad A nL 0 0 Q σ 0 lv0 []) : Yi l y ws fr lo mc ms D cy ad a σ post := by
  intro sz
  refine Yi.of0 hDis hy hw lv0 hlv hle hown ?_
  intro p e s m below meth c hsz C hr hlk hE
  subst hsz
  exact body p e s m a.toArray below meth c _ _ C hE (fun hc hs hdg hn hp => tg_widen hc hs (tg_zret C hr hlk hn hdg hp))
theorem tg_callYV (C : Cx p s m args c cc nL own Ts D cy ad A) (hE : Ev A s s.heap) {y : MethodName} {ws : List Cond} {fr lo index maxL n mc2 ms2 : Nat} {bytes : ByteArray} {ret : Option FieldType} (i : Nat) {ci N : Nat} {Cn : String} {T : u_T} {fs : List Value} (hi : i < 89) (he : ent ad cy i (σ i) = .inr (ci, fs)) (hc : vwCl[ci]? = some (Cn, T, N)) {As : List Value} {post : Int32 → sS → Prop} (hM : Yi l y ws fr lo mc2 ms2 D cy ad (Value.ref (ad i) :: As) σ post) (cw : CallW R s args own Cn index y bytes maxL ret ws (Rx fr lo mc2 ms2) mc2 ms2 n) (hn : As.length = n) {stk : List Value} (hst : stk = As.reverse ++ .ref (ad i) :: st) (hcat : (st.map fun v => v.category).sum ≤ 8) (hcl : cells + mc2 ≤ R.cells ∧ slots + ms2 ≤ R.slots) (hdg : decode cc pc = .ok (.invokevirtual index, 3)) (pc' : Nat) (hp : pc + 3 = pc')
    (kk : ∀ (r : Int32) (τ : sS), post r τ → TT p l e R s m args below meth c D cy ad A nL (cells + mc2) (slots + ms2) Q τ pc' lv (.int r :: st)) : TT p l e R s m args below meth c D cy ad A nL cells slots Q σ pc lv stk := by
  subst hp
  subst hst
  intro H locs ls hP hS hl
  exact va_calli (va_runV (As := As) (rest := st) ⟨C.1, C.2.1, C.2.2.1, C.2.2.2.1, C.2.2.2.2.1⟩ (hM H.size) cw ⟨PrX.blind, va_recv C.2.2.2.2.2.1 hP hc (q0 := i) (by rw [wld_at _ _ _ hi, he]), fun U hU hW => ⟨rfl, by rw [hU], by rw [hU]; exact hP, va_K.moved hW.alike C.2.2.2.2.2.1, hE.go hW hU hS.2.1 (fun q h => Aw.cx C hS.1 h)⟩⟩ rfl hn hl.1 rfl (lv_room hcat) hdg hcl) hS (fun q _ h => Aw.cx C hS.1 h) (fun q h => Aw.cx C hS.1 h) (fun r u t H1 locs1 ht hvm hw hB _ _ hS1 => kk r u hw H1 locs1 ls (by rw [← ht]; exact hB.1) hS1 hl)
theorem tg_callYS (C : Cx p s m args c cc nL own Ts D cy ad A) (hE : Ev A s s.heap) {y : MethodName} {ws : List Cond} {fr lo index maxL n mc2 ms2 : Nat} {bytes : ByteArray} {ret : Option FieldType} {As : List Value} {post : Int32 → sS → Prop} (hM : Yi l y ws fr lo mc2 ms2 D cy ad As σ post) (cw : CallB R s args own index y bytes maxL ret ws (Rx fr lo mc2 ms2) mc2 ms2 n ∧ (Cond.static y).before args s = true) (hn : As.length = n) {stk : List Value} (hst : stk = As.reverse ++ st) (hcat : (st.map fun v => v.category).sum ≤ 8) (hcl : cells + mc2 ≤ R.cells ∧ slots + ms2 ≤ R.slots) (hdg : decode cc pc = .ok (.invokestatic index, 3)) (pc' : Nat) (hp : pc + 3 = pc')
    (kk : ∀ (r : Int32) (τ : sS), post r τ → TT p l e R s m args below meth c D cy ad A nL (cells + mc2) (slots + ms2) Q τ pc' lv (.int r :: st)) : TT p l e R s m args below meth c D cy ad A nL cells slots Q σ pc lv stk := by
  subst hp
  subst hst
  intro H locs ls hP hS hl
  exact va_calli (va_runS (As := As) (rest := st) ⟨C.1, C.2.1, C.2.2.1, C.2.2.2.1, C.2.2.2.2.1⟩ (hM H.size) cw ⟨PrX.blind, fun U hU hW => ⟨rfl, by rw [hU], by rw [hU]; exact hP, va_K.moved hW.alike C.2.2.2.2.2.1, hE.go hW hU hS.2.1 (fun q h => Aw.cx C hS.1 h)⟩⟩ rfl hn hl.1 rfl (lv_room hcat) hdg hcl) hS (fun q _ h => Aw.cx C hS.1 h) (fun q h => Aw.cx C hS.1 h) (fun r u t H1 locs1 ht hvm hw hB _ _ hS1 => kk r u hw H1 locs1 ls (by rw [← ht]; exact hB.1) hS1 hl)
/-- a reader of the script: it gets the script's cell b, that no cell of the world is -/
def PrS (D : va_G) (cy : Nat → ClassId) (ad : Nat → Nat) (a : List Value) (σ : sS) (b L : Nat) (xs : Nat → Int32) (sz : Nat) : Array Value → State → Prop := va_Pc a (fun U => U.heap.size = sz ∧ va_P D vwCl (wld ad cy σ) U.heap ∧ va_K D vwCl (tysO cy) U ∧ va_X b L xs U U.heap ∧ b < U.heap.size ∧ ∀ i, i < 89 → b ≠ ad i)
theorem PrS.blind {a : List Value} {b L : Nat} {xs : Nat → Int32} {sz : Nat} : FrameBlind (PrS D cy ad a σ b L xs sz) := fun a U g mk q => by
  obtain ⟨q0, q1, qP, qK, qX, qb, qn⟩ := q
  exact ⟨q0, q1, qP, va_K.moved (u := U) (U := U.calling g mk a) (Vm.Alike.refl U.vm) qK, va_X.moved (u := U) (U := U.calling g mk a) (Vm.Alike.refl U.vm) qX, qb, qn⟩
def Si (l : Launch) (y : MethodName) (ws : List Cond) (fr lo : Nat) (D : va_G) (cy : Nat → ClassId) (ad : Nat → Nat) (a : List Value) (σ : sS) (b L : Nat) (xs : Nat → Int32) (post : Int32 → sS → Prop) : Prop := ∀ sz, Met l y ws (Rm fr lo) (PrS D cy ad a σ b L xs sz) (va_Qi post (Bw D cy ad) (Aw ad sz)) 0 0 (Aw ad sz)
theorem Si.of {y : MethodName} {ws ws' : List Cond} {fr lo : Nat} {a : List Value} {b L : Nat} {xs : Nat → Int32} {post : Int32 → sS → Prop} (hDis : Dis ad) (hy : plainName y.cls = true) (hw : ws = Cond.code y cc nL (some .int) :: ws') (lv0 : List (Nat × Value)) (hlv : lv_args 0 a = lv0) (hle : (lg_sl a).length ≤ nL) (hown : y.cls = own)
    (body : ∀ (p : Program) (e : Env) (s : State) (m : MethodId) (args : Array Value) (below : List Frame) (meth : Method) (c : Code) (A : Nat → Prop) (Q : State → Prop), Cx p s m args c cc nL own ws D cy ad A → va_X b L xs s s.heap → b < s.heap.size → ¬ A b → (∀ {pc : Nat} {lv : List (Nat × Value)} {v : Int32} {τ : sS}, decode cc pc = .ok (.ireturn, 1) → post v τ → TT p l e (Rm fr lo) s m args below meth c D cy ad A nL 0 0 Q τ pc lv [.int v]) → TT p l e (Rm fr lo) s m args below meth c D cy ad A nL 0 0 Q σ 0 lv0 []) : Si l y ws fr lo D cy ad a σ b L xs post := by
  intro sz
  refine Met.ofW (cc := cc) (maxL := nL) (ret := some .int) hy hw ?_
  intro p e s m args below meth c s₁ B hml hv
  obtain ⟨rfl, hsz, hP, hK, hX, hbl, hbn⟩ := hv
  subst hsz
  have hts := atoms_spec (ws := ws) B.pre
  have hown' : s.vm.findClass own = some m.cls := hown ▸ findClass_of_methodNamed B.named
  rw [lg_entry_eq]
  have C : Cx p s m a.toArray c cc nL own ws D cy ad (Aw ad s.heap.size) := ⟨B.exec, B.bytes, hml, hown', hts, hK, hDis, fun i hi => Or.inl ⟨i, hi, rfl⟩, fun q hq => Or.inr hq⟩
  have hbA : ¬ Aw ad s.heap.size b := fun h => by
    rcases h with ⟨i, hi, h⟩ | h
    · exact hbn i hi h
    · omega
  exact body p e s m a.toArray below meth c (Aw ad s.heap.size) _ C hX hbl hbA (fun hdg hp => tg_iret C B.returns B.notSynchronized hdg hp) s.heap [] _ hP va_S.rf (hlv ▸ lv_entry a hle)
theorem tg_callSS (C : Cx p s m args c cc nL own Ts D cy ad A) {b L : Nat} {xs : Nat → Int32} (hX : va_X b L xs s s.heap) (hbl : b < s.heap.size) (hbA : ¬ A b) {y : MethodName} {ws : List Cond} {fr lo index maxL n : Nat} {bytes : ByteArray} {ret : Option FieldType} {As : List Value} {post : Int32 → sS → Prop} (hM : Si l y ws fr lo D cy ad As σ b L xs post) (cw : CallB R s args own index y bytes maxL ret ws (Rm fr lo) 0 0 n ∧ (Cond.static y).before args s = true) (hn : As.length = n) {stk : List Value} (hst : stk = As.reverse ++ st) (hcat : (st.map fun v => v.category).sum ≤ 8) (hcl : cells ≤ R.cells ∧ slots ≤ R.slots) (hdg : decode cc pc = .ok (.invokestatic index, 3)) (pc' : Nat) (hp : pc + 3 = pc')
    (kk : ∀ (r : Int32) (τ : sS), post r τ → TT p l e R s m args below meth c D cy ad A nL cells slots Q τ pc' lv (.int r :: st)) : TT p l e R s m args below meth c D cy ad A nL cells slots Q σ pc lv stk := by
  subst hp
  subst hst
  intro H locs ls hP hS hl
  exact va_calli (va_runS (As := As) (rest := st) ⟨C.1, C.2.1, C.2.2.1, C.2.2.2.1, C.2.2.2.2.1⟩ (hM H.size) cw ⟨PrS.blind, fun U hU hW => ⟨rfl, by rw [hU], by rw [hU]; exact hP, va_K.moved hW.alike C.2.2.2.2.2.1, by rw [hU]; exact va_X.moved hW.alike (hX.kept (hS.2.1 b hbl hbA)), by rw [hU]; exact Nat.lt_of_lt_of_le hbl hS.1, fun i hi h => hbA (h ▸ C.2.2.2.2.2.2.2.1 i hi)⟩⟩ rfl hn hl.1 rfl (lv_room hcat) hdg hcl) hS (fun q _ h => Aw.cx C hS.1 h) (fun q h => Aw.cx C hS.1 h) (fun r u t H1 locs1 ht hvm hw hB _ _ hS1 => kk r u hw H1 locs1 ls (by rw [← ht]; exact hB.1) hS1 hl)
theorem tg_sld (C : Cx p s m args c cc nL own Ts D cy ad A) {b L : Nat} {xs : Nat → Int32} (hX : va_X b L xs s s.heap) (hbl : b < s.heap.size) (hbA : ¬ A b) {i : Int32} (hin : vp_in i L) (hdg : decode cc pc = .ok (.iaload, 1)) (pc' : Nat) (hp : pc + 1 = pc') (kk : TT p l e R s m args below meth c D cy ad A nL cells slots Q σ pc' lv (.int (xs i.toNatClampNeg) :: st)) : TT p l e R s m args below meth c D cy ad A nL cells slots Q σ pc lv (.int i :: .ref b :: st) := by
  subst hp
  intro H locs ls hP hS hl
  exact va_sld C.1 C.2.1 hX hbl hbA hS hin hdg (kk H locs ls hP hS hl)
theorem tg_slen (C : Cx p s m args c cc nL own Ts D cy ad A) {b L : Nat} {xs : Nat → Int32} (hX : va_X b L xs s s.heap) (hbl : b < s.heap.size) (hbA : ¬ A b) (hdg : decode cc pc = .ok (.arraylength, 1)) (pc' : Nat) (hp : pc + 1 = pc') (kk : TT p l e R s m args below meth c D cy ad A nL cells slots Q σ pc' lv (.int (nI L) :: st)) : TT p l e R s m args below meth c D cy ad A nL cells slots Q σ pc lv (.ref b :: st) := by
  subst hp
  intro H locs ls hP hS hl
  exact va_slen C.1 C.2.1 hX hbl hbA hS hdg (kk H locs ls hP hS hl)
end More
