/-! ===== methods that throw ===== -/
abbrev xIA : String := "java/lang/IllegalArgumentException"
abbrev xIS : String := "java/lang/IllegalStateException"
abbrev xIO : String := "java/lang/IndexOutOfBoundsException"
abbrev xNS : String := "java/util/NoSuchElementException"
abbrev xNames : List String := ["java/lang/RuntimeException", "java/lang/Exception"]
def xStr : List (Nat × String) := [(57, "the letter is neither from a to e nor a space"), (67, "the spelled text has 16 letters"), (85, "there are 5 tongues"), (93, "the spelled text is empty"), (99, "30 texts are taught and not withdrawn"), (155, "the price is not from 0 to 100"), (166, "the spelled text has more than 5 letters"), (187, "the spelled text has no such run"), (190, "there is no such tongue"), (192, "there are no tongues"), (194, "there is no such run"), (201, "no such text was taught, or it was withdrawn")]
def xExs : List String := [xIA, xIS, xIO, xNS]
def xDs : List String := ["java/lang/RuntimeException", "java/lang/Exception", Bundle.tN]
def xNc : List (String × String) := []
/-- what a throw needs of a state whose heap is H, A the cells that may change -/
def Ev (A : Nat → Prop) (U : State) (H : Heap) : Prop :=
  vx_Zq Bundle.tN "UNASSIGNED_STACK" Bundle.steD A U H ∧ vx_Zq Bundle.tN "SUPPRESSED_SENTINEL" Bundle.listD A U H ∧ ((∀ E ∈ xExs, va_Nw (.castable E E) U) ∧ ∀ Y ∈ xDs, va_Nw (.declares (Bundle.initS Y)) U) ∧ (∀ q ∈ xStr, ∃ sa, vk_R RX4 q.1 q.2 sa U) ∧ ∀ q ∈ xNc, va_Nc q.1 q.2 U
theorem Ev.go {A B : Nat → Prop} {s U : State} {H : Heap} (h : Ev A s s.heap) (hW : s.WarmedH U.vm) (hU : U.heap = H) (hq : ∀ a : Nat, a < s.heap.size → ¬ A a → H[a]? = s.heap[a]?) (hAB : ∀ q, B q → A q) : Ev B U U.heap := by
  obtain ⟨h1, h2, h3, h4, h5⟩ := h
  rw [hU]
  exact ⟨((h1.kept hq).narrow hAB).moved hW.alike, ((h2.kept hq).narrow hAB).moved hW.alike, ⟨fun E hE => (h3.1 E hE).warmC hW, fun Y hY => (h3.2 Y hY).warmD hW⟩, fun q hq => by obtain ⟨sa, h⟩ := h4 q hq; exact ⟨sa, vk_R.warm hW h⟩, fun q hq => (h5 q hq).moved hW.alike⟩
theorem Ev.blind {A : Nat → Prop} {U : State} {g : JFrame} {mk : MethodId} {a : Array Value} (h : Ev A U U.heap) : Ev A (U.calling g mk a) (U.calling g mk a).heap := by
  obtain ⟨h1, h2, h3, h4, h5⟩ := h
  exact ⟨vx_Zq.moved (u := U) (U := U.calling g mk a) (Vm.Alike.refl U.vm) h1, vx_Zq.moved (u := U) (U := U.calling g mk a) (Vm.Alike.refl U.vm) h2, ⟨fun E hE => va_Nw.same (u := U) (U := U.calling g mk a) rfl rfl (h3.1 E hE), fun Y hY => va_Nw.same (u := U) (U := U.calling g mk a) rfl rfl (h3.2 Y hY)⟩, fun q hq => by obtain ⟨sa, h⟩ := h4 q hq; exact ⟨sa, vk_R.same (u := U) (U := U.calling g mk a) rfl h⟩, fun q hq => va_Nc.moved (u := U) (U := U.calling g mk a) (Vm.Alike.refl U.vm) (h5 q hq)⟩
def PrX (D : va_G) (cy : Nat → ClassId) (ad : Nat → Nat) (a : List Value) (σ : sS) (sz : Nat) : Array Value → State → Prop := va_Pc a (fun U => U.heap.size = sz ∧ va_P D vwCl (wld ad cy σ) U.heap ∧ va_K D vwCl (tysO cy) U ∧ Ev (Aw ad sz) U U.heap)
theorem PrX.blind {D : va_G} {cy : Nat → ClassId} {ad : Nat → Nat} {a : List Value} {σ : sS} {sz : Nat} : FrameBlind (PrX D cy ad a σ sz) := fun a U g mk q => by
  obtain ⟨q0, q1, qP, qK, qE⟩ := q
  exact ⟨q0, q1, qP, va_K.moved (u := U) (U := U.calling g mk a) (Vm.Alike.refl U.vm) qK, qE.blind⟩
abbrev Rx (fr lo mc ms : Nat) : Room := { frames := fr, cells := mc, slots := ms, locals := lo }
/-- how it throws: which class, in which state -/
def Xq (D : va_G) (cy : Nat → ClassId) (ad : Nat → Nat) (qx : String → sS → Prop) (A : Nat → Prop) : String → State → State → Prop := vx_X (fun _ : sS => True) (fun E τ t => qx E τ ∧ Bw D cy ad τ t) A
def Xi (l : Launch) (y : MethodName) (ws : List Cond) (fr lo mc ms : Nat) (D : va_G) (cy : Nat → ClassId) (ad : Nat → Nat) (a : List Value) (σ : sS) (post : Int32 → sS → Prop) (qx : String → sS → Prop) : Prop := ∀ sz, vx_Met l y ws (Rx fr lo mc ms) (PrX D cy ad a σ sz) (va_Qi post (Bw D cy ad) (Aw ad sz)) (Xq D cy ad qx (Aw ad sz)) mc ms (Aw ad sz)
def Xv (l : Launch) (y : MethodName) (ws : List Cond) (fr lo mc ms : Nat) (D : va_G) (cy : Nat → ClassId) (ad : Nat → Nat) (a : List Value) (σ : sS) (post : sS → Prop) (qx : String → sS → Prop) : Prop := ∀ sz, vx_Met l y ws (Rx fr lo mc ms) (PrX D cy ad a σ sz) (va_Qv post (Bw D cy ad) (Aw ad sz)) (Xq D cy ad qx (Aw ad sz)) mc ms (Aw ad sz)
section XTS
variable {p : Program} {l : Launch} {e : Env} {R : Room} {s : State} {m : MethodId} {args : Array Value} {below : List Frame} {meth : Method} {c : Code} {D : va_G} {cy : Nat → ClassId} {ad : Nat → Nat} {A : Nat → Prop} {nL : Nat} {cells slots : Nat} {Q : State → Prop}
variable {cc : ByteArray} {own : String} {Ts : List Cond} {σ : sS} {pc : Nat} {lv : List (Nat × Value)} {st : List Value} {mc ms : Nat}
theorem Xi.of0 {y : MethodName} {ws ws' : List Cond} {fr lo : Nat} {a : List Value} {Qc : Array Value → State → Outcome → State → Prop} {XC : String → State → State → Prop} {sz : Nat} {ret : Option FieldType} (hDis : Dis ad) (hy : plainName y.cls = true) (hw : ws = Cond.code y cc nL ret :: ws') (lv0 : List (Nat × Value)) (hlv : lv_args 0 a = lv0) (hle : (lg_sl a).length ≤ nL) (hown : y.cls = own)
    (body : ∀ (p : Program) (e : Env) (s : State) (m : MethodId) (below : List Frame) (meth : Method) (c : Code), s.heap.size = sz → Cx p s m a.toArray c cc nL own ws D cy ad (Aw ad sz) → meth.sig.returnType = ret → meth.locks = false → (∀ x ∈ c.exceptionTable.toList, False) → Ev (Aw ad sz) s s.heap → TT p l e (Rx fr lo mc ms) s m a.toArray below meth c D cy ad (Aw ad sz) nL 0 0 (vx_MQ below Qc XC a.toArray s mc ms (Aw ad sz)) σ 0 lv0 []) : vx_Met l y ws (Rx fr lo mc ms) (PrX D cy ad a σ sz) Qc XC mc ms (Aw ad sz) := by
  refine vx_ofW (cc := cc) (maxL := nL) (ret := ret) hy hw ?_
  intro p e s m args below meth c s₁ B hml ht hv
  obtain ⟨rfl, hsz, hP, hK, hE⟩ := hv
  have hts := atoms_spec (ws := ws) B.pre
  have hown' : s.vm.findClass own = some m.cls := hown ▸ findClass_of_methodNamed B.named
  rw [lg_entry_eq]
  exact body p e s m below meth c hsz ⟨B.exec, B.bytes, hml, hown', hts, hK, hDis, fun i hi => Or.inl ⟨i, hi, rfl⟩, fun q hq => Or.inr (hsz ▸ hq)⟩ B.returns B.notSynchronized ht hE s.heap [] _ hP va_S.rf (hlv ▸ lv_entry a hle)
theorem xg_iret (C : Cx p s m args c cc nL own Ts D cy ad A) {XC : String → State → State → Prop} {post : Int32 → sS → Prop} {v : Int32} (hr : meth.sig.returnType = some .int) (hlk : meth.locks = false) (hc : cells ≤ mc) (hs : slots ≤ ms) (hdg : decode cc pc = .ok (.ireturn, 1)) (hpost : post v σ) : TT p l e R s m args below meth c D cy ad A nL cells slots (vx_MQ below (va_Qi post (Bw D cy ad) A) XC args s mc ms A) σ pc lv [.int v] := by
  intro H locs ls hP hS hl
  exact W.widen hc hs (vx_ret (W.iret (v := v) C.1 C.2.1 hr (fun t ht hW => ⟨⟨v, σ, rfl, hpost, by rw [ht]; exact hP, va_K.moved hW.alike C.2.2.2.2.2.1⟩, hS.F ht⟩) hS.2.2 hdg hlk))
theorem xg_vret (C : Cx p s m args c cc nL own Ts D cy ad A) {XC : String → State → State → Prop} {post : sS → Prop} (hr : meth.sig.returnType = none) (hlk : meth.locks = false) (hc : cells ≤ mc) (hs : slots ≤ ms) (hdg : decode cc pc = .ok (.return_, 1)) (hpost : post σ) : TT p l e R s m args below meth c D cy ad A nL cells slots (vx_MQ below (va_Qv post (Bw D cy ad) A) XC args s mc ms A) σ pc lv [] := by
  intro H locs ls hP hS hl
  exact W.widen hc hs (vx_ret (W.vret C.1 C.2.1 hr (fun t ht hW => ⟨⟨σ, rfl, hpost, by rw [ht]; exact hP, va_K.moved hW.alike C.2.2.2.2.2.1⟩, hS.F ht⟩) hS.2.2 hdg hlk))
/-- not caught here -/
theorem xg_out (C : Cx p s m args c cc nL own Ts D cy ad A) {Qc : Array Value → State → Outcome → State → Prop} {qx : String → sS → Prop} {H : Heap} {locs : List Loc} {ls : Array Slot} {E : String} {ce : Cell} {q : Addr} (hlk : meth.locks = false) (htab : ∀ x ∈ c.exceptionTable.toList, False) (hc : cells ≤ mc) (hs : slots ≤ ms) (hP : va_P D vwCl (wld ad cy σ) H) (hS : va_S A s.heap H locs) (hq : H[q]? = some ce) (hv : ce.vm = .none) (hcl : s.vm.findClass E = some ce.cls) (hx : qx E σ) :
    vx_W p l e R s m args below meth c H locs cells slots (vx_MQ below Qc (Xq D cy ad qx A) args s mc ms A) (F0 m pc ls st) q :=
  vx_out (fun x hx => (htab x hx).elim) hlk hq hv hcl (fun t ht hal => ⟨σ, trivial, ⟨hx, by rw [ht]; exact hP, va_K.moved hal C.2.2.2.2.2.1⟩, hS.F ht⟩) hS.2.2 hc hs
/-- 'throw new E("..")' -/
theorem xg_throw (C : Cx p s m args c cc nL own Ts D cy ad A) (hl0 : l.stackTraces = false) (hE : Ev A s s.heap) {Qc : Array Value → State → Outcome → State → Prop} {qx : String → sS → Prop} (E : String) {ik is ic : Nat} (hEx : E ∈ xExs) {text : String} (hst : (is, text) ∈ xStr) (hown : own = RX4) (hcls : Bundle.fit E = true) (hnames : ∀ n ∈ xNames, Bundle.fit n = true)
    (hk : Cond.classLink own ik E ∈ Ts) (hini : Cond.initialized E ∈ Ts) (hat1 : ∀ w ∈ (vx_atS own ic E xNames).filter goodWord, w ∈ Ts) (hat2 : ∀ w ∈ (vx_atS own ic E xNames).filter (fun w => !goodWord w), w ∈ Cond.castable E E :: xDs.map (fun Y => Cond.declares (Bundle.initS Y)))
    (hgood : ∀ w ∈ Cond.classLink own ik E :: Cond.initialized E :: vx_atS own ic E xNames, vx_ot w = true)
    (d0 : decode cc pc = .ok (.new ik, 3)) (d3 : decode cc (pc + 3) = .ok (.dup, 1)) (d4 : decode cc (pc + 4) = .ok (.ldc is, 2)) (d6 : decode cc (pc + 6) = .ok (.invokespecial ic, 3)) (d9 : decode cc (pc + 9) = .ok (.athrow, 1))
    (htab : ∀ x ∈ c.exceptionTable.toList, False) (hRframes : 5 < R.frames) (hRlocals : (st.map fun v => v.category).sum + 82 ≤ R.locals) (hRcells : cells + 1 ≤ R.cells) (hRslots : slots + 6 ≤ R.slots) (hlk : meth.locks = false) (hc : cells + 1 ≤ mc) (hs : slots + 6 ≤ ms) (hx : qx E σ) :
    TT p l e R s m args below meth c D cy ad A nL cells slots (vx_MQ below Qc (Xq D cy ad qx A) args s mc ms A) σ pc lv st := by
  intro H locs ls hP hS hl
  subst hown
  obtain ⟨sa, hsa⟩ := hE.2.2.2.1 _ hst
  exact vx_throwS (names := xNames) C.1 C.2.1 hl0 C.2.2.2.1 hcls hnames (C.2.2.2.2.1 _ hk) (C.2.2.2.2.1 _ hini) hsa (vx_hat (fun w hw => C.2.2.2.2.1 _ (hat1 w hw)) hat2 (vx_c ((hE.2.2.1.1 E hEx).use rfl) (fun w hw => by obtain ⟨Y, hY, rfl⟩ := List.mem_map.mp hw; exact (hE.2.2.1.2 Y hY).use rfl))) hgood hE.1 hE.2.1 hS (hl.1.trans C.2.2.1.symm) d0 d3 d4 d6 d9 (fun x hx => (htab x hx).elim) hRframes hRlocals hRcells hRslots hlk
    (fun t hal hz ho => ⟨σ, trivial, ⟨hx, hP.kept (fun k q hq => ho q.1 ((hP k q hq).lt)), va_K.moved hal C.2.2.2.2.2.1⟩, ⟨Nat.le_trans hS.1 hz, fun q h1 h2 => (ho q (Nat.lt_of_lt_of_le h1 hS.1)).trans (hS.2.1 q h1 h2)⟩⟩) hS.2.2 hc hs
/-- the same, of the class whose constructor differs -/
theorem xg_throwO (C : Cx p s m args c cc nL own Ts D cy ad A) (hl0 : l.stackTraces = false) (hE : Ev A s s.heap) {Qc : Array Value → State → Outcome → State → Prop} {qx : String → sS → Prop} (E : String) {ik is ic : Nat} (hEx : E ∈ xExs) {text : String} (hst : (is, text) ∈ xStr) (hown : own = RX4) (hcls : Bundle.fit E = true) (hnames : ∀ n ∈ xNames, Bundle.fit n = true)
    (hk : Cond.classLink own ik E ∈ Ts) (hini : Cond.initialized E ∈ Ts) (hat1 : ∀ w ∈ (od_at own ic E xNames).filter goodWord, w ∈ Ts) (hat2 : ∀ w ∈ (od_at own ic E xNames).filter (fun w => !goodWord w), w ∈ Cond.castable E E :: xDs.map (fun Y => Cond.declares (Bundle.initS Y)))
    (hgood : ∀ w ∈ Cond.classLink own ik E :: Cond.initialized E :: od_at own ic E xNames, vx_ot w = true)
    (d0 : decode cc pc = .ok (.new ik, 3)) (d3 : decode cc (pc + 3) = .ok (.dup, 1)) (d4 : decode cc (pc + 4) = .ok (.ldc is, 2)) (d6 : decode cc (pc + 6) = .ok (.invokespecial ic, 3)) (d9 : decode cc (pc + 9) = .ok (.athrow, 1))
    (htab : ∀ x ∈ c.exceptionTable.toList, False) (hRframes : 5 < R.frames) (hRlocals : (st.map fun v => v.category).sum + 82 ≤ R.locals) (hRcells : cells + 1 ≤ R.cells) (hRslots : slots + 6 ≤ R.slots) (hlk : meth.locks = false) (hc : cells + 1 ≤ mc) (hs : slots + 6 ≤ ms) (hx : qx E σ) :
    TT p l e R s m args below meth c D cy ad A nL cells slots (vx_MQ below Qc (Xq D cy ad qx A) args s mc ms A) σ pc lv st := by
  intro H locs ls hP hS hl
  subst hown
  obtain ⟨sa, hsa⟩ := hE.2.2.2.1 _ hst
  exact od_throw (names := xNames) C.1 C.2.1 hl0 C.2.2.2.1 hcls hnames (C.2.2.2.2.1 _ hk) (C.2.2.2.2.1 _ hini) hsa (vx_hat (fun w hw => C.2.2.2.2.1 _ (hat1 w hw)) hat2 (vx_c ((hE.2.2.1.1 E hEx).use rfl) (fun w hw => by obtain ⟨Y, hY, rfl⟩ := List.mem_map.mp hw; exact (hE.2.2.1.2 Y hY).use rfl))) hgood hE.1 hE.2.1 hS (hl.1.trans C.2.2.1.symm) d0 d3 d4 d6 d9 (fun x hx => (htab x hx).elim) hRframes hRlocals hRcells hRslots hlk
    (fun t hal hz ho => ⟨σ, trivial, ⟨hx, hP.kept (fun k q hq => ho q.1 ((hP k q hq).lt)), va_K.moved hal C.2.2.2.2.2.1⟩, ⟨Nat.le_trans hS.1 hz, fun q h1 h2 => (ho q (Nat.lt_of_lt_of_le h1 hS.1)).trans (hS.2.1 q h1 h2)⟩⟩) hS.2.2 hc hs

theorem xg_callVi (C : Cx p s m args c cc nL own Ts D cy ad A) (hE : Ev A s s.heap) {y : MethodName} {ws : List Cond} {fr lo index maxL n mc2 ms2 : Nat} {bytes : ByteArray} {ret : Option FieldType} (i : Nat) {ci N : Nat} {Cn : String} {T : u_T} {fs : List Value} (hi : i < 89) (he : ent ad cy i (σ i) = .inr (ci, fs)) (hc : vwCl[ci]? = some (Cn, T, N)) {As : List Value} {post : Int32 → sS → Prop} {qc : String → sS → Prop} (hM : Xi l y ws fr lo mc2 ms2 D cy ad (Value.ref (ad i) :: As) σ post qc) (cw : CallW R s args own Cn index y bytes maxL ret ws (Rx fr lo mc2 ms2) mc2 ms2 n) (hn : As.length = n) {stk : List Value} (hst : stk = As.reverse ++ .ref (ad i) :: st) (hcat : (st.map fun v => v.category).sum ≤ 8) (hcl : cells + mc2 ≤ R.cells ∧ slots + ms2 ≤ R.slots) (hdg : decode cc pc = .ok (.invokevirtual index, 3)) (pc' : Nat) (hp : pc + 3 = pc')
    (kx : ∀ (E : String) (τ : sS) (H : Heap) (locs : List Loc) (ls : Array Slot) (ce : Cell) (q : Addr), qc E τ → va_P D vwCl (wld ad cy τ) H → va_S A s.heap H locs → lv_has ls nL lv → H[q]? = some ce → ce.vm = .none → s.vm.findClass E = some ce.cls → vx_W p l e R s m args below meth c H locs (cells + mc2) (slots + ms2) Q (F0 m pc ls st) q)
    (kk : ∀ (r : Int32) (τ : sS), post r τ → TT p l e R s m args below meth c D cy ad A nL (cells + mc2) (slots + ms2) Q τ pc' lv (.int r :: st)) : TT p l e R s m args below meth c D cy ad A nL cells slots Q σ pc lv stk := by
  subst hp
  subst hst
  intro H locs ls hP hS hl
  exact vx_calli (vx_runV (As := As) (rest := st) ⟨C.1, C.2.1, C.2.2.1, C.2.2.2.1, C.2.2.2.2.1⟩ (hM H.size) cw ⟨PrX.blind, va_recv C.2.2.2.2.2.1 hP hc (q0 := i) (by rw [wld_at _ _ _ hi, he]), fun U hU hW => ⟨rfl, by rw [hU], by rw [hU]; exact hP, va_K.moved hW.alike C.2.2.2.2.2.1, hE.go hW hU hS.2.1 (fun q h => Aw.cx C hS.1 h)⟩⟩ rfl hn hl.1 rfl (lv_room hcat) hdg hcl) hS (fun q _ h => Aw.cx C hS.1 h) (fun q h => Aw.cx C hS.1 h) (fun q _ h => Aw.cx C hS.1 h) (fun E ce q9 u t H1 locs1 ht hvm hw hB _ _ hS1 h1 h2 h3 => kx E u H1 locs1 ls ce q9 hB.1 (by rw [← ht]; exact hB.2.1) hS1 hl h1 h2 h3) (fun r u t H1 locs1 ht hvm hw hB _ _ hS1 => kk r u hw H1 locs1 ls (by rw [← ht]; exact hB.1) hS1 hl)
theorem xg_callVv (C : Cx p s m args c cc nL own Ts D cy ad A) (hE : Ev A s s.heap) {y : MethodName} {ws : List Cond} {fr lo index maxL n mc2 ms2 : Nat} {bytes : ByteArray} {ret : Option FieldType} (i : Nat) {ci N : Nat} {Cn : String} {T : u_T} {fs : List Value} (hi : i < 89) (he : ent ad cy i (σ i) = .inr (ci, fs)) (hc : vwCl[ci]? = some (Cn, T, N)) {As : List Value} {post : sS → Prop} {qc : String → sS → Prop} (hM : Xv l y ws fr lo mc2 ms2 D cy ad (Value.ref (ad i) :: As) σ post qc) (cw : CallW R s args own Cn index y bytes maxL ret ws (Rx fr lo mc2 ms2) mc2 ms2 n) (hn : As.length = n) {stk : List Value} (hst : stk = As.reverse ++ .ref (ad i) :: st) (hcat : (st.map fun v => v.category).sum ≤ 8) (hcl : cells + mc2 ≤ R.cells ∧ slots + ms2 ≤ R.slots) (hdg : decode cc pc = .ok (.invokevirtual index, 3)) (pc' : Nat) (hp : pc + 3 = pc')
    (kx : ∀ (E : String) (τ : sS) (H : Heap) (locs : List Loc) (ls : Array Slot) (ce : Cell) (q : Addr), qc E τ → va_P D vwCl (wld ad cy τ) H → va_S A s.heap H locs → lv_has ls nL lv → H[q]? = some ce → ce.vm = .none → s.vm.findClass E = some ce.cls → vx_W p l e R s m args below meth c H locs (cells + mc2) (slots + ms2) Q (F0 m pc ls st) q)
    (kk : ∀ (τ : sS), post τ → TT p l e R s m args below meth c D cy ad A nL (cells + mc2) (slots + ms2) Q τ pc' lv st) : TT p l e R s m args below meth c D cy ad A nL cells slots Q σ pc lv stk := by
  subst hp
  subst hst
  intro H locs ls hP hS hl
  exact vx_callv (vx_runV (As := As) (rest := st) ⟨C.1, C.2.1, C.2.2.1, C.2.2.2.1, C.2.2.2.2.1⟩ (hM H.size) cw ⟨PrX.blind, va_recv C.2.2.2.2.2.1 hP hc (q0 := i) (by rw [wld_at _ _ _ hi, he]), fun U hU hW => ⟨rfl, by rw [hU], by rw [hU]; exact hP, va_K.moved hW.alike C.2.2.2.2.2.1, hE.go hW hU hS.2.1 (fun q h => Aw.cx C hS.1 h)⟩⟩ rfl hn hl.1 rfl (lv_room hcat) hdg hcl) hS (fun q _ h => Aw.cx C hS.1 h) (fun q h => Aw.cx C hS.1 h) (fun q _ h => Aw.cx C hS.1 h) (fun E ce q9 u t H1 locs1 ht hvm hw hB _ _ hS1 h1 h2 h3 => kx E u H1 locs1 ls ce q9 hB.1 (by rw [← ht]; exact hB.2.1) hS1 hl h1 h2 h3) (fun u t H1 locs1 ht hvm hw hB _ _ hS1 => kk u hw H1 locs1 ls (by rw [← ht]; exact hB.1) hS1 hl)
theorem xg_callSi (C : Cx p s m args c cc nL own Ts D cy ad A) (hE : Ev A s s.heap) {y : MethodName} {ws : List Cond} {fr lo index maxL n mc2 ms2 : Nat} {bytes : ByteArray} {ret : Option FieldType} {As : List Value} {post : Int32 → sS → Prop} {qc : String → sS → Prop} (hM : Xi l y ws fr lo mc2 ms2 D cy ad As σ post qc) (cw : CallB R s args own index y bytes maxL ret ws (Rx fr lo mc2 ms2) mc2 ms2 n ∧ (Cond.static y).before args s = true) (hn : As.length = n) {stk : List Value} (hst : stk = As.reverse ++ st) (hcat : (st.map fun v => v.category).sum ≤ 8) (hcl : cells + mc2 ≤ R.cells ∧ slots + ms2 ≤ R.slots) (hdg : decode cc pc = .ok (.invokestatic index, 3)) (pc' : Nat) (hp : pc + 3 = pc')
    (kx : ∀ (E : String) (τ : sS) (H : Heap) (locs : List Loc) (ls : Array Slot) (ce : Cell) (q : Addr), qc E τ → va_P D vwCl (wld ad cy τ) H → va_S A s.heap H locs → lv_has ls nL lv → H[q]? = some ce → ce.vm = .none → s.vm.findClass E = some ce.cls → vx_W p l e R s m args below meth c H locs (cells + mc2) (slots + ms2) Q (F0 m pc ls st) q)
    (kk : ∀ (r : Int32) (τ : sS), post r τ → TT p l e R s m args below meth c D cy ad A nL (cells + mc2) (slots + ms2) Q τ pc' lv (.int r :: st)) : TT p l e R s m args below meth c D cy ad A nL cells slots Q σ pc lv stk := by
  subst hp
  subst hst
  intro H locs ls hP hS hl
  exact vx_calli (vx_runS (As := As) (rest := st) ⟨C.1, C.2.1, C.2.2.1, C.2.2.2.1, C.2.2.2.2.1⟩ (hM H.size) cw ⟨PrX.blind, fun U hU hW => ⟨rfl, by rw [hU], by rw [hU]; exact hP, va_K.moved hW.alike C.2.2.2.2.2.1, hE.go hW hU hS.2.1 (fun q h => Aw.cx C hS.1 h)⟩⟩ rfl hn hl.1 rfl (lv_room hcat) hdg hcl) hS (fun q _ h => Aw.cx C hS.1 h) (fun q h => Aw.cx C hS.1 h) (fun q _ h => Aw.cx C hS.1 h) (fun E ce q9 u t H1 locs1 ht hvm hw hB _ _ hS1 h1 h2 h3 => kx E u H1 locs1 ls ce q9 hB.1 (by rw [← ht]; exact hB.2.1) hS1 hl h1 h2 h3) (fun r u t H1 locs1 ht hvm hw hB _ _ hS1 => kk r u hw H1 locs1 ls (by rw [← ht]; exact hB.1) hS1 hl)
theorem xg_callSv (C : Cx p s m args c cc nL own Ts D cy ad A) (hE : Ev A s s.heap) {y : MethodName} {ws : List Cond} {fr lo index maxL n mc2 ms2 : Nat} {bytes : ByteArray} {ret : Option FieldType} {As : List Value} {post : sS → Prop} {qc : String → sS → Prop} (hM : Xv l y ws fr lo mc2 ms2 D cy ad As σ post qc) (cw : CallB R s args own index y bytes maxL ret ws (Rx fr lo mc2 ms2) mc2 ms2 n ∧ (Cond.static y).before args s = true) (hn : As.length = n) {stk : List Value} (hst : stk = As.reverse ++ st) (hcat : (st.map fun v => v.category).sum ≤ 8) (hcl : cells + mc2 ≤ R.cells ∧ slots + ms2 ≤ R.slots) (hdg : decode cc pc = .ok (.invokestatic index, 3)) (pc' : Nat) (hp : pc + 3 = pc')
    (kx : ∀ (E : String) (τ : sS) (H : Heap) (locs : List Loc) (ls : Array Slot) (ce : Cell) (q : Addr), qc E τ → va_P D vwCl (wld ad cy τ) H → va_S A s.heap H locs → lv_has ls nL lv → H[q]? = some ce → ce.vm = .none → s.vm.findClass E = some ce.cls → vx_W p l e R s m args below meth c H locs (cells + mc2) (slots + ms2) Q (F0 m pc ls st) q)
    (kk : ∀ (τ : sS), post τ → TT p l e R s m args below meth c D cy ad A nL (cells + mc2) (slots + ms2) Q τ pc' lv st) : TT p l e R s m args below meth c D cy ad A nL cells slots Q σ pc lv stk := by
  subst hp
  subst hst
  intro H locs ls hP hS hl
  exact vx_callv (vx_runS (As := As) (rest := st) ⟨C.1, C.2.1, C.2.2.1, C.2.2.2.1, C.2.2.2.2.1⟩ (hM H.size) cw ⟨PrX.blind, fun U hU hW => ⟨rfl, by rw [hU], by rw [hU]; exact hP, va_K.moved hW.alike C.2.2.2.2.2.1, hE.go hW hU hS.2.1 (fun q h => Aw.cx C hS.1 h)⟩⟩ rfl hn hl.1 rfl (lv_room hcat) hdg hcl) hS (fun q _ h => Aw.cx C hS.1 h) (fun q h => Aw.cx C hS.1 h) (fun q _ h => Aw.cx C hS.1 h) (fun E ce q9 u t H1 locs1 ht hvm hw hB _ _ hS1 h1 h2 h3 => kx E u H1 locs1 ls ce q9 hB.1 (by rw [← ht]; exact hB.2.1) hS1 hl h1 h2 h3) (fun u t H1 locs1 ht hvm hw hB _ _ hS1 => kk u hw H1 locs1 ls (by rw [← ht]; exact hB.1) hS1 hl)
theorem Xi.of {y : MethodName} {ws ws' : List Cond} {fr lo : Nat} {a : List Value} {post : Int32 → sS → Prop} {qx : String → sS → Prop} (hDis : Dis ad) (hy : plainName y.cls = true) (hw : ws = Cond.code y cc nL (some .int) :: ws') (lv0 : List (Nat × Value)) (hlv : lv_args 0 a = lv0) (hle : (lg_sl a).length ≤ nL) (hown : y.cls = own)
    (body : ∀ (p : Program) (e : Env) (s : State) (m : MethodId) (args : Array Value) (below : List Frame) (meth : Method) (c : Code) (A : Nat → Prop) (Qc : Array Value → State → Outcome → State → Prop), Cx p s m args c cc nL own ws D cy ad A → Ev A s s.heap → meth.locks = false → (∀ x ∈ c.exceptionTable.toList, False) → (∀ {pc cells slots : Nat} {lv : List (Nat × Value)} {v : Int32} {τ : sS}, cells ≤ mc → slots ≤ ms → decode cc pc = .ok (.ireturn, 1) → post v τ → TT p l e (Rx fr lo mc ms) s m args below meth c D cy ad A nL cells slots (vx_MQ below Qc (Xq D cy ad qx A) args s mc ms A) τ pc lv [.int v]) → TT p l e (Rx fr lo mc ms) s m args below meth c D cy ad A nL 0 0 (vx_MQ below Qc (Xq D cy ad qx A) args s mc ms A) σ 0 lv0 []) : Xi l y ws fr lo mc ms D cy ad a σ post qx := by
  intro sz
  refine Xi.of0 hDis hy hw lv0 hlv hle hown ?_
  intro p e s m below meth c hsz C hr hlk htab hE
  subst hsz
  exact body p e s m a.toArray below meth c _ _ C hE hlk htab (fun hc hs hdg hp => xg_iret C hr hlk hc hs hdg hp)
theorem Xv.of {y : MethodName} {ws ws' : List Cond} {fr lo : Nat} {a : List Value} {post : sS → Prop} {qx : String → sS → Prop} (hDis : Dis ad) (hy : plainName y.cls = true) (hw : ws = Cond.code y cc nL none :: ws') (lv0 : List (Nat × Value)) (hlv : lv_args 0 a = lv0) (hle : (lg_sl a).length ≤ nL) (hown : y.cls = own)
    (body : ∀ (p : Program) (e : Env) (s : State) (m : MethodId) (args : Array Value) (below : List Frame) (meth : Method) (c : Code) (A : Nat → Prop) (Qc : Array Value → State → Outcome → State → Prop), Cx p s m args c cc nL own ws D cy ad A → Ev A s s.heap → meth.locks = false → (∀ x ∈ c.exceptionTable.toList, False) → (∀ {pc cells slots : Nat} {lv : List (Nat × Value)} {τ : sS}, cells ≤ mc → slots ≤ ms → decode cc pc = .ok (.return_, 1) → post τ → TT p l e (Rx fr lo mc ms) s m args below meth c D cy ad A nL cells slots (vx_MQ below Qc (Xq D cy ad qx A) args s mc ms A) τ pc lv []) → TT p l e (Rx fr lo mc ms) s m args below meth c D cy ad A nL 0 0 (vx_MQ below Qc (Xq D cy ad qx A) args s mc ms A) σ 0 lv0 []) : Xv l y ws fr lo mc ms D cy ad a σ post qx := by
  intro sz
  refine Xi.of0 hDis hy hw lv0 hlv hle hown ?_
  intro p e s m below meth c hsz C hr hlk htab hE
  subst hsz
  exact body p e s m a.toArray below meth c _ _ C hE hlk htab (fun hc hs hdg hp => xg_vret C hr hlk hc hs hdg hp)
end XTS
theorem at_xIA : ∀ w ∈ (vx_atS RX4 59 xIA xNames).filter (fun w => !goodWord w), w ∈ Cond.castable xIA xIA :: xDs.map (fun Y => Cond.declares (Bundle.initS Y)) := by decide +kernel
theorem gd_xIA : ∀ w ∈ vx_atS RX4 59 xIA xNames, vx_ot w = true := by decide +kernel
theorem at_xIS : ∀ w ∈ (vx_atS RX4 69 xIS xNames).filter (fun w => !goodWord w), w ∈ Cond.castable xIS xIS :: xDs.map (fun Y => Cond.declares (Bundle.initS Y)) := by decide +kernel
theorem gd_xIS : ∀ w ∈ vx_atS RX4 69 xIS xNames, vx_ot w = true := by decide +kernel
theorem at_xIO : ∀ w ∈ (vx_atS RX4 189 xIO xNames).filter (fun w => !goodWord w), w ∈ Cond.castable xIO xIO :: xDs.map (fun Y => Cond.declares (Bundle.initS Y)) := by decide +kernel
theorem gd_xIO : ∀ w ∈ vx_atS RX4 189 xIO xNames, vx_ot w = true := by decide +kernel
theorem at_xNS : ∀ w ∈ (od_at RX4 203 xNS xNames).filter (fun w => !goodWord w), w ∈ Cond.castable xNS xNS :: xDs.map (fun Y => Cond.declares (Bundle.initS Y)) := by decide +kernel
theorem gd_xNS : ∀ w ∈ od_at RX4 203 xNS xNames, vx_ot w = true := by decide +kernel
