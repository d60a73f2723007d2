/-! ===== rows for the law: its small methods, its script, its comparisons ===== -/
section LawR
variable {p : Program} {l : Launch} {e : Env} {R : Room} {s : State} {m : MethodId} {args : Array Value} {below : List Frame} {meth : Method} {c : Code} {D : va_G} {cy : Nat → ClassId} {ad : Nat → Nat} {A : Nat → Prop} {nL : Nat} {cells slots : Nat} {Q : State → Prop}
variable {cc : ByteArray} {own : String} {Ts : List Cond} {σ : sS} {pc : Nat} {lv : List (Nat × Value)} {st : List Value} {mc ms : Nat}
/-- what never throws to its caller is a method that returns -/
theorem Xi.met {y : MethodName} {ws : List Cond} {fr lo mc ms : Nat} {a : List Value} {post : Int32 → sS → Prop} (hM : Xi l y ws fr lo mc ms D cy ad a σ post (fun _ _ => False)) (sz : Nat) : Met l y ws (Rx fr lo mc ms) (PrX D cy ad a σ sz) (va_Qi post (Bw D cy ad) (Aw ad sz)) mc ms (Aw ad sz) := by
  intro p e ha hc hk s m args below hf happ hP hK
  obtain ⟨n, o, h1, h2, h3, h4⟩ := hM sz p e ha hc hk s m args below hf happ hP hK
  refine ⟨n, o, h1, h2, h3, h4.resolve_right ?_⟩
  rintro ⟨q, -, E, ce, L, ⟨u, -, ⟨hx, -⟩, -⟩, -⟩
  exact hx
/-- a call of a small method of the law's own -/
theorem xg_callSW (C : Cx p s m args c cc nL own Ts D cy ad A) (hE : Ev A s s.heap) {y : MethodName} {ws : List Cond} {fr lo index maxL n mc2 ms2 : Nat} {bytes : ByteArray} {ret : Option FieldType} {hh : List (Nat × Nat × Nat × Nat)} {As : List Value} {post : Int32 → sS → Prop} (hM : Xi l y ws fr lo mc2 ms2 D cy ad As σ post (fun _ _ => False)) (cw : vx_CSW R s args own index y bytes maxL ret hh ws (Rx fr lo mc2 ms2) mc2 ms2 n) (hn : As.length = n) {stk : List Value} (hst : stk = As.reverse ++ st) (hcat : (st.map fun v => v.category).sum ≤ 8) (hcl : cells + mc2 ≤ R.cells ∧ slots + ms2 ≤ R.slots) (hdg : decode cc pc = .ok (.invokestatic index, 3)) (pc' : Nat) (hp : pc + 3 = pc')
    (kk : ∀ (r : Int32) (τ : sS), post r τ → TT p l e R s m args below meth c D cy ad A nL (cells + mc2) (slots + ms2) Q τ pc' lv (.int r :: st)) : TT p l e R s m args below meth c D cy ad A nL cells slots Q σ pc lv stk := by
  subst hp
  subst hst
  intro H locs ls hP hS hl
  exact va_calli (vx_runSW (As := As) (rest := st) ⟨C.1, C.2.1, C.2.2.1, C.2.2.2.1, C.2.2.2.2.1⟩ (hM.met H.size) cw ⟨PrX.blind, fun U hU hW => ⟨rfl, by rw [hU], by rw [hU]; exact hP, va_K.moved hW.alike C.2.2.2.2.2.1, hE.go hW hU hS.2.1 (fun q h => Aw.cx C hS.1 h)⟩⟩ rfl hn hl.1 rfl (lv_room hcat) hdg hcl) hS (fun q _ h => Aw.cx C hS.1 h) (fun q h => Aw.cx C hS.1 h) (fun r u t H1 locs1 ht hvm hw hB _ _ hS1 => kk r u hw H1 locs1 ls (by rw [← ht]; exact hB.1) hS1 hl)
theorem tg_sld (C : Cx p s m args c cc nL own Ts D cy ad A) {b L : Nat} {xs : Nat → Int32} (hX : va_X b L xs s s.heap) (hbl : b < s.heap.size) (hbA : ¬ A b) {i : Int32} (hin : vp_in i L) (hdg : decode cc pc = .ok (.iaload, 1)) (pc' : Nat) (hp : pc + 1 = pc') (kk : TT p l e R s m args below meth c D cy ad A nL cells slots Q σ pc' lv (.int (xs i.toNatClampNeg) :: st)) : TT p l e R s m args below meth c D cy ad A nL cells slots Q σ pc lv (.int i :: .ref b :: st) := by
  subst hp
  intro H locs ls hP hS hl
  exact va_sld C.1 C.2.1 hX hbl hbA hS hin hdg (kk H locs ls hP hS hl)
theorem tg_slen (C : Cx p s m args c cc nL own Ts D cy ad A) {b L : Nat} {xs : Nat → Int32} (hX : va_X b L xs s s.heap) (hbl : b < s.heap.size) (hbA : ¬ A b) (hdg : decode cc pc = .ok (.arraylength, 1)) (pc' : Nat) (hp : pc + 1 = pc') (kk : TT p l e R s m args below meth c D cy ad A nL cells slots Q σ pc' lv (.int (nI L) :: st)) : TT p l e R s m args below meth c D cy ad A nL cells slots Q σ pc lv (.ref b :: st) := by
  subst hp
  intro H locs ls hP hS hl
  exact va_slen C.1 C.2.1 hX hbl hbA hS hdg (kk H locs ls hP hS hl)
theorem tg_lcmp0 (C : Cx p s m args c cc nL own Ts D cy ad A) {x : Int64} (hdg : decode cc pc = .ok (.lcmp, 1)) (pc' : Nat) (hp : pc + 1 = pc') (kk : TT p l e R s m args below meth c D cy ad A nL cells slots Q σ pc' lv (.int 0 :: st)) : TT p l e R s m args below meth c D cy ad A nL cells slots Q σ pc lv (.long x :: .long x :: st) := by
  subst hp
  intro H locs ls hP hS hl T hT X
  obtain ⟨t, a, b⟩ := kk H locs ls hP hS hl T hT X
  refine ⟨t, ?_, b⟩
  have h1 : ¬ x > x := fun h => Int64.lt_irrefl h
  jvm_step X.here [X.here.top, C.1, C.2.1, hdg, h1]
  exact a
theorem tg_tableIn (C : Cx p s m args c cc nL own Ts D cy ad A) {dflt lo hi : Int} {offs : Array Int} {len : Nat} {x : Int32} {off : Int} (tgt : Nat) (hdg : decode cc pc = .ok (.tableswitch dflt lo hi offs, len)) (h1 : ¬ x.toInt < lo) (h2 : ¬ hi < x.toInt) (ho : offs[(x.toInt - lo).toNat]? = some off) (ht : (pc : Int) + off = (tgt : Int)) (kk : TT p l e R s m args below meth c D cy ad A nL cells slots Q σ tgt lv st) : TT p l e R s m args below meth c D cy ad A nL cells slots Q σ pc lv (.int x :: st) := fun H locs ls hP hS hl => lv_tableIn C.1 C.2.1 hdg h1 h2 ho ht (kk H locs ls hP hS hl)
theorem tg_tableOut (C : Cx p s m args c cc nL own Ts D cy ad A) {dflt lo hi : Int} {offs : Array Int} {len : Nat} {x : Int32} (tgt : Nat) (hdg : decode cc pc = .ok (.tableswitch dflt lo hi offs, len)) (h : x.toInt < lo ∨ hi < x.toInt) (ht : (pc : Int) + dflt = (tgt : Int)) (kk : TT p l e R s m args below meth c D cy ad A nL cells slots Q σ tgt lv st) : TT p l e R s m args below meth c D cy ad A nL cells slots Q σ pc lv (.int x :: st) := fun H locs ls hP hS hl => lv_tableOut C.1 C.2.1 hdg h ht (kk H locs ls hP hS hl)
end LawR
