/-! ===== the law's small methods: a call, its answer kept or its exception's number ===== -/
section XLS
variable {p : Program} {l : Launch} {e : Env} {R : Room} {s : State} {m : MethodId} {args : Array Value} {below : List Frame} {meth : Method} {c : Code} {D : va_G} {cy : Nat → ClassId} {ad : Nat → Nat} {A : Nat → Prop} {nL : Nat} {cells slots : Nat} {Q : State → Prop}
variable {cc : ByteArray} {own : String} {Ts : List Cond} {σ : sS} {pc : Nat} {lv : List (Nat × Value)} {st : List Value} {mc ms : Nat}
theorem tg_last (C : Cx p s m args c cc nL own Ts D cy ad A) {r : Int32} (hdg : decode cc pc = .ok (.lastore, 1)) (pc' : Nat) (hp : pc + 1 = pc') (kk : TT p l e R s m args below meth c D cy ad A nL cells slots Q (su σ 96 0 r) pc' lv st) : TT p l e R s m args below meth c D cy ad A nL cells slots Q σ pc lv (.long r.toInt64 :: .int (nI 0) :: .ref (ad 96) :: st) := by
  subst hp
  intro H locs ls hP hS hl
  refine va_last C.1 C.2.1 C.2.2.2.2.2.1 hP (C.2.2.2.2.2.2.1.D C.2.2.2.2.2.2.2.1 cy σ) hS 96 3 (by rw [wld_at _ _ _ (by decide), e_96]) rfl (vp_in_nI (by decide) (by decide)) hdg (fun H1 locs1 hP1 _ hS1 => kk H1 locs1 ls ?_ hS1 hl)
  have e : (.inl (cy 3, 1, .inr (.inl (vp_updL (fun k => (σ 96 k).toInt64) (nI 0).toNatClampNeg r.toInt64))) : va_E) = ent ad cy 96 (upd (σ 96) 0 r) := by
    rw [e_96, show (nI 0).toNatClampNeg = 0 from rfl]
    have h : vp_updL (fun k => (σ 96 k).toInt64) 0 r.toInt64 = fun k => (upd (σ 96) 0 r k).toInt64 := by
      funext k
      unfold vp_updL upd
      split <;> rfl
    rw [h]
  rw [e, wld_set] at hP1
  exact hP1
theorem tg_lald (C : Cx p s m args c cc nL own Ts D cy ad A) (hdg : decode cc pc = .ok (.laload, 1)) (pc' : Nat) (hp : pc + 1 = pc') (kk : TT p l e R s m args below meth c D cy ad A nL cells slots Q σ pc' lv (.long (σ 96 0).toInt64 :: st)) : TT p l e R s m args below meth c D cy ad A nL cells slots Q σ pc lv (.int (nI 0) :: .ref (ad 96) :: st) := by
  subst hp
  intro H locs ls hP hS hl
  refine va_lald (f := fun k => (σ 96 k).toInt64) C.1 C.2.1 C.2.2.2.2.2.1 hP 96 3 (by rw [wld_at _ _ _ (by decide), e_96]) rfl (vp_in_nI (by decide) (by decide)) hdg ?_
  exact kk H locs ls hP hS hl
theorem tg_astoreR (C : Cx p s m args c cc nL own Ts D cy ad A) {k4 : Fin 4} {i : Nat} {x : Nat} (hdg : decode cc pc = .ok (.astore_n k4, 1)) (pc' : Nat) (hp : pc + 1 = pc') (hi : (k4 : Nat) = i) (lv' : List (Nat × Value)) (hn : i < nL) (hl0 : (i, Value.ref x) :: lv.filter (fun q => !(q.1 == i) && !(q.1 + 1 == i && q.2.category == 2)) = lv') (k : TT p l e R s m args below meth c D cy ad A nL cells slots Q σ pc' lv' st) : TT p l e R s m args below meth c D cy ad A nL cells slots Q σ pc lv (.ref x :: st) := tg_astore_n C hdg pc' hp hi lv' hn hl0 k
/-- caught by row x of this method's table -/
theorem xg_catch (C : Cx p s m args c cc nL own Ts D cy ad A) (hE : Ev A s s.heap) {E : String} (hEx : E ∈ xExs) (pre : List ExceptionTableEntry) (x : ExceptionTableEntry) (suf : List ExceptionTableEntry) (hsplit : c.exceptionTable.toList = pre ++ x :: suf) (hpass : ∀ z ∈ pre, covers z pc = false ∨ (z.catchType ≠ 0 ∧ ∃ nm : String, Cond.classLink own z.catchType nm ∈ Ts ∧ (E, nm) ∈ xNc)) (hx : covers x pc = true) (h0 : x.catchType ≠ 0) (hlink : Cond.classLink own x.catchType E ∈ Ts)
    {H : Heap} {locs : List Loc} {ls : Array Slot} {ce : Cell} {q : Addr} (hP : va_P D vwCl (wld ad cy σ) H) (hS : va_S A s.heap H locs) (hl : lv_has ls nL lv) (hq : H[q]? = some ce) (hv : ce.vm = .none) (hcl : s.vm.findClass E = some ce.cls)
    (kk : TT p l e R s m args below meth c D cy ad A nL cells slots Q σ x.handlerPc lv [.ref q]) : vx_W p l e R s m args below meth c H locs cells slots Q (F0 m pc ls st) q :=
  vx_catch C.2.2.2.1 pre x suf hsplit (fun z hz => (hpass z hz).imp id (fun ⟨h1, nm, h2, h3⟩ => ⟨h1, nm, C.2.2.2.2.1 _ h2, hE.2.2.2.2 _ h3⟩)) hx h0 (C.2.2.2.2.1 _ hlink) ((hE.2.2.1.1 E hEx).use rfl) hq hv hcl (kk H locs ls hP hS hl)
theorem Xi.ofH {y : MethodName} {ws ws' : List Cond} {fr lo : Nat} {a : List Value} {post : Int32 → sS → Prop} {qx : String → sS → Prop} {hh : List (Nat × Nat × Nat × Nat)} (hDis : Dis ad) (hy : plainName y.cls = true) (hw : ws = Cond.codeWith y cc nL (some .int) hh :: ws') (lv0 : List (Nat × Value)) (hlv : lv_args 0 a = lv0) (hle : (lg_sl a).length ≤ nL) (hown : y.cls = own)
    (body : ∀ (p : Program) (e : Env) (s : State) (m : MethodId) (args : Array Value) (below : List Frame) (meth : Method) (c : Code) (A : Nat → Prop) (Qc : Array Value → State → Outcome → State → Prop), Cx p s m args c cc nL own ws D cy ad A → Ev A s s.heap → c.exceptionTable.toList = tableOf hh → (∀ {pc cells slots : Nat} {lv : List (Nat × Value)} {v : Int32} {τ : sS}, cells ≤ mc → slots ≤ ms → decode cc pc = .ok (.ireturn, 1) → post v τ → TT p l e (Rx fr lo mc ms) s m args below meth c D cy ad A nL cells slots (vx_MQ below Qc (Xq D cy ad qx A) args s mc ms A) τ pc lv [.int v]) → TT p l e (Rx fr lo mc ms) s m args below meth c D cy ad A nL 0 0 (vx_MQ below Qc (Xq D cy ad qx A) args s mc ms A) σ 0 lv0 []) : Xi l y ws fr lo mc ms D cy ad a σ post qx := by
  intro sz
  refine vx_ofWH (cc := cc) (maxL := nL) (ret := some .int) (hh := hh) hy hw ?_
  intro p e s m args below meth c s₁ B hml hv
  obtain ⟨rfl, hsz, hP, hK, hEv⟩ := hv
  subst hsz
  have hts := atoms_spec (ws := ws) B.pre
  have hown' : s.vm.findClass own = some m.cls := hown ▸ findClass_of_methodNamed B.named
  have ht : c.exceptionTable.toList = tableOf hh := vx_table (x := y) B (hts _ (by rw [hw]; exact List.mem_cons_self))
  have C : Cx p s m a.toArray c cc nL own ws D cy ad (Aw ad s.heap.size) := ⟨B.exec, B.bytes, hml, hown', hts, hK, hDis, fun i hi => Or.inl ⟨i, hi, rfl⟩, fun q hq => Or.inr hq⟩
  rw [lg_entry_eq]
  exact body p e s m a.toArray below meth c _ _ C hEv ht (fun hc hs hdg hp => xg_iret C B.returns B.notSynchronized hc hs hdg hp) s.heap [] _ hP va_S.rf (hlv ▸ lv_entry a hle)
end XLS
set_option maxHeartbeats 4000000 in
set_option maxRecDepth 100000 in
theorem c_L_spell (l : Launch) (D : va_G) (cy : Nat → ClassId) (ad : Nat → Nat) (hDis : Dis ad) (σ : sS) {x : Int32} {post : Int32 → sS → Prop} {qx : String → sS → Prop} (hM : Xi l yX4_spell wsX4_spell 6 90 1 6 D cy ad [.ref (ad 0), .int x] σ post qx) (hqx : ∀ E τ, qx E τ → E = xIA ∨ E = xIS) : Xi l yL_spell wsL_spell 7 112 1 6 D cy ad [.ref (ad 0), .int x, .ref (ad 96)] σ (fun r τ => (∃ r1 τ1, post r1 τ1 ∧ r = nI 0 ∧ τ = su τ1 96 0 r1) ∨ (∃ E, qx E τ ∧ ((E = xIA ∧ r = nI 1) ∨ (E = xIS ∧ r = nI 2)))) (fun _ _ => False) := by
  have wc0 : Cond.classLink RL 13 xIA ∈ wsL_spell := by decide +kernel
  have wc1 : Cond.classLink RL 15 xIS ∈ wsL_spell := by decide +kernel
  refine Xi.ofH (cc := cL_spell) (nL := 4) (own := RL) hDis (by decide) rfl [(0, .ref (ad 0)), (1, .int x), (2, .ref (ad 96))] rfl (Nat.le_of_ble_eq_true rfl) rfl ?_
  intro p e s m args below meth c A Qc C hE ht hret
  refine tg_aload_n C dL_spell_0 1 rfl rfl 2 rfl ?_
  refine tg_iconst C (nI 0) dL_spell_1 2 rfl (by decide) ?_
  refine tg_aload_n C dL_spell_2 3 rfl rfl 0 rfl ?_
  refine tg_iload_n C dL_spell_3 4 rfl rfl 1 rfl ?_
  refine xg_callVi C hE 0 (by decide) (e_0 ad cy _) rfl hM (cwV 1 C.2.2.2.2.1 gL_spell_X4_spell rfl rfl rfl (by decide +kernel) ⟨(Nat.le_of_ble_eq_true rfl), (Nat.le_of_ble_eq_true rfl)⟩) rfl rfl (Nat.le_of_ble_eq_true rfl) ⟨(Nat.le_of_ble_eq_true rfl), (Nat.le_of_ble_eq_true rfl)⟩ dL_spell_4 7 rfl (fun E τx H locs ls ce q hq hP hS9 hl9 h1 h2 h3 => ?_) (fun r1 τ1 hr1 => ?_)
  · rcases hqx E τx hq with rfl | rfl
    · refine xg_catch C hE (by decide) [] ⟨0, 9, 12, 13⟩ [⟨0, 9, 15, 15⟩] ht (fun z hz => nomatch hz) (by decide) (by decide) wc0 hP hS9 hl9 h1 h2 h3 ?_
      refine tg_astore_n C dL_spell_12 13 rfl rfl [(3, .ref q), (0, .ref (ad 0)), (1, .int x), (2, .ref (ad 96))] (by decide) rfl ?_
      refine tg_iconst C (nI 1) dL_spell_13 14 rfl (by decide) ?_
      exact hret (Nat.le_of_ble_eq_true rfl) (Nat.le_of_ble_eq_true rfl) dL_spell_14 (Or.inr ⟨_, hq, Or.inl ⟨rfl, rfl⟩⟩)
    · refine xg_catch C hE (by decide) [⟨0, 9, 12, 13⟩] ⟨0, 9, 15, 15⟩ [] ht (fun z hz => by rw [List.mem_singleton.mp hz]; exact Or.inr ⟨by decide, xIA, wc0, by decide⟩) (by decide) (by decide) wc1 hP hS9 hl9 h1 h2 h3 ?_
      refine tg_astore_n C dL_spell_15 16 rfl rfl [(3, .ref q), (0, .ref (ad 0)), (1, .int x), (2, .ref (ad 96))] (by decide) rfl ?_
      refine tg_iconst C (nI 2) dL_spell_16 17 rfl (by decide) ?_
      exact hret (Nat.le_of_ble_eq_true rfl) (Nat.le_of_ble_eq_true rfl) dL_spell_17 (Or.inr ⟨_, hq, Or.inr ⟨rfl, rfl⟩⟩)
  · refine tg_i2l C dL_spell_7 8 rfl ?_
    refine tg_last C dL_spell_8 9 rfl ?_
    refine tg_goto C 18 dL_spell_9 (by decide) ?_
    refine tg_iconst C (nI 0) dL_spell_18 19 rfl (by decide) ?_
    exact hret (Nat.le_of_ble_eq_true rfl) (Nat.le_of_ble_eq_true rfl) dL_spell_19 (Or.inl ⟨r1, τ1, hr1, rfl, rfl⟩)
set_option maxHeartbeats 4000000 in
set_option maxRecDepth 100000 in
theorem c_L_runAt (l : Launch) (D : va_G) (cy : Nat → ClassId) (ad : Nat → Nat) (hDis : Dis ad) (σ : sS) {x : Int32} {post : Int32 → sS → Prop} {qx : String → sS → Prop} (hM : Xi l yX4_runAt wsX4_runAt 7 111 1 6 D cy ad [.ref (ad 0), .int x] σ post qx) (hqx : ∀ E τ, qx E τ → E = xIO) : Xi l yL_runAt wsL_runAt 8 132 1 6 D cy ad [.ref (ad 0), .int x, .ref (ad 96)] σ (fun r τ => (∃ r1 τ1, post r1 τ1 ∧ r = nI 0 ∧ τ = su τ1 96 0 r1) ∨ (∃ E, qx E τ ∧ ((E = xIO ∧ r = nI 1)))) (fun _ _ => False) := by
  have wc0 : Cond.classLink RL 21 xIO ∈ wsL_runAt := by decide +kernel
  refine Xi.ofH (cc := cL_runAt) (nL := 4) (own := RL) hDis (by decide) rfl [(0, .ref (ad 0)), (1, .int x), (2, .ref (ad 96))] rfl (Nat.le_of_ble_eq_true rfl) rfl ?_
  intro p e s m args below meth c A Qc C hE ht hret
  refine tg_aload_n C dL_runAt_0 1 rfl rfl 2 rfl ?_
  refine tg_iconst C (nI 0) dL_runAt_1 2 rfl (by decide) ?_
  refine tg_aload_n C dL_runAt_2 3 rfl rfl 0 rfl ?_
  refine tg_iload_n C dL_runAt_3 4 rfl rfl 1 rfl ?_
  refine xg_callVi C hE 0 (by decide) (e_0 ad cy _) rfl hM (cwV 1 C.2.2.2.2.1 gL_runAt_X4_runAt rfl rfl rfl (by decide +kernel) ⟨(Nat.le_of_ble_eq_true rfl), (Nat.le_of_ble_eq_true rfl)⟩) rfl rfl (Nat.le_of_ble_eq_true rfl) ⟨(Nat.le_of_ble_eq_true rfl), (Nat.le_of_ble_eq_true rfl)⟩ dL_runAt_4 7 rfl (fun E τx H locs ls ce q hq hP hS9 hl9 h1 h2 h3 => ?_) (fun r1 τ1 hr1 => ?_)
  · obtain rfl := hqx E τx hq
    refine xg_catch C hE (by decide) [] ⟨0, 9, 12, 21⟩ [] ht (fun z hz => nomatch hz) (by decide) (by decide) wc0 hP hS9 hl9 h1 h2 h3 ?_
    refine tg_astore_n C dL_runAt_12 13 rfl rfl [(3, .ref q), (0, .ref (ad 0)), (1, .int x), (2, .ref (ad 96))] (by decide) rfl ?_
    refine tg_iconst C (nI 1) dL_runAt_13 14 rfl (by decide) ?_
    exact hret (Nat.le_of_ble_eq_true rfl) (Nat.le_of_ble_eq_true rfl) dL_runAt_14 (Or.inr ⟨_, hq, ⟨rfl, rfl⟩⟩)
  · refine tg_i2l C dL_runAt_7 8 rfl ?_
    refine tg_last C dL_runAt_8 9 rfl ?_
    refine tg_goto C 15 dL_runAt_9 (by decide) ?_
    refine tg_iconst C (nI 0) dL_runAt_15 16 rfl (by decide) ?_
    exact hret (Nat.le_of_ble_eq_true rfl) (Nat.le_of_ble_eq_true rfl) dL_runAt_16 (Or.inl ⟨r1, τ1, hr1, rfl, rfl⟩)
set_option maxHeartbeats 4000000 in
set_option maxRecDepth 100000 in
theorem c_L_addTongue (l : Launch) (D : va_G) (cy : Nat → ClassId) (ad : Nat → Nat) (hDis : Dis ad) (σ : sS) {post : Int32 → sS → Prop} {qx : String → sS → Prop} (hM : Xi l yX4_addTongue wsX4_addTongue 6 90 1 6 D cy ad [.ref (ad 0)] σ post qx) (hqx : ∀ E τ, qx E τ → E = xIS) : Xi l yL_addTongue wsL_addTongue 7 110 1 6 D cy ad [.ref (ad 0), .ref (ad 96)] σ (fun r τ => (∃ r1 τ1, post r1 τ1 ∧ r = nI 0 ∧ τ = su τ1 96 0 r1) ∨ (∃ E, qx E τ ∧ ((E = xIS ∧ r = nI 1)))) (fun _ _ => False) := by
  have wc0 : Cond.classLink RL 15 xIS ∈ wsL_addTongue := by decide +kernel
  refine Xi.ofH (cc := cL_addTongue) (nL := 3) (own := RL) hDis (by decide) rfl [(0, .ref (ad 0)), (1, .ref (ad 96))] rfl (Nat.le_of_ble_eq_true rfl) rfl ?_
  intro p e s m args below meth c A Qc C hE ht hret
  refine tg_aload_n C dL_addTongue_0 1 rfl rfl 1 rfl ?_
  refine tg_iconst C (nI 0) dL_addTongue_1 2 rfl (by decide) ?_
  refine tg_aload_n C dL_addTongue_2 3 rfl rfl 0 rfl ?_
  refine xg_callVi C hE 0 (by decide) (e_0 ad cy _) rfl hM (cwV 0 C.2.2.2.2.1 gL_addTongue_X4_addTongue rfl rfl rfl (by decide +kernel) ⟨(Nat.le_of_ble_eq_true rfl), (Nat.le_of_ble_eq_true rfl)⟩) rfl rfl (Nat.le_of_ble_eq_true rfl) ⟨(Nat.le_of_ble_eq_true rfl), (Nat.le_of_ble_eq_true rfl)⟩ dL_addTongue_3 6 rfl (fun E τx H locs ls ce q hq hP hS9 hl9 h1 h2 h3 => ?_) (fun r1 τ1 hr1 => ?_)
  · obtain rfl := hqx E τx hq
    refine xg_catch C hE (by decide) [] ⟨0, 8, 11, 15⟩ [] ht (fun z hz => nomatch hz) (by decide) (by decide) wc0 hP hS9 hl9 h1 h2 h3 ?_
    refine tg_astore_n C dL_addTongue_11 12 rfl rfl [(2, .ref q), (0, .ref (ad 0)), (1, .ref (ad 96))] (by decide) rfl ?_
    refine tg_iconst C (nI 1) dL_addTongue_12 13 rfl (by decide) ?_
    exact hret (Nat.le_of_ble_eq_true rfl) (Nat.le_of_ble_eq_true rfl) dL_addTongue_13 (Or.inr ⟨_, hq, ⟨rfl, rfl⟩⟩)
  · refine tg_i2l C dL_addTongue_6 7 rfl ?_
    refine tg_last C dL_addTongue_7 8 rfl ?_
    refine tg_goto C 14 dL_addTongue_8 (by decide) ?_
    refine tg_iconst C (nI 0) dL_addTongue_14 15 rfl (by decide) ?_
    exact hret (Nat.le_of_ble_eq_true rfl) (Nat.le_of_ble_eq_true rfl) dL_addTongue_15 (Or.inl ⟨r1, τ1, hr1, rfl, rfl⟩)
set_option maxHeartbeats 4000000 in
set_option maxRecDepth 100000 in
theorem c_L_teach (l : Launch) (D : va_G) (cy : Nat → ClassId) (ad : Nat → Nat) (hDis : Dis ad) (σ : sS) {x : Int32} {post : Int32 → sS → Prop} {qx : String → sS → Prop} (hM : Xi l yX4_teach wsX4_teach 7 111 2 12 D cy ad [.ref (ad 0), .int x] σ post qx) (hqx : ∀ E τ, qx E τ → E = xIO ∨ E = xIS) : Xi l yL_teach wsL_teach 8 132 2 12 D cy ad [.ref (ad 0), .int x, .ref (ad 96)] σ (fun r τ => (∃ r1 τ1, post r1 τ1 ∧ r = nI 0 ∧ τ = su τ1 96 0 r1) ∨ (∃ E, qx E τ ∧ ((E = xIO ∧ r = nI 1) ∨ (E = xIS ∧ r = nI 2)))) (fun _ _ => False) := by
  have wc0 : Cond.classLink RL 21 xIO ∈ wsL_teach := by decide +kernel
  have wc1 : Cond.classLink RL 15 xIS ∈ wsL_teach := by decide +kernel
  refine Xi.ofH (cc := cL_teach) (nL := 4) (own := RL) hDis (by decide) rfl [(0, .ref (ad 0)), (1, .int x), (2, .ref (ad 96))] rfl (Nat.le_of_ble_eq_true rfl) rfl ?_
  intro p e s m args below meth c A Qc C hE ht hret
  refine tg_aload_n C dL_teach_0 1 rfl rfl 2 rfl ?_
  refine tg_iconst C (nI 0) dL_teach_1 2 rfl (by decide) ?_
  refine tg_aload_n C dL_teach_2 3 rfl rfl 0 rfl ?_
  refine tg_iload_n C dL_teach_3 4 rfl rfl 1 rfl ?_
  refine xg_callVi C hE 0 (by decide) (e_0 ad cy _) rfl hM (cwV 1 C.2.2.2.2.1 gL_teach_X4_teach rfl rfl rfl (by decide +kernel) ⟨(Nat.le_of_ble_eq_true rfl), (Nat.le_of_ble_eq_true rfl)⟩) rfl rfl (Nat.le_of_ble_eq_true rfl) ⟨(Nat.le_of_ble_eq_true rfl), (Nat.le_of_ble_eq_true rfl)⟩ dL_teach_4 7 rfl (fun E τx H locs ls ce q hq hP hS9 hl9 h1 h2 h3 => ?_) (fun r1 τ1 hr1 => ?_)
  · rcases hqx E τx hq with rfl | rfl
    · refine xg_catch C hE (by decide) [] ⟨0, 9, 12, 21⟩ [⟨0, 9, 15, 15⟩] ht (fun z hz => nomatch hz) (by decide) (by decide) wc0 hP hS9 hl9 h1 h2 h3 ?_
      refine tg_astore_n C dL_teach_12 13 rfl rfl [(3, .ref q), (0, .ref (ad 0)), (1, .int x), (2, .ref (ad 96))] (by decide) rfl ?_
      refine tg_iconst C (nI 1) dL_teach_13 14 rfl (by decide) ?_
      exact hret (Nat.le_of_ble_eq_true rfl) (Nat.le_of_ble_eq_true rfl) dL_teach_14 (Or.inr ⟨_, hq, Or.inl ⟨rfl, rfl⟩⟩)
    · refine xg_catch C hE (by decide) [⟨0, 9, 12, 21⟩] ⟨0, 9, 15, 15⟩ [] ht (fun z hz => by rw [List.mem_singleton.mp hz]; exact Or.inr ⟨by decide, xIO, wc0, by decide⟩) (by decide) (by decide) wc1 hP hS9 hl9 h1 h2 h3 ?_
      refine tg_astore_n C dL_teach_15 16 rfl rfl [(3, .ref q), (0, .ref (ad 0)), (1, .int x), (2, .ref (ad 96))] (by decide) rfl ?_
      refine tg_iconst C (nI 2) dL_teach_16 17 rfl (by decide) ?_
      exact hret (Nat.le_of_ble_eq_true rfl) (Nat.le_of_ble_eq_true rfl) dL_teach_17 (Or.inr ⟨_, hq, Or.inr ⟨rfl, rfl⟩⟩)
  · refine tg_i2l C dL_teach_7 8 rfl ?_
    refine tg_last C dL_teach_8 9 rfl ?_
    refine tg_goto C 18 dL_teach_9 (by decide) ?_
    refine tg_iconst C (nI 0) dL_teach_18 19 rfl (by decide) ?_
    exact hret (Nat.le_of_ble_eq_true rfl) (Nat.le_of_ble_eq_true rfl) dL_teach_19 (Or.inl ⟨r1, τ1, hr1, rfl, rfl⟩)
set_option maxHeartbeats 4000000 in
set_option maxRecDepth 100000 in
theorem c_L_withdraw (l : Launch) (D : va_G) (cy : Nat → ClassId) (ad : Nat → Nat) (hDis : Dis ad) (σ : sS) {x : Int32} {post : Int32 → sS → Prop} {qx : String → sS → Prop} (hM : Xi l yX4_withdraw wsX4_withdraw 7 112 1 6 D cy ad [.ref (ad 0), .int x] σ post qx) (hqx : ∀ E τ, qx E τ → E = xNS) : Xi l yL_withdraw wsL_withdraw 8 137 1 6 D cy ad [.ref (ad 0), .int x, .ref (ad 96)] σ (fun r τ => (∃ r1 τ1, post r1 τ1 ∧ r = nI 0 ∧ τ = su τ1 96 0 r1) ∨ (∃ E, qx E τ ∧ ((E = xNS ∧ r = nI 1)))) (fun _ _ => False) := by
  have wc0 : Cond.classLink RL 33 xNS ∈ wsL_withdraw := by decide +kernel
  refine Xi.ofH (cc := cL_withdraw) (nL := 4) (own := RL) hDis (by decide) rfl [(0, .ref (ad 0)), (1, .int x), (2, .ref (ad 96))] rfl (Nat.le_of_ble_eq_true rfl) rfl ?_
  intro p e s m args below meth c A Qc C hE ht hret
  refine tg_aload_n C dL_withdraw_0 1 rfl rfl 2 rfl ?_
  refine tg_iconst C (nI 0) dL_withdraw_1 2 rfl (by decide) ?_
  refine tg_aload_n C dL_withdraw_2 3 rfl rfl 0 rfl ?_
  refine tg_iload_n C dL_withdraw_3 4 rfl rfl 1 rfl ?_
  refine xg_callVi C hE 0 (by decide) (e_0 ad cy _) rfl hM (cwV 1 C.2.2.2.2.1 gL_withdraw_X4_withdraw rfl rfl rfl (by decide +kernel) ⟨(Nat.le_of_ble_eq_true rfl), (Nat.le_of_ble_eq_true rfl)⟩) rfl rfl (Nat.le_of_ble_eq_true rfl) ⟨(Nat.le_of_ble_eq_true rfl), (Nat.le_of_ble_eq_true rfl)⟩ dL_withdraw_4 7 rfl (fun E τx H locs ls ce q hq hP hS9 hl9 h1 h2 h3 => ?_) (fun r1 τ1 hr1 => ?_)
  · obtain rfl := hqx E τx hq
    refine xg_catch C hE (by decide) [] ⟨0, 9, 12, 33⟩ [] ht (fun z hz => nomatch hz) (by decide) (by decide) wc0 hP hS9 hl9 h1 h2 h3 ?_
    refine tg_astore_n C dL_withdraw_12 13 rfl rfl [(3, .ref q), (0, .ref (ad 0)), (1, .int x), (2, .ref (ad 96))] (by decide) rfl ?_
    refine tg_iconst C (nI 1) dL_withdraw_13 14 rfl (by decide) ?_
    exact hret (Nat.le_of_ble_eq_true rfl) (Nat.le_of_ble_eq_true rfl) dL_withdraw_14 (Or.inr ⟨_, hq, ⟨rfl, rfl⟩⟩)
  · refine tg_i2l C dL_withdraw_7 8 rfl ?_
    refine tg_last C dL_withdraw_8 9 rfl ?_
    refine tg_goto C 15 dL_withdraw_9 (by decide) ?_
    refine tg_iconst C (nI 0) dL_withdraw_15 16 rfl (by decide) ?_
    exact hret (Nat.le_of_ble_eq_true rfl) (Nat.le_of_ble_eq_true rfl) dL_withdraw_16 (Or.inl ⟨r1, τ1, hr1, rfl, rfl⟩)
set_option maxHeartbeats 4000000 in
set_option maxRecDepth 100000 in
theorem c_L_tongueOf (l : Launch) (D : va_G) (cy : Nat → ClassId) (ad : Nat → Nat) (hDis : Dis ad) (σ : sS) {x : Int32} {post : Int32 → sS → Prop} {qx : String → sS → Prop} (hM : Xi l yX4_tongueOf wsX4_tongueOf 7 112 1 6 D cy ad [.ref (ad 0), .int x] σ post qx) (hqx : ∀ E τ, qx E τ → E = xNS) : Xi l yL_tongueOf wsL_tongueOf 8 133 1 6 D cy ad [.ref (ad 0), .int x, .ref (ad 96)] σ (fun r τ => (∃ r1 τ1, post r1 τ1 ∧ r = nI 0 ∧ τ = su τ1 96 0 r1) ∨ (∃ E, qx E τ ∧ ((E = xNS ∧ r = nI 1)))) (fun _ _ => False) := by
  have wc0 : Cond.classLink RL 33 xNS ∈ wsL_tongueOf := by decide +kernel
  refine Xi.ofH (cc := cL_tongueOf) (nL := 4) (own := RL) hDis (by decide) rfl [(0, .ref (ad 0)), (1, .int x), (2, .ref (ad 96))] rfl (Nat.le_of_ble_eq_true rfl) rfl ?_
  intro p e s m args below meth c A Qc C hE ht hret
  refine tg_aload_n C dL_tongueOf_0 1 rfl rfl 2 rfl ?_
  refine tg_iconst C (nI 0) dL_tongueOf_1 2 rfl (by decide) ?_
  refine tg_aload_n C dL_tongueOf_2 3 rfl rfl 0 rfl ?_
  refine tg_iload_n C dL_tongueOf_3 4 rfl rfl 1 rfl ?_
  refine xg_callVi C hE 0 (by decide) (e_0 ad cy _) rfl hM (cwV 1 C.2.2.2.2.1 gL_tongueOf_X4_tongueOf rfl rfl rfl (by decide +kernel) ⟨(Nat.le_of_ble_eq_true rfl), (Nat.le_of_ble_eq_true rfl)⟩) rfl rfl (Nat.le_of_ble_eq_true rfl) ⟨(Nat.le_of_ble_eq_true rfl), (Nat.le_of_ble_eq_true rfl)⟩ dL_tongueOf_4 7 rfl (fun E τx H locs ls ce q hq hP hS9 hl9 h1 h2 h3 => ?_) (fun r1 τ1 hr1 => ?_)
  · obtain rfl := hqx E τx hq
    refine xg_catch C hE (by decide) [] ⟨0, 9, 12, 33⟩ [] ht (fun z hz => nomatch hz) (by decide) (by decide) wc0 hP hS9 hl9 h1 h2 h3 ?_
    refine tg_astore_n C dL_tongueOf_12 13 rfl rfl [(3, .ref q), (0, .ref (ad 0)), (1, .int x), (2, .ref (ad 96))] (by decide) rfl ?_
    refine tg_iconst C (nI 1) dL_tongueOf_13 14 rfl (by decide) ?_
    exact hret (Nat.le_of_ble_eq_true rfl) (Nat.le_of_ble_eq_true rfl) dL_tongueOf_14 (Or.inr ⟨_, hq, ⟨rfl, rfl⟩⟩)
  · refine tg_i2l C dL_tongueOf_7 8 rfl ?_
    refine tg_last C dL_tongueOf_8 9 rfl ?_
    refine tg_goto C 15 dL_tongueOf_9 (by decide) ?_
    refine tg_iconst C (nI 0) dL_tongueOf_15 16 rfl (by decide) ?_
    exact hret (Nat.le_of_ble_eq_true rfl) (Nat.le_of_ble_eq_true rfl) dL_tongueOf_16 (Or.inl ⟨r1, τ1, hr1, rfl, rfl⟩)
set_option maxHeartbeats 4000000 in
set_option maxRecDepth 100000 in
theorem c_L_total (l : Launch) (D : va_G) (cy : Nat → ClassId) (ad : Nat → Nat) (hDis : Dis ad) (σ : sS) {x : Int32} {post : Int32 → sS → Prop} {qx : String → sS → Prop} (hM : Xi l yX4_total wsX4_total 7 111 1 6 D cy ad [.ref (ad 0), .int x] σ post qx) (hqx : ∀ E τ, qx E τ → E = xIO) : Xi l yL_total wsL_total 8 132 1 6 D cy ad [.ref (ad 0), .int x, .ref (ad 96)] σ (fun r τ => (∃ r1 τ1, post r1 τ1 ∧ r = nI 0 ∧ τ = su τ1 96 0 r1) ∨ (∃ E, qx E τ ∧ ((E = xIO ∧ r = nI 1)))) (fun _ _ => False) := by
  have wc0 : Cond.classLink RL 21 xIO ∈ wsL_total := by decide +kernel
  refine Xi.ofH (cc := cL_total) (nL := 4) (own := RL) hDis (by decide) rfl [(0, .ref (ad 0)), (1, .int x), (2, .ref (ad 96))] rfl (Nat.le_of_ble_eq_true rfl) rfl ?_
  intro p e s m args below meth c A Qc C hE ht hret
  refine tg_aload_n C dL_total_0 1 rfl rfl 2 rfl ?_
  refine tg_iconst C (nI 0) dL_total_1 2 rfl (by decide) ?_
  refine tg_aload_n C dL_total_2 3 rfl rfl 0 rfl ?_
  refine tg_iload_n C dL_total_3 4 rfl rfl 1 rfl ?_
  refine xg_callVi C hE 0 (by decide) (e_0 ad cy _) rfl hM (cwV 1 C.2.2.2.2.1 gL_total_X4_total rfl rfl rfl (by decide +kernel) ⟨(Nat.le_of_ble_eq_true rfl), (Nat.le_of_ble_eq_true rfl)⟩) rfl rfl (Nat.le_of_ble_eq_true rfl) ⟨(Nat.le_of_ble_eq_true rfl), (Nat.le_of_ble_eq_true rfl)⟩ dL_total_4 7 rfl (fun E τx H locs ls ce q hq hP hS9 hl9 h1 h2 h3 => ?_) (fun r1 τ1 hr1 => ?_)
  · obtain rfl := hqx E τx hq
    refine xg_catch C hE (by decide) [] ⟨0, 9, 12, 21⟩ [] ht (fun z hz => nomatch hz) (by decide) (by decide) wc0 hP hS9 hl9 h1 h2 h3 ?_
    refine tg_astore_n C dL_total_12 13 rfl rfl [(3, .ref q), (0, .ref (ad 0)), (1, .int x), (2, .ref (ad 96))] (by decide) rfl ?_
    refine tg_iconst C (nI 1) dL_total_13 14 rfl (by decide) ?_
    exact hret (Nat.le_of_ble_eq_true rfl) (Nat.le_of_ble_eq_true rfl) dL_total_14 (Or.inr ⟨_, hq, ⟨rfl, rfl⟩⟩)
  · refine tg_i2l C dL_total_7 8 rfl ?_
    refine tg_last C dL_total_8 9 rfl ?_
    refine tg_goto C 15 dL_total_9 (by decide) ?_
    refine tg_iconst C (nI 0) dL_total_15 16 rfl (by decide) ?_
    exact hret (Nat.le_of_ble_eq_true rfl) (Nat.le_of_ble_eq_true rfl) dL_total_16 (Or.inl ⟨r1, τ1, hr1, rfl, rfl⟩)
set_option maxHeartbeats 4000000 in
set_option maxRecDepth 100000 in
theorem c_L_count (l : Launch) (D : va_G) (cy : Nat → ClassId) (ad : Nat → Nat) (hDis : Dis ad) (σ : sS) {x : Int32} {y : Int32} {post : Int32 → sS → Prop} {qx : String → sS → Prop} (hM : Xi l yX4_count wsX4_count 7 111 2 12 D cy ad [.ref (ad 0), .int x, .int y] σ post qx) (hqx : ∀ E τ, qx E τ → E = xIO) : Xi l yL_count wsL_count 8 133 2 12 D cy ad [.ref (ad 0), .int x, .int y, .ref (ad 96)] σ (fun r τ => (∃ r1 τ1, post r1 τ1 ∧ r = nI 0 ∧ τ = su τ1 96 0 r1) ∨ (∃ E, qx E τ ∧ ((E = xIO ∧ r = nI 1)))) (fun _ _ => False) := by
  have wc0 : Cond.classLink RL 21 xIO ∈ wsL_count := by decide +kernel
  refine Xi.ofH (cc := cL_count) (nL := 5) (own := RL) hDis (by decide) rfl [(0, .ref (ad 0)), (1, .int x), (2, .int y), (3, .ref (ad 96))] rfl (Nat.le_of_ble_eq_true rfl) rfl ?_
  intro p e s m args below meth c A Qc C hE ht hret
  refine tg_aload_n C dL_count_0 1 rfl rfl 3 rfl ?_
  refine tg_iconst C (nI 0) dL_count_1 2 rfl (by decide) ?_
  refine tg_aload_n C dL_count_2 3 rfl rfl 0 rfl ?_
  refine tg_iload_n C dL_count_3 4 rfl rfl 1 rfl ?_
  refine tg_iload_n C dL_count_4 5 rfl rfl 2 rfl ?_
  refine xg_callVi C hE 0 (by decide) (e_0 ad cy _) rfl hM (cwV 2 C.2.2.2.2.1 gL_count_X4_count rfl rfl rfl (by decide +kernel) ⟨(Nat.le_of_ble_eq_true rfl), (Nat.le_of_ble_eq_true rfl)⟩) rfl rfl (Nat.le_of_ble_eq_true rfl) ⟨(Nat.le_of_ble_eq_true rfl), (Nat.le_of_ble_eq_true rfl)⟩ dL_count_5 8 rfl (fun E τx H locs ls ce q hq hP hS9 hl9 h1 h2 h3 => ?_) (fun r1 τ1 hr1 => ?_)
  · obtain rfl := hqx E τx hq
    refine xg_catch C hE (by decide) [] ⟨0, 10, 13, 21⟩ [] ht (fun z hz => nomatch hz) (by decide) (by decide) wc0 hP hS9 hl9 h1 h2 h3 ?_
    refine tg_astore C dL_count_13 15 rfl [(4, .ref q), (0, .ref (ad 0)), (1, .int x), (2, .int y), (3, .ref (ad 96))] (by decide) rfl ?_
    refine tg_iconst C (nI 1) dL_count_15 16 rfl (by decide) ?_
    exact hret (Nat.le_of_ble_eq_true rfl) (Nat.le_of_ble_eq_true rfl) dL_count_16 (Or.inr ⟨_, hq, ⟨rfl, rfl⟩⟩)
  · refine tg_i2l C dL_count_8 9 rfl ?_
    refine tg_last C dL_count_9 10 rfl ?_
    refine tg_goto C 17 dL_count_10 (by decide) ?_
    refine tg_iconst C (nI 0) dL_count_17 18 rfl (by decide) ?_
    exact hret (Nat.le_of_ble_eq_true rfl) (Nat.le_of_ble_eq_true rfl) dL_count_18 (Or.inl ⟨r1, τ1, hr1, rfl, rfl⟩)
set_option maxHeartbeats 4000000 in
set_option maxRecDepth 100000 in
theorem c_L_cost (l : Launch) (D : va_G) (cy : Nat → ClassId) (ad : Nat → Nat) (hDis : Dis ad) (σ : sS) {x : Int32} {y : Int32} {post : Int32 → sS → Prop} {qx : String → sS → Prop} (hM : Xi l yX4_cost wsX4_cost 7 111 2 12 D cy ad [.ref (ad 0), .int x, .int y] σ post qx) (hqx : ∀ E τ, qx E τ → E = xIO) : Xi l yL_cost wsL_cost 8 133 2 12 D cy ad [.ref (ad 0), .int x, .int y, .ref (ad 96)] σ (fun r τ => (∃ r1 τ1, post r1 τ1 ∧ r = nI 0 ∧ τ = su τ1 96 0 r1) ∨ (∃ E, qx E τ ∧ ((E = xIO ∧ r = nI 1)))) (fun _ _ => False) := by
  have wc0 : Cond.classLink RL 21 xIO ∈ wsL_cost := by decide +kernel
  refine Xi.ofH (cc := cL_cost) (nL := 5) (own := RL) hDis (by decide) rfl [(0, .ref (ad 0)), (1, .int x), (2, .int y), (3, .ref (ad 96))] rfl (Nat.le_of_ble_eq_true rfl) rfl ?_
  intro p e s m args below meth c A Qc C hE ht hret
  refine tg_aload_n C dL_cost_0 1 rfl rfl 3 rfl ?_
  refine tg_iconst C (nI 0) dL_cost_1 2 rfl (by decide) ?_
  refine tg_aload_n C dL_cost_2 3 rfl rfl 0 rfl ?_
  refine tg_iload_n C dL_cost_3 4 rfl rfl 1 rfl ?_
  refine tg_iload_n C dL_cost_4 5 rfl rfl 2 rfl ?_
  refine xg_callVi C hE 0 (by decide) (e_0 ad cy _) rfl hM (cwV 2 C.2.2.2.2.1 gL_cost_X4_cost rfl rfl rfl (by decide +kernel) ⟨(Nat.le_of_ble_eq_true rfl), (Nat.le_of_ble_eq_true rfl)⟩) rfl rfl (Nat.le_of_ble_eq_true rfl) ⟨(Nat.le_of_ble_eq_true rfl), (Nat.le_of_ble_eq_true rfl)⟩ dL_cost_5 8 rfl (fun E τx H locs ls ce q hq hP hS9 hl9 h1 h2 h3 => ?_) (fun r1 τ1 hr1 => ?_)
  · obtain rfl := hqx E τx hq
    refine xg_catch C hE (by decide) [] ⟨0, 10, 13, 21⟩ [] ht (fun z hz => nomatch hz) (by decide) (by decide) wc0 hP hS9 hl9 h1 h2 h3 ?_
    refine tg_astore C dL_cost_13 15 rfl [(4, .ref q), (0, .ref (ad 0)), (1, .int x), (2, .int y), (3, .ref (ad 96))] (by decide) rfl ?_
    refine tg_iconst C (nI 1) dL_cost_15 16 rfl (by decide) ?_
    exact hret (Nat.le_of_ble_eq_true rfl) (Nat.le_of_ble_eq_true rfl) dL_cost_16 (Or.inr ⟨_, hq, ⟨rfl, rfl⟩⟩)
  · refine tg_i2l C dL_cost_8 9 rfl ?_
    refine tg_last C dL_cost_9 10 rfl ?_
    refine tg_goto C 17 dL_cost_10 (by decide) ?_
    refine tg_iconst C (nI 0) dL_cost_17 18 rfl (by decide) ?_
    exact hret (Nat.le_of_ble_eq_true rfl) (Nat.le_of_ble_eq_true rfl) dL_cost_18 (Or.inl ⟨r1, τ1, hr1, rfl, rfl⟩)
set_option maxHeartbeats 4000000 in
set_option maxRecDepth 100000 in
theorem c_L_rank (l : Launch) (D : va_G) (cy : Nat → ClassId) (ad : Nat → Nat) (hDis : Dis ad) (σ : sS) {x : Int32} {y : Int32} {post : Int32 → sS → Prop} {qx : String → sS → Prop} (hM : Xi l yX4_rank wsX4_rank 7 111 2 12 D cy ad [.ref (ad 0), .int x, .int y] σ post qx) (hqx : ∀ E τ, qx E τ → E = xIO) : Xi l yL_rank wsL_rank 8 133 2 12 D cy ad [.ref (ad 0), .int x, .int y, .ref (ad 96)] σ (fun r τ => (∃ r1 τ1, post r1 τ1 ∧ r = nI 0 ∧ τ = su τ1 96 0 r1) ∨ (∃ E, qx E τ ∧ ((E = xIO ∧ r = nI 1)))) (fun _ _ => False) := by
  have wc0 : Cond.classLink RL 21 xIO ∈ wsL_rank := by decide +kernel
  refine Xi.ofH (cc := cL_rank) (nL := 5) (own := RL) hDis (by decide) rfl [(0, .ref (ad 0)), (1, .int x), (2, .int y), (3, .ref (ad 96))] rfl (Nat.le_of_ble_eq_true rfl) rfl ?_
  intro p e s m args below meth c A Qc C hE ht hret
  refine tg_aload_n C dL_rank_0 1 rfl rfl 3 rfl ?_
  refine tg_iconst C (nI 0) dL_rank_1 2 rfl (by decide) ?_
  refine tg_aload_n C dL_rank_2 3 rfl rfl 0 rfl ?_
  refine tg_iload_n C dL_rank_3 4 rfl rfl 1 rfl ?_
  refine tg_iload_n C dL_rank_4 5 rfl rfl 2 rfl ?_
  refine xg_callVi C hE 0 (by decide) (e_0 ad cy _) rfl hM (cwV 2 C.2.2.2.2.1 gL_rank_X4_rank rfl rfl rfl (by decide +kernel) ⟨(Nat.le_of_ble_eq_true rfl), (Nat.le_of_ble_eq_true rfl)⟩) rfl rfl (Nat.le_of_ble_eq_true rfl) ⟨(Nat.le_of_ble_eq_true rfl), (Nat.le_of_ble_eq_true rfl)⟩ dL_rank_5 8 rfl (fun E τx H locs ls ce q hq hP hS9 hl9 h1 h2 h3 => ?_) (fun r1 τ1 hr1 => ?_)
  · obtain rfl := hqx E τx hq
    refine xg_catch C hE (by decide) [] ⟨0, 10, 13, 21⟩ [] ht (fun z hz => nomatch hz) (by decide) (by decide) wc0 hP hS9 hl9 h1 h2 h3 ?_
    refine tg_astore C dL_rank_13 15 rfl [(4, .ref q), (0, .ref (ad 0)), (1, .int x), (2, .int y), (3, .ref (ad 96))] (by decide) rfl ?_
    refine tg_iconst C (nI 1) dL_rank_15 16 rfl (by decide) ?_
    exact hret (Nat.le_of_ble_eq_true rfl) (Nat.le_of_ble_eq_true rfl) dL_rank_16 (Or.inr ⟨_, hq, ⟨rfl, rfl⟩⟩)
  · refine tg_i2l C dL_rank_8 9 rfl ?_
    refine tg_last C dL_rank_9 10 rfl ?_
    refine tg_goto C 17 dL_rank_10 (by decide) ?_
    refine tg_iconst C (nI 0) dL_rank_17 18 rfl (by decide) ?_
    exact hret (Nat.le_of_ble_eq_true rfl) (Nat.le_of_ble_eq_true rfl) dL_rank_18 (Or.inl ⟨r1, τ1, hr1, rfl, rfl⟩)
set_option maxHeartbeats 4000000 in
set_option maxRecDepth 100000 in
theorem c_L_textCost (l : Launch) (D : va_G) (cy : Nat → ClassId) (ad : Nat → Nat) (hDis : Dis ad) (σ : sS) {x : Int32} {post : Int32 → sS → Prop} {qx : String → sS → Prop} (hM : Xi l yX4_textCost wsX4_textCost 7 111 1 6 D cy ad [.ref (ad 0), .int x] σ post qx) (hqx : ∀ E τ, qx E τ → E = xIO) : Xi l yL_textCost wsL_textCost 8 132 1 6 D cy ad [.ref (ad 0), .int x, .ref (ad 96)] σ (fun r τ => (∃ r1 τ1, post r1 τ1 ∧ r = nI 0 ∧ τ = su τ1 96 0 r1) ∨ (∃ E, qx E τ ∧ ((E = xIO ∧ r = nI 1)))) (fun _ _ => False) := by
  have wc0 : Cond.classLink RL 21 xIO ∈ wsL_textCost := by decide +kernel
  refine Xi.ofH (cc := cL_textCost) (nL := 4) (own := RL) hDis (by decide) rfl [(0, .ref (ad 0)), (1, .int x), (2, .ref (ad 96))] rfl (Nat.le_of_ble_eq_true rfl) rfl ?_
  intro p e s m args below meth c A Qc C hE ht hret
  refine tg_aload_n C dL_textCost_0 1 rfl rfl 2 rfl ?_
  refine tg_iconst C (nI 0) dL_textCost_1 2 rfl (by decide) ?_
  refine tg_aload_n C dL_textCost_2 3 rfl rfl 0 rfl ?_
  refine tg_iload_n C dL_textCost_3 4 rfl rfl 1 rfl ?_
  refine xg_callVi C hE 0 (by decide) (e_0 ad cy _) rfl hM (cwV 1 C.2.2.2.2.1 gL_textCost_X4_textCost rfl rfl rfl (by decide +kernel) ⟨(Nat.le_of_ble_eq_true rfl), (Nat.le_of_ble_eq_true rfl)⟩) rfl rfl (Nat.le_of_ble_eq_true rfl) ⟨(Nat.le_of_ble_eq_true rfl), (Nat.le_of_ble_eq_true rfl)⟩ dL_textCost_4 7 rfl (fun E τx H locs ls ce q hq hP hS9 hl9 h1 h2 h3 => ?_) (fun r1 τ1 hr1 => ?_)
  · obtain rfl := hqx E τx hq
    refine xg_catch C hE (by decide) [] ⟨0, 9, 12, 21⟩ [] ht (fun z hz => nomatch hz) (by decide) (by decide) wc0 hP hS9 hl9 h1 h2 h3 ?_
    refine tg_astore_n C dL_textCost_12 13 rfl rfl [(3, .ref q), (0, .ref (ad 0)), (1, .int x), (2, .ref (ad 96))] (by decide) rfl ?_
    refine tg_iconst C (nI 1) dL_textCost_13 14 rfl (by decide) ?_
    exact hret (Nat.le_of_ble_eq_true rfl) (Nat.le_of_ble_eq_true rfl) dL_textCost_14 (Or.inr ⟨_, hq, ⟨rfl, rfl⟩⟩)
  · refine tg_i2l C dL_textCost_7 8 rfl ?_
    refine tg_last C dL_textCost_8 9 rfl ?_
    refine tg_goto C 15 dL_textCost_9 (by decide) ?_
    refine tg_iconst C (nI 0) dL_textCost_15 16 rfl (by decide) ?_
    exact hret (Nat.le_of_ble_eq_true rfl) (Nat.le_of_ble_eq_true rfl) dL_textCost_16 (Or.inl ⟨r1, τ1, hr1, rfl, rfl⟩)
set_option maxHeartbeats 4000000 in
set_option maxRecDepth 100000 in
theorem c_L_distance (l : Launch) (D : va_G) (cy : Nat → ClassId) (ad : Nat → Nat) (hDis : Dis ad) (σ : sS) {x : Int32} {post : Int32 → sS → Prop} {qx : String → sS → Prop} (hM : Xi l yX4_distance wsX4_distance 7 111 1 6 D cy ad [.ref (ad 0), .int x] σ post qx) (hqx : ∀ E τ, qx E τ → E = xIO) : Xi l yL_distance wsL_distance 8 132 1 6 D cy ad [.ref (ad 0), .int x, .ref (ad 96)] σ (fun r τ => (∃ r1 τ1, post r1 τ1 ∧ r = nI 0 ∧ τ = su τ1 96 0 r1) ∨ (∃ E, qx E τ ∧ ((E = xIO ∧ r = nI 1)))) (fun _ _ => False) := by
  have wc0 : Cond.classLink RL 21 xIO ∈ wsL_distance := by decide +kernel
  refine Xi.ofH (cc := cL_distance) (nL := 4) (own := RL) hDis (by decide) rfl [(0, .ref (ad 0)), (1, .int x), (2, .ref (ad 96))] rfl (Nat.le_of_ble_eq_true rfl) rfl ?_
  intro p e s m args below meth c A Qc C hE ht hret
  refine tg_aload_n C dL_distance_0 1 rfl rfl 2 rfl ?_
  refine tg_iconst C (nI 0) dL_distance_1 2 rfl (by decide) ?_
  refine tg_aload_n C dL_distance_2 3 rfl rfl 0 rfl ?_
  refine tg_iload_n C dL_distance_3 4 rfl rfl 1 rfl ?_
  refine xg_callVi C hE 0 (by decide) (e_0 ad cy _) rfl hM (cwV 1 C.2.2.2.2.1 gL_distance_X4_distance rfl rfl rfl (by decide +kernel) ⟨(Nat.le_of_ble_eq_true rfl), (Nat.le_of_ble_eq_true rfl)⟩) rfl rfl (Nat.le_of_ble_eq_true rfl) ⟨(Nat.le_of_ble_eq_true rfl), (Nat.le_of_ble_eq_true rfl)⟩ dL_distance_4 7 rfl (fun E τx H locs ls ce q hq hP hS9 hl9 h1 h2 h3 => ?_) (fun r1 τ1 hr1 => ?_)
  · obtain rfl := hqx E τx hq
    refine xg_catch C hE (by decide) [] ⟨0, 9, 12, 21⟩ [] ht (fun z hz => nomatch hz) (by decide) (by decide) wc0 hP hS9 hl9 h1 h2 h3 ?_
    refine tg_astore_n C dL_distance_12 13 rfl rfl [(3, .ref q), (0, .ref (ad 0)), (1, .int x), (2, .ref (ad 96))] (by decide) rfl ?_
    refine tg_iconst C (nI 1) dL_distance_13 14 rfl (by decide) ?_
    exact hret (Nat.le_of_ble_eq_true rfl) (Nat.le_of_ble_eq_true rfl) dL_distance_14 (Or.inr ⟨_, hq, ⟨rfl, rfl⟩⟩)
  · refine tg_i2l C dL_distance_7 8 rfl ?_
    refine tg_last C dL_distance_8 9 rfl ?_
    refine tg_goto C 15 dL_distance_9 (by decide) ?_
    refine tg_iconst C (nI 0) dL_distance_15 16 rfl (by decide) ?_
    exact hret (Nat.le_of_ble_eq_true rfl) (Nat.le_of_ble_eq_true rfl) dL_distance_16 (Or.inl ⟨r1, τ1, hr1, rfl, rfl⟩)
set_option maxHeartbeats 4000000 in
set_option maxRecDepth 100000 in
theorem c_L_setMargin (l : Launch) (D : va_G) (cy : Nat → ClassId) (ad : Nat → Nat) (hDis : Dis ad) (σ : sS) {x : Int32} {post : Int32 → sS → Prop} {qx : String → sS → Prop} (hM : Xi l yX4_setMargin wsX4_setMargin 6 90 1 6 D cy ad [.ref (ad 0), .int x] σ post qx) (hqx : ∀ E τ, qx E τ → E = xIA) : Xi l yL_setMargin wsL_setMargin 7 112 1 6 D cy ad [.ref (ad 0), .int x, .ref (ad 96)] σ (fun r τ => (∃ r1 τ1, post r1 τ1 ∧ r = nI 0 ∧ τ = su τ1 96 0 r1) ∨ (∃ E, qx E τ ∧ ((E = xIA ∧ r = nI 1)))) (fun _ _ => False) := by
  have wc0 : Cond.classLink RL 13 xIA ∈ wsL_setMargin := by decide +kernel
  refine Xi.ofH (cc := cL_setMargin) (nL := 4) (own := RL) hDis (by decide) rfl [(0, .ref (ad 0)), (1, .int x), (2, .ref (ad 96))] rfl (Nat.le_of_ble_eq_true rfl) rfl ?_
  intro p e s m args below meth c A Qc C hE ht hret
  refine tg_aload_n C dL_setMargin_0 1 rfl rfl 2 rfl ?_
  refine tg_iconst C (nI 0) dL_setMargin_1 2 rfl (by decide) ?_
  refine tg_aload_n C dL_setMargin_2 3 rfl rfl 0 rfl ?_
  refine tg_iload_n C dL_setMargin_3 4 rfl rfl 1 rfl ?_
  refine xg_callVi C hE 0 (by decide) (e_0 ad cy _) rfl hM (cwV 1 C.2.2.2.2.1 gL_setMargin_X4_setMargin rfl rfl rfl (by decide +kernel) ⟨(Nat.le_of_ble_eq_true rfl), (Nat.le_of_ble_eq_true rfl)⟩) rfl rfl (Nat.le_of_ble_eq_true rfl) ⟨(Nat.le_of_ble_eq_true rfl), (Nat.le_of_ble_eq_true rfl)⟩ dL_setMargin_4 7 rfl (fun E τx H locs ls ce q hq hP hS9 hl9 h1 h2 h3 => ?_) (fun r1 τ1 hr1 => ?_)
  · obtain rfl := hqx E τx hq
    refine xg_catch C hE (by decide) [] ⟨0, 9, 12, 13⟩ [] ht (fun z hz => nomatch hz) (by decide) (by decide) wc0 hP hS9 hl9 h1 h2 h3 ?_
    refine tg_astore_n C dL_setMargin_12 13 rfl rfl [(3, .ref q), (0, .ref (ad 0)), (1, .int x), (2, .ref (ad 96))] (by decide) rfl ?_
    refine tg_iconst C (nI 1) dL_setMargin_13 14 rfl (by decide) ?_
    exact hret (Nat.le_of_ble_eq_true rfl) (Nat.le_of_ble_eq_true rfl) dL_setMargin_14 (Or.inr ⟨_, hq, ⟨rfl, rfl⟩⟩)
  · refine tg_i2l C dL_setMargin_7 8 rfl ?_
    refine tg_last C dL_setMargin_8 9 rfl ?_
    refine tg_goto C 15 dL_setMargin_9 (by decide) ?_
    refine tg_iconst C (nI 0) dL_setMargin_15 16 rfl (by decide) ?_
    exact hret (Nat.le_of_ble_eq_true rfl) (Nat.le_of_ble_eq_true rfl) dL_setMargin_16 (Or.inl ⟨r1, τ1, hr1, rfl, rfl⟩)
set_option maxHeartbeats 4000000 in
set_option maxRecDepth 100000 in
theorem c_L_setPrice (l : Launch) (D : va_G) (cy : Nat → ClassId) (ad : Nat → Nat) (hDis : Dis ad) (σ : sS) {x : Int32} {post : Int32 → sS → Prop} {qx : String → sS → Prop} (hM : Xi l yX4_setPrice wsX4_setPrice 6 90 1 6 D cy ad [.ref (ad 0), .int x] σ post qx) (hqx : ∀ E τ, qx E τ → E = xIA) : Xi l yL_setPrice wsL_setPrice 7 112 1 6 D cy ad [.ref (ad 0), .int x, .ref (ad 96)] σ (fun r τ => (∃ r1 τ1, post r1 τ1 ∧ r = nI 0 ∧ τ = su τ1 96 0 r1) ∨ (∃ E, qx E τ ∧ ((E = xIA ∧ r = nI 1)))) (fun _ _ => False) := by
  have wc0 : Cond.classLink RL 13 xIA ∈ wsL_setPrice := by decide +kernel
  refine Xi.ofH (cc := cL_setPrice) (nL := 4) (own := RL) hDis (by decide) rfl [(0, .ref (ad 0)), (1, .int x), (2, .ref (ad 96))] rfl (Nat.le_of_ble_eq_true rfl) rfl ?_
  intro p e s m args below meth c A Qc C hE ht hret
  refine tg_aload_n C dL_setPrice_0 1 rfl rfl 2 rfl ?_
  refine tg_iconst C (nI 0) dL_setPrice_1 2 rfl (by decide) ?_
  refine tg_aload_n C dL_setPrice_2 3 rfl rfl 0 rfl ?_
  refine tg_iload_n C dL_setPrice_3 4 rfl rfl 1 rfl ?_
  refine xg_callVi C hE 0 (by decide) (e_0 ad cy _) rfl hM (cwV 1 C.2.2.2.2.1 gL_setPrice_X4_setPrice rfl rfl rfl (by decide +kernel) ⟨(Nat.le_of_ble_eq_true rfl), (Nat.le_of_ble_eq_true rfl)⟩) rfl rfl (Nat.le_of_ble_eq_true rfl) ⟨(Nat.le_of_ble_eq_true rfl), (Nat.le_of_ble_eq_true rfl)⟩ dL_setPrice_4 7 rfl (fun E τx H locs ls ce q hq hP hS9 hl9 h1 h2 h3 => ?_) (fun r1 τ1 hr1 => ?_)
  · obtain rfl := hqx E τx hq
    refine xg_catch C hE (by decide) [] ⟨0, 9, 12, 13⟩ [] ht (fun z hz => nomatch hz) (by decide) (by decide) wc0 hP hS9 hl9 h1 h2 h3 ?_
    refine tg_astore_n C dL_setPrice_12 13 rfl rfl [(3, .ref q), (0, .ref (ad 0)), (1, .int x), (2, .ref (ad 96))] (by decide) rfl ?_
    refine tg_iconst C (nI 1) dL_setPrice_13 14 rfl (by decide) ?_
    exact hret (Nat.le_of_ble_eq_true rfl) (Nat.le_of_ble_eq_true rfl) dL_setPrice_14 (Or.inr ⟨_, hq, ⟨rfl, rfl⟩⟩)
  · refine tg_i2l C dL_setPrice_7 8 rfl ?_
    refine tg_last C dL_setPrice_8 9 rfl ?_
    refine tg_goto C 15 dL_setPrice_9 (by decide) ?_
    refine tg_iconst C (nI 0) dL_setPrice_15 16 rfl (by decide) ?_
    exact hret (Nat.le_of_ble_eq_true rfl) (Nat.le_of_ble_eq_true rfl) dL_setPrice_16 (Or.inl ⟨r1, τ1, hr1, rfl, rfl⟩)
set_option maxHeartbeats 4000000 in
set_option maxRecDepth 100000 in
theorem c_L_cutCost (l : Launch) (D : va_G) (cy : Nat → ClassId) (ad : Nat → Nat) (hDis : Dis ad) (σ : sS) {post : Int32 → sS → Prop} {qx : String → sS → Prop} (hM : Xi l yX4_cutCost wsX4_cutCost 7 134 1 6 D cy ad [.ref (ad 0)] σ post qx) (hqx : ∀ E τ, qx E τ → E = xIS) : Xi l yL_cutCost wsL_cutCost 8 154 1 6 D cy ad [.ref (ad 0), .ref (ad 96)] σ (fun r τ => (∃ r1 τ1, post r1 τ1 ∧ r = nI 0 ∧ τ = su τ1 96 0 r1) ∨ (∃ E, qx E τ ∧ ((E = xIS ∧ r = nI 1)))) (fun _ _ => False) := by
  have wc0 : Cond.classLink RL 15 xIS ∈ wsL_cutCost := by decide +kernel
  refine Xi.ofH (cc := cL_cutCost) (nL := 3) (own := RL) hDis (by decide) rfl [(0, .ref (ad 0)), (1, .ref (ad 96))] rfl (Nat.le_of_ble_eq_true rfl) rfl ?_
  intro p e s m args below meth c A Qc C hE ht hret
  refine tg_aload_n C dL_cutCost_0 1 rfl rfl 1 rfl ?_
  refine tg_iconst C (nI 0) dL_cutCost_1 2 rfl (by decide) ?_
  refine tg_aload_n C dL_cutCost_2 3 rfl rfl 0 rfl ?_
  refine xg_callVi C hE 0 (by decide) (e_0 ad cy _) rfl hM (cwV 0 C.2.2.2.2.1 gL_cutCost_X4_cutCost rfl rfl rfl (by decide +kernel) ⟨(Nat.le_of_ble_eq_true rfl), (Nat.le_of_ble_eq_true rfl)⟩) rfl rfl (Nat.le_of_ble_eq_true rfl) ⟨(Nat.le_of_ble_eq_true rfl), (Nat.le_of_ble_eq_true rfl)⟩ dL_cutCost_3 6 rfl (fun E τx H locs ls ce q hq hP hS9 hl9 h1 h2 h3 => ?_) (fun r1 τ1 hr1 => ?_)
  · obtain rfl := hqx E τx hq
    refine xg_catch C hE (by decide) [] ⟨0, 8, 11, 15⟩ [] ht (fun z hz => nomatch hz) (by decide) (by decide) wc0 hP hS9 hl9 h1 h2 h3 ?_
    refine tg_astore_n C dL_cutCost_11 12 rfl rfl [(2, .ref q), (0, .ref (ad 0)), (1, .ref (ad 96))] (by decide) rfl ?_
    refine tg_iconst C (nI 1) dL_cutCost_12 13 rfl (by decide) ?_
    exact hret (Nat.le_of_ble_eq_true rfl) (Nat.le_of_ble_eq_true rfl) dL_cutCost_13 (Or.inr ⟨_, hq, ⟨rfl, rfl⟩⟩)
  · refine tg_i2l C dL_cutCost_6 7 rfl ?_
    refine tg_last C dL_cutCost_7 8 rfl ?_
    refine tg_goto C 14 dL_cutCost_8 (by decide) ?_
    refine tg_iconst C (nI 0) dL_cutCost_14 15 rfl (by decide) ?_
    exact hret (Nat.le_of_ble_eq_true rfl) (Nat.le_of_ble_eq_true rfl) dL_cutCost_15 (Or.inl ⟨r1, τ1, hr1, rfl, rfl⟩)
set_option maxHeartbeats 4000000 in
set_option maxRecDepth 100000 in
theorem c_L_cutCostByTrying (l : Launch) (D : va_G) (cy : Nat → ClassId) (ad : Nat → Nat) (hDis : Dis ad) (σ : sS) {post : Int32 → sS → Prop} {qx : String → sS → Prop} (hM : Xi l yX4_cutCostByTrying wsX4_cutCostByTrying 8 195 2 12 D cy ad [.ref (ad 0)] σ post qx) (hqx : ∀ E τ, qx E τ → E = xIS) : Xi l yL_cutCostByTrying wsL_cutCostByTrying 9 215 2 12 D cy ad [.ref (ad 0), .ref (ad 96)] σ (fun r τ => (∃ r1 τ1, post r1 τ1 ∧ r = nI 0 ∧ τ = su τ1 96 0 r1) ∨ (∃ E, qx E τ ∧ ((E = xIS ∧ r = nI 1)))) (fun _ _ => False) := by
  have wc0 : Cond.classLink RL 15 xIS ∈ wsL_cutCostByTrying := by decide +kernel
  refine Xi.ofH (cc := cL_cutCostByTrying) (nL := 3) (own := RL) hDis (by decide) rfl [(0, .ref (ad 0)), (1, .ref (ad 96))] rfl (Nat.le_of_ble_eq_true rfl) rfl ?_
  intro p e s m args below meth c A Qc C hE ht hret
  refine tg_aload_n C dL_cutCostByTrying_0 1 rfl rfl 1 rfl ?_
  refine tg_iconst C (nI 0) dL_cutCostByTrying_1 2 rfl (by decide) ?_
  refine tg_aload_n C dL_cutCostByTrying_2 3 rfl rfl 0 rfl ?_
  refine xg_callVi C hE 0 (by decide) (e_0 ad cy _) rfl hM (cwV 0 C.2.2.2.2.1 gL_cutCostByTrying_X4_cutCostByTrying rfl rfl rfl (by decide +kernel) ⟨(Nat.le_of_ble_eq_true rfl), (Nat.le_of_ble_eq_true rfl)⟩) rfl rfl (Nat.le_of_ble_eq_true rfl) ⟨(Nat.le_of_ble_eq_true rfl), (Nat.le_of_ble_eq_true rfl)⟩ dL_cutCostByTrying_3 6 rfl (fun E τx H locs ls ce q hq hP hS9 hl9 h1 h2 h3 => ?_) (fun r1 τ1 hr1 => ?_)
  · obtain rfl := hqx E τx hq
    refine xg_catch C hE (by decide) [] ⟨0, 8, 11, 15⟩ [] ht (fun z hz => nomatch hz) (by decide) (by decide) wc0 hP hS9 hl9 h1 h2 h3 ?_
    refine tg_astore_n C dL_cutCostByTrying_11 12 rfl rfl [(2, .ref q), (0, .ref (ad 0)), (1, .ref (ad 96))] (by decide) rfl ?_
    refine tg_iconst C (nI 1) dL_cutCostByTrying_12 13 rfl (by decide) ?_
    exact hret (Nat.le_of_ble_eq_true rfl) (Nat.le_of_ble_eq_true rfl) dL_cutCostByTrying_13 (Or.inr ⟨_, hq, ⟨rfl, rfl⟩⟩)
  · refine tg_i2l C dL_cutCostByTrying_6 7 rfl ?_
    refine tg_last C dL_cutCostByTrying_7 8 rfl ?_
    refine tg_goto C 14 dL_cutCostByTrying_8 (by decide) ?_
    refine tg_iconst C (nI 0) dL_cutCostByTrying_14 15 rfl (by decide) ?_
    exact hret (Nat.le_of_ble_eq_true rfl) (Nat.le_of_ble_eq_true rfl) dL_cutCostByTrying_15 (Or.inl ⟨r1, τ1, hr1, rfl, rfl⟩)
set_option maxHeartbeats 4000000 in
set_option maxRecDepth 100000 in
theorem c_L_cutTongue (l : Launch) (D : va_G) (cy : Nat → ClassId) (ad : Nat → Nat) (hDis : Dis ad) (σ : sS) {x : Int32} {post : Int32 → sS → Prop} {qx : String → sS → Prop} (hM : Xi l yX4_cutTongue wsX4_cutTongue 7 136 2 12 D cy ad [.ref (ad 0), .int x] σ post qx) (hqx : ∀ E τ, qx E τ → E = xIS ∨ E = xIO) : Xi l yL_cutTongue wsL_cutTongue 8 157 2 12 D cy ad [.ref (ad 0), .int x, .ref (ad 96)] σ (fun r τ => (∃ r1 τ1, post r1 τ1 ∧ r = nI 0 ∧ τ = su τ1 96 0 r1) ∨ (∃ E, qx E τ ∧ ((E = xIS ∧ r = nI 1) ∨ (E = xIO ∧ r = nI 2)))) (fun _ _ => False) := by
  have wc0 : Cond.classLink RL 15 xIS ∈ wsL_cutTongue := by decide +kernel
  have wc1 : Cond.classLink RL 21 xIO ∈ wsL_cutTongue := by decide +kernel
  refine Xi.ofH (cc := cL_cutTongue) (nL := 4) (own := RL) hDis (by decide) rfl [(0, .ref (ad 0)), (1, .int x), (2, .ref (ad 96))] rfl (Nat.le_of_ble_eq_true rfl) rfl ?_
  intro p e s m args below meth c A Qc C hE ht hret
  refine tg_aload_n C dL_cutTongue_0 1 rfl rfl 2 rfl ?_
  refine tg_iconst C (nI 0) dL_cutTongue_1 2 rfl (by decide) ?_
  refine tg_aload_n C dL_cutTongue_2 3 rfl rfl 0 rfl ?_
  refine tg_iload_n C dL_cutTongue_3 4 rfl rfl 1 rfl ?_
  refine xg_callVi C hE 0 (by decide) (e_0 ad cy _) rfl hM (cwV 1 C.2.2.2.2.1 gL_cutTongue_X4_cutTongue rfl rfl rfl (by decide +kernel) ⟨(Nat.le_of_ble_eq_true rfl), (Nat.le_of_ble_eq_true rfl)⟩) rfl rfl (Nat.le_of_ble_eq_true rfl) ⟨(Nat.le_of_ble_eq_true rfl), (Nat.le_of_ble_eq_true rfl)⟩ dL_cutTongue_4 7 rfl (fun E τx H locs ls ce q hq hP hS9 hl9 h1 h2 h3 => ?_) (fun r1 τ1 hr1 => ?_)
  · rcases hqx E τx hq with rfl | rfl
    · refine xg_catch C hE (by decide) [] ⟨0, 9, 12, 15⟩ [⟨0, 9, 15, 21⟩] ht (fun z hz => nomatch hz) (by decide) (by decide) wc0 hP hS9 hl9 h1 h2 h3 ?_
      refine tg_astore_n C dL_cutTongue_12 13 rfl rfl [(3, .ref q), (0, .ref (ad 0)), (1, .int x), (2, .ref (ad 96))] (by decide) rfl ?_
      refine tg_iconst C (nI 1) dL_cutTongue_13 14 rfl (by decide) ?_
      exact hret (Nat.le_of_ble_eq_true rfl) (Nat.le_of_ble_eq_true rfl) dL_cutTongue_14 (Or.inr ⟨_, hq, Or.inl ⟨rfl, rfl⟩⟩)
    · refine xg_catch C hE (by decide) [⟨0, 9, 12, 15⟩] ⟨0, 9, 15, 21⟩ [] ht (fun z hz => by rw [List.mem_singleton.mp hz]; exact Or.inr ⟨by decide, xIS, wc0, by decide⟩) (by decide) (by decide) wc1 hP hS9 hl9 h1 h2 h3 ?_
      refine tg_astore_n C dL_cutTongue_15 16 rfl rfl [(3, .ref q), (0, .ref (ad 0)), (1, .int x), (2, .ref (ad 96))] (by decide) rfl ?_
      refine tg_iconst C (nI 2) dL_cutTongue_16 17 rfl (by decide) ?_
      exact hret (Nat.le_of_ble_eq_true rfl) (Nat.le_of_ble_eq_true rfl) dL_cutTongue_17 (Or.inr ⟨_, hq, Or.inr ⟨rfl, rfl⟩⟩)
  · refine tg_i2l C dL_cutTongue_7 8 rfl ?_
    refine tg_last C dL_cutTongue_8 9 rfl ?_
    refine tg_goto C 18 dL_cutTongue_9 (by decide) ?_
    refine tg_iconst C (nI 0) dL_cutTongue_18 19 rfl (by decide) ?_
    exact hret (Nat.le_of_ble_eq_true rfl) (Nat.le_of_ble_eq_true rfl) dL_cutTongue_19 (Or.inl ⟨r1, τ1, hr1, rfl, rfl⟩)
set_option maxHeartbeats 4000000 in
set_option maxRecDepth 100000 in
theorem c_L_stretches (l : Launch) (D : va_G) (cy : Nat → ClassId) (ad : Nat → Nat) (hDis : Dis ad) (σ : sS) {post : Int32 → sS → Prop} {qx : String → sS → Prop} (hM : Xi l yX4_stretches wsX4_stretches 7 136 1 6 D cy ad [.ref (ad 0)] σ post qx) (hqx : ∀ E τ, qx E τ → E = xIS) : Xi l yL_stretches wsL_stretches 8 156 1 6 D cy ad [.ref (ad 0), .ref (ad 96)] σ (fun r τ => (∃ r1 τ1, post r1 τ1 ∧ r = nI 0 ∧ τ = su τ1 96 0 r1) ∨ (∃ E, qx E τ ∧ ((E = xIS ∧ r = nI 1)))) (fun _ _ => False) := by
  have wc0 : Cond.classLink RL 15 xIS ∈ wsL_stretches := by decide +kernel
  refine Xi.ofH (cc := cL_stretches) (nL := 3) (own := RL) hDis (by decide) rfl [(0, .ref (ad 0)), (1, .ref (ad 96))] rfl (Nat.le_of_ble_eq_true rfl) rfl ?_
  intro p e s m args below meth c A Qc C hE ht hret
  refine tg_aload_n C dL_stretches_0 1 rfl rfl 1 rfl ?_
  refine tg_iconst C (nI 0) dL_stretches_1 2 rfl (by decide) ?_
  refine tg_aload_n C dL_stretches_2 3 rfl rfl 0 rfl ?_
  refine xg_callVi C hE 0 (by decide) (e_0 ad cy _) rfl hM (cwV 0 C.2.2.2.2.1 gL_stretches_X4_stretches rfl rfl rfl (by decide +kernel) ⟨(Nat.le_of_ble_eq_true rfl), (Nat.le_of_ble_eq_true rfl)⟩) rfl rfl (Nat.le_of_ble_eq_true rfl) ⟨(Nat.le_of_ble_eq_true rfl), (Nat.le_of_ble_eq_true rfl)⟩ dL_stretches_3 6 rfl (fun E τx H locs ls ce q hq hP hS9 hl9 h1 h2 h3 => ?_) (fun r1 τ1 hr1 => ?_)
  · obtain rfl := hqx E τx hq
    refine xg_catch C hE (by decide) [] ⟨0, 8, 11, 15⟩ [] ht (fun z hz => nomatch hz) (by decide) (by decide) wc0 hP hS9 hl9 h1 h2 h3 ?_
    refine tg_astore_n C dL_stretches_11 12 rfl rfl [(2, .ref q), (0, .ref (ad 0)), (1, .ref (ad 96))] (by decide) rfl ?_
    refine tg_iconst C (nI 1) dL_stretches_12 13 rfl (by decide) ?_
    exact hret (Nat.le_of_ble_eq_true rfl) (Nat.le_of_ble_eq_true rfl) dL_stretches_13 (Or.inr ⟨_, hq, ⟨rfl, rfl⟩⟩)
  · refine tg_i2l C dL_stretches_6 7 rfl ?_
    refine tg_last C dL_stretches_7 8 rfl ?_
    refine tg_goto C 14 dL_stretches_8 (by decide) ?_
    refine tg_iconst C (nI 0) dL_stretches_14 15 rfl (by decide) ?_
    exact hret (Nat.le_of_ble_eq_true rfl) (Nat.le_of_ble_eq_true rfl) dL_stretches_15 (Or.inl ⟨r1, τ1, hr1, rfl, rfl⟩)
set_option maxHeartbeats 4000000 in
set_option maxRecDepth 100000 in
theorem c_L_learn (l : Launch) (D : va_G) (cy : Nat → ClassId) (ad : Nat → Nat) (hDis : Dis ad) (σ : sS) {x : Int32} {post : Int32 → sS → Prop} {qx : String → sS → Prop} (hM : Xi l yX4_learn wsX4_learn 6 90 1 6 D cy ad [.ref (ad 0), .int x] σ post qx) (hqx : ∀ E τ, qx E τ → E = xIA ∨ E = xIS) : Xi l yL_learn wsL_learn 7 115 1 6 D cy ad [.ref (ad 0), .int x, .ref (ad 96)] σ (fun r τ => (∃ r1 τ1, post r1 τ1 ∧ r = nI 0 ∧ τ = su τ1 96 0 r1) ∨ (∃ E, qx E τ ∧ ((E = xIA ∧ r = nI 1) ∨ (E = xIS ∧ r = nI 2)))) (fun _ _ => False) := by
  have wc0 : Cond.classLink RL 13 xIA ∈ wsL_learn := by decide +kernel
  have wc1 : Cond.classLink RL 15 xIS ∈ wsL_learn := by decide +kernel
  refine Xi.ofH (cc := cL_learn) (nL := 4) (own := RL) hDis (by decide) rfl [(0, .ref (ad 0)), (1, .int x), (2, .ref (ad 96))] rfl (Nat.le_of_ble_eq_true rfl) rfl ?_
  intro p e s m args below meth c A Qc C hE ht hret
  refine tg_aload_n C dL_learn_0 1 rfl rfl 2 rfl ?_
  refine tg_iconst C (nI 0) dL_learn_1 2 rfl (by decide) ?_
  refine tg_aload_n C dL_learn_2 3 rfl rfl 0 rfl ?_
  refine tg_iload_n C dL_learn_3 4 rfl rfl 1 rfl ?_
  refine xg_callVi C hE 0 (by decide) (e_0 ad cy _) rfl hM (cwV 1 C.2.2.2.2.1 gL_learn_X4_learn rfl rfl rfl (by decide +kernel) ⟨(Nat.le_of_ble_eq_true rfl), (Nat.le_of_ble_eq_true rfl)⟩) rfl rfl (Nat.le_of_ble_eq_true rfl) ⟨(Nat.le_of_ble_eq_true rfl), (Nat.le_of_ble_eq_true rfl)⟩ dL_learn_4 7 rfl (fun E τx H locs ls ce q hq hP hS9 hl9 h1 h2 h3 => ?_) (fun r1 τ1 hr1 => ?_)
  · rcases hqx E τx hq with rfl | rfl
    · refine xg_catch C hE (by decide) [] ⟨0, 9, 12, 13⟩ [⟨0, 9, 15, 15⟩] ht (fun z hz => nomatch hz) (by decide) (by decide) wc0 hP hS9 hl9 h1 h2 h3 ?_
      refine tg_astore_n C dL_learn_12 13 rfl rfl [(3, .ref q), (0, .ref (ad 0)), (1, .int x), (2, .ref (ad 96))] (by decide) rfl ?_
      refine tg_iconst C (nI 1) dL_learn_13 14 rfl (by decide) ?_
      exact hret (Nat.le_of_ble_eq_true rfl) (Nat.le_of_ble_eq_true rfl) dL_learn_14 (Or.inr ⟨_, hq, Or.inl ⟨rfl, rfl⟩⟩)
    · refine xg_catch C hE (by decide) [⟨0, 9, 12, 13⟩] ⟨0, 9, 15, 15⟩ [] ht (fun z hz => by rw [List.mem_singleton.mp hz]; exact Or.inr ⟨by decide, xIA, wc0, by decide⟩) (by decide) (by decide) wc1 hP hS9 hl9 h1 h2 h3 ?_
      refine tg_astore_n C dL_learn_15 16 rfl rfl [(3, .ref q), (0, .ref (ad 0)), (1, .int x), (2, .ref (ad 96))] (by decide) rfl ?_
      refine tg_iconst C (nI 2) dL_learn_16 17 rfl (by decide) ?_
      exact hret (Nat.le_of_ble_eq_true rfl) (Nat.le_of_ble_eq_true rfl) dL_learn_17 (Or.inr ⟨_, hq, Or.inr ⟨rfl, rfl⟩⟩)
  · refine tg_i2l C dL_learn_7 8 rfl ?_
    refine tg_last C dL_learn_8 9 rfl ?_
    refine tg_goto C 18 dL_learn_9 (by decide) ?_
    refine tg_iconst C (nI 0) dL_learn_18 19 rfl (by decide) ?_
    exact hret (Nat.le_of_ble_eq_true rfl) (Nat.le_of_ble_eq_true rfl) dL_learn_19 (Or.inl ⟨r1, τ1, hr1, rfl, rfl⟩)
