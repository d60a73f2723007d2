/-! ===== the law: a turn's call ===== -/
theorem i2c_nI {q : Nat} (hq : q < 65536) : ((nI q).toUInt32 % 65536).toInt32 = nI q := by rw [pk_char, pk_tn (by omega), Nat.mod_eq_of_lt hq]
theorem lnI_let {q : Nat} (h0 : ¬ q = 0) (h6 : q < 6) : lnI (nI (97 + q - 1)) = nI q := by
  match q, h0, h6 with
  | 1, _, _ => decide
  | 2, _, _ => decide
  | 3, _, _ => decide
  | 4, _, _ => decide
  | 5, _, _ => decide
  | k + 6, _, h => omega
theorem lnI_gap : lnI (nI 32) = nI 0 := if_pos rfl
section LawCalls
variable {p : Program} {l : Launch} {e : Env} {s : State} {m : MethodId} {args : Array Value} {below : List Frame} {meth : Method} {c : Code} {D : va_G} {cy : Nat → ClassId} {ad : Nat → Nat} {A : Nat → Prop} {cells slots : Nat} {Q : State → Prop} {σ : sS} {b L : Nat} {xs : Nat → Int32}
variable {n : Nat} {w : Nat → Nat} {tc pr tx nx : Nat} {ct : Nat → Nat → Nat} {mt : Nat → Nat} {tn wh : Nat} {vv wv : Int32}
set_option maxHeartbeats 4000000 in
set_option maxRecDepth 100000 in
theorem law_304 (C : Cx p s m args c cL_law 12 RL wsL_law D cy ad A) (hE : Ev A s s.heap) (hl0 : l.stackTraces = false) (hc : cells + 243 ≤ 600172) (hs : slots + 1458 ≤ 7300668) (I : Inv σ n w tc pr tx nx ct mt) (htc : 0 < tc) (hnx : nx ≤ tn) (htn : tn < 60) (hwh : wh < 12) (kk : ∀ (τ : sS) (n : Nat) (w : Nat → Nat) (tc pr tx nx : Nat) (ct : Nat → Nat → Nat) (mt : Nat → Nat), Inv τ n w tc pr tx nx ct mt → 0 < tc → nx ≤ tn + 1 → TT p l e room_1 s m args below meth c D cy ad A 12 (cells + 243) (slots + 1458) Q τ 23 (lvH ad b n pr tx (tn + 1)) []) : TT p l e room_1 s m args below meth c D cy ad A 12 cells slots Q σ 304 [(9, .int (nI 1)), (8, .int (nI wh)), (7, .int wv), (6, .int vv), (5, .int (nI tn)), (4, .int (nI tx)), (3, .int (nI pr)), (2, .int (nI n)), (1, .ref (ad 0)), (0, .ref b)] [] := by
  have hDis := C.2.2.2.2.2.2.1
  have hX := I.X
  have hS := I.S
  have hT := I.T
  have hn16 := hS.2.1
  have htc5 := hX.2.2.2.1
  have hpr := hX.2.2.2.2.2
  have htx := I.tx_le
  refine tg_iload C dL_law_304 306 rfl 1 rfl ?_
  refine tg_bipush C (nI 10) dL_law_306 308 rfl (by decide) ?_
  refine tg_icmp_ne C 340 dL_law_308 (by decide) 311 rfl (fun c308 => ?_) (fun c308 => ?_)
  · -- to 340
    replace c308 : ¬ wh = 10 := fun q => c308 ((nI_eq (by omega) (by omega)).mpr q)
    refine tg_widen (k := cells + 4) (n := slots + 24) (by omega) (by omega) ?_
    refine tg_sub [0, 2, 4, 5, 6, 7, 8, 9] rfl ?_
    exact law_tail C hE hl0 hc hs (I) (htc) (by omega) htn (fun τ I2 => kk τ _ _ _ _ _ _ _ _ I2 (htc) (by omega))
  · -- on
    replace c308 : wh = 10 := (nI_eq (by omega) (by omega)).mp c308
    refine tg_iload C dL_law_311 313 rfl 2 rfl ?_
    refine tg_bipush C (nI 9) dL_law_313 315 rfl (by decide) ?_
    refine tg_callSi C (c_L_low l D cy ad hDis σ (N9 := 9) (by decide) (by decide)) (cwS 2 C.2.2.2.2.1 gL_law_L_low rfl rfl rfl (by decide +kernel) ⟨(Nat.le_of_ble_eq_true rfl), (Nat.le_of_ble_eq_true rfl)⟩) rfl rfl (Nat.le_of_ble_eq_true rfl) ⟨(show cells ≤ 600172 by omega), (show slots ≤ 7300668 by omega)⟩ dL_law_315 318 rfl (fun r315 τ315 h315 => ?_)
    obtain ⟨h315, h315s⟩ := h315
    subst h315s
    obtain ⟨np, hnp, h315⟩ := h315
    subst h315
    refine tg_istore C dL_law_318 320 rfl [(10, .int (nI np)), (9, .int (nI 1)), (8, .int (nI wh)), (7, .int wv), (6, .int vv), (5, .int (nI tn)), (4, .int (nI tx)), (3, .int (nI pr)), (2, .int (nI n)), (1, .ref (ad 0)), (0, .ref b)] (by decide) rfl ?_
    refine tg_aload_n C dL_law_320 321 rfl rfl 9 rfl ?_
    refine tg_iload C dL_law_321 323 rfl 0 rfl ?_
    refine tg_callYV C hE 0 (by decide) (e_0 ad cy _) rfl (y_setPrice l hl0 D cy ad hDis σ hX (q := np) (by omega)) (cwV 1 C.2.2.2.2.1 gL_law_X4_setPrice rfl rfl rfl (by decide +kernel) ⟨(Nat.le_of_ble_eq_true rfl), (Nat.le_of_ble_eq_true rfl)⟩) rfl rfl (Nat.le_of_ble_eq_true rfl) ⟨(show cells + 1 ≤ 600172 by omega), (show slots + 6 ≤ 7300668 by omega)⟩ dL_law_323 326 rfl (fun r323 τ323 h323 => ?_)
    obtain ⟨h323, h323s⟩ := h323
    subst h323
    refine tg_iload_n C dL_law_326 327 rfl rfl 7 rfl ?_
    refine tg_icmp_ne C 334 dL_law_327 (by decide) 330 rfl (fun c327 => absurd (rfl) c327) (fun c327 => ?_)
    refine tg_iconst C (nI 1) dL_law_330 331 rfl (by decide) ?_
    refine tg_goto C 335 dL_law_331 (by decide) ?_
    refine tg_istore C dL_law_335 337 rfl [(9, .int (nI 1)), (10, .int (nI np)), (8, .int (nI wh)), (7, .int wv), (6, .int vv), (5, .int (nI tn)), (4, .int (nI tx)), (3, .int (nI pr)), (2, .int (nI n)), (1, .ref (ad 0)), (0, .ref b)] (by decide) rfl ?_
    refine tg_iload C dL_law_337 339 rfl 1 rfl ?_
    refine tg_istore_n C dL_law_339 340 rfl rfl [(3, .int (nI np)), (9, .int (nI 1)), (10, .int (nI np)), (8, .int (nI wh)), (7, .int wv), (6, .int vv), (5, .int (nI tn)), (4, .int (nI tx)), (2, .int (nI n)), (1, .ref (ad 0)), (0, .ref b)] (by decide) rfl ?_
    refine tg_widen (k := cells + 4) (n := slots + 24) (by omega) (by omega) ?_
    refine tg_sub [1, 4, 6, 7, 0, 8, 9, 10] rfl ?_
    exact law_tail C hE hl0 hc hs (h323s ▸ I.price (by omega)) (htc) (by omega) htn (fun τ I2 => kk τ _ _ _ _ _ _ _ _ I2 (htc) (by omega))
set_option maxHeartbeats 4000000 in
set_option maxRecDepth 100000 in
theorem law_266 (C : Cx p s m args c cL_law 12 RL wsL_law D cy ad A) (hE : Ev A s s.heap) (hl0 : l.stackTraces = false) (hc : cells + 243 ≤ 600172) (hs : slots + 1458 ≤ 7300668) (I : Inv σ n w tc pr tx nx ct mt) (htc : 0 < tc) (hnx : nx ≤ tn) (htn : tn < 60) (hwh : wh < 12) (kk : ∀ (τ : sS) (n : Nat) (w : Nat → Nat) (tc pr tx nx : Nat) (ct : Nat → Nat → Nat) (mt : Nat → Nat), Inv τ n w tc pr tx nx ct mt → 0 < tc → nx ≤ tn + 1 → TT p l e room_1 s m args below meth c D cy ad A 12 (cells + 243) (slots + 1458) Q τ 23 (lvH ad b n pr tx (tn + 1)) []) : TT p l e room_1 s m args below meth c D cy ad A 12 cells slots Q σ 266 [(9, .int (nI 1)), (8, .int (nI wh)), (7, .int wv), (6, .int vv), (5, .int (nI tn)), (4, .int (nI tx)), (3, .int (nI pr)), (2, .int (nI n)), (1, .ref (ad 0)), (0, .ref b)] [] := by
  have hDis := C.2.2.2.2.2.2.1
  have hX := I.X
  have hS := I.S
  have hT := I.T
  have hn16 := hS.2.1
  have htc5 := hX.2.2.2.1
  have hpr := hX.2.2.2.2.2
  have htx := I.tx_le
  refine tg_iload C dL_law_266 268 rfl 1 rfl ?_
  refine tg_bipush C (nI 9) dL_law_268 270 rfl (by decide) ?_
  refine tg_icmp_ne C 304 dL_law_270 (by decide) 273 rfl (fun c270 => ?_) (fun c270 => ?_)
  · -- to 304
    replace c270 : ¬ wh = 9 := fun q => c270 ((nI_eq (by omega) (by omega)).mpr q)
    exact law_304 C hE hl0 hc hs I htc hnx htn hwh kk
  · -- on
    replace c270 : wh = 9 := (nI_eq (by omega) (by omega)).mp c270
    refine tg_aload_n C dL_law_273 274 rfl rfl 8 rfl ?_
    refine tg_callVi C 0 (by decide) (e_0 ad cy _) rfl (c_X4_tongues l D cy ad hDis σ hX) (cwV 0 C.2.2.2.2.1 gL_law_X4_tongues rfl rfl rfl (by decide +kernel) ⟨(Nat.le_of_ble_eq_true rfl), (Nat.le_of_ble_eq_true rfl)⟩) rfl rfl (Nat.le_of_ble_eq_true rfl) ⟨(show cells ≤ 600172 by omega), (show slots ≤ 7300668 by omega)⟩ dL_law_274 277 rfl (fun r274 τ274 h274 => ?_)
    obtain ⟨h274, h274s⟩ := h274
    subst h274s
    subst h274
    refine tg_iconst C (nI 4) dL_law_277 278 rfl (by decide) ?_
    refine tg_icmp_ge C 304 dL_law_278 (by decide) 281 rfl (fun c278 => ?_) (fun c278 => ?_)
    · -- to 304
      replace c278 : 4 ≤ tc := (nI_leI (by omega) (by omega)).mp c278
      exact law_304 C hE hl0 hc hs I htc hnx htn hwh kk
    · -- on
      replace c278 : ¬ 4 ≤ tc := fun q => c278 ((nI_leI (by omega) (by omega)).mpr q)
      refine tg_aload_n C dL_law_281 282 rfl rfl 8 rfl ?_
      refine tg_callYV C hE 0 (by decide) (e_0 ad cy _) rfl (y_addTongue l hl0 D cy ad hDis σ hX (by omega)) (cwV 0 C.2.2.2.2.1 gL_law_X4_addTongue rfl rfl rfl (by decide +kernel) ⟨(Nat.le_of_ble_eq_true rfl), (Nat.le_of_ble_eq_true rfl)⟩) rfl rfl (Nat.le_of_ble_eq_true rfl) ⟨(show cells + 1 ≤ 600172 by omega), (show slots + 6 ≤ 7300668 by omega)⟩ dL_law_282 285 rfl (fun r282 τ282 h282 => ?_)
      obtain ⟨h282, h282s⟩ := h282
      subst h282
      have I2 : Inv τ282 n w (tc + 1) pr tx nx ct mt := h282s ▸ I.tongue (by omega)
      refine tg_aload_n C dL_law_285 286 rfl rfl 8 rfl ?_
      refine tg_callVi C 0 (by decide) (e_0 ad cy _) rfl (c_X4_tongues l D cy ad hDis τ282 I2.X) (cwV 0 C.2.2.2.2.1 gL_law_X4_tongues rfl rfl rfl (by decide +kernel) ⟨(Nat.le_of_ble_eq_true rfl), (Nat.le_of_ble_eq_true rfl)⟩) rfl rfl (Nat.le_of_ble_eq_true rfl) ⟨(show cells + 1 ≤ 600172 by omega), (show slots + 6 ≤ 7300668 by omega)⟩ dL_law_286 289 rfl (fun r286 τ286 h286 => ?_)
      obtain ⟨h286, h286s⟩ := h286
      subst h286s
      subst h286
      refine tg_iconst C (nI 1) dL_law_289 290 rfl (by decide) ?_
      refine tg_isub C (nI ((tc + 1) - 1)) dL_law_290 291 rfl (pk_sub (by omega)) ?_
      refine tg_icmp_ne C 298 dL_law_291 (by decide) 294 rfl (fun c291 => absurd (by rw [Nat.add_sub_cancel]) c291) (fun c291 => ?_)
      refine tg_iconst C (nI 1) dL_law_294 295 rfl (by decide) ?_
      refine tg_goto C 299 dL_law_295 (by decide) ?_
      refine tg_istore C dL_law_299 301 rfl [(9, .int (nI 1)), (8, .int (nI wh)), (7, .int wv), (6, .int vv), (5, .int (nI tn)), (4, .int (nI tx)), (3, .int (nI pr)), (2, .int (nI n)), (1, .ref (ad 0)), (0, .ref b)] (by decide) rfl ?_
      refine tg_goto C 340 dL_law_301 (by decide) ?_
      refine tg_widen (k := cells + 4) (n := slots + 24) (by omega) (by omega) ?_
      refine tg_sub [0, 2, 4, 5, 6, 7, 8, 9] rfl ?_
      exact law_tail C hE hl0 hc hs (I2) (Nat.succ_pos _) (by omega) htn (fun τ I2 => kk τ _ _ _ _ _ _ _ _ I2 (Nat.succ_pos _) (by omega))
set_option maxHeartbeats 4000000 in
set_option maxRecDepth 100000 in
theorem law_140 (C : Cx p s m args c cL_law 12 RL wsL_law D cy ad A) (hE : Ev A s s.heap) (hl0 : l.stackTraces = false) (hc : cells + 243 ≤ 600172) (hs : slots + 1458 ≤ 7300668) (I : Inv σ n w tc pr tx nx ct mt) (htc : 0 < tc) (hnx : nx ≤ tn) (htn : tn < 60) (hwh : wh < 12) (kk : ∀ (τ : sS) (n : Nat) (w : Nat → Nat) (tc pr tx nx : Nat) (ct : Nat → Nat → Nat) (mt : Nat → Nat), Inv τ n w tc pr tx nx ct mt → 0 < tc → nx ≤ tn + 1 → TT p l e room_1 s m args below meth c D cy ad A 12 (cells + 243) (slots + 1458) Q τ 23 (lvH ad b n pr tx (tn + 1)) []) : TT p l e room_1 s m args below meth c D cy ad A 12 cells slots Q σ 140 [(9, .int (nI 1)), (8, .int (nI wh)), (7, .int wv), (6, .int vv), (5, .int (nI tn)), (4, .int (nI tx)), (3, .int (nI pr)), (2, .int (nI n)), (1, .ref (ad 0)), (0, .ref b)] [] := by
  have hDis := C.2.2.2.2.2.2.1
  have hX := I.X
  have hS := I.S
  have hT := I.T
  have hn16 := hS.2.1
  have htc5 := hX.2.2.2.1
  have hpr := hX.2.2.2.2.2
  have htx := I.tx_le
  refine tg_iload C dL_law_140 142 rfl 1 rfl ?_
  refine tg_bipush C (nI 6) dL_law_142 144 rfl (by decide) ?_
  refine tg_icmp_ne C 167 dL_law_144 (by decide) 147 rfl (fun c144 => ?_) (fun c144 => ?_)
  · -- to 167
    replace c144 : ¬ wh = 6 := fun q => c144 ((nI_eq (by omega) (by omega)).mpr q)
    refine tg_iload C dL_law_167 169 rfl 1 rfl ?_
    refine tg_bipush C (nI 9) dL_law_169 171 rfl (by decide) ?_
    refine tg_icmp_ge C 266 dL_law_171 (by decide) 174 rfl (fun c171 => ?_) (fun c171 => ?_)
    · -- to 266
      replace c171 : 9 ≤ wh := (nI_leI (by omega) (by omega)).mp c171
      exact law_266 C hE hl0 hc hs I htc hnx htn hwh kk
    · -- on
      replace c171 : ¬ 9 ≤ wh := fun q => c171 ((nI_leI (by omega) (by omega)).mpr q)
      refine tg_iload_n C dL_law_174 175 rfl rfl 7 rfl ?_
      refine tg_if_le C 266 dL_law_175 (by decide) 178 rfl (fun c175 => ?_) (fun c175 => ?_)
      · -- to 266
        replace c175 : n = 0 := (z_le (by omega)).mp c175
        exact law_266 C hE hl0 hc hs I htc hnx htn hwh kk
      · -- on
        replace c175 : ¬ n = 0 := fun q => c175 ((z_le (by omega)).mpr q)
        refine tg_iload C dL_law_178 180 rfl 5 rfl ?_
        refine tg_bipush C (nI 30) dL_law_180 182 rfl (by decide) ?_
        refine tg_icmp_ge C 266 dL_law_182 (by decide) 185 rfl (fun c182 => ?_) (fun c182 => ?_)
        · -- to 266
          replace c182 : 30 ≤ tx := (nI_leI (by omega) (by omega)).mp c182
          exact law_266 C hE hl0 hc hs I htc hnx htn hwh kk
        · -- on
          replace c182 : ¬ 30 ≤ tx := fun q => c182 ((nI_leI (by omega) (by omega)).mpr q)
          refine tg_iload C dL_law_185 187 rfl 2 rfl ?_
          refine tg_aload_n C dL_law_187 188 rfl rfl 8 rfl ?_
          refine tg_callVi C 0 (by decide) (e_0 ad cy _) rfl (c_X4_tongues l D cy ad hDis σ hX) (cwV 0 C.2.2.2.2.1 gL_law_X4_tongues rfl rfl rfl (by decide +kernel) ⟨(Nat.le_of_ble_eq_true rfl), (Nat.le_of_ble_eq_true rfl)⟩) rfl rfl (Nat.le_of_ble_eq_true rfl) ⟨(show cells ≤ 600172 by omega), (show slots ≤ 7300668 by omega)⟩ dL_law_188 191 rfl (fun r188 τ188 h188 => ?_)
          obtain ⟨h188, h188s⟩ := h188
          subst h188s
          subst h188
          refine tg_callSi C (c_L_low l D cy ad hDis σ (N9 := tc) htc (by omega)) (cwS 2 C.2.2.2.2.1 gL_law_L_low rfl rfl rfl (by decide +kernel) ⟨(Nat.le_of_ble_eq_true rfl), (Nat.le_of_ble_eq_true rfl)⟩) rfl rfl (Nat.le_of_ble_eq_true rfl) ⟨(show cells ≤ 600172 by omega), (show slots ≤ 7300668 by omega)⟩ dL_law_191 194 rfl (fun r191 τ191 h191 => ?_)
          obtain ⟨h191, h191s⟩ := h191
          subst h191s
          obtain ⟨tg, htg, h191⟩ := h191
          subst h191
          refine tg_istore C dL_law_194 196 rfl [(10, .int (nI tg)), (9, .int (nI 1)), (8, .int (nI wh)), (7, .int wv), (6, .int vv), (5, .int (nI tn)), (4, .int (nI tx)), (3, .int (nI pr)), (2, .int (nI n)), (1, .ref (ad 0)), (0, .ref b)] (by decide) rfl ?_
          have hfr := I.free (by omega)
          obtain ⟨s9, hs9⟩ : ∃ z, fsw (σ 17) (-1) 30 0 = z := ⟨_, rfl⟩
          rw [hs9] at hfr
          refine tg_aload_n C dL_law_196 197 rfl rfl 9 rfl ?_
          refine tg_iload C dL_law_197 199 rfl 0 rfl ?_
          refine tg_callYV C hE 0 (by decide) (e_0 ad cy _) rfl (y_teach l hl0 D cy ad hDis σ hX hS hT I.2.2.2.2.1 (by omega) (fun t ht => ⟨by have := (I.2.2.2.1 t ht).2.1; omega, fun r => by have := (I.2.2.2.1 t ht).2.2 r; omega⟩) (t := tg) htg (by omega) (by rw [hs9]; exact hfr.1)) (cwV 1 C.2.2.2.2.1 gL_law_X4_teach rfl rfl rfl (by decide +kernel) ⟨(Nat.le_of_ble_eq_true rfl), (Nat.le_of_ble_eq_true rfl)⟩) rfl rfl (Nat.le_of_ble_eq_true rfl) ⟨(show cells + 2 ≤ 600172 by omega), (show slots + 12 ≤ 7300668 by omega)⟩ dL_law_199 202 rfl (fun r199 τ199 h199 => ?_)
          obtain ⟨h199, K⟩ := h199
          subst h199
          rw [hs9] at K
          have I1 := I.teach (t := tg) (by omega) hfr.1 hfr.2 (by omega) (by omega) K
          have hf9 : fsw (τ199 17) (nI nx) 30 0 = s9 := by rw [K.1]; exact fsw_upd hfr.1 (by omega) I.2.2.2.2.2.2
          have h18 : τ199 18 s9 = nI tg := by rw [K.2.1]; exact upd_eq9 _ _ _
          have h19 : τ199 19 s9 = nI (rc n) := by rw [K.2.2.1]; exact upd_eq9 _ _ _
          have hrc := rc_le hn16
          refine tg_istore C dL_law_202 204 rfl [(11, .int (nI nx)), (10, .int (nI tg)), (9, .int (nI 1)), (8, .int (nI wh)), (7, .int wv), (6, .int vv), (5, .int (nI tn)), (4, .int (nI tx)), (3, .int (nI pr)), (2, .int (nI n)), (1, .ref (ad 0)), (0, .ref b)] (by decide) rfl ?_
          refine tg_iinc C (nI (tx + 1)) dL_law_204 207 rfl 7 rfl (nI_add tx 1) [(4, .int (nI (tx + 1))), (11, .int (nI nx)), (10, .int (nI tg)), (9, .int (nI 1)), (8, .int (nI wh)), (7, .int wv), (6, .int vv), (5, .int (nI tn)), (3, .int (nI pr)), (2, .int (nI n)), (1, .ref (ad 0)), (0, .ref b)] (by decide) rfl ?_
          refine tg_aload_n C dL_law_207 208 rfl rfl 10 rfl ?_
          refine tg_iload C dL_law_208 210 rfl 1 rfl ?_
          refine tg_callYV C hE 0 (by decide) (e_0 ad cy _) rfl (y_tongueOf l hl0 D cy ad hDis τ199 (nx := nx) (s := s9) (t := tg) (by omega) hf9 hfr.1 h18) (cwV 1 C.2.2.2.2.1 gL_law_X4_tongueOf rfl rfl rfl (by decide +kernel) ⟨(Nat.le_of_ble_eq_true rfl), (Nat.le_of_ble_eq_true rfl)⟩) rfl rfl (Nat.le_of_ble_eq_true rfl) ⟨(show cells + 2 + 1 ≤ 600172 by omega), (show slots + 12 + 6 ≤ 7300668 by omega)⟩ dL_law_210 213 rfl (fun r210 τ210 h210 => ?_)
          obtain ⟨h210, h210s⟩ := h210
          subst h210s
          subst h210
          refine tg_iload C dL_law_213 215 rfl 2 rfl ?_
          refine tg_icmp_ne C 222 dL_law_215 (by decide) 218 rfl (fun c215 => absurd (rfl) c215) (fun c215 => ?_)
          refine tg_iconst C (nI 1) dL_law_218 219 rfl (by decide) ?_
          refine tg_goto C 223 dL_law_219 (by decide) ?_
          refine tg_istore C dL_law_223 225 rfl [(9, .int (nI 1)), (4, .int (nI (tx + 1))), (11, .int (nI nx)), (10, .int (nI tg)), (8, .int (nI wh)), (7, .int wv), (6, .int vv), (5, .int (nI tn)), (3, .int (nI pr)), (2, .int (nI n)), (1, .ref (ad 0)), (0, .ref b)] (by decide) rfl ?_
          refine tg_iload C dL_law_225 227 rfl 5 rfl ?_
          refine tg_iconst C (nI 5) dL_law_227 228 rfl (by decide) ?_
          refine tg_ishr C dL_law_228 229 rfl (fun z228 => ?_)
          refine tg_iconst C (nI 4) dL_law_229 230 rfl (by decide) ?_
          refine tg_callSi C (c_L_low l D cy ad hDis τ199 (N9 := 4) (by decide) (by decide)) (cwS 2 C.2.2.2.2.1 gL_law_L_low rfl rfl rfl (by decide +kernel) ⟨(Nat.le_of_ble_eq_true rfl), (Nat.le_of_ble_eq_true rfl)⟩) rfl rfl (Nat.le_of_ble_eq_true rfl) ⟨(show cells + 2 + 1 ≤ 600172 by omega), (show slots + 12 + 6 ≤ 7300668 by omega)⟩ dL_law_230 233 rfl (fun r230 τ230 h230 => ?_)
          obtain ⟨h230, h230s⟩ := h230
          subst h230s
          obtain ⟨j4, hj4, h230⟩ := h230
          subst h230
          refine tg_if_ne C 263 dL_law_233 (by decide) 236 rfl (fun c233 => ?_) (fun c233 => ?_)
          · -- to 263
            replace c233 : ¬ j4 = 0 := fun q => c233 ((z_eq (by omega)).mpr q)
            refine tg_goto C 340 dL_law_263 (by decide) ?_
            refine tg_widen (k := cells + 4) (n := slots + 24) (by omega) (by omega) ?_
            refine tg_sub [0, 5, 7, 1, 8, 9, 10, 11] rfl ?_
            exact law_tail C hE hl0 hc hs (I1) (htc) (by omega) htn (fun τ I2 => kk τ _ _ _ _ _ _ _ _ I2 (htc) (by omega))
          · -- on
            replace c233 : j4 = 0 := (z_eq (by omega)).mp c233
            refine tg_iload C dL_law_236 238 rfl 0 rfl ?_
            refine tg_if_eq C 257 dL_law_238 (by decide) 241 rfl (fun c238 => absurd c238 (by decide)) (fun c238 => ?_)
            refine tg_aload_n C dL_law_241 242 rfl rfl 10 rfl ?_
            refine tg_iload C dL_law_242 244 rfl 2 rfl ?_
            refine tg_callYV C hE 0 (by decide) (e_0 ad cy _) rfl (y_withdraw l hl0 D cy ad hDis τ199 I1.T (nx := nx) (s := s9) (t := tg) (ln := rc n) (rr := fun p => rn n w (0 + p)) (by omega) hf9 hfr.1 h18 (by omega) h19 hrc (fun p hp => ⟨K.2.2.2.2.1 p hp, rn_lt (fun k hk => (hS.2.2 k hk).2) _⟩) (fun r => by rw [un_eq]; exact Nat.le_add_left _ _) (by rw [un_eq]; exact Nat.le_add_left _ _)) (cwV 1 C.2.2.2.2.1 gL_law_X4_withdraw rfl rfl rfl (by decide +kernel) ⟨(Nat.le_of_ble_eq_true rfl), (Nat.le_of_ble_eq_true rfl)⟩) rfl rfl (Nat.le_of_ble_eq_true rfl) ⟨(show cells + 2 + 1 + 1 ≤ 600172 by omega), (show slots + 12 + 6 + 6 ≤ 7300668 by omega)⟩ dL_law_244 247 rfl (fun r244 τ244 h244 => ?_)
            obtain ⟨h244, e17, eT, eo⟩ := h244
            subst h244
            have I2 := I.withdraw (t := tg) (by omega) hfr.1 hfr.2 (by omega) (by omega) K e17 eT eo
            refine tg_iload_n C dL_law_247 248 rfl rfl 9 rfl ?_
            refine tg_iconst C (nI 1) dL_law_248 249 rfl (by decide) ?_
            refine tg_iadd C (nI (n + 1)) dL_law_249 250 rfl (nI_add n 1) ?_
            refine tg_icmp_ne C 257 dL_law_250 (by decide) 253 rfl (fun c250 => absurd (by rw [rc_1 (by omega)]) c250) (fun c250 => ?_)
            refine tg_iconst C (nI 1) dL_law_253 254 rfl (by decide) ?_
            refine tg_goto C 258 dL_law_254 (by decide) ?_
            refine tg_istore C dL_law_258 260 rfl [(9, .int (nI 1)), (4, .int (nI (tx + 1))), (11, .int (nI nx)), (10, .int (nI tg)), (8, .int (nI wh)), (7, .int wv), (6, .int vv), (5, .int (nI tn)), (3, .int (nI pr)), (2, .int (nI n)), (1, .ref (ad 0)), (0, .ref b)] (by decide) rfl ?_
            refine tg_iinc C (nI tx) dL_law_260 263 rfl 1 rfl (by rw [show Int32.ofInt (-1) = -1 from rfl]; exact pk_m1 tx) [(4, .int (nI tx)), (9, .int (nI 1)), (11, .int (nI nx)), (10, .int (nI tg)), (8, .int (nI wh)), (7, .int wv), (6, .int vv), (5, .int (nI tn)), (3, .int (nI pr)), (2, .int (nI n)), (1, .ref (ad 0)), (0, .ref b)] (by decide) rfl ?_
            refine tg_goto C 340 dL_law_263 (by decide) ?_
            refine tg_widen (k := cells + 4) (n := slots + 24) (by omega) (by omega) ?_
            refine tg_sub [1, 5, 7, 0, 8, 9, 10, 11] rfl ?_
            exact law_tail C hE hl0 hc hs (I2) (htc) (by omega) htn (fun τ I2 => kk τ _ _ _ _ _ _ _ _ I2 (htc) (by omega))
  · -- on
    replace c144 : wh = 6 := (nI_eq (by omega) (by omega)).mp c144
    refine tg_aload_n C dL_law_147 148 rfl rfl 8 rfl ?_
    refine tg_callVi C 0 (by decide) (e_0 ad cy _) rfl (c_X4_clearSpelled l D cy ad hDis σ hS) (cwV 0 C.2.2.2.2.1 gL_law_X4_clearSpelled rfl rfl rfl (by decide +kernel) ⟨(Nat.le_of_ble_eq_true rfl), (Nat.le_of_ble_eq_true rfl)⟩) rfl rfl (Nat.le_of_ble_eq_true rfl) ⟨(show cells ≤ 600172 by omega), (show slots ≤ 7300668 by omega)⟩ dL_law_148 151 rfl (fun r148 τ148 h148 => ?_)
    obtain ⟨h148, h148s⟩ := h148
    subst h148
    refine tg_iload_n C dL_law_151 152 rfl rfl 7 rfl ?_
    refine tg_icmp_ne C 159 dL_law_152 (by decide) 155 rfl (fun c152 => absurd (rfl) c152) (fun c152 => ?_)
    refine tg_iconst C (nI 1) dL_law_155 156 rfl (by decide) ?_
    refine tg_goto C 160 dL_law_156 (by decide) ?_
    refine tg_istore C dL_law_160 162 rfl [(9, .int (nI 1)), (8, .int (nI wh)), (7, .int wv), (6, .int vv), (5, .int (nI tn)), (4, .int (nI tx)), (3, .int (nI pr)), (2, .int (nI n)), (1, .ref (ad 0)), (0, .ref b)] (by decide) rfl ?_
    refine tg_iconst C (nI 0) dL_law_162 163 rfl (by decide) ?_
    refine tg_istore_n C dL_law_163 164 rfl rfl [(2, .int (nI 0)), (9, .int (nI 1)), (8, .int (nI wh)), (7, .int wv), (6, .int vv), (5, .int (nI tn)), (4, .int (nI tx)), (3, .int (nI pr)), (1, .ref (ad 0)), (0, .ref b)] (by decide) rfl ?_
    refine tg_goto C 340 dL_law_164 (by decide) ?_
    refine tg_widen (k := cells + 4) (n := slots + 24) (by omega) (by omega) ?_
    refine tg_sub [1, 3, 5, 6, 7, 0, 8, 9] rfl ?_
    exact law_tail C hE hl0 hc hs (h148s ▸ I.clear) (htc) (by omega) htn (fun τ I2 => kk τ _ _ _ _ _ _ _ _ I2 (htc) (by omega))
set_option maxHeartbeats 4000000 in
set_option maxRecDepth 100000 in
theorem law_turn (C : Cx p s m args c cL_law 12 RL wsL_law D cy ad A) (hE : Ev A s s.heap) (hl0 : l.stackTraces = false) (hc : cells + 243 ≤ 600172) (hs : slots + 1458 ≤ 7300668) (I : Inv σ n w tc pr tx nx ct mt) (htc : 0 < tc) (hnx : nx ≤ tn) (htn : tn < 60) (hXs : va_X b L xs s s.heap) (hbl : b < s.heap.size) (hbA : ¬ A b) (hL : L ≤ 260) (kk : ∀ (τ : sS) (n : Nat) (w : Nat → Nat) (tc pr tx nx : Nat) (ct : Nat → Nat → Nat) (mt : Nat → Nat), Inv τ n w tc pr tx nx ct mt → 0 < tc → nx ≤ tn + 1 → TT p l e room_1 s m args below meth c D cy ad A 12 (cells + 243) (slots + 1458) Q τ 23 (lvH ad b n pr tx (tn + 1)) []) : TT p l e room_1 s m args below meth c D cy ad A 12 cells slots Q σ 30 (lvH ad b n pr tx tn) [] := by
  have hDis := C.2.2.2.2.2.2.1
  have hX := I.X
  have hS := I.S
  have hT := I.T
  have hn16 := hS.2.1
  have htc5 := hX.2.2.2.1
  have hpr := hX.2.2.2.2.2
  have htx := I.tx_le
  refine tg_aload_n C dL_law_30 31 rfl rfl 5 rfl ?_
  refine tg_iconst C (nI 2) dL_law_31 32 rfl (by decide) ?_
  refine tg_iload C dL_law_32 34 rfl 0 rfl ?_
  refine tg_imul C (nI (2 * tn)) dL_law_34 35 rfl (pk_mul 2 tn) ?_
  refine tg_callSS C hXs hbl hbA (c_L_cell l D cy ad hDis σ (b := b) (L := L) (xs := xs) (k := 2 * tn) hL (by omega)) (cwS 2 C.2.2.2.2.1 gL_law_L_cell rfl rfl rfl (by decide +kernel) ⟨(Nat.le_of_ble_eq_true rfl), (Nat.le_of_ble_eq_true rfl)⟩) rfl rfl (Nat.le_of_ble_eq_true rfl) ⟨(show cells ≤ 600172 by omega), (show slots ≤ 7300668 by omega)⟩ dL_law_35 38 rfl (fun r35 τ35 h35 => ?_)
  subst h35
  refine tg_istore C dL_law_38 40 rfl [(6, .int r35), (5, .int (nI tn)), (4, .int (nI tx)), (3, .int (nI pr)), (2, .int (nI n)), (1, .ref (ad 0)), (0, .ref b)] (by decide) rfl ?_
  refine tg_aload_n C dL_law_40 41 rfl rfl 6 rfl ?_
  refine tg_iconst C (nI 2) dL_law_41 42 rfl (by decide) ?_
  refine tg_iload C dL_law_42 44 rfl 1 rfl ?_
  refine tg_imul C (nI (2 * tn)) dL_law_44 45 rfl (pk_mul 2 tn) ?_
  refine tg_iconst C (nI 1) dL_law_45 46 rfl (by decide) ?_
  refine tg_iadd C (nI ((2 * tn) + 1)) dL_law_46 47 rfl (nI_add (2 * tn) 1) ?_
  refine tg_callSS C hXs hbl hbA (c_L_cell l D cy ad hDis σ (b := b) (L := L) (xs := xs) (k := 2 * tn + 1) hL (by omega)) (cwS 2 C.2.2.2.2.1 gL_law_L_cell rfl rfl rfl (by decide +kernel) ⟨(Nat.le_of_ble_eq_true rfl), (Nat.le_of_ble_eq_true rfl)⟩) rfl rfl (Nat.le_of_ble_eq_true rfl) ⟨(show cells ≤ 600172 by omega), (show slots ≤ 7300668 by omega)⟩ dL_law_47 50 rfl (fun r47 τ47 h47 => ?_)
  subst h47
  refine tg_istore C dL_law_50 52 rfl [(7, .int r47), (6, .int r35), (5, .int (nI tn)), (4, .int (nI tx)), (3, .int (nI pr)), (2, .int (nI n)), (1, .ref (ad 0)), (0, .ref b)] (by decide) rfl ?_
  refine tg_iload C dL_law_52 54 rfl 1 rfl ?_
  refine tg_bipush C (nI 12) dL_law_54 56 rfl (by decide) ?_
  refine tg_callSi C (c_L_low l D cy ad hDis σ (N9 := 12) (by decide) (by decide)) (cwS 2 C.2.2.2.2.1 gL_law_L_low rfl rfl rfl (by decide +kernel) ⟨(Nat.le_of_ble_eq_true rfl), (Nat.le_of_ble_eq_true rfl)⟩) rfl rfl (Nat.le_of_ble_eq_true rfl) ⟨(show cells ≤ 600172 by omega), (show slots ≤ 7300668 by omega)⟩ dL_law_56 59 rfl (fun r56 τ56 h56 => ?_)
  obtain ⟨h56, h56s⟩ := h56
  subst h56s
  obtain ⟨wh, hwh, h56⟩ := h56
  subst h56
  refine tg_istore C dL_law_59 61 rfl [(8, .int (nI wh)), (7, .int r47), (6, .int r35), (5, .int (nI tn)), (4, .int (nI tx)), (3, .int (nI pr)), (2, .int (nI n)), (1, .ref (ad 0)), (0, .ref b)] (by decide) rfl ?_
  refine tg_iconst C (nI 1) dL_law_61 62 rfl (by decide) ?_
  refine tg_istore C dL_law_62 64 rfl [(9, .int (nI 1)), (8, .int (nI wh)), (7, .int r47), (6, .int r35), (5, .int (nI tn)), (4, .int (nI tx)), (3, .int (nI pr)), (2, .int (nI n)), (1, .ref (ad 0)), (0, .ref b)] (by decide) rfl ?_
  refine tg_iload C dL_law_64 66 rfl 1 rfl ?_
  refine tg_bipush C (nI 6) dL_law_66 68 rfl (by decide) ?_
  refine tg_icmp_ge C 140 dL_law_68 (by decide) 71 rfl (fun c68 => ?_) (fun c68 => ?_)
  · -- to 140
    replace c68 : 6 ≤ wh := (nI_leI (by omega) (by omega)).mp c68
    exact law_140 C hE hl0 hc hs I htc hnx htn hwh kk
  · -- on
    replace c68 : ¬ 6 ≤ wh := fun q => c68 ((nI_leI (by omega) (by omega)).mpr q)
    refine tg_iload_n C dL_law_71 72 rfl rfl 7 rfl ?_
    refine tg_bipush C (nI 16) dL_law_72 74 rfl (by decide) ?_
    refine tg_icmp_ge C 140 dL_law_74 (by decide) 77 rfl (fun c74 => ?_) (fun c74 => ?_)
    · -- to 140
      replace c74 : 16 ≤ n := (nI_leI (by omega) (by omega)).mp c74
      exact law_140 C hE hl0 hc hs I htc hnx htn hwh kk
    · -- on
      replace c74 : ¬ 16 ≤ n := fun q => c74 ((nI_leI (by omega) (by omega)).mpr q)
      refine tg_iload C dL_law_77 79 rfl 2 rfl ?_
      refine tg_iload C dL_law_79 81 rfl 3 rfl ?_
      refine tg_iconst C (nI 4) dL_law_81 82 rfl (by decide) ?_
      refine tg_ishr C dL_law_82 83 rfl (fun z82 => ?_)
      refine tg_iconst C (nI 2) dL_law_83 84 rfl (by decide) ?_
      refine tg_callSi C (c_L_low l D cy ad hDis σ (N9 := 2) (by decide) (by decide)) (cwS 2 C.2.2.2.2.1 gL_law_L_low rfl rfl rfl (by decide +kernel) ⟨(Nat.le_of_ble_eq_true rfl), (Nat.le_of_ble_eq_true rfl)⟩) rfl rfl (Nat.le_of_ble_eq_true rfl) ⟨(show cells ≤ 600172 by omega), (show slots ≤ 7300668 by omega)⟩ dL_law_84 87 rfl (fun r84 τ84 h84 => ?_)
      obtain ⟨h84, h84s⟩ := h84
      subst h84s
      obtain ⟨j2, hj2, h84⟩ := h84
      subst h84
      refine tg_if_ne C 94 dL_law_87 (by decide) 90 rfl (fun c87 => ?_) (fun c87 => ?_)
      · -- to 94
        replace c87 : ¬ j2 = 0 := fun q => c87 ((z_eq (by omega)).mpr q)
        refine tg_bipush C (nI 6) dL_law_94 96 rfl (by decide) ?_
        refine tg_callSi C (c_L_low l D cy ad hDis σ (N9 := 6) (by decide) (by decide)) (cwS 2 C.2.2.2.2.1 gL_law_L_low rfl rfl rfl (by decide +kernel) ⟨(Nat.le_of_ble_eq_true rfl), (Nat.le_of_ble_eq_true rfl)⟩) rfl rfl (Nat.le_of_ble_eq_true rfl) ⟨(show cells ≤ 600172 by omega), (show slots ≤ 7300668 by omega)⟩ dL_law_96 99 rfl (fun r96 τ96 h96 => ?_)
        obtain ⟨h96, h96s⟩ := h96
        subst h96s
        obtain ⟨lt, hlt, h96⟩ := h96
        subst h96
        have hlt6 : lt < 6 := by omega
        refine tg_istore C dL_law_99 101 rfl [(10, .int (nI lt)), (9, .int (nI 1)), (8, .int (nI wh)), (7, .int r47), (6, .int r35), (5, .int (nI tn)), (4, .int (nI tx)), (3, .int (nI pr)), (2, .int (nI n)), (1, .ref (ad 0)), (0, .ref b)] (by decide) rfl ?_
        refine tg_iinc C (nI (n + 1)) dL_law_101 104 rfl 8 rfl (nI_add n 1) [(2, .int (nI (n + 1))), (10, .int (nI lt)), (9, .int (nI 1)), (8, .int (nI wh)), (7, .int r47), (6, .int r35), (5, .int (nI tn)), (4, .int (nI tx)), (3, .int (nI pr)), (1, .ref (ad 0)), (0, .ref b)] (by decide) rfl ?_
        refine tg_aload_n C dL_law_104 105 rfl rfl 9 rfl ?_
        refine tg_iload C dL_law_105 107 rfl 1 rfl ?_
        refine tg_if_ne C 115 dL_law_107 (by decide) 110 rfl (fun c107 => ?_) (fun c107 => ?_)
        · -- to 115
          replace c107 : ¬ lt = 0 := fun q => c107 ((z_eq (by omega)).mpr q)
          refine tg_bipush C (nI 97) dL_law_115 117 rfl (by decide) ?_
          refine tg_iload C dL_law_117 119 rfl 1 rfl ?_
          refine tg_iadd C (nI (97 + lt)) dL_law_119 120 rfl (nI_add 97 lt) ?_
          refine tg_iconst C (nI 1) dL_law_120 121 rfl (by decide) ?_
          refine tg_isub C (nI ((97 + lt) - 1)) dL_law_121 122 rfl (pk_sub (by omega)) ?_
          refine tg_i2c C dL_law_122 123 rfl ?_
          refine tg_top (y := nI (97 + lt - 1)) (i2c_nI (by omega)) ?_
          refine tg_callYV C hE 0 (by decide) (e_0 ad cy _) rfl (y_spell l hl0 D cy ad hDis σ hS (v := lt) (lnI_let c107 hlt6) hlt6 (by omega)) (cwV 1 C.2.2.2.2.1 gL_law_X4_spell rfl rfl rfl (by decide +kernel) ⟨(Nat.le_of_ble_eq_true rfl), (Nat.le_of_ble_eq_true rfl)⟩) rfl rfl (Nat.le_of_ble_eq_true rfl) ⟨(show cells + 1 ≤ 600172 by omega), (show slots + 6 ≤ 7300668 by omega)⟩ dL_law_123 126 rfl (fun r123 τ123 h123 => ?_)
          obtain ⟨h123, h123s⟩ := h123
          subst h123
          refine tg_iload_n C dL_law_126 127 rfl rfl 0 rfl ?_
          refine tg_icmp_ne C 134 dL_law_127 (by decide) 130 rfl (fun c127 => absurd (rfl) c127) (fun c127 => ?_)
          refine tg_iconst C (nI 1) dL_law_130 131 rfl (by decide) ?_
          refine tg_goto C 135 dL_law_131 (by decide) ?_
          refine tg_istore C dL_law_135 137 rfl [(9, .int (nI 1)), (2, .int (nI (n + 1))), (10, .int (nI lt)), (8, .int (nI wh)), (7, .int r47), (6, .int r35), (5, .int (nI tn)), (4, .int (nI tx)), (3, .int (nI pr)), (1, .ref (ad 0)), (0, .ref b)] (by decide) rfl ?_
          refine tg_goto C 340 dL_law_137 (by decide) ?_
          refine tg_widen (k := cells + 4) (n := slots + 24) (by omega) (by omega) ?_
          refine tg_sub [0, 4, 6, 7, 8, 1, 9, 10] rfl ?_
          exact law_tail C hE hl0 hc hs (h123s ▸ I.spell hlt6 (by omega)) (htc) (by omega) htn (fun τ I2 => kk τ _ _ _ _ _ _ _ _ I2 (htc) (by omega))
        · -- on
          replace c107 : lt = 0 := (z_eq (by omega)).mp c107
          refine tg_bipush C (nI 32) dL_law_110 112 rfl (by decide) ?_
          refine tg_goto C 123 dL_law_112 (by decide) ?_
          refine tg_callYV C hE 0 (by decide) (e_0 ad cy _) rfl (y_spell l hl0 D cy ad hDis σ hS (v := lt) (by rw [c107]; exact lnI_gap) hlt6 (by omega)) (cwV 1 C.2.2.2.2.1 gL_law_X4_spell rfl rfl rfl (by decide +kernel) ⟨(Nat.le_of_ble_eq_true rfl), (Nat.le_of_ble_eq_true rfl)⟩) rfl rfl (Nat.le_of_ble_eq_true rfl) ⟨(show cells + 1 ≤ 600172 by omega), (show slots + 6 ≤ 7300668 by omega)⟩ dL_law_123 126 rfl (fun r123 τ123 h123 => ?_)
          obtain ⟨h123, h123s⟩ := h123
          subst h123
          refine tg_iload_n C dL_law_126 127 rfl rfl 0 rfl ?_
          refine tg_icmp_ne C 134 dL_law_127 (by decide) 130 rfl (fun c127 => absurd (rfl) c127) (fun c127 => ?_)
          refine tg_iconst C (nI 1) dL_law_130 131 rfl (by decide) ?_
          refine tg_goto C 135 dL_law_131 (by decide) ?_
          refine tg_istore C dL_law_135 137 rfl [(9, .int (nI 1)), (2, .int (nI (n + 1))), (10, .int (nI lt)), (8, .int (nI wh)), (7, .int r47), (6, .int r35), (5, .int (nI tn)), (4, .int (nI tx)), (3, .int (nI pr)), (1, .ref (ad 0)), (0, .ref b)] (by decide) rfl ?_
          refine tg_goto C 340 dL_law_137 (by decide) ?_
          refine tg_widen (k := cells + 4) (n := slots + 24) (by omega) (by omega) ?_
          refine tg_sub [0, 4, 6, 7, 8, 1, 9, 10] rfl ?_
          exact law_tail C hE hl0 hc hs (h123s ▸ I.spell hlt6 (by omega)) (htc) (by omega) htn (fun τ I2 => kk τ _ _ _ _ _ _ _ _ I2 (htc) (by omega))
      · -- on
        replace c87 : j2 = 0 := (z_eq (by omega)).mp c87
        refine tg_iconst C (nI 3) dL_law_90 91 rfl (by decide) ?_
        refine tg_goto C 96 dL_law_91 (by decide) ?_
        refine tg_callSi C (c_L_low l D cy ad hDis σ (N9 := 3) (by decide) (by decide)) (cwS 2 C.2.2.2.2.1 gL_law_L_low rfl rfl rfl (by decide +kernel) ⟨(Nat.le_of_ble_eq_true rfl), (Nat.le_of_ble_eq_true rfl)⟩) rfl rfl (Nat.le_of_ble_eq_true rfl) ⟨(show cells ≤ 600172 by omega), (show slots ≤ 7300668 by omega)⟩ dL_law_96 99 rfl (fun r96 τ96 h96 => ?_)
        obtain ⟨h96, h96s⟩ := h96
        subst h96s
        obtain ⟨lt, hlt, h96⟩ := h96
        subst h96
        have hlt6 : lt < 6 := by omega
        refine tg_istore C dL_law_99 101 rfl [(10, .int (nI lt)), (9, .int (nI 1)), (8, .int (nI wh)), (7, .int r47), (6, .int r35), (5, .int (nI tn)), (4, .int (nI tx)), (3, .int (nI pr)), (2, .int (nI n)), (1, .ref (ad 0)), (0, .ref b)] (by decide) rfl ?_
        refine tg_iinc C (nI (n + 1)) dL_law_101 104 rfl 8 rfl (nI_add n 1) [(2, .int (nI (n + 1))), (10, .int (nI lt)), (9, .int (nI 1)), (8, .int (nI wh)), (7, .int r47), (6, .int r35), (5, .int (nI tn)), (4, .int (nI tx)), (3, .int (nI pr)), (1, .ref (ad 0)), (0, .ref b)] (by decide) rfl ?_
        refine tg_aload_n C dL_law_104 105 rfl rfl 9 rfl ?_
        refine tg_iload C dL_law_105 107 rfl 1 rfl ?_
        refine tg_if_ne C 115 dL_law_107 (by decide) 110 rfl (fun c107 => ?_) (fun c107 => ?_)
        · -- to 115
          replace c107 : ¬ lt = 0 := fun q => c107 ((z_eq (by omega)).mpr q)
          refine tg_bipush C (nI 97) dL_law_115 117 rfl (by decide) ?_
          refine tg_iload C dL_law_117 119 rfl 1 rfl ?_
          refine tg_iadd C (nI (97 + lt)) dL_law_119 120 rfl (nI_add 97 lt) ?_
          refine tg_iconst C (nI 1) dL_law_120 121 rfl (by decide) ?_
          refine tg_isub C (nI ((97 + lt) - 1)) dL_law_121 122 rfl (pk_sub (by omega)) ?_
          refine tg_i2c C dL_law_122 123 rfl ?_
          refine tg_top (y := nI (97 + lt - 1)) (i2c_nI (by omega)) ?_
          refine tg_callYV C hE 0 (by decide) (e_0 ad cy _) rfl (y_spell l hl0 D cy ad hDis σ hS (v := lt) (lnI_let c107 hlt6) hlt6 (by omega)) (cwV 1 C.2.2.2.2.1 gL_law_X4_spell rfl rfl rfl (by decide +kernel) ⟨(Nat.le_of_ble_eq_true rfl), (Nat.le_of_ble_eq_true rfl)⟩) rfl rfl (Nat.le_of_ble_eq_true rfl) ⟨(show cells + 1 ≤ 600172 by omega), (show slots + 6 ≤ 7300668 by omega)⟩ dL_law_123 126 rfl (fun r123 τ123 h123 => ?_)
          obtain ⟨h123, h123s⟩ := h123
          subst h123
          refine tg_iload_n C dL_law_126 127 rfl rfl 0 rfl ?_
          refine tg_icmp_ne C 134 dL_law_127 (by decide) 130 rfl (fun c127 => absurd (rfl) c127) (fun c127 => ?_)
          refine tg_iconst C (nI 1) dL_law_130 131 rfl (by decide) ?_
          refine tg_goto C 135 dL_law_131 (by decide) ?_
          refine tg_istore C dL_law_135 137 rfl [(9, .int (nI 1)), (2, .int (nI (n + 1))), (10, .int (nI lt)), (8, .int (nI wh)), (7, .int r47), (6, .int r35), (5, .int (nI tn)), (4, .int (nI tx)), (3, .int (nI pr)), (1, .ref (ad 0)), (0, .ref b)] (by decide) rfl ?_
          refine tg_goto C 340 dL_law_137 (by decide) ?_
          refine tg_widen (k := cells + 4) (n := slots + 24) (by omega) (by omega) ?_
          refine tg_sub [0, 4, 6, 7, 8, 1, 9, 10] rfl ?_
          exact law_tail C hE hl0 hc hs (h123s ▸ I.spell hlt6 (by omega)) (htc) (by omega) htn (fun τ I2 => kk τ _ _ _ _ _ _ _ _ I2 (htc) (by omega))
        · -- on
          replace c107 : lt = 0 := (z_eq (by omega)).mp c107
          refine tg_bipush C (nI 32) dL_law_110 112 rfl (by decide) ?_
          refine tg_goto C 123 dL_law_112 (by decide) ?_
          refine tg_callYV C hE 0 (by decide) (e_0 ad cy _) rfl (y_spell l hl0 D cy ad hDis σ hS (v := lt) (by rw [c107]; exact lnI_gap) hlt6 (by omega)) (cwV 1 C.2.2.2.2.1 gL_law_X4_spell rfl rfl rfl (by decide +kernel) ⟨(Nat.le_of_ble_eq_true rfl), (Nat.le_of_ble_eq_true rfl)⟩) rfl rfl (Nat.le_of_ble_eq_true rfl) ⟨(show cells + 1 ≤ 600172 by omega), (show slots + 6 ≤ 7300668 by omega)⟩ dL_law_123 126 rfl (fun r123 τ123 h123 => ?_)
          obtain ⟨h123, h123s⟩ := h123
          subst h123
          refine tg_iload_n C dL_law_126 127 rfl rfl 0 rfl ?_
          refine tg_icmp_ne C 134 dL_law_127 (by decide) 130 rfl (fun c127 => absurd (rfl) c127) (fun c127 => ?_)
          refine tg_iconst C (nI 1) dL_law_130 131 rfl (by decide) ?_
          refine tg_goto C 135 dL_law_131 (by decide) ?_
          refine tg_istore C dL_law_135 137 rfl [(9, .int (nI 1)), (2, .int (nI (n + 1))), (10, .int (nI lt)), (8, .int (nI wh)), (7, .int r47), (6, .int r35), (5, .int (nI tn)), (4, .int (nI tx)), (3, .int (nI pr)), (1, .ref (ad 0)), (0, .ref b)] (by decide) rfl ?_
          refine tg_goto C 340 dL_law_137 (by decide) ?_
          refine tg_widen (k := cells + 4) (n := slots + 24) (by omega) (by omega) ?_
          refine tg_sub [0, 4, 6, 7, 8, 1, 9, 10] rfl ?_
          exact law_tail C hE hl0 hc hs (h123s ▸ I.spell hlt6 (by omega)) (htc) (by omega) htn (fun τ I2 => kk τ _ _ _ _ _ _ _ _ I2 (htc) (by omega))
end LawCalls
