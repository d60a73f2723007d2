/-! ===== the law: its calls, one by one ===== -/
section LawC
variable {p : Program} {l : Launch} {e : Env} {s : State} {m : MethodId} {args : Array Value} {below : List Frame} {meth : Method} {c : Code} {D : va_G} {cy : Nat → ClassId} {ad : Nat → Nat} {A : Nat → Prop} {cells slots : Nat} {Q : State → Prop} {σ : sS} {b L cn j0 : Nat} {xs : Nat → Int32}
theorem RR.mm {τ : sS} {n : Nat} {w : Nat → Nat} {tc mg pr tx nx : Nat} {nm wh wd : Nat → Nat} {kp : Nat → Nat → Nat} {loc : Nat → Nat} (h : RR σ cn n w tc mg pr tx nx nm wh wd kp loc) (e : ∀ j, 89 ≤ j → j < 95 → τ j = σ j) : MM τ n w tc mg pr tx nx nm wh wd kp := h.2.2.1.fr (fun k _ => by rw [e 89 (by decide) (by decide)]) (fun j h1 h2 => e j (by omega) h2)
theorem RR.hB {n : Nat} {w : Nat → Nat} {tc mg pr tx nx : Nat} {nm wh wd : Nat → Nat} {kp : Nat → Nat → Nat} {loc : Nat → Nat} (h : RR σ cn n w tc mg pr tx nx nm wh wd kp loc) : ∀ t, t < 5 → totN wh wd tx t ≤ 510 ∧ ∀ r, cntN wh wd kp tx t r ≤ 510 := fun t _ => ⟨totN_le h.tx_le h.2.2.1.wd_le t, fun r => cntN_le h.tx_le h.2.2.1.wd_le t r⟩
set_option maxHeartbeats 1000000 in
set_option maxRecDepth 20000 in
theorem law_spell (C : Cx p s m args c cL_law 7 RL wsL_law D cy ad A) (hE : Ev A s s.heap) (hl0 : l.stackTraces = false) (hXs : va_X b L xs s s.heap) (hbl : b < s.heap.size) (hbA : ¬ A b) (hj : j0 + 3 ≤ L) (hL : L ≤ 1536) (hR : Rel σ cn) (hcn : cn < 10000) (hcl : cells + 2 ≤ room_1.cells ∧ slots + 12 ≤ room_1.slots) (kk : ∀ σ2, Rel σ2 (cn + 1) → TT p l e room_1 s m args below meth c D cy ad A 7 (cells + 2) (slots + 12) Q σ2 1267 (lvL ad b (nI j0)) []) : TT p l e room_1 s m args below meth c D cy ad A 7 cells slots Q σ 148 (lvL ad b (nI j0)) [] := by
  obtain ⟨n, w, tc, mg, pr, tx, nx, nm, wh, wd, kp, loc, h⟩ := hR
  have hDis := C.2.2.2.2.2.2.1
  refine tg_aload_n C dL_law_148 149 rfl rfl 3 rfl ?_
  refine tg_aload_n C dL_law_149 150 rfl rfl 4 rfl ?_
  refine tg_iload C dL_law_150 152 rfl 0 rfl ?_
  refine tg_iconst C (nI 1) dL_law_152 153 rfl (by decide) ?_
  refine tg_iadd C (nI (j0 + 1)) dL_law_153 154 rfl (nI_add _ _) ?_
  refine tg_sld C hXs hbl hbA (vp_in_nI (by omega) (by omega)) dL_law_154 155 rfl ?_
  rw [nI_clamp (show j0 + 1 < 2 ^ 31 by omega)]
  refine tg_i2c C dL_law_155 156 rfl ?_
  refine tg_aload_n C dL_law_156 157 rfl rfl 1 rfl ?_
  refine xg_callSW C hE (c_L_spell l D cy ad hDis σ (x := ((xs (j0 + 1)).toUInt32 % 65536).toInt32) (c_X4_spell l hl0 D cy ad hDis σ h.1) (fun E τ h9 => h9.1.imp (fun h => h.1) (fun h => h.1))) (vx_cwSW 3 C.2.2.2.2.1 gL_law_L_spell rfl rfl rfl (by decide +kernel) ⟨(Nat.le_of_ble_eq_true rfl), (Nat.le_of_ble_eq_true rfl)⟩) rfl rfl (Nat.le_of_ble_eq_true rfl) ⟨by omega, by omega⟩ dL_law_157 160 rfl (fun r τ hH => ?_)
  have hM : MM τ n w tc mg pr tx nx nm wh wd kp := h.mm (fun j hj hj2 => by
      rcases hH with ⟨r1, τ1, hp, -, rfl⟩ | ⟨E, hp, -⟩
      · obtain rfl := hp.2.2.2
        rw [su_ni _ _ _ (by omega), su_ni _ _ _ (by omega), su_ni _ _ _ (by omega)]
      · rw [← hp.2])
  refine tg_istore C dL_law_160 162 rfl _ (by decide) rfl ?_
  refine tg_aload_n C dL_law_162 163 rfl rfl 3 rfl ?_
  refine tg_aload_n C dL_law_163 164 rfl rfl 5 rfl ?_
  refine tg_iload C dL_law_164 166 rfl 1 rfl ?_
  refine tg_iconst C (nI 1) dL_law_166 167 rfl (by decide) ?_
  refine tg_iadd C (nI (j0 + 1)) dL_law_167 168 rfl (nI_add _ _) ?_
  refine tg_sld C hXs hbl hbA (vp_in_nI (by omega) (by omega)) dL_law_168 169 rfl ?_
  rw [nI_clamp (show j0 + 1 < 2 ^ 31 by omega)]
  refine tg_i2c C dL_law_169 170 rfl ?_
  refine tg_callVi C 89 (by decide) (e_89 ad cy _) rfl (c_X5_spell l D cy ad hDis τ hM (x := ((xs (j0 + 1)).toUInt32 % 65536).toInt32)) (cwV 1 C.2.2.2.2.1 gL_law_X5_spell rfl rfl rfl (by decide +kernel) ⟨(Nat.le_of_ble_eq_true rfl), (Nat.le_of_ble_eq_true rfl)⟩) rfl rfl (Nat.le_of_ble_eq_true rfl) ⟨by omega, by omega⟩ dL_law_170 173 rfl (fun r5 τ5 hG => ?_)
  refine tg_istore C dL_law_173 175 rfl _ (by decide) rfl ?_
  refine law_tail C ⟨by omega, by omega⟩ (J_spell h hH hG) 175 dL_law_175 dL_law_176 dL_law_179 dL_law_181 dL_law_186 dL_law_188 dL_law_191 dL_law_192 dL_law_193 dL_law_194 dL_law_196 dL_law_197 dL_law_198 ?_
  refine tg_goto C 1267 dL_law_203 (by decide) ?_
  exact tg_widen (by omega) (by omega) (kk _ (J_spell h hH hG).2.2)
set_option maxHeartbeats 1000000 in
set_option maxRecDepth 20000 in
theorem law_clearSpelled (C : Cx p s m args c cL_law 7 RL wsL_law D cy ad A) (hE : Ev A s s.heap) (hl0 : l.stackTraces = false) (hXs : va_X b L xs s s.heap) (hbl : b < s.heap.size) (hbA : ¬ A b) (hj : j0 + 3 ≤ L) (hL : L ≤ 1536) (hR : Rel σ cn) (hcn : cn < 10000) (hcl : cells + 2 ≤ room_1.cells ∧ slots + 12 ≤ room_1.slots) (kk : ∀ σ2, Rel σ2 (cn + 1) → TT p l e room_1 s m args below meth c D cy ad A 7 (cells + 2) (slots + 12) Q σ2 1267 (lvL ad b (nI j0)) []) : TT p l e room_1 s m args below meth c D cy ad A 7 cells slots Q σ 206 (lvL ad b (nI j0)) [] := by
  obtain ⟨n, w, tc, mg, pr, tx, nx, nm, wh, wd, kp, loc, h⟩ := hR
  have hDis := C.2.2.2.2.2.2.1
  refine tg_aload_n C dL_law_206 207 rfl rfl 3 rfl ?_
  refine tg_callVi C 0 (by decide) (e_0 ad cy _) rfl (c_X4_clearSpelled l D cy ad hDis σ h.1) (cwV 0 C.2.2.2.2.1 gL_law_X4_clearSpelled rfl rfl rfl (by decide +kernel) ⟨(Nat.le_of_ble_eq_true rfl), (Nat.le_of_ble_eq_true rfl)⟩) rfl rfl (Nat.le_of_ble_eq_true rfl) ⟨by omega, by omega⟩ dL_law_207 210 rfl (fun r1 τ hH => ?_)
  have hM := h.mm (τ := τ) (fun j hj _ => by rw [hH.2, su_ni _ _ _ (by omega)])
  refine tg_aload_n C dL_law_210 211 rfl rfl 2 rfl ?_
  refine tg_callVi C 89 (by decide) (e_89 ad cy _) rfl (c_X5_clearSpelled l D cy ad hDis τ hM) (cwV 0 C.2.2.2.2.1 gL_law_X5_clearSpelled rfl rfl rfl (by decide +kernel) ⟨(Nat.le_of_ble_eq_true rfl), (Nat.le_of_ble_eq_true rfl)⟩) rfl rfl (Nat.le_of_ble_eq_true rfl) ⟨by omega, by omega⟩ dL_law_211 214 rfl (fun r5 τ5 hG => ?_)
  have hJ := J_clear h hH hG
  exact tg_icmp_eq C 1267 dL_law_214 (by decide) 217 rfl (fun _ => tg_widen (by omega) (by omega) (kk _ hJ.2)) (fun h9 => absurd hJ.1 h9)
set_option maxHeartbeats 1000000 in
set_option maxRecDepth 20000 in
theorem law_runs (C : Cx p s m args c cL_law 7 RL wsL_law D cy ad A) (hE : Ev A s s.heap) (hl0 : l.stackTraces = false) (hXs : va_X b L xs s s.heap) (hbl : b < s.heap.size) (hbA : ¬ A b) (hj : j0 + 3 ≤ L) (hL : L ≤ 1536) (hR : Rel σ cn) (hcn : cn < 10000) (hcl : cells + 2 ≤ room_1.cells ∧ slots + 12 ≤ room_1.slots) (kk : ∀ σ2, Rel σ2 (cn + 1) → TT p l e room_1 s m args below meth c D cy ad A 7 (cells + 2) (slots + 12) Q σ2 1267 (lvL ad b (nI j0)) []) : TT p l e room_1 s m args below meth c D cy ad A 7 cells slots Q σ 219 (lvL ad b (nI j0)) [] := by
  obtain ⟨n, w, tc, mg, pr, tx, nx, nm, wh, wd, kp, loc, h⟩ := hR
  have hDis := C.2.2.2.2.2.2.1
  refine tg_aload_n C dL_law_219 220 rfl rfl 3 rfl ?_
  refine tg_callVi C 0 (by decide) (e_0 ad cy _) rfl (c_X4_runs l D cy ad hDis σ h.1) (cwV 0 C.2.2.2.2.1 gL_law_X4_runs rfl rfl rfl (by decide +kernel) ⟨(Nat.le_of_ble_eq_true rfl), (Nat.le_of_ble_eq_true rfl)⟩) rfl rfl (Nat.le_of_ble_eq_true rfl) ⟨by omega, by omega⟩ dL_law_220 223 rfl (fun r1 τ hH => ?_)
  have hM := h.mm (τ := τ) (fun j hj _ => by rw [← hH.2])
  refine tg_aload_n C dL_law_223 224 rfl rfl 2 rfl ?_
  refine tg_callVi C 89 (by decide) (e_89 ad cy _) rfl (c_X5_runs l D cy ad hDis τ hM) (cwV 0 C.2.2.2.2.1 gL_law_X5_runs rfl rfl rfl (by decide +kernel) ⟨(Nat.le_of_ble_eq_true rfl), (Nat.le_of_ble_eq_true rfl)⟩) rfl rfl (Nat.le_of_ble_eq_true rfl) ⟨by omega, by omega⟩ dL_law_224 227 rfl (fun r5 τ5 hG => ?_)
  have hJ := J_dir h hH.1 (Agr.rf hH.2) hG
  exact tg_icmp_eq C 1267 dL_law_227 (by decide) 230 rfl (fun _ => tg_widen (by omega) (by omega) (kk _ hJ.2)) (fun h9 => absurd hJ.1 h9)
set_option maxHeartbeats 1000000 in
set_option maxRecDepth 20000 in
theorem law_runAt (C : Cx p s m args c cL_law 7 RL wsL_law D cy ad A) (hE : Ev A s s.heap) (hl0 : l.stackTraces = false) (hXs : va_X b L xs s s.heap) (hbl : b < s.heap.size) (hbA : ¬ A b) (hj : j0 + 3 ≤ L) (hL : L ≤ 1536) (hR : Rel σ cn) (hcn : cn < 10000) (hcl : cells + 2 ≤ room_1.cells ∧ slots + 12 ≤ room_1.slots) (kk : ∀ σ2, Rel σ2 (cn + 1) → TT p l e room_1 s m args below meth c D cy ad A 7 (cells + 2) (slots + 12) Q σ2 1267 (lvL ad b (nI j0)) []) : TT p l e room_1 s m args below meth c D cy ad A 7 cells slots Q σ 232 (lvL ad b (nI j0)) [] := by
  obtain ⟨n, w, tc, mg, pr, tx, nx, nm, wh, wd, kp, loc, h⟩ := hR
  have hDis := C.2.2.2.2.2.2.1
  refine tg_aload_n C dL_law_232 233 rfl rfl 3 rfl ?_
  refine tg_aload_n C dL_law_233 234 rfl rfl 4 rfl ?_
  refine tg_iload C dL_law_234 236 rfl 0 rfl ?_
  refine tg_iconst C (nI 1) dL_law_236 237 rfl (by decide) ?_
  refine tg_iadd C (nI (j0 + 1)) dL_law_237 238 rfl (nI_add _ _) ?_
  refine tg_sld C hXs hbl hbA (vp_in_nI (by omega) (by omega)) dL_law_238 239 rfl ?_
  rw [nI_clamp (show j0 + 1 < 2 ^ 31 by omega)]
  refine tg_aload_n C dL_law_239 240 rfl rfl 1 rfl ?_
  refine xg_callSW C hE (c_L_runAt l D cy ad hDis σ (x := xs (j0 + 1)) (c_X4_runAt l hl0 D cy ad hDis σ h.1) (fun E τ h9 => h9.1)) (vx_cwSW 3 C.2.2.2.2.1 gL_law_L_runAt rfl rfl rfl (by decide +kernel) ⟨(Nat.le_of_ble_eq_true rfl), (Nat.le_of_ble_eq_true rfl)⟩) rfl rfl (Nat.le_of_ble_eq_true rfl) ⟨by omega, by omega⟩ dL_law_240 243 rfl (fun r τ hH => ?_)
  have hM : MM τ n w tc mg pr tx nx nm wh wd kp := h.mm (fun j hj hj2 => by
      rcases hH with ⟨r1, τ1, hp, -, rfl⟩ | ⟨E, hp, -⟩
      · obtain rfl := hp.2
        rw [su_ni _ _ _ (by omega)]
      · rw [← hp.2.2])
  refine tg_istore C dL_law_243 245 rfl _ (by decide) rfl ?_
  refine tg_aload_n C dL_law_245 246 rfl rfl 3 rfl ?_
  refine tg_aload_n C dL_law_246 247 rfl rfl 5 rfl ?_
  refine tg_iload C dL_law_247 249 rfl 1 rfl ?_
  refine tg_iconst C (nI 1) dL_law_249 250 rfl (by decide) ?_
  refine tg_iadd C (nI (j0 + 1)) dL_law_250 251 rfl (nI_add _ _) ?_
  refine tg_sld C hXs hbl hbA (vp_in_nI (by omega) (by omega)) dL_law_251 252 rfl ?_
  rw [nI_clamp (show j0 + 1 < 2 ^ 31 by omega)]
  refine tg_callVi C 89 (by decide) (e_89 ad cy _) rfl (c_X5_runAt l D cy ad hDis τ hM (x := xs (j0 + 1))) (cwV 1 C.2.2.2.2.1 gL_law_X5_runAt rfl rfl rfl (by decide +kernel) ⟨(Nat.le_of_ble_eq_true rfl), (Nat.le_of_ble_eq_true rfl)⟩) rfl rfl (Nat.le_of_ble_eq_true rfl) ⟨by omega, by omega⟩ dL_law_252 255 rfl (fun r5 τ5 hG => ?_)
  refine tg_istore C dL_law_255 257 rfl _ (by decide) rfl ?_
  refine law_tail C ⟨by omega, by omega⟩ (J1 h (by have := h.1.2.1; unfold rc; split <;> omega) (fun k => nI (rn n w k)) (fun τ1 => σ = τ1) (fun _ e => Agr.rf e) hH hG) 257 dL_law_257 dL_law_258 dL_law_261 dL_law_263 dL_law_268 dL_law_270 dL_law_273 dL_law_274 dL_law_275 dL_law_276 dL_law_278 dL_law_279 dL_law_280 ?_
  refine tg_goto C 1267 dL_law_285 (by decide) ?_
  exact tg_widen (by omega) (by omega) (kk _ (J1 h (by have := h.1.2.1; unfold rc; split <;> omega) (fun k => nI (rn n w k)) (fun τ1 => σ = τ1) (fun _ e => Agr.rf e) hH hG).2.2)
set_option maxHeartbeats 1000000 in
set_option maxRecDepth 20000 in
theorem law_addTongue (C : Cx p s m args c cL_law 7 RL wsL_law D cy ad A) (hE : Ev A s s.heap) (hl0 : l.stackTraces = false) (hXs : va_X b L xs s s.heap) (hbl : b < s.heap.size) (hbA : ¬ A b) (hj : j0 + 3 ≤ L) (hL : L ≤ 1536) (hR : Rel σ cn) (hcn : cn < 10000) (hcl : cells + 2 ≤ room_1.cells ∧ slots + 12 ≤ room_1.slots) (kk : ∀ σ2, Rel σ2 (cn + 1) → TT p l e room_1 s m args below meth c D cy ad A 7 (cells + 2) (slots + 12) Q σ2 1267 (lvL ad b (nI j0)) []) : TT p l e room_1 s m args below meth c D cy ad A 7 cells slots Q σ 288 (lvL ad b (nI j0)) [] := by
  obtain ⟨n, w, tc, mg, pr, tx, nx, nm, wh, wd, kp, loc, h⟩ := hR
  have hDis := C.2.2.2.2.2.2.1
  refine tg_aload_n C dL_law_288 289 rfl rfl 3 rfl ?_
  refine tg_aload_n C dL_law_289 290 rfl rfl 1 rfl ?_
  refine xg_callSW C hE (c_L_addTongue l D cy ad hDis σ (c_X4_addTongue l hl0 D cy ad hDis σ h.2.1) (fun E τ h9 => h9.1)) (vx_cwSW 2 C.2.2.2.2.1 gL_law_L_addTongue rfl rfl rfl (by decide +kernel) ⟨(Nat.le_of_ble_eq_true rfl), (Nat.le_of_ble_eq_true rfl)⟩) rfl rfl (Nat.le_of_ble_eq_true rfl) ⟨by omega, by omega⟩ dL_law_290 293 rfl (fun r τ hH => ?_)
  have hM : MM τ n w tc mg pr tx nx nm wh wd kp := h.mm (fun j hj hj2 => by
      rcases hH with ⟨r1, τ1, hp, -, rfl⟩ | ⟨E, hp, -⟩
      · obtain rfl := hp.2.2
        rw [su_ni _ _ _ (by omega), su_ni _ _ _ (by omega)]
      · rw [← hp.2.2])
  refine tg_istore C dL_law_293 295 rfl _ (by decide) rfl ?_
  refine tg_aload_n C dL_law_295 296 rfl rfl 3 rfl ?_
  refine tg_callVi C 89 (by decide) (e_89 ad cy _) rfl (c_X5_addTongue l D cy ad hDis τ hM) (cwV 0 C.2.2.2.2.1 gL_law_X5_addTongue rfl rfl rfl (by decide +kernel) ⟨(Nat.le_of_ble_eq_true rfl), (Nat.le_of_ble_eq_true rfl)⟩) rfl rfl (Nat.le_of_ble_eq_true rfl) ⟨by omega, by omega⟩ dL_law_296 299 rfl (fun r5 τ5 hG => ?_)
  refine tg_istore C dL_law_299 301 rfl _ (by decide) rfl ?_
  refine law_tail C ⟨by omega, by omega⟩ (J_addTongue h hH hG) 301 dL_law_301 dL_law_302 dL_law_305 dL_law_307 dL_law_312 dL_law_314 dL_law_317 dL_law_318 dL_law_319 dL_law_320 dL_law_322 dL_law_323 dL_law_324 ?_
  refine tg_goto C 1267 dL_law_329 (by decide) ?_
  exact tg_widen (by omega) (by omega) (kk _ (J_addTongue h hH hG).2.2)
set_option maxHeartbeats 1000000 in
set_option maxRecDepth 20000 in
theorem law_tongues (C : Cx p s m args c cL_law 7 RL wsL_law D cy ad A) (hE : Ev A s s.heap) (hl0 : l.stackTraces = false) (hXs : va_X b L xs s s.heap) (hbl : b < s.heap.size) (hbA : ¬ A b) (hj : j0 + 3 ≤ L) (hL : L ≤ 1536) (hR : Rel σ cn) (hcn : cn < 10000) (hcl : cells + 2 ≤ room_1.cells ∧ slots + 12 ≤ room_1.slots) (kk : ∀ σ2, Rel σ2 (cn + 1) → TT p l e room_1 s m args below meth c D cy ad A 7 (cells + 2) (slots + 12) Q σ2 1267 (lvL ad b (nI j0)) []) : TT p l e room_1 s m args below meth c D cy ad A 7 cells slots Q σ 332 (lvL ad b (nI j0)) [] := by
  obtain ⟨n, w, tc, mg, pr, tx, nx, nm, wh, wd, kp, loc, h⟩ := hR
  have hDis := C.2.2.2.2.2.2.1
  refine tg_aload_n C dL_law_332 333 rfl rfl 3 rfl ?_
  refine tg_callVi C 0 (by decide) (e_0 ad cy _) rfl (c_X4_tongues l D cy ad hDis σ h.2.1) (cwV 0 C.2.2.2.2.1 gL_law_X4_tongues rfl rfl rfl (by decide +kernel) ⟨(Nat.le_of_ble_eq_true rfl), (Nat.le_of_ble_eq_true rfl)⟩) rfl rfl (Nat.le_of_ble_eq_true rfl) ⟨by omega, by omega⟩ dL_law_333 336 rfl (fun r1 τ hH => ?_)
  have hM := h.mm (τ := τ) (fun j hj _ => by rw [← hH.2])
  refine tg_aload_n C dL_law_336 337 rfl rfl 2 rfl ?_
  refine tg_callVi C 89 (by decide) (e_89 ad cy _) rfl (c_X5_tongues l D cy ad hDis τ hM) (cwV 0 C.2.2.2.2.1 gL_law_X5_tongues rfl rfl rfl (by decide +kernel) ⟨(Nat.le_of_ble_eq_true rfl), (Nat.le_of_ble_eq_true rfl)⟩) rfl rfl (Nat.le_of_ble_eq_true rfl) ⟨by omega, by omega⟩ dL_law_337 340 rfl (fun r5 τ5 hG => ?_)
  have hJ := J_dir h hH.1 (Agr.rf hH.2) hG
  exact tg_icmp_eq C 1267 dL_law_340 (by decide) 343 rfl (fun _ => tg_widen (by omega) (by omega) (kk _ hJ.2)) (fun h9 => absurd hJ.1 h9)
set_option maxHeartbeats 1000000 in
set_option maxRecDepth 20000 in
theorem law_teach (C : Cx p s m args c cL_law 7 RL wsL_law D cy ad A) (hE : Ev A s s.heap) (hl0 : l.stackTraces = false) (hXs : va_X b L xs s s.heap) (hbl : b < s.heap.size) (hbA : ¬ A b) (hj : j0 + 3 ≤ L) (hL : L ≤ 1536) (hR : Rel σ cn) (hcn : cn < 10000) (hcl : cells + 2 ≤ room_1.cells ∧ slots + 12 ≤ room_1.slots) (kk : ∀ σ2, Rel σ2 (cn + 1) → TT p l e room_1 s m args below meth c D cy ad A 7 (cells + 2) (slots + 12) Q σ2 1267 (lvL ad b (nI j0)) []) : TT p l e room_1 s m args below meth c D cy ad A 7 cells slots Q σ 345 (lvL ad b (nI j0)) [] := by
  obtain ⟨n, w, tc, mg, pr, tx, nx, nm, wh, wd, kp, loc, h⟩ := hR
  have hDis := C.2.2.2.2.2.2.1
  have hB := h.hB
  refine tg_aload_n C dL_law_345 346 rfl rfl 3 rfl ?_
  refine tg_aload_n C dL_law_346 347 rfl rfl 4 rfl ?_
  refine tg_iload C dL_law_347 349 rfl 0 rfl ?_
  refine tg_iconst C (nI 1) dL_law_349 350 rfl (by decide) ?_
  refine tg_iadd C (nI (j0 + 1)) dL_law_350 351 rfl (nI_add _ _) ?_
  refine tg_sld C hXs hbl hbA (vp_in_nI (by omega) (by omega)) dL_law_351 352 rfl ?_
  rw [nI_clamp (show j0 + 1 < 2 ^ 31 by omega)]
  refine tg_aload_n C dL_law_352 353 rfl rfl 1 rfl ?_
  refine xg_callSW C hE (c_L_teach l D cy ad hDis σ (x := xs (j0 + 1)) (c_X4_teach l hl0 D cy ad hDis σ h.2.1 h.1 (ct := cntN wh wd kp tx) (mt := totN wh wd tx) h.2.2.2.1 h.2.2.2.2.1.1 (by have := h.2.2.2.2.2; omega) hB) (fun E τ h9 => h9.1.imp (fun h => h.1) (fun h => h.1))) (vx_cwSW 3 C.2.2.2.2.1 gL_law_L_teach rfl rfl rfl (by decide +kernel) ⟨(Nat.le_of_ble_eq_true rfl), (Nat.le_of_ble_eq_true rfl)⟩) rfl rfl (Nat.le_of_ble_eq_true rfl) ⟨by omega, by omega⟩ dL_law_353 356 rfl (fun r τ hH => ?_)
  have hM : MM τ n w tc mg pr tx nx nm wh wd kp := h.mm (fun j hj hj2 => by
      rcases hH with ⟨r1, τ1, hp, -, rfl⟩ | ⟨E, hp, -⟩
      · obtain ⟨t, ht, -, -, hs, -, K⟩ := hp; rw [su_ni _ _ _ (by omega)]; exact K.2.2.2.2.2.2 j (by omega) (by omega) (by omega) (by omega) (by omega) (by have := h.2.1.2.2.2.1; omega) (by have := h.2.1.2.2.2.1; omega)
      · rw [← hp.2])
  refine tg_istore C dL_law_356 358 rfl _ (by decide) rfl ?_
  refine tg_aload_n C dL_law_358 359 rfl rfl 3 rfl ?_
  refine tg_aload_n C dL_law_359 360 rfl rfl 5 rfl ?_
  refine tg_iload C dL_law_360 362 rfl 1 rfl ?_
  refine tg_iconst C (nI 1) dL_law_362 363 rfl (by decide) ?_
  refine tg_iadd C (nI (j0 + 1)) dL_law_363 364 rfl (nI_add _ _) ?_
  refine tg_sld C hXs hbl hbA (vp_in_nI (by omega) (by omega)) dL_law_364 365 rfl ?_
  rw [nI_clamp (show j0 + 1 < 2 ^ 31 by omega)]
  refine tg_callVi C 89 (by decide) (e_89 ad cy _) rfl (c_X5_teach l D cy ad hDis τ hM (by have := h.2.2.2.2.2; omega) (x := xs (j0 + 1))) (cwV 1 C.2.2.2.2.1 gL_law_X5_teach rfl rfl rfl (by decide +kernel) ⟨(Nat.le_of_ble_eq_true rfl), (Nat.le_of_ble_eq_true rfl)⟩) rfl rfl (Nat.le_of_ble_eq_true rfl) ⟨by omega, by omega⟩ dL_law_365 368 rfl (fun r5 τ5 hG => ?_)
  refine tg_istore C dL_law_368 370 rfl _ (by decide) rfl ?_
  refine law_tail C ⟨by omega, by omega⟩ (J_teach h hcn hH hG) 370 dL_law_370 dL_law_371 dL_law_374 dL_law_376 dL_law_381 dL_law_383 dL_law_386 dL_law_387 dL_law_388 dL_law_389 dL_law_391 dL_law_392 dL_law_393 ?_
  refine tg_goto C 1267 dL_law_398 (by decide) ?_
  exact tg_widen (by omega) (by omega) (kk _ (J_teach h hcn hH hG).2.2)
set_option maxHeartbeats 1000000 in
set_option maxRecDepth 20000 in
theorem law_withdraw (C : Cx p s m args c cL_law 7 RL wsL_law D cy ad A) (hE : Ev A s s.heap) (hl0 : l.stackTraces = false) (hXs : va_X b L xs s s.heap) (hbl : b < s.heap.size) (hbA : ¬ A b) (hj : j0 + 3 ≤ L) (hL : L ≤ 1536) (hR : Rel σ cn) (hcn : cn < 10000) (hcl : cells + 2 ≤ room_1.cells ∧ slots + 12 ≤ room_1.slots) (kk : ∀ σ2, Rel σ2 (cn + 1) → TT p l e room_1 s m args below meth c D cy ad A 7 (cells + 2) (slots + 12) Q σ2 1267 (lvL ad b (nI j0)) []) : TT p l e room_1 s m args below meth c D cy ad A 7 cells slots Q σ 401 (lvL ad b (nI j0)) [] := by
  obtain ⟨n, w, tc, mg, pr, tx, nx, nm, wh, wd, kp, loc, h⟩ := hR
  have hDis := C.2.2.2.2.2.2.1
  by_cases hf : ∃ k, k < tx ∧ xs (j0 + 1) = nI (nm k)
  · obtain ⟨k, hk, hx⟩ := hf
    have hfs := (h.find (xs (j0 + 1))).resolve_right (fun h9 => by rw [hx, (h.hit hk).1] at h9; omega)
    refine tg_aload_n C dL_law_401 402 rfl rfl 3 rfl ?_
    refine tg_aload_n C dL_law_402 403 rfl rfl 4 rfl ?_
    refine tg_iload C dL_law_403 405 rfl 0 rfl ?_
    refine tg_iconst C (nI 1) dL_law_405 406 rfl (by decide) ?_
    refine tg_iadd C (nI (j0 + 1)) dL_law_406 407 rfl (nI_add _ _) ?_
    refine tg_sld C hXs hbl hbA (vp_in_nI (by omega) (by omega)) dL_law_407 408 rfl ?_
    rw [nI_clamp (show j0 + 1 < 2 ^ 31 by omega)]
    refine tg_aload_n C dL_law_408 409 rfl rfl 1 rfl ?_
    refine xg_callSW C hE (c_L_withdraw l D cy ad hDis σ (x := xs (j0 + 1)) (c_X4_withdraw l hl0 D cy ad hDis σ (ct := cntN wh wd kp tx) (mt := totN wh wd tx) h.2.2.2.1 (t := wh k) (ln := wd k) (rr := kp k) (fun _ _ => h.hW hk (by rw [hx]; exact (h.hit hk).2.1))) (fun E τ h9 => h9.1)) (vx_cwSW 3 C.2.2.2.2.1 gL_law_L_withdraw rfl rfl rfl (by decide +kernel) ⟨(Nat.le_of_ble_eq_true rfl), (Nat.le_of_ble_eq_true rfl)⟩) rfl rfl (Nat.le_of_ble_eq_true rfl) ⟨by omega, by omega⟩ dL_law_409 412 rfl (fun r τ hH => ?_)
    have hM : MM τ n w tc mg pr tx nx nm wh wd kp := h.mm (fun j hj hj2 => by
        rcases hH with ⟨r1, τ1, hp, -, rfl⟩ | ⟨E, hp, -⟩
        · rw [su_ni _ _ _ (by omega)]; have hw5 : wh k < 5 := (h.2.2.1.2.2.2.2.2.2 k hk).2.1.2; exact hp.2.2.2.2.2 j (by omega) (by omega) (by omega)
        · rw [← hp.2.2])
    refine tg_istore C dL_law_412 414 rfl _ (by decide) rfl ?_
    refine tg_aload_n C dL_law_414 415 rfl rfl 3 rfl ?_
    refine tg_aload_n C dL_law_415 416 rfl rfl 5 rfl ?_
    refine tg_iload C dL_law_416 418 rfl 1 rfl ?_
    refine tg_iconst C (nI 1) dL_law_418 419 rfl (by decide) ?_
    refine tg_iadd C (nI (j0 + 1)) dL_law_419 420 rfl (nI_add _ _) ?_
    refine tg_sld C hXs hbl hbA (vp_in_nI (by omega) (by omega)) dL_law_420 421 rfl ?_
    rw [nI_clamp (show j0 + 1 < 2 ^ 31 by omega)]
    refine tg_callVi C 89 (by decide) (e_89 ad cy _) rfl (c_X5_withdraw l D cy ad hDis τ hM (x := xs (j0 + 1))) (cwV 1 C.2.2.2.2.1 gL_law_X5_withdraw rfl rfl rfl (by decide +kernel) ⟨(Nat.le_of_ble_eq_true rfl), (Nat.le_of_ble_eq_true rfl)⟩) rfl rfl (Nat.le_of_ble_eq_true rfl) ⟨by omega, by omega⟩ dL_law_421 424 rfl (fun r5 τ5 hG => ?_)
    refine tg_istore C dL_law_424 426 rfl _ (by decide) rfl ?_
    refine law_tail C ⟨by omega, by omega⟩ (J_withdraw h (t := wh k) (ln := wd k) (rr := kp k) (fun k2 hk2 e2 => by have := h.2.2.2.2.1.2.2.2.1 k k2 hk hk2 (nI_inj (h.nm_le hk).1 (h.nm_le hk2).1 (hx.symm.trans e2)); subst this; exact ⟨rfl, rfl, rfl⟩) hH hG) 426 dL_law_426 dL_law_427 dL_law_430 dL_law_432 dL_law_437 dL_law_439 dL_law_442 dL_law_443 dL_law_444 dL_law_445 dL_law_447 dL_law_448 dL_law_449 ?_
    refine tg_goto C 1267 dL_law_454 (by decide) ?_
    exact tg_widen (by omega) (by omega) (kk _ (J_withdraw h (t := wh k) (ln := wd k) (rr := kp k) (fun k2 hk2 e2 => by have := h.2.2.2.2.1.2.2.2.1 k k2 hk hk2 (nI_inj (h.nm_le hk).1 (h.nm_le hk2).1 (hx.symm.trans e2)); subst this; exact ⟨rfl, rfl, rfl⟩) hH hG).2.2)
  · have hmiss := h.miss (x := xs (j0 + 1)) (fun k hk e => hf ⟨k, hk, e.symm⟩)
    refine tg_aload_n C dL_law_401 402 rfl rfl 3 rfl ?_
    refine tg_aload_n C dL_law_402 403 rfl rfl 4 rfl ?_
    refine tg_iload C dL_law_403 405 rfl 0 rfl ?_
    refine tg_iconst C (nI 1) dL_law_405 406 rfl (by decide) ?_
    refine tg_iadd C (nI (j0 + 1)) dL_law_406 407 rfl (nI_add _ _) ?_
    refine tg_sld C hXs hbl hbA (vp_in_nI (by omega) (by omega)) dL_law_407 408 rfl ?_
    rw [nI_clamp (show j0 + 1 < 2 ^ 31 by omega)]
    refine tg_aload_n C dL_law_408 409 rfl rfl 1 rfl ?_
    refine xg_callSW C hE (c_L_withdraw l D cy ad hDis σ (x := xs (j0 + 1)) (c_X4_withdraw l hl0 D cy ad hDis σ (ct := cntN wh wd kp tx) (mt := totN wh wd tx) h.2.2.2.1 (t := 0) (ln := 0) (rr := fun _ => 0) (fun h1 h2 => absurd hmiss.2 (by intro h9; rcases h9 with h9 | h9; exact h1 h9; omega))) (fun E τ h9 => h9.1)) (vx_cwSW 3 C.2.2.2.2.1 gL_law_L_withdraw rfl rfl rfl (by decide +kernel) ⟨(Nat.le_of_ble_eq_true rfl), (Nat.le_of_ble_eq_true rfl)⟩) rfl rfl (Nat.le_of_ble_eq_true rfl) ⟨by omega, by omega⟩ dL_law_409 412 rfl (fun r τ hH => ?_)
    have hM : MM τ n w tc mg pr tx nx nm wh wd kp := h.mm (fun j hj hj2 => by
        rcases hH with ⟨r1, τ1, hp, -, rfl⟩ | ⟨E, hp, -⟩
        · rw [su_ni _ _ _ (by omega)]; exact hp.2.2.2.2.2 j (by omega) (by omega) (by omega)
        · rw [← hp.2.2])
    refine tg_istore C dL_law_412 414 rfl _ (by decide) rfl ?_
    refine tg_aload_n C dL_law_414 415 rfl rfl 3 rfl ?_
    refine tg_aload_n C dL_law_415 416 rfl rfl 5 rfl ?_
    refine tg_iload C dL_law_416 418 rfl 1 rfl ?_
    refine tg_iconst C (nI 1) dL_law_418 419 rfl (by decide) ?_
    refine tg_iadd C (nI (j0 + 1)) dL_law_419 420 rfl (nI_add _ _) ?_
    refine tg_sld C hXs hbl hbA (vp_in_nI (by omega) (by omega)) dL_law_420 421 rfl ?_
    rw [nI_clamp (show j0 + 1 < 2 ^ 31 by omega)]
    refine tg_callVi C 89 (by decide) (e_89 ad cy _) rfl (c_X5_withdraw l D cy ad hDis τ hM (x := xs (j0 + 1))) (cwV 1 C.2.2.2.2.1 gL_law_X5_withdraw rfl rfl rfl (by decide +kernel) ⟨(Nat.le_of_ble_eq_true rfl), (Nat.le_of_ble_eq_true rfl)⟩) rfl rfl (Nat.le_of_ble_eq_true rfl) ⟨by omega, by omega⟩ dL_law_421 424 rfl (fun r5 τ5 hG => ?_)
    refine tg_istore C dL_law_424 426 rfl _ (by decide) rfl ?_
    refine law_tail C ⟨by omega, by omega⟩ (J_withdraw h (t := 0) (ln := 0) (rr := fun _ => 0) (fun k hk e => absurd ⟨k, hk, e⟩ hf) hH hG) 426 dL_law_426 dL_law_427 dL_law_430 dL_law_432 dL_law_437 dL_law_439 dL_law_442 dL_law_443 dL_law_444 dL_law_445 dL_law_447 dL_law_448 dL_law_449 ?_
    refine tg_goto C 1267 dL_law_454 (by decide) ?_
    exact tg_widen (by omega) (by omega) (kk _ (J_withdraw h (t := 0) (ln := 0) (rr := fun _ => 0) (fun k hk e => absurd ⟨k, hk, e⟩ hf) hH hG).2.2)
set_option maxHeartbeats 1000000 in
set_option maxRecDepth 20000 in
theorem law_tongueOf (C : Cx p s m args c cL_law 7 RL wsL_law D cy ad A) (hE : Ev A s s.heap) (hl0 : l.stackTraces = false) (hXs : va_X b L xs s s.heap) (hbl : b < s.heap.size) (hbA : ¬ A b) (hj : j0 + 3 ≤ L) (hL : L ≤ 1536) (hR : Rel σ cn) (hcn : cn < 10000) (hcl : cells + 2 ≤ room_1.cells ∧ slots + 12 ≤ room_1.slots) (kk : ∀ σ2, Rel σ2 (cn + 1) → TT p l e room_1 s m args below meth c D cy ad A 7 (cells + 2) (slots + 12) Q σ2 1267 (lvL ad b (nI j0)) []) : TT p l e room_1 s m args below meth c D cy ad A 7 cells slots Q σ 457 (lvL ad b (nI j0)) [] := by
  obtain ⟨n, w, tc, mg, pr, tx, nx, nm, wh, wd, kp, loc, h⟩ := hR
  have hDis := C.2.2.2.2.2.2.1
  refine tg_aload_n C dL_law_457 458 rfl rfl 3 rfl ?_
  refine tg_aload_n C dL_law_458 459 rfl rfl 4 rfl ?_
  refine tg_iload C dL_law_459 461 rfl 0 rfl ?_
  refine tg_iconst C (nI 1) dL_law_461 462 rfl (by decide) ?_
  refine tg_iadd C (nI (j0 + 1)) dL_law_462 463 rfl (nI_add _ _) ?_
  refine tg_sld C hXs hbl hbA (vp_in_nI (by omega) (by omega)) dL_law_463 464 rfl ?_
  rw [nI_clamp (show j0 + 1 < 2 ^ 31 by omega)]
  refine tg_aload_n C dL_law_464 465 rfl rfl 1 rfl ?_
  refine xg_callSW C hE (c_L_tongueOf l D cy ad hDis σ (x := xs (j0 + 1)) (c_X4_tongueOf l hl0 D cy ad hDis σ ) (fun E τ h9 => h9.1)) (vx_cwSW 3 C.2.2.2.2.1 gL_law_L_tongueOf rfl rfl rfl (by decide +kernel) ⟨(Nat.le_of_ble_eq_true rfl), (Nat.le_of_ble_eq_true rfl)⟩) rfl rfl (Nat.le_of_ble_eq_true rfl) ⟨by omega, by omega⟩ dL_law_465 468 rfl (fun r τ hH => ?_)
  have hM : MM τ n w tc mg pr tx nx nm wh wd kp := h.mm (fun j hj hj2 => by
      rcases hH with ⟨r1, τ1, hp, -, rfl⟩ | ⟨E, hp, -⟩
      · obtain rfl := hp.2.2.2
        rw [su_ni _ _ _ (by omega)]
      · rw [← hp.2.2])
  refine tg_istore C dL_law_468 470 rfl _ (by decide) rfl ?_
  refine tg_aload_n C dL_law_470 471 rfl rfl 3 rfl ?_
  refine tg_aload_n C dL_law_471 472 rfl rfl 5 rfl ?_
  refine tg_iload C dL_law_472 474 rfl 1 rfl ?_
  refine tg_iconst C (nI 1) dL_law_474 475 rfl (by decide) ?_
  refine tg_iadd C (nI (j0 + 1)) dL_law_475 476 rfl (nI_add _ _) ?_
  refine tg_sld C hXs hbl hbA (vp_in_nI (by omega) (by omega)) dL_law_476 477 rfl ?_
  rw [nI_clamp (show j0 + 1 < 2 ^ 31 by omega)]
  refine tg_callVi C 89 (by decide) (e_89 ad cy _) rfl (c_X5_tongueOf l D cy ad hDis τ hM (x := xs (j0 + 1))) (cwV 1 C.2.2.2.2.1 gL_law_X5_tongueOf rfl rfl rfl (by decide +kernel) ⟨(Nat.le_of_ble_eq_true rfl), (Nat.le_of_ble_eq_true rfl)⟩) rfl rfl (Nat.le_of_ble_eq_true rfl) ⟨by omega, by omega⟩ dL_law_477 480 rfl (fun r5 τ5 hG => ?_)
  refine tg_istore C dL_law_480 482 rfl _ (by decide) rfl ?_
  refine law_tail C ⟨by omega, by omega⟩ (J_tongueOf h hH hG) 482 dL_law_482 dL_law_483 dL_law_486 dL_law_488 dL_law_493 dL_law_495 dL_law_498 dL_law_499 dL_law_500 dL_law_501 dL_law_503 dL_law_504 dL_law_505 ?_
  refine tg_goto C 1267 dL_law_510 (by decide) ?_
  exact tg_widen (by omega) (by omega) (kk _ (J_tongueOf h hH hG).2.2)
set_option maxHeartbeats 1000000 in
set_option maxRecDepth 20000 in
theorem law_total (C : Cx p s m args c cL_law 7 RL wsL_law D cy ad A) (hE : Ev A s s.heap) (hl0 : l.stackTraces = false) (hXs : va_X b L xs s s.heap) (hbl : b < s.heap.size) (hbA : ¬ A b) (hj : j0 + 3 ≤ L) (hL : L ≤ 1536) (hR : Rel σ cn) (hcn : cn < 10000) (hcl : cells + 2 ≤ room_1.cells ∧ slots + 12 ≤ room_1.slots) (kk : ∀ σ2, Rel σ2 (cn + 1) → TT p l e room_1 s m args below meth c D cy ad A 7 (cells + 2) (slots + 12) Q σ2 1267 (lvL ad b (nI j0)) []) : TT p l e room_1 s m args below meth c D cy ad A 7 cells slots Q σ 513 (lvL ad b (nI j0)) [] := by
  obtain ⟨n, w, tc, mg, pr, tx, nx, nm, wh, wd, kp, loc, h⟩ := hR
  have hDis := C.2.2.2.2.2.2.1
  refine tg_aload_n C dL_law_513 514 rfl rfl 3 rfl ?_
  refine tg_aload_n C dL_law_514 515 rfl rfl 4 rfl ?_
  refine tg_iload C dL_law_515 517 rfl 0 rfl ?_
  refine tg_iconst C (nI 1) dL_law_517 518 rfl (by decide) ?_
  refine tg_iadd C (nI (j0 + 1)) dL_law_518 519 rfl (nI_add _ _) ?_
  refine tg_sld C hXs hbl hbA (vp_in_nI (by omega) (by omega)) dL_law_519 520 rfl ?_
  rw [nI_clamp (show j0 + 1 < 2 ^ 31 by omega)]
  refine tg_aload_n C dL_law_520 521 rfl rfl 1 rfl ?_
  refine xg_callSW C hE (c_L_total l D cy ad hDis σ (x := xs (j0 + 1)) (c_X4_total l hl0 D cy ad hDis σ h.2.1 (ct := cntN wh wd kp tx) (mt := totN wh wd tx) h.2.2.2.1) (fun E τ h9 => h9.1)) (vx_cwSW 3 C.2.2.2.2.1 gL_law_L_total rfl rfl rfl (by decide +kernel) ⟨(Nat.le_of_ble_eq_true rfl), (Nat.le_of_ble_eq_true rfl)⟩) rfl rfl (Nat.le_of_ble_eq_true rfl) ⟨by omega, by omega⟩ dL_law_521 524 rfl (fun r τ hH => ?_)
  have hM : MM τ n w tc mg pr tx nx nm wh wd kp := h.mm (fun j hj hj2 => by
      rcases hH with ⟨r1, τ1, hp, -, rfl⟩ | ⟨E, hp, -⟩
      · obtain rfl := hp.2
        rw [su_ni _ _ _ (by omega)]
      · rw [← hp.2.2])
  refine tg_istore C dL_law_524 526 rfl _ (by decide) rfl ?_
  refine tg_aload_n C dL_law_526 527 rfl rfl 3 rfl ?_
  refine tg_aload_n C dL_law_527 528 rfl rfl 5 rfl ?_
  refine tg_iload C dL_law_528 530 rfl 1 rfl ?_
  refine tg_iconst C (nI 1) dL_law_530 531 rfl (by decide) ?_
  refine tg_iadd C (nI (j0 + 1)) dL_law_531 532 rfl (nI_add _ _) ?_
  refine tg_sld C hXs hbl hbA (vp_in_nI (by omega) (by omega)) dL_law_532 533 rfl ?_
  rw [nI_clamp (show j0 + 1 < 2 ^ 31 by omega)]
  refine tg_callVi C 89 (by decide) (e_89 ad cy _) rfl (c_X5_total l D cy ad hDis τ hM (x := xs (j0 + 1))) (cwV 1 C.2.2.2.2.1 gL_law_X5_total rfl rfl rfl (by decide +kernel) ⟨(Nat.le_of_ble_eq_true rfl), (Nat.le_of_ble_eq_true rfl)⟩) rfl rfl (Nat.le_of_ble_eq_true rfl) ⟨by omega, by omega⟩ dL_law_533 536 rfl (fun r5 τ5 hG => ?_)
  refine tg_istore C dL_law_536 538 rfl _ (by decide) rfl ?_
  refine law_tail C ⟨by omega, by omega⟩ (J1 h (by have := h.2.1.2.2.2.1; omega) (fun t => nI (totN wh wd tx t)) (fun τ1 => σ = τ1) (fun _ e => Agr.rf e) hH hG) 538 dL_law_538 dL_law_539 dL_law_542 dL_law_544 dL_law_549 dL_law_551 dL_law_554 dL_law_555 dL_law_556 dL_law_557 dL_law_559 dL_law_560 dL_law_561 ?_
  refine tg_goto C 1267 dL_law_566 (by decide) ?_
  exact tg_widen (by omega) (by omega) (kk _ (J1 h (by have := h.2.1.2.2.2.1; omega) (fun t => nI (totN wh wd tx t)) (fun τ1 => σ = τ1) (fun _ e => Agr.rf e) hH hG).2.2)
set_option maxHeartbeats 1000000 in
set_option maxRecDepth 20000 in
theorem law_count (C : Cx p s m args c cL_law 7 RL wsL_law D cy ad A) (hE : Ev A s s.heap) (hl0 : l.stackTraces = false) (hXs : va_X b L xs s s.heap) (hbl : b < s.heap.size) (hbA : ¬ A b) (hj : j0 + 3 ≤ L) (hL : L ≤ 1536) (hR : Rel σ cn) (hcn : cn < 10000) (hcl : cells + 2 ≤ room_1.cells ∧ slots + 12 ≤ room_1.slots) (kk : ∀ σ2, Rel σ2 (cn + 1) → TT p l e room_1 s m args below meth c D cy ad A 7 (cells + 2) (slots + 12) Q σ2 1267 (lvL ad b (nI j0)) []) : TT p l e room_1 s m args below meth c D cy ad A 7 cells slots Q σ 569 (lvL ad b (nI j0)) [] := by
  obtain ⟨n, w, tc, mg, pr, tx, nx, nm, wh, wd, kp, loc, h⟩ := hR
  have hDis := C.2.2.2.2.2.2.1
  refine tg_aload_n C dL_law_569 570 rfl rfl 3 rfl ?_
  refine tg_aload_n C dL_law_570 571 rfl rfl 4 rfl ?_
  refine tg_iload C dL_law_571 573 rfl 0 rfl ?_
  refine tg_iconst C (nI 1) dL_law_573 574 rfl (by decide) ?_
  refine tg_iadd C (nI (j0 + 1)) dL_law_574 575 rfl (nI_add _ _) ?_
  refine tg_sld C hXs hbl hbA (vp_in_nI (by omega) (by omega)) dL_law_575 576 rfl ?_
  rw [nI_clamp (show j0 + 1 < 2 ^ 31 by omega)]
  refine tg_aload_n C dL_law_576 577 rfl rfl 4 rfl ?_
  refine tg_iload C dL_law_577 579 rfl 0 rfl ?_
  refine tg_iconst C (nI 2) dL_law_579 580 rfl (by decide) ?_
  refine tg_iadd C (nI (j0 + 2)) dL_law_580 581 rfl (nI_add _ _) ?_
  refine tg_sld C hXs hbl hbA (vp_in_nI (by omega) (by omega)) dL_law_581 582 rfl ?_
  rw [nI_clamp (show j0 + 2 < 2 ^ 31 by omega)]
  refine tg_aload_n C dL_law_582 583 rfl rfl 1 rfl ?_
  refine xg_callSW C hE (c_L_count l D cy ad hDis σ (x := xs (j0 + 1)) (y := xs (j0 + 2)) (c_X4_count l hl0 D cy ad hDis σ h.2.1 (ct := cntN wh wd kp tx) (mt := totN wh wd tx) h.2.2.2.1) (fun E τ h9 => h9.1)) (vx_cwSW 4 C.2.2.2.2.1 gL_law_L_count rfl rfl rfl (by decide +kernel) ⟨(Nat.le_of_ble_eq_true rfl), (Nat.le_of_ble_eq_true rfl)⟩) rfl rfl (Nat.le_of_ble_eq_true rfl) ⟨by omega, by omega⟩ dL_law_583 586 rfl (fun r τ hH => ?_)
  have hM : MM τ n w tc mg pr tx nx nm wh wd kp := h.mm (fun j hj hj2 => by
      rcases hH with ⟨r1, τ1, hp, -, rfl⟩ | ⟨E, hp, -⟩
      · obtain rfl := hp.2
        rw [su_ni _ _ _ (by omega)]
      · rw [← hp.2.2])
  refine tg_istore C dL_law_586 588 rfl _ (by decide) rfl ?_
  refine tg_aload_n C dL_law_588 589 rfl rfl 3 rfl ?_
  refine tg_aload_n C dL_law_589 590 rfl rfl 5 rfl ?_
  refine tg_iload C dL_law_590 592 rfl 1 rfl ?_
  refine tg_iconst C (nI 1) dL_law_592 593 rfl (by decide) ?_
  refine tg_iadd C (nI (j0 + 1)) dL_law_593 594 rfl (nI_add _ _) ?_
  refine tg_sld C hXs hbl hbA (vp_in_nI (by omega) (by omega)) dL_law_594 595 rfl ?_
  rw [nI_clamp (show j0 + 1 < 2 ^ 31 by omega)]
  refine tg_aload_n C dL_law_595 596 rfl rfl 5 rfl ?_
  refine tg_iload C dL_law_596 598 rfl 1 rfl ?_
  refine tg_iconst C (nI 2) dL_law_598 599 rfl (by decide) ?_
  refine tg_iadd C (nI (j0 + 2)) dL_law_599 600 rfl (nI_add _ _) ?_
  refine tg_sld C hXs hbl hbA (vp_in_nI (by omega) (by omega)) dL_law_600 601 rfl ?_
  rw [nI_clamp (show j0 + 2 < 2 ^ 31 by omega)]
  refine tg_callVi C 89 (by decide) (e_89 ad cy _) rfl (c_X5_count l D cy ad hDis τ hM (x := xs (j0 + 1)) (y := xs (j0 + 2))) (cwV 2 C.2.2.2.2.1 gL_law_X5_count rfl rfl rfl (by decide +kernel) ⟨(Nat.le_of_ble_eq_true rfl), (Nat.le_of_ble_eq_true rfl)⟩) rfl rfl (Nat.le_of_ble_eq_true rfl) ⟨by omega, by omega⟩ dL_law_601 604 rfl (fun r5 τ5 hG => ?_)
  refine tg_istore C dL_law_604 606 rfl _ (by decide) rfl ?_
  refine law_tail C ⟨by omega, by omega⟩ (J2 h (fun t k => nI (cntN wh wd kp tx t k)) hH hG) 606 dL_law_606 dL_law_607 dL_law_610 dL_law_612 dL_law_617 dL_law_619 dL_law_622 dL_law_623 dL_law_624 dL_law_625 dL_law_627 dL_law_628 dL_law_629 ?_
  refine tg_goto C 1267 dL_law_634 (by decide) ?_
  exact tg_widen (by omega) (by omega) (kk _ (J2 h (fun t k => nI (cntN wh wd kp tx t k)) hH hG).2.2)
set_option maxHeartbeats 1000000 in
set_option maxRecDepth 20000 in
theorem law_cost (C : Cx p s m args c cL_law 7 RL wsL_law D cy ad A) (hE : Ev A s s.heap) (hl0 : l.stackTraces = false) (hXs : va_X b L xs s s.heap) (hbl : b < s.heap.size) (hbA : ¬ A b) (hj : j0 + 3 ≤ L) (hL : L ≤ 1536) (hR : Rel σ cn) (hcn : cn < 10000) (hcl : cells + 2 ≤ room_1.cells ∧ slots + 12 ≤ room_1.slots) (kk : ∀ σ2, Rel σ2 (cn + 1) → TT p l e room_1 s m args below meth c D cy ad A 7 (cells + 2) (slots + 12) Q σ2 1267 (lvL ad b (nI j0)) []) : TT p l e room_1 s m args below meth c D cy ad A 7 cells slots Q σ 637 (lvL ad b (nI j0)) [] := by
  obtain ⟨n, w, tc, mg, pr, tx, nx, nm, wh, wd, kp, loc, h⟩ := hR
  have hDis := C.2.2.2.2.2.2.1
  refine tg_aload_n C dL_law_637 638 rfl rfl 3 rfl ?_
  refine tg_aload_n C dL_law_638 639 rfl rfl 4 rfl ?_
  refine tg_iload C dL_law_639 641 rfl 0 rfl ?_
  refine tg_iconst C (nI 1) dL_law_641 642 rfl (by decide) ?_
  refine tg_iadd C (nI (j0 + 1)) dL_law_642 643 rfl (nI_add _ _) ?_
  refine tg_sld C hXs hbl hbA (vp_in_nI (by omega) (by omega)) dL_law_643 644 rfl ?_
  rw [nI_clamp (show j0 + 1 < 2 ^ 31 by omega)]
  refine tg_aload_n C dL_law_644 645 rfl rfl 4 rfl ?_
  refine tg_iload C dL_law_645 647 rfl 0 rfl ?_
  refine tg_iconst C (nI 2) dL_law_647 648 rfl (by decide) ?_
  refine tg_iadd C (nI (j0 + 2)) dL_law_648 649 rfl (nI_add _ _) ?_
  refine tg_sld C hXs hbl hbA (vp_in_nI (by omega) (by omega)) dL_law_649 650 rfl ?_
  rw [nI_clamp (show j0 + 2 < 2 ^ 31 by omega)]
  refine tg_aload_n C dL_law_650 651 rfl rfl 1 rfl ?_
  refine xg_callSW C hE (c_L_cost l D cy ad hDis σ (x := xs (j0 + 1)) (y := xs (j0 + 2)) (c_X4_cost l hl0 D cy ad hDis σ h.2.1 (ct := cntN wh wd kp tx) (mt := totN wh wd tx) h.2.2.2.1) (fun E τ h9 => h9.1)) (vx_cwSW 4 C.2.2.2.2.1 gL_law_L_cost rfl rfl rfl (by decide +kernel) ⟨(Nat.le_of_ble_eq_true rfl), (Nat.le_of_ble_eq_true rfl)⟩) rfl rfl (Nat.le_of_ble_eq_true rfl) ⟨by omega, by omega⟩ dL_law_651 654 rfl (fun r τ hH => ?_)
  have hM : MM τ n w tc mg pr tx nx nm wh wd kp := h.mm (fun j hj hj2 => by
      rcases hH with ⟨r1, τ1, hp, -, rfl⟩ | ⟨E, hp, -⟩
      · obtain rfl := hp.2
        rw [su_ni _ _ _ (by omega)]
      · rw [← hp.2.2])
  refine tg_istore C dL_law_654 656 rfl _ (by decide) rfl ?_
  refine tg_aload_n C dL_law_656 657 rfl rfl 3 rfl ?_
  refine tg_aload_n C dL_law_657 658 rfl rfl 5 rfl ?_
  refine tg_iload C dL_law_658 660 rfl 1 rfl ?_
  refine tg_iconst C (nI 1) dL_law_660 661 rfl (by decide) ?_
  refine tg_iadd C (nI (j0 + 1)) dL_law_661 662 rfl (nI_add _ _) ?_
  refine tg_sld C hXs hbl hbA (vp_in_nI (by omega) (by omega)) dL_law_662 663 rfl ?_
  rw [nI_clamp (show j0 + 1 < 2 ^ 31 by omega)]
  refine tg_aload_n C dL_law_663 664 rfl rfl 5 rfl ?_
  refine tg_iload C dL_law_664 666 rfl 1 rfl ?_
  refine tg_iconst C (nI 2) dL_law_666 667 rfl (by decide) ?_
  refine tg_iadd C (nI (j0 + 2)) dL_law_667 668 rfl (nI_add _ _) ?_
  refine tg_sld C hXs hbl hbA (vp_in_nI (by omega) (by omega)) dL_law_668 669 rfl ?_
  rw [nI_clamp (show j0 + 2 < 2 ^ 31 by omega)]
  refine tg_callVi C 89 (by decide) (e_89 ad cy _) rfl (c_X5_cost l D cy ad hDis τ hM (x := xs (j0 + 1)) (y := xs (j0 + 2))) (cwV 2 C.2.2.2.2.1 gL_law_X5_cost rfl rfl rfl (by decide +kernel) ⟨(Nat.le_of_ble_eq_true rfl), (Nat.le_of_ble_eq_true rfl)⟩) rfl rfl (Nat.le_of_ble_eq_true rfl) ⟨by omega, by omega⟩ dL_law_669 672 rfl (fun r5 τ5 hG => ?_)
  refine tg_istore C dL_law_672 674 rfl _ (by decide) rfl ?_
  refine law_tail C ⟨by omega, by omega⟩ (J2 h (fun t k => nI (costN (cntN wh wd kp tx t k) (totN wh wd tx t))) hH hG) 674 dL_law_674 dL_law_675 dL_law_678 dL_law_680 dL_law_685 dL_law_687 dL_law_690 dL_law_691 dL_law_692 dL_law_693 dL_law_695 dL_law_696 dL_law_697 ?_
  refine tg_goto C 1267 dL_law_702 (by decide) ?_
  exact tg_widen (by omega) (by omega) (kk _ (J2 h (fun t k => nI (costN (cntN wh wd kp tx t k) (totN wh wd tx t))) hH hG).2.2)
set_option maxHeartbeats 1000000 in
set_option maxRecDepth 20000 in
theorem law_rank (C : Cx p s m args c cL_law 7 RL wsL_law D cy ad A) (hE : Ev A s s.heap) (hl0 : l.stackTraces = false) (hXs : va_X b L xs s s.heap) (hbl : b < s.heap.size) (hbA : ¬ A b) (hj : j0 + 3 ≤ L) (hL : L ≤ 1536) (hR : Rel σ cn) (hcn : cn < 10000) (hcl : cells + 2 ≤ room_1.cells ∧ slots + 12 ≤ room_1.slots) (kk : ∀ σ2, Rel σ2 (cn + 1) → TT p l e room_1 s m args below meth c D cy ad A 7 (cells + 2) (slots + 12) Q σ2 1267 (lvL ad b (nI j0)) []) : TT p l e room_1 s m args below meth c D cy ad A 7 cells slots Q σ 705 (lvL ad b (nI j0)) [] := by
  obtain ⟨n, w, tc, mg, pr, tx, nx, nm, wh, wd, kp, loc, h⟩ := hR
  have hDis := C.2.2.2.2.2.2.1
  refine tg_aload_n C dL_law_705 706 rfl rfl 3 rfl ?_
  refine tg_aload_n C dL_law_706 707 rfl rfl 4 rfl ?_
  refine tg_iload C dL_law_707 709 rfl 0 rfl ?_
  refine tg_iconst C (nI 1) dL_law_709 710 rfl (by decide) ?_
  refine tg_iadd C (nI (j0 + 1)) dL_law_710 711 rfl (nI_add _ _) ?_
  refine tg_sld C hXs hbl hbA (vp_in_nI (by omega) (by omega)) dL_law_711 712 rfl ?_
  rw [nI_clamp (show j0 + 1 < 2 ^ 31 by omega)]
  refine tg_aload_n C dL_law_712 713 rfl rfl 4 rfl ?_
  refine tg_iload C dL_law_713 715 rfl 0 rfl ?_
  refine tg_iconst C (nI 2) dL_law_715 716 rfl (by decide) ?_
  refine tg_iadd C (nI (j0 + 2)) dL_law_716 717 rfl (nI_add _ _) ?_
  refine tg_sld C hXs hbl hbA (vp_in_nI (by omega) (by omega)) dL_law_717 718 rfl ?_
  rw [nI_clamp (show j0 + 2 < 2 ^ 31 by omega)]
  refine tg_aload_n C dL_law_718 719 rfl rfl 1 rfl ?_
  refine xg_callSW C hE (c_L_rank l D cy ad hDis σ (x := xs (j0 + 1)) (y := xs (j0 + 2)) (c_X4_rank l hl0 D cy ad hDis σ h.2.1 (ct := cntN wh wd kp tx) (mt := totN wh wd tx) h.2.2.2.1) (fun E τ h9 => h9.1)) (vx_cwSW 4 C.2.2.2.2.1 gL_law_L_rank rfl rfl rfl (by decide +kernel) ⟨(Nat.le_of_ble_eq_true rfl), (Nat.le_of_ble_eq_true rfl)⟩) rfl rfl (Nat.le_of_ble_eq_true rfl) ⟨by omega, by omega⟩ dL_law_719 722 rfl (fun r τ hH => ?_)
  have hM : MM τ n w tc mg pr tx nx nm wh wd kp := h.mm (fun j hj hj2 => by
      rcases hH with ⟨r1, τ1, hp, -, rfl⟩ | ⟨E, hp, -⟩
      · obtain rfl := hp.2
        rw [su_ni _ _ _ (by omega)]
      · rw [← hp.2.2])
  refine tg_istore C dL_law_722 724 rfl _ (by decide) rfl ?_
  refine tg_aload_n C dL_law_724 725 rfl rfl 3 rfl ?_
  refine tg_aload_n C dL_law_725 726 rfl rfl 5 rfl ?_
  refine tg_iload C dL_law_726 728 rfl 1 rfl ?_
  refine tg_iconst C (nI 1) dL_law_728 729 rfl (by decide) ?_
  refine tg_iadd C (nI (j0 + 1)) dL_law_729 730 rfl (nI_add _ _) ?_
  refine tg_sld C hXs hbl hbA (vp_in_nI (by omega) (by omega)) dL_law_730 731 rfl ?_
  rw [nI_clamp (show j0 + 1 < 2 ^ 31 by omega)]
  refine tg_aload_n C dL_law_731 732 rfl rfl 5 rfl ?_
  refine tg_iload C dL_law_732 734 rfl 1 rfl ?_
  refine tg_iconst C (nI 2) dL_law_734 735 rfl (by decide) ?_
  refine tg_iadd C (nI (j0 + 2)) dL_law_735 736 rfl (nI_add _ _) ?_
  refine tg_sld C hXs hbl hbA (vp_in_nI (by omega) (by omega)) dL_law_736 737 rfl ?_
  rw [nI_clamp (show j0 + 2 < 2 ^ 31 by omega)]
  refine tg_callVi C 89 (by decide) (e_89 ad cy _) rfl (c_X5_rank l D cy ad hDis τ hM (x := xs (j0 + 1)) (y := xs (j0 + 2))) (cwV 2 C.2.2.2.2.1 gL_law_X5_rank rfl rfl rfl (by decide +kernel) ⟨(Nat.le_of_ble_eq_true rfl), (Nat.le_of_ble_eq_true rfl)⟩) rfl rfl (Nat.le_of_ble_eq_true rfl) ⟨by omega, by omega⟩ dL_law_737 740 rfl (fun r5 τ5 hG => ?_)
  refine tg_istore C dL_law_740 742 rfl _ (by decide) rfl ?_
  refine law_tail C ⟨by omega, by omega⟩ (J2 h (fun t k => rkI (cntN wh wd kp tx t) k) hH hG) 742 dL_law_742 dL_law_743 dL_law_746 dL_law_748 dL_law_753 dL_law_755 dL_law_758 dL_law_759 dL_law_760 dL_law_761 dL_law_763 dL_law_764 dL_law_765 ?_
  refine tg_goto C 1267 dL_law_770 (by decide) ?_
  exact tg_widen (by omega) (by omega) (kk _ (J2 h (fun t k => rkI (cntN wh wd kp tx t) k) hH hG).2.2)
set_option maxHeartbeats 1000000 in
set_option maxRecDepth 20000 in
theorem law_textCost (C : Cx p s m args c cL_law 7 RL wsL_law D cy ad A) (hE : Ev A s s.heap) (hl0 : l.stackTraces = false) (hXs : va_X b L xs s s.heap) (hbl : b < s.heap.size) (hbA : ¬ A b) (hj : j0 + 3 ≤ L) (hL : L ≤ 1536) (hR : Rel σ cn) (hcn : cn < 10000) (hcl : cells + 2 ≤ room_1.cells ∧ slots + 12 ≤ room_1.slots) (kk : ∀ σ2, Rel σ2 (cn + 1) → TT p l e room_1 s m args below meth c D cy ad A 7 (cells + 2) (slots + 12) Q σ2 1267 (lvL ad b (nI j0)) []) : TT p l e room_1 s m args below meth c D cy ad A 7 cells slots Q σ 773 (lvL ad b (nI j0)) [] := by
  obtain ⟨n, w, tc, mg, pr, tx, nx, nm, wh, wd, kp, loc, h⟩ := hR
  have hDis := C.2.2.2.2.2.2.1
  refine tg_aload_n C dL_law_773 774 rfl rfl 3 rfl ?_
  refine tg_aload_n C dL_law_774 775 rfl rfl 4 rfl ?_
  refine tg_iload C dL_law_775 777 rfl 0 rfl ?_
  refine tg_iconst C (nI 1) dL_law_777 778 rfl (by decide) ?_
  refine tg_iadd C (nI (j0 + 1)) dL_law_778 779 rfl (nI_add _ _) ?_
  refine tg_sld C hXs hbl hbA (vp_in_nI (by omega) (by omega)) dL_law_779 780 rfl ?_
  rw [nI_clamp (show j0 + 1 < 2 ^ 31 by omega)]
  refine tg_aload_n C dL_law_780 781 rfl rfl 1 rfl ?_
  refine xg_callSW C hE (c_L_textCost l D cy ad hDis σ (x := xs (j0 + 1)) (c_X4_textCost l hl0 D cy ad hDis σ h.2.1 h.1 (ct := cntN wh wd kp tx) (mt := totN wh wd tx) h.2.2.2.1) (fun E τ h9 => h9.1)) (vx_cwSW 3 C.2.2.2.2.1 gL_law_L_textCost rfl rfl rfl (by decide +kernel) ⟨(Nat.le_of_ble_eq_true rfl), (Nat.le_of_ble_eq_true rfl)⟩) rfl rfl (Nat.le_of_ble_eq_true rfl) ⟨by omega, by omega⟩ dL_law_781 784 rfl (fun r τ hH => ?_)
  have hM : MM τ n w tc mg pr tx nx nm wh wd kp := h.mm (fun j hj hj2 => by
      rcases hH with ⟨r1, τ1, hp, -, rfl⟩ | ⟨E, hp, -⟩
      · obtain rfl := hp.2
        rw [su_ni _ _ _ (by omega)]
      · rw [← hp.2.2])
  refine tg_istore C dL_law_784 786 rfl _ (by decide) rfl ?_
  refine tg_aload_n C dL_law_786 787 rfl rfl 3 rfl ?_
  refine tg_aload_n C dL_law_787 788 rfl rfl 5 rfl ?_
  refine tg_iload C dL_law_788 790 rfl 1 rfl ?_
  refine tg_iconst C (nI 1) dL_law_790 791 rfl (by decide) ?_
  refine tg_iadd C (nI (j0 + 1)) dL_law_791 792 rfl (nI_add _ _) ?_
  refine tg_sld C hXs hbl hbA (vp_in_nI (by omega) (by omega)) dL_law_792 793 rfl ?_
  rw [nI_clamp (show j0 + 1 < 2 ^ 31 by omega)]
  refine tg_callVi C 89 (by decide) (e_89 ad cy _) rfl (c_X5_textCost l D cy ad hDis τ hM (x := xs (j0 + 1))) (cwV 1 C.2.2.2.2.1 gL_law_X5_textCost rfl rfl rfl (by decide +kernel) ⟨(Nat.le_of_ble_eq_true rfl), (Nat.le_of_ble_eq_true rfl)⟩) rfl rfl (Nat.le_of_ble_eq_true rfl) ⟨by omega, by omega⟩ dL_law_793 796 rfl (fun r5 τ5 hG => ?_)
  refine tg_istore C dL_law_796 798 rfl _ (by decide) rfl ?_
  refine law_tail C ⟨by omega, by omega⟩ (J1 h (by have := h.2.1.2.2.2.1; omega) (fun t => nI (ctxN n w (cntN wh wd kp tx t) (totN wh wd tx t))) (fun τ1 => σ = τ1) (fun _ e => Agr.rf e) hH hG) 798 dL_law_798 dL_law_799 dL_law_802 dL_law_804 dL_law_809 dL_law_811 dL_law_814 dL_law_815 dL_law_816 dL_law_817 dL_law_819 dL_law_820 dL_law_821 ?_
  refine tg_goto C 1267 dL_law_826 (by decide) ?_
  exact tg_widen (by omega) (by omega) (kk _ (J1 h (by have := h.2.1.2.2.2.1; omega) (fun t => nI (ctxN n w (cntN wh wd kp tx t) (totN wh wd tx t))) (fun τ1 => σ = τ1) (fun _ e => Agr.rf e) hH hG).2.2)
set_option maxHeartbeats 1000000 in
set_option maxRecDepth 20000 in
theorem law_distance (C : Cx p s m args c cL_law 7 RL wsL_law D cy ad A) (hE : Ev A s s.heap) (hl0 : l.stackTraces = false) (hXs : va_X b L xs s s.heap) (hbl : b < s.heap.size) (hbA : ¬ A b) (hj : j0 + 3 ≤ L) (hL : L ≤ 1536) (hR : Rel σ cn) (hcn : cn < 10000) (hcl : cells + 2 ≤ room_1.cells ∧ slots + 12 ≤ room_1.slots) (kk : ∀ σ2, Rel σ2 (cn + 1) → TT p l e room_1 s m args below meth c D cy ad A 7 (cells + 2) (slots + 12) Q σ2 1267 (lvL ad b (nI j0)) []) : TT p l e room_1 s m args below meth c D cy ad A 7 cells slots Q σ 829 (lvL ad b (nI j0)) [] := by
  obtain ⟨n, w, tc, mg, pr, tx, nx, nm, wh, wd, kp, loc, h⟩ := hR
  have hDis := C.2.2.2.2.2.2.1
  refine tg_aload_n C dL_law_829 830 rfl rfl 3 rfl ?_
  refine tg_aload_n C dL_law_830 831 rfl rfl 4 rfl ?_
  refine tg_iload C dL_law_831 833 rfl 0 rfl ?_
  refine tg_iconst C (nI 1) dL_law_833 834 rfl (by decide) ?_
  refine tg_iadd C (nI (j0 + 1)) dL_law_834 835 rfl (nI_add _ _) ?_
  refine tg_sld C hXs hbl hbA (vp_in_nI (by omega) (by omega)) dL_law_835 836 rfl ?_
  rw [nI_clamp (show j0 + 1 < 2 ^ 31 by omega)]
  refine tg_aload_n C dL_law_836 837 rfl rfl 1 rfl ?_
  refine xg_callSW C hE (c_L_distance l D cy ad hDis σ (x := xs (j0 + 1)) (c_X4_distance l hl0 D cy ad hDis σ h.2.1 h.1 (ct := cntN wh wd kp tx) (mt := totN wh wd tx) h.2.2.2.1) (fun E τ h9 => h9.1)) (vx_cwSW 3 C.2.2.2.2.1 gL_law_L_distance rfl rfl rfl (by decide +kernel) ⟨(Nat.le_of_ble_eq_true rfl), (Nat.le_of_ble_eq_true rfl)⟩) rfl rfl (Nat.le_of_ble_eq_true rfl) ⟨by omega, by omega⟩ dL_law_837 840 rfl (fun r τ hH => ?_)
  have hM : MM τ n w tc mg pr tx nx nm wh wd kp := h.mm (fun j hj hj2 => by
      rcases hH with ⟨r1, τ1, hp, -, rfl⟩ | ⟨E, hp, -⟩
      · rw [su_ni _ _ _ (by omega)]; exact hp.2 j (by omega) (by omega)
      · rw [← hp.2.2])
  refine tg_istore C dL_law_840 842 rfl _ (by decide) rfl ?_
  refine tg_aload_n C dL_law_842 843 rfl rfl 3 rfl ?_
  refine tg_aload_n C dL_law_843 844 rfl rfl 5 rfl ?_
  refine tg_iload C dL_law_844 846 rfl 1 rfl ?_
  refine tg_iconst C (nI 1) dL_law_846 847 rfl (by decide) ?_
  refine tg_iadd C (nI (j0 + 1)) dL_law_847 848 rfl (nI_add _ _) ?_
  refine tg_sld C hXs hbl hbA (vp_in_nI (by omega) (by omega)) dL_law_848 849 rfl ?_
  rw [nI_clamp (show j0 + 1 < 2 ^ 31 by omega)]
  refine tg_callVi C 89 (by decide) (e_89 ad cy _) rfl (c_X5_distance l D cy ad hDis τ hM (x := xs (j0 + 1))) (cwV 1 C.2.2.2.2.1 gL_law_X5_distance rfl rfl rfl (by decide +kernel) ⟨(Nat.le_of_ble_eq_true rfl), (Nat.le_of_ble_eq_true rfl)⟩) rfl rfl (Nat.le_of_ble_eq_true rfl) ⟨by omega, by omega⟩ dL_law_849 852 rfl (fun r5 τ5 hG => ?_)
  refine tg_istore C dL_law_852 854 rfl _ (by decide) rfl ?_
  refine law_tail C ⟨by omega, by omega⟩ (J1 h (by have := h.2.1.2.2.2.1; omega) (fun t => nI (dstN (ownN n w (rc n)) (cntN wh wd kp tx t))) (fun τ1 => ∀ j, j ≠ 3 → j ≠ 4 → τ1 j = σ j) (fun _ e j hj => e j (by omega) (by omega)) hH hG) 854 dL_law_854 dL_law_855 dL_law_858 dL_law_860 dL_law_865 dL_law_867 dL_law_870 dL_law_871 dL_law_872 dL_law_873 dL_law_875 dL_law_876 dL_law_877 ?_
  refine tg_goto C 1267 dL_law_882 (by decide) ?_
  exact tg_widen (by omega) (by omega) (kk _ (J1 h (by have := h.2.1.2.2.2.1; omega) (fun t => nI (dstN (ownN n w (rc n)) (cntN wh wd kp tx t))) (fun τ1 => ∀ j, j ≠ 3 → j ≠ 4 → τ1 j = σ j) (fun _ e j hj => e j (by omega) (by omega)) hH hG).2.2)
set_option maxHeartbeats 1000000 in
set_option maxRecDepth 20000 in
theorem law_setMargin (C : Cx p s m args c cL_law 7 RL wsL_law D cy ad A) (hE : Ev A s s.heap) (hl0 : l.stackTraces = false) (hXs : va_X b L xs s s.heap) (hbl : b < s.heap.size) (hbA : ¬ A b) (hj : j0 + 3 ≤ L) (hL : L ≤ 1536) (hR : Rel σ cn) (hcn : cn < 10000) (hcl : cells + 2 ≤ room_1.cells ∧ slots + 12 ≤ room_1.slots) (kk : ∀ σ2, Rel σ2 (cn + 1) → TT p l e room_1 s m args below meth c D cy ad A 7 (cells + 2) (slots + 12) Q σ2 1267 (lvL ad b (nI j0)) []) : TT p l e room_1 s m args below meth c D cy ad A 7 cells slots Q σ 885 (lvL ad b (nI j0)) [] := by
  obtain ⟨n, w, tc, mg, pr, tx, nx, nm, wh, wd, kp, loc, h⟩ := hR
  have hDis := C.2.2.2.2.2.2.1
  refine tg_aload_n C dL_law_885 886 rfl rfl 3 rfl ?_
  refine tg_aload_n C dL_law_886 887 rfl rfl 4 rfl ?_
  refine tg_iload C dL_law_887 889 rfl 0 rfl ?_
  refine tg_iconst C (nI 1) dL_law_889 890 rfl (by decide) ?_
  refine tg_iadd C (nI (j0 + 1)) dL_law_890 891 rfl (nI_add _ _) ?_
  refine tg_sld C hXs hbl hbA (vp_in_nI (by omega) (by omega)) dL_law_891 892 rfl ?_
  rw [nI_clamp (show j0 + 1 < 2 ^ 31 by omega)]
  refine tg_aload_n C dL_law_892 893 rfl rfl 1 rfl ?_
  refine xg_callSW C hE (c_L_setMargin l D cy ad hDis σ (x := xs (j0 + 1)) (c_X4_setMargin l hl0 D cy ad hDis σ h.2.1) (fun E τ h9 => h9.1)) (vx_cwSW 3 C.2.2.2.2.1 gL_law_L_setMargin rfl rfl rfl (by decide +kernel) ⟨(Nat.le_of_ble_eq_true rfl), (Nat.le_of_ble_eq_true rfl)⟩) rfl rfl (Nat.le_of_ble_eq_true rfl) ⟨by omega, by omega⟩ dL_law_893 896 rfl (fun r τ hH => ?_)
  have hM : MM τ n w tc mg pr tx nx nm wh wd kp := h.mm (fun j hj hj2 => by
      rcases hH with ⟨r1, τ1, hp, -, rfl⟩ | ⟨E, hp, -⟩
      · obtain rfl := hp.2.2
        rw [su_ni _ _ _ (by omega), su_ni _ _ _ (by omega)]
      · rw [← hp.2.2])
  refine tg_istore C dL_law_896 898 rfl _ (by decide) rfl ?_
  refine tg_aload_n C dL_law_898 899 rfl rfl 3 rfl ?_
  refine tg_aload_n C dL_law_899 900 rfl rfl 5 rfl ?_
  refine tg_iload C dL_law_900 902 rfl 1 rfl ?_
  refine tg_iconst C (nI 1) dL_law_902 903 rfl (by decide) ?_
  refine tg_iadd C (nI (j0 + 1)) dL_law_903 904 rfl (nI_add _ _) ?_
  refine tg_sld C hXs hbl hbA (vp_in_nI (by omega) (by omega)) dL_law_904 905 rfl ?_
  rw [nI_clamp (show j0 + 1 < 2 ^ 31 by omega)]
  refine tg_callVi C 89 (by decide) (e_89 ad cy _) rfl (c_X5_setMargin l D cy ad hDis τ hM (x := xs (j0 + 1))) (cwV 1 C.2.2.2.2.1 gL_law_X5_setMargin rfl rfl rfl (by decide +kernel) ⟨(Nat.le_of_ble_eq_true rfl), (Nat.le_of_ble_eq_true rfl)⟩) rfl rfl (Nat.le_of_ble_eq_true rfl) ⟨by omega, by omega⟩ dL_law_905 908 rfl (fun r5 τ5 hG => ?_)
  refine tg_istore C dL_law_908 910 rfl _ (by decide) rfl ?_
  refine law_tail C ⟨by omega, by omega⟩ (J_setMargin h hH hG) 910 dL_law_910 dL_law_911 dL_law_914 dL_law_916 dL_law_921 dL_law_923 dL_law_926 dL_law_927 dL_law_928 dL_law_929 dL_law_931 dL_law_932 dL_law_933 ?_
  refine tg_goto C 1267 dL_law_938 (by decide) ?_
  exact tg_widen (by omega) (by omega) (kk _ (J_setMargin h hH hG).2.2)
set_option maxHeartbeats 1000000 in
set_option maxRecDepth 20000 in
theorem law_tell (C : Cx p s m args c cL_law 7 RL wsL_law D cy ad A) (hE : Ev A s s.heap) (hl0 : l.stackTraces = false) (hXs : va_X b L xs s s.heap) (hbl : b < s.heap.size) (hbA : ¬ A b) (hj : j0 + 3 ≤ L) (hL : L ≤ 1536) (hR : Rel σ cn) (hcn : cn < 10000) (hcl : cells + 2 ≤ room_1.cells ∧ slots + 12 ≤ room_1.slots) (kk : ∀ σ2, Rel σ2 (cn + 1) → TT p l e room_1 s m args below meth c D cy ad A 7 (cells + 2) (slots + 12) Q σ2 1267 (lvL ad b (nI j0)) []) : TT p l e room_1 s m args below meth c D cy ad A 7 cells slots Q σ 941 (lvL ad b (nI j0)) [] := by
  obtain ⟨n, w, tc, mg, pr, tx, nx, nm, wh, wd, kp, loc, h⟩ := hR
  have hDis := C.2.2.2.2.2.2.1
  refine tg_aload_n C dL_law_941 942 rfl rfl 3 rfl ?_
  refine tg_callVi C 0 (by decide) (e_0 ad cy _) rfl (c_X4_tell l D cy ad hDis σ h.2.1 h.1 (ct := cntN wh wd kp tx) (mt := totN wh wd tx) h.2.2.2.1) (cwV 0 C.2.2.2.2.1 gL_law_X4_tell rfl rfl rfl (by decide +kernel) ⟨(Nat.le_of_ble_eq_true rfl), (Nat.le_of_ble_eq_true rfl)⟩) rfl rfl (Nat.le_of_ble_eq_true rfl) ⟨by omega, by omega⟩ dL_law_942 945 rfl (fun r1 τ hH => ?_)
  have hM := h.mm (τ := τ) (fun j hj _ => by rw [← hH.2])
  refine tg_aload_n C dL_law_945 946 rfl rfl 2 rfl ?_
  refine tg_callVi C 89 (by decide) (e_89 ad cy _) rfl (c_X5_tell l D cy ad hDis τ hM) (cwV 0 C.2.2.2.2.1 gL_law_X5_tell rfl rfl rfl (by decide +kernel) ⟨(Nat.le_of_ble_eq_true rfl), (Nat.le_of_ble_eq_true rfl)⟩) rfl rfl (Nat.le_of_ble_eq_true rfl) ⟨by omega, by omega⟩ dL_law_946 949 rfl (fun r5 τ5 hG => ?_)
  have hJ := J_dir h hH.1 (Agr.rf hH.2) hG
  exact tg_icmp_eq C 1267 dL_law_949 (by decide) 952 rfl (fun _ => tg_widen (by omega) (by omega) (kk _ hJ.2)) (fun h9 => absurd hJ.1 h9)
set_option maxHeartbeats 1000000 in
set_option maxRecDepth 20000 in
theorem law_tellByRanks (C : Cx p s m args c cL_law 7 RL wsL_law D cy ad A) (hE : Ev A s s.heap) (hl0 : l.stackTraces = false) (hXs : va_X b L xs s s.heap) (hbl : b < s.heap.size) (hbA : ¬ A b) (hj : j0 + 3 ≤ L) (hL : L ≤ 1536) (hR : Rel σ cn) (hcn : cn < 10000) (hcl : cells + 2 ≤ room_1.cells ∧ slots + 12 ≤ room_1.slots) (kk : ∀ σ2, Rel σ2 (cn + 1) → TT p l e room_1 s m args below meth c D cy ad A 7 (cells + 2) (slots + 12) Q σ2 1267 (lvL ad b (nI j0)) []) : TT p l e room_1 s m args below meth c D cy ad A 7 cells slots Q σ 954 (lvL ad b (nI j0)) [] := by
  obtain ⟨n, w, tc, mg, pr, tx, nx, nm, wh, wd, kp, loc, h⟩ := hR
  have hDis := C.2.2.2.2.2.2.1
  refine tg_aload_n C dL_law_954 955 rfl rfl 3 rfl ?_
  refine tg_callVi C 0 (by decide) (e_0 ad cy _) rfl (c_X4_tellByRanks l D cy ad hDis σ h.2.1 h.1 (ct := cntN wh wd kp tx) (mt := totN wh wd tx) h.2.2.2.1) (cwV 0 C.2.2.2.2.1 gL_law_X4_tellByRanks rfl rfl rfl (by decide +kernel) ⟨(Nat.le_of_ble_eq_true rfl), (Nat.le_of_ble_eq_true rfl)⟩) rfl rfl (Nat.le_of_ble_eq_true rfl) ⟨by omega, by omega⟩ dL_law_955 958 rfl (fun r1 τ hH => ?_)
  have hM := h.mm (τ := τ) (fun j hj _ => hH.2 j (by omega) (by omega))
  refine tg_aload_n C dL_law_958 959 rfl rfl 2 rfl ?_
  refine tg_callVi C 89 (by decide) (e_89 ad cy _) rfl (c_X5_tellByRanks l D cy ad hDis τ hM) (cwV 0 C.2.2.2.2.1 gL_law_X5_tellByRanks rfl rfl rfl (by decide +kernel) ⟨(Nat.le_of_ble_eq_true rfl), (Nat.le_of_ble_eq_true rfl)⟩) rfl rfl (Nat.le_of_ble_eq_true rfl) ⟨by omega, by omega⟩ dL_law_959 962 rfl (fun r5 τ5 hG => ?_)
  have hJ := J_dir h hH.1 (fun j hj => hH.2 j (by omega) (by omega)) hG
  exact tg_icmp_eq C 1267 dL_law_962 (by decide) 965 rfl (fun _ => tg_widen (by omega) (by omega) (kk _ hJ.2)) (fun h9 => absurd hJ.1 h9)
set_option maxHeartbeats 1000000 in
set_option maxRecDepth 20000 in
theorem law_setPrice (C : Cx p s m args c cL_law 7 RL wsL_law D cy ad A) (hE : Ev A s s.heap) (hl0 : l.stackTraces = false) (hXs : va_X b L xs s s.heap) (hbl : b < s.heap.size) (hbA : ¬ A b) (hj : j0 + 3 ≤ L) (hL : L ≤ 1536) (hR : Rel σ cn) (hcn : cn < 10000) (hcl : cells + 2 ≤ room_1.cells ∧ slots + 12 ≤ room_1.slots) (kk : ∀ σ2, Rel σ2 (cn + 1) → TT p l e room_1 s m args below meth c D cy ad A 7 (cells + 2) (slots + 12) Q σ2 1267 (lvL ad b (nI j0)) []) : TT p l e room_1 s m args below meth c D cy ad A 7 cells slots Q σ 967 (lvL ad b (nI j0)) [] := by
  obtain ⟨n, w, tc, mg, pr, tx, nx, nm, wh, wd, kp, loc, h⟩ := hR
  have hDis := C.2.2.2.2.2.2.1
  refine tg_aload_n C dL_law_967 968 rfl rfl 3 rfl ?_
  refine tg_aload_n C dL_law_968 969 rfl rfl 4 rfl ?_
  refine tg_iload C dL_law_969 971 rfl 0 rfl ?_
  refine tg_iconst C (nI 1) dL_law_971 972 rfl (by decide) ?_
  refine tg_iadd C (nI (j0 + 1)) dL_law_972 973 rfl (nI_add _ _) ?_
  refine tg_sld C hXs hbl hbA (vp_in_nI (by omega) (by omega)) dL_law_973 974 rfl ?_
  rw [nI_clamp (show j0 + 1 < 2 ^ 31 by omega)]
  refine tg_aload_n C dL_law_974 975 rfl rfl 1 rfl ?_
  refine xg_callSW C hE (c_L_setPrice l D cy ad hDis σ (x := xs (j0 + 1)) (c_X4_setPrice l hl0 D cy ad hDis σ h.2.1) (fun E τ h9 => h9.1)) (vx_cwSW 3 C.2.2.2.2.1 gL_law_L_setPrice rfl rfl rfl (by decide +kernel) ⟨(Nat.le_of_ble_eq_true rfl), (Nat.le_of_ble_eq_true rfl)⟩) rfl rfl (Nat.le_of_ble_eq_true rfl) ⟨by omega, by omega⟩ dL_law_975 978 rfl (fun r τ hH => ?_)
  have hM : MM τ n w tc mg pr tx nx nm wh wd kp := h.mm (fun j hj hj2 => by
      rcases hH with ⟨r1, τ1, hp, -, rfl⟩ | ⟨E, hp, -⟩
      · obtain rfl := hp.2.2
        rw [su_ni _ _ _ (by omega), su_ni _ _ _ (by omega)]
      · rw [← hp.2.2])
  refine tg_istore C dL_law_978 980 rfl _ (by decide) rfl ?_
  refine tg_aload_n C dL_law_980 981 rfl rfl 3 rfl ?_
  refine tg_aload_n C dL_law_981 982 rfl rfl 5 rfl ?_
  refine tg_iload C dL_law_982 984 rfl 1 rfl ?_
  refine tg_iconst C (nI 1) dL_law_984 985 rfl (by decide) ?_
  refine tg_iadd C (nI (j0 + 1)) dL_law_985 986 rfl (nI_add _ _) ?_
  refine tg_sld C hXs hbl hbA (vp_in_nI (by omega) (by omega)) dL_law_986 987 rfl ?_
  rw [nI_clamp (show j0 + 1 < 2 ^ 31 by omega)]
  refine tg_callVi C 89 (by decide) (e_89 ad cy _) rfl (c_X5_setPrice l D cy ad hDis τ hM (x := xs (j0 + 1))) (cwV 1 C.2.2.2.2.1 gL_law_X5_setPrice rfl rfl rfl (by decide +kernel) ⟨(Nat.le_of_ble_eq_true rfl), (Nat.le_of_ble_eq_true rfl)⟩) rfl rfl (Nat.le_of_ble_eq_true rfl) ⟨by omega, by omega⟩ dL_law_987 990 rfl (fun r5 τ5 hG => ?_)
  refine tg_istore C dL_law_990 992 rfl _ (by decide) rfl ?_
  refine law_tail C ⟨by omega, by omega⟩ (J_setPrice h hH hG) 992 dL_law_992 dL_law_993 dL_law_996 dL_law_998 dL_law_1003 dL_law_1005 dL_law_1008 dL_law_1009 dL_law_1010 dL_law_1011 dL_law_1013 dL_law_1014 dL_law_1015 ?_
  refine tg_goto C 1267 dL_law_1020 (by decide) ?_
  exact tg_widen (by omega) (by omega) (kk _ (J_setPrice h hH hG).2.2)
set_option maxHeartbeats 1000000 in
set_option maxRecDepth 20000 in
theorem law_cutCost (C : Cx p s m args c cL_law 7 RL wsL_law D cy ad A) (hE : Ev A s s.heap) (hl0 : l.stackTraces = false) (hXs : va_X b L xs s s.heap) (hbl : b < s.heap.size) (hbA : ¬ A b) (hj : j0 + 3 ≤ L) (hL : L ≤ 1536) (hR : Rel σ cn) (hcn : cn < 10000) (hcl : cells + 2 ≤ room_1.cells ∧ slots + 12 ≤ room_1.slots) (kk : ∀ σ2, Rel σ2 (cn + 1) → TT p l e room_1 s m args below meth c D cy ad A 7 (cells + 2) (slots + 12) Q σ2 1267 (lvL ad b (nI j0)) []) : TT p l e room_1 s m args below meth c D cy ad A 7 cells slots Q σ 1023 (lvL ad b (nI j0)) [] := by
  obtain ⟨n, w, tc, mg, pr, tx, nx, nm, wh, wd, kp, loc, h⟩ := hR
  have hDis := C.2.2.2.2.2.2.1
  refine tg_aload_n C dL_law_1023 1024 rfl rfl 3 rfl ?_
  refine tg_aload_n C dL_law_1024 1025 rfl rfl 1 rfl ?_
  refine xg_callSW C hE (c_L_cutCost l D cy ad hDis σ (c_X4_cutCost l hl0 D cy ad hDis σ h.2.1 h.1 (ct := cntN wh wd kp tx) (mt := totN wh wd tx) h.2.2.2.1) (fun E τ h9 => h9.1)) (vx_cwSW 2 C.2.2.2.2.1 gL_law_L_cutCost rfl rfl rfl (by decide +kernel) ⟨(Nat.le_of_ble_eq_true rfl), (Nat.le_of_ble_eq_true rfl)⟩) rfl rfl (Nat.le_of_ble_eq_true rfl) ⟨by omega, by omega⟩ dL_law_1025 1028 rfl (fun r τ hH => ?_)
  have hM : MM τ n w tc mg pr tx nx nm wh wd kp := h.mm (fun j hj hj2 => by
      rcases hH with ⟨r1, τ1, hp, -, rfl⟩ | ⟨E, hp, -⟩
      · rw [su_ni _ _ _ (by omega)]; exact hp.2.2 j (Or.inr hj)
      · rw [← hp.2.2])
  refine tg_istore C dL_law_1028 1030 rfl _ (by decide) rfl ?_
  refine tg_aload_n C dL_law_1030 1031 rfl rfl 3 rfl ?_
  refine tg_callVi C 89 (by decide) (e_89 ad cy _) rfl (c_X5_cutCost l D cy ad hDis τ hM) (cwV 0 C.2.2.2.2.1 gL_law_X5_cutCost rfl rfl rfl (by decide +kernel) ⟨(Nat.le_of_ble_eq_true rfl), (Nat.le_of_ble_eq_true rfl)⟩) rfl rfl (Nat.le_of_ble_eq_true rfl) ⟨by omega, by omega⟩ dL_law_1031 1034 rfl (fun r5 τ5 hG => ?_)
  refine tg_istore C dL_law_1034 1036 rfl _ (by decide) rfl ?_
  refine law_tail C ⟨by omega, by omega⟩ (J4 h hH hG) 1036 dL_law_1036 dL_law_1037 dL_law_1040 dL_law_1042 dL_law_1047 dL_law_1049 dL_law_1052 dL_law_1053 dL_law_1054 dL_law_1055 dL_law_1057 dL_law_1058 dL_law_1059 ?_
  refine tg_goto C 1267 dL_law_1064 (by decide) ?_
  exact tg_widen (by omega) (by omega) (kk _ (J4 h hH hG).2.2)
set_option maxHeartbeats 1000000 in
set_option maxRecDepth 20000 in
theorem law_cutCostByTrying (C : Cx p s m args c cL_law 7 RL wsL_law D cy ad A) (hE : Ev A s s.heap) (hl0 : l.stackTraces = false) (hXs : va_X b L xs s s.heap) (hbl : b < s.heap.size) (hbA : ¬ A b) (hj : j0 + 3 ≤ L) (hL : L ≤ 1536) (hR : Rel σ cn) (hcn : cn < 10000) (hcl : cells + 2 ≤ room_1.cells ∧ slots + 12 ≤ room_1.slots) (kk : ∀ σ2, Rel σ2 (cn + 1) → TT p l e room_1 s m args below meth c D cy ad A 7 (cells + 2) (slots + 12) Q σ2 1267 (lvL ad b (nI j0)) []) : TT p l e room_1 s m args below meth c D cy ad A 7 cells slots Q σ 1067 (lvL ad b (nI j0)) [] := by
  obtain ⟨n, w, tc, mg, pr, tx, nx, nm, wh, wd, kp, loc, h⟩ := hR
  have hDis := C.2.2.2.2.2.2.1
  refine tg_aload_n C dL_law_1067 1068 rfl rfl 3 rfl ?_
  refine tg_aload_n C dL_law_1068 1069 rfl rfl 1 rfl ?_
  refine xg_callSW C hE (c_L_cutCostByTrying l D cy ad hDis σ (c_X4_cutCostByTrying l hl0 D cy ad hDis σ h.2.1 h.1 (ct := cntN wh wd kp tx) (mt := totN wh wd tx) h.2.2.2.1) (fun E τ h9 => h9.1)) (vx_cwSW 2 C.2.2.2.2.1 gL_law_L_cutCostByTrying rfl rfl rfl (by decide +kernel) ⟨(Nat.le_of_ble_eq_true rfl), (Nat.le_of_ble_eq_true rfl)⟩) rfl rfl (Nat.le_of_ble_eq_true rfl) ⟨by omega, by omega⟩ dL_law_1069 1072 rfl (fun r τ hH => ?_)
  have hM : MM τ n w tc mg pr tx nx nm wh wd kp := h.mm (fun j hj hj2 => by
      rcases hH with ⟨r1, τ1, hp, -, rfl⟩ | ⟨E, hp, -⟩
      · rw [su_ni _ _ _ (by omega)]; exact hp.2.2.2 j (Or.inr hj)
      · rw [← hp.2.2])
  refine tg_istore C dL_law_1072 1074 rfl _ (by decide) rfl ?_
  refine tg_aload_n C dL_law_1074 1075 rfl rfl 3 rfl ?_
  refine tg_callVi C 89 (by decide) (e_89 ad cy _) rfl (c_X5_cutCostByTrying l D cy ad hDis τ hM) (cwV 0 C.2.2.2.2.1 gL_law_X5_cutCostByTrying rfl rfl rfl (by decide +kernel) ⟨(Nat.le_of_ble_eq_true rfl), (Nat.le_of_ble_eq_true rfl)⟩) rfl rfl (Nat.le_of_ble_eq_true rfl) ⟨by omega, by omega⟩ dL_law_1075 1078 rfl (fun r5 τ5 hG => ?_)
  refine tg_istore C dL_law_1078 1080 rfl _ (by decide) rfl ?_
  refine law_tail C ⟨by omega, by omega⟩ (J5 h hH hG) 1080 dL_law_1080 dL_law_1081 dL_law_1084 dL_law_1086 dL_law_1091 dL_law_1093 dL_law_1096 dL_law_1097 dL_law_1098 dL_law_1099 dL_law_1101 dL_law_1102 dL_law_1103 ?_
  refine tg_goto C 1267 dL_law_1108 (by decide) ?_
  exact tg_widen (by omega) (by omega) (kk _ (J5 h hH hG).2.2)
set_option maxHeartbeats 1000000 in
set_option maxRecDepth 20000 in
theorem law_cutTongue (C : Cx p s m args c cL_law 7 RL wsL_law D cy ad A) (hE : Ev A s s.heap) (hl0 : l.stackTraces = false) (hXs : va_X b L xs s s.heap) (hbl : b < s.heap.size) (hbA : ¬ A b) (hj : j0 + 3 ≤ L) (hL : L ≤ 1536) (hR : Rel σ cn) (hcn : cn < 10000) (hcl : cells + 2 ≤ room_1.cells ∧ slots + 12 ≤ room_1.slots) (kk : ∀ σ2, Rel σ2 (cn + 1) → TT p l e room_1 s m args below meth c D cy ad A 7 (cells + 2) (slots + 12) Q σ2 1267 (lvL ad b (nI j0)) []) : TT p l e room_1 s m args below meth c D cy ad A 7 cells slots Q σ 1111 (lvL ad b (nI j0)) [] := by
  obtain ⟨n, w, tc, mg, pr, tx, nx, nm, wh, wd, kp, loc, h⟩ := hR
  have hDis := C.2.2.2.2.2.2.1
  refine tg_aload_n C dL_law_1111 1112 rfl rfl 3 rfl ?_
  refine tg_aload_n C dL_law_1112 1113 rfl rfl 4 rfl ?_
  refine tg_iload C dL_law_1113 1115 rfl 0 rfl ?_
  refine tg_iconst C (nI 1) dL_law_1115 1116 rfl (by decide) ?_
  refine tg_iadd C (nI (j0 + 1)) dL_law_1116 1117 rfl (nI_add _ _) ?_
  refine tg_sld C hXs hbl hbA (vp_in_nI (by omega) (by omega)) dL_law_1117 1118 rfl ?_
  rw [nI_clamp (show j0 + 1 < 2 ^ 31 by omega)]
  refine tg_aload_n C dL_law_1118 1119 rfl rfl 1 rfl ?_
  refine xg_callSW C hE (c_L_cutTongue l D cy ad hDis σ (x := xs (j0 + 1)) (c_X4_cutTongue l hl0 D cy ad hDis σ h.2.1 h.1 (ct := cntN wh wd kp tx) (mt := totN wh wd tx) h.2.2.2.1) (fun E τ h9 => h9.1.imp (fun h => h.1) (fun h => h.1))) (vx_cwSW 3 C.2.2.2.2.1 gL_law_L_cutTongue rfl rfl rfl (by decide +kernel) ⟨(Nat.le_of_ble_eq_true rfl), (Nat.le_of_ble_eq_true rfl)⟩) rfl rfl (Nat.le_of_ble_eq_true rfl) ⟨by omega, by omega⟩ dL_law_1119 1122 rfl (fun r τ hH => ?_)
  have hM : MM τ n w tc mg pr tx nx nm wh wd kp := h.mm (fun j hj hj2 => by
      rcases hH with ⟨r1, τ1, hp, -, rfl⟩ | ⟨E, hp, -⟩
      · rw [su_ni _ _ _ (by omega)]; exact hp.2.2 j (Or.inr hj)
      · rw [← hp.2])
  refine tg_istore C dL_law_1122 1124 rfl _ (by decide) rfl ?_
  refine tg_aload_n C dL_law_1124 1125 rfl rfl 3 rfl ?_
  refine tg_aload_n C dL_law_1125 1126 rfl rfl 5 rfl ?_
  refine tg_iload C dL_law_1126 1128 rfl 1 rfl ?_
  refine tg_iconst C (nI 1) dL_law_1128 1129 rfl (by decide) ?_
  refine tg_iadd C (nI (j0 + 1)) dL_law_1129 1130 rfl (nI_add _ _) ?_
  refine tg_sld C hXs hbl hbA (vp_in_nI (by omega) (by omega)) dL_law_1130 1131 rfl ?_
  rw [nI_clamp (show j0 + 1 < 2 ^ 31 by omega)]
  refine tg_callVi C 89 (by decide) (e_89 ad cy _) rfl (c_X5_cutTongue l D cy ad hDis τ hM (x := xs (j0 + 1))) (cwV 1 C.2.2.2.2.1 gL_law_X5_cutTongue rfl rfl rfl (by decide +kernel) ⟨(Nat.le_of_ble_eq_true rfl), (Nat.le_of_ble_eq_true rfl)⟩) rfl rfl (Nat.le_of_ble_eq_true rfl) ⟨by omega, by omega⟩ dL_law_1131 1134 rfl (fun r5 τ5 hG => ?_)
  refine tg_istore C dL_law_1134 1136 rfl _ (by decide) rfl ?_
  refine law_tail C ⟨by omega, by omega⟩ (J6 h (fun k => nI (tdb (kst n w (cntN wh wd kp tx) (totN wh wd tx)) pr tc (rc n) (k + 1) - 1)) (by have := h.1.2.1; unfold rc; split <;> omega) hH hG) 1136 dL_law_1136 dL_law_1137 dL_law_1140 dL_law_1142 dL_law_1147 dL_law_1149 dL_law_1152 dL_law_1153 dL_law_1154 dL_law_1155 dL_law_1157 dL_law_1158 dL_law_1159 ?_
  refine tg_goto C 1267 dL_law_1164 (by decide) ?_
  exact tg_widen (by omega) (by omega) (kk _ (J6 h (fun k => nI (tdb (kst n w (cntN wh wd kp tx) (totN wh wd tx)) pr tc (rc n) (k + 1) - 1)) (by have := h.1.2.1; unfold rc; split <;> omega) hH hG).2.2)
set_option maxHeartbeats 1000000 in
set_option maxRecDepth 20000 in
theorem law_stretches (C : Cx p s m args c cL_law 7 RL wsL_law D cy ad A) (hE : Ev A s s.heap) (hl0 : l.stackTraces = false) (hXs : va_X b L xs s s.heap) (hbl : b < s.heap.size) (hbA : ¬ A b) (hj : j0 + 3 ≤ L) (hL : L ≤ 1536) (hR : Rel σ cn) (hcn : cn < 10000) (hcl : cells + 2 ≤ room_1.cells ∧ slots + 12 ≤ room_1.slots) (kk : ∀ σ2, Rel σ2 (cn + 1) → TT p l e room_1 s m args below meth c D cy ad A 7 (cells + 2) (slots + 12) Q σ2 1267 (lvL ad b (nI j0)) []) : TT p l e room_1 s m args below meth c D cy ad A 7 cells slots Q σ 1167 (lvL ad b (nI j0)) [] := by
  obtain ⟨n, w, tc, mg, pr, tx, nx, nm, wh, wd, kp, loc, h⟩ := hR
  have hDis := C.2.2.2.2.2.2.1
  refine tg_aload_n C dL_law_1167 1168 rfl rfl 3 rfl ?_
  refine tg_aload_n C dL_law_1168 1169 rfl rfl 1 rfl ?_
  refine xg_callSW C hE (c_L_stretches l D cy ad hDis σ (c_X4_stretches l hl0 D cy ad hDis σ h.2.1 h.1 (ct := cntN wh wd kp tx) (mt := totN wh wd tx) h.2.2.2.1) (fun E τ h9 => h9.1)) (vx_cwSW 2 C.2.2.2.2.1 gL_law_L_stretches rfl rfl rfl (by decide +kernel) ⟨(Nat.le_of_ble_eq_true rfl), (Nat.le_of_ble_eq_true rfl)⟩) rfl rfl (Nat.le_of_ble_eq_true rfl) ⟨by omega, by omega⟩ dL_law_1169 1172 rfl (fun r τ hH => ?_)
  have hM : MM τ n w tc mg pr tx nx nm wh wd kp := h.mm (fun j hj hj2 => by
      rcases hH with ⟨r1, τ1, hp, -, rfl⟩ | ⟨E, hp, -⟩
      · rw [su_ni _ _ _ (by omega)]; exact hp.2.2 j (Or.inr hj)
      · rw [← hp.2.2])
  refine tg_istore C dL_law_1172 1174 rfl _ (by decide) rfl ?_
  refine tg_aload_n C dL_law_1174 1175 rfl rfl 3 rfl ?_
  refine tg_callVi C 89 (by decide) (e_89 ad cy _) rfl (c_X5_stretches l D cy ad hDis τ hM) (cwV 0 C.2.2.2.2.1 gL_law_X5_stretches rfl rfl rfl (by decide +kernel) ⟨(Nat.le_of_ble_eq_true rfl), (Nat.le_of_ble_eq_true rfl)⟩) rfl rfl (Nat.le_of_ble_eq_true rfl) ⟨by omega, by omega⟩ dL_law_1175 1178 rfl (fun r5 τ5 hG => ?_)
  refine tg_istore C dL_law_1178 1180 rfl _ (by decide) rfl ?_
  refine law_tail C ⟨by omega, by omega⟩ (J4 h hH hG) 1180 dL_law_1180 dL_law_1181 dL_law_1184 dL_law_1186 dL_law_1191 dL_law_1193 dL_law_1196 dL_law_1197 dL_law_1198 dL_law_1199 dL_law_1201 dL_law_1202 dL_law_1203 ?_
  refine tg_goto C 1267 dL_law_1208 (by decide) ?_
  exact tg_widen (by omega) (by omega) (kk _ (J4 h hH hG).2.2)
set_option maxHeartbeats 1000000 in
set_option maxRecDepth 20000 in
theorem law_learn (C : Cx p s m args c cL_law 7 RL wsL_law D cy ad A) (hE : Ev A s s.heap) (hl0 : l.stackTraces = false) (hXs : va_X b L xs s s.heap) (hbl : b < s.heap.size) (hbA : ¬ A b) (hj : j0 + 3 ≤ L) (hL : L ≤ 1536) (hR : Rel σ cn) (hcn : cn < 10000) (hcl : cells + 2 ≤ room_1.cells ∧ slots + 12 ≤ room_1.slots) (kk : ∀ σ2, Rel σ2 (cn + 1) → TT p l e room_1 s m args below meth c D cy ad A 7 (cells + 2) (slots + 12) Q σ2 1267 (lvL ad b (nI j0)) []) : TT p l e room_1 s m args below meth c D cy ad A 7 cells slots Q σ 1211 (lvL ad b (nI j0)) [] := by
  obtain ⟨n, w, tc, mg, pr, tx, nx, nm, wh, wd, kp, loc, h⟩ := hR
  have hDis := C.2.2.2.2.2.2.1
  have hB := h.hB
  refine tg_aload_n C dL_law_1211 1212 rfl rfl 3 rfl ?_
  refine tg_aload_n C dL_law_1212 1213 rfl rfl 4 rfl ?_
  refine tg_iload C dL_law_1213 1215 rfl 0 rfl ?_
  refine tg_iconst C (nI 1) dL_law_1215 1216 rfl (by decide) ?_
  refine tg_iadd C (nI (j0 + 1)) dL_law_1216 1217 rfl (nI_add _ _) ?_
  refine tg_sld C hXs hbl hbA (vp_in_nI (by omega) (by omega)) dL_law_1217 1218 rfl ?_
  rw [nI_clamp (show j0 + 1 < 2 ^ 31 by omega)]
  refine tg_aload_n C dL_law_1218 1219 rfl rfl 1 rfl ?_
  refine xg_callSW C hE (c_L_learn l D cy ad hDis σ (x := xs (j0 + 1)) (c_X4_learn l hl0 D cy ad hDis σ h.2.1 h.1 (ct := cntN wh wd kp tx) (mt := totN wh wd tx) h.2.2.2.1 h.2.2.2.2.1.1 (by have := h.2.2.2.2.2; omega) hB) (fun E τ h9 => h9.1.imp (fun h => h.1) (fun h => h.1))) (vx_cwSW 3 C.2.2.2.2.1 gL_law_L_learn rfl rfl rfl (by decide +kernel) ⟨(Nat.le_of_ble_eq_true rfl), (Nat.le_of_ble_eq_true rfl)⟩) rfl rfl (Nat.le_of_ble_eq_true rfl) ⟨by omega, by omega⟩ dL_law_1219 1222 rfl (fun r τ hH => ?_)
  have hM : MM τ n w tc mg pr tx nx nm wh wd kp := h.mm (fun j hj hj2 => by
      rcases hH with ⟨r1, τ1, hp, -, rfl⟩ | ⟨E, hp, -⟩
      · obtain ⟨q, -, -, ht, hs, K⟩ := hp; rw [su_ni _ _ _ (by omega)]; rcases K with ⟨-, -, e⟩ | ⟨-, -, K⟩
        · rw [e]
        · exact (K.2.2.2.2.2.2 j (by omega) (by omega) (by omega) (by omega) (by omega) (by omega) (by omega)).trans (su_ni _ _ _ (by omega))
      · rw [← hp.2])
  refine tg_istore C dL_law_1222 1224 rfl _ (by decide) rfl ?_
  refine tg_aload_n C dL_law_1224 1225 rfl rfl 3 rfl ?_
  refine tg_aload_n C dL_law_1225 1226 rfl rfl 5 rfl ?_
  refine tg_iload C dL_law_1226 1228 rfl 1 rfl ?_
  refine tg_iconst C (nI 1) dL_law_1228 1229 rfl (by decide) ?_
  refine tg_iadd C (nI (j0 + 1)) dL_law_1229 1230 rfl (nI_add _ _) ?_
  refine tg_sld C hXs hbl hbA (vp_in_nI (by omega) (by omega)) dL_law_1230 1231 rfl ?_
  rw [nI_clamp (show j0 + 1 < 2 ^ 31 by omega)]
  refine tg_callVi C 89 (by decide) (e_89 ad cy _) rfl (c_X5_learn l D cy ad hDis τ hM (by have := h.2.2.2.2.2; omega) (x := xs (j0 + 1))) (cwV 1 C.2.2.2.2.1 gL_law_X5_learn rfl rfl rfl (by decide +kernel) ⟨(Nat.le_of_ble_eq_true rfl), (Nat.le_of_ble_eq_true rfl)⟩) rfl rfl (Nat.le_of_ble_eq_true rfl) ⟨by omega, by omega⟩ dL_law_1231 1234 rfl (fun r5 τ5 hG => ?_)
  refine tg_istore C dL_law_1234 1236 rfl _ (by decide) rfl ?_
  refine law_tail C ⟨by omega, by omega⟩ (J_learn h hcn hH hG) 1236 dL_law_1236 dL_law_1237 dL_law_1240 dL_law_1242 dL_law_1247 dL_law_1249 dL_law_1252 dL_law_1253 dL_law_1254 dL_law_1255 dL_law_1257 dL_law_1258 dL_law_1259 ?_
  refine tg_goto C 1267 dL_law_1264 (by decide) ?_
  exact tg_widen (by omega) (by omega) (kk _ (J_learn h hcn hH hG).2.2)
end LawC
