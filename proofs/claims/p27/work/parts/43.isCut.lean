/-! ===== isCut: the told cut costs what is told, no cut by one tongue alone costs less, its stretches are counted ===== -/
set_option maxHeartbeats 4000000 in
set_option maxRecDepth 100000 in
theorem c_L_isCut (l : Launch) (hl0 : l.stackTraces = false) (D : va_G) (cy : Nat → ClassId) (ad : Nat → Nat) (hDis : Dis ad) (σ : sS) {tc mg pr : Nat} (hX : Xs σ tc mg pr) {n : Nat} {w : Nat → Nat} (hS : Sp σ n w) {ct : Nat → Nat → Nat} {mt : Nat → Nat} (hT : Ta σ ct mt) (htc : 0 < tc) : Yi l yL_isCut wsL_isCut 9 215 94 564 D cy ad [.ref (ad 0), .int (nI pr), .int (nI n)] σ (fun r τ => r = nI 1 ∧ ∀ j, j < 51 → τ j = σ j) := by
  obtain ⟨K, hK⟩ : ∃ z, kst n w ct mt = z := ⟨_, rfl⟩
  obtain ⟨N9, hN⟩ : ∃ z, rc n = z := ⟨_, rfl⟩
  have hn16 := hS.2.1
  have hN17 : N9 ≤ 17 := hN ▸ rc_le hn16
  have htc5 := hX.2.2.2.1
  have hpr := hX.2.2.2.2.2
  have hKb : ∀ p t, K p t ≤ 10 := fun p t => hK ▸ kst_le n w ct mt p t
  refine Yz.of (cc := cL_isCut) (nL := 10) (own := RL) hDis (by decide) rfl [(0, .ref (ad 0)), (1, .int (nI pr)), (2, .int (nI n))] rfl (Nat.le_of_ble_eq_true rfl) rfl ?_
  intro p e s m args below meth c A Q C hE hret
  refine tg_aload_n C dL_isCut_0 1 rfl rfl 0 rfl ?_
  refine tg_callVi C 0 (by decide) (e_0 ad cy _) rfl (c_X4_runs l D cy ad hDis σ hS) (cwV 0 C.2.2.2.2.1 gL_isCut_X4_runs rfl rfl rfl (by decide +kernel) ⟨(Nat.le_of_ble_eq_true rfl), (Nat.le_of_ble_eq_true rfl)⟩) rfl rfl (Nat.le_of_ble_eq_true rfl) ⟨(show 0 ≤ 94 by omega), (show 0 ≤ 564 by omega)⟩ dL_isCut_1 4 rfl (fun r1 τ1 h1 => ?_)
  obtain ⟨h1, h1s⟩ := h1
  subst h1s
  rw [hN] at h1
  subst h1
  refine tg_istore_n C dL_isCut_4 5 rfl rfl [(3, .int (nI N9)), (0, .ref (ad 0)), (1, .int (nI pr)), (2, .int (nI n))] (by decide) rfl ?_
  refine tg_iconst C (nI 0) dL_isCut_5 6 rfl (by decide) ?_
  refine tg_istore C dL_isCut_6 8 rfl [(4, .int (nI 0)), (3, .int (nI N9)), (0, .ref (ad 0)), (1, .int (nI pr)), (2, .int (nI n))] (by decide) rfl ?_
  refine tg_iconst C (nI 0) dL_isCut_8 9 rfl (by decide) ?_
  refine tg_istore C dL_isCut_9 11 rfl [(5, .int (nI 0)), (4, .int (nI 0)), (3, .int (nI N9)), (0, .ref (ad 0)), (1, .int (nI pr)), (2, .int (nI n))] (by decide) rfl ?_
  refine tg_iconst C (-1) dL_isCut_11 12 rfl (by decide) ?_
  refine tg_istore C dL_isCut_12 14 rfl [(6, .int ((-1))), (5, .int (nI 0)), (4, .int (nI 0)), (3, .int (nI N9)), (0, .ref (ad 0)), (1, .int (nI pr)), (2, .int (nI n))] (by decide) rfl ?_
  refine tg_iload_n C dL_isCut_14 15 rfl rfl 3 rfl ?_
  refine tg_iload_n C dL_isCut_15 16 rfl rfl 6 rfl ?_
  refine tg_if_ne C 23 dL_isCut_16 (by decide) 19 rfl (fun c16 => ?_) (fun c16 => ?_)
  · -- to 23
    replace c16 : ¬ n = 0 := fun q => c16 ((z_eq (by omega)).mpr q)
    refine tg_iload_n C dL_isCut_23 24 rfl rfl 6 rfl ?_
    refine tg_iconst C (nI 1) dL_isCut_24 25 rfl (by decide) ?_
    refine tg_iadd C (nI (n + 1)) dL_isCut_25 26 rfl (nI_add n 1) ?_
    refine tg_icmp_ne C 33 dL_isCut_26 (by decide) 29 rfl (fun c26 => absurd (by rw [← hN, rc_1 c16]) c26) (fun c26 => ?_)
    refine tg_iconst C (nI 1) dL_isCut_29 30 rfl (by decide) ?_
    refine tg_goto C 34 dL_isCut_30 (by decide) ?_
    refine tg_istore C dL_isCut_34 36 rfl [(7, .int (nI 1)), (6, .int ((-1))), (5, .int (nI 0)), (4, .int (nI 0)), (3, .int (nI N9)), (0, .ref (ad 0)), (1, .int (nI pr)), (2, .int (nI n))] (by decide) rfl ?_
    refine tg_iconst C (nI 0) dL_isCut_36 37 rfl (by decide) ?_
    refine tg_istore C dL_isCut_37 39 rfl [(8, .int (nI 0)), (7, .int (nI 1)), (6, .int ((-1))), (5, .int (nI 0)), (4, .int (nI 0)), (3, .int (nI N9)), (0, .ref (ad 0)), (1, .int (nI pr)), (2, .int (nI n))] (by decide) rfl ?_
    have L39 : ∀ (n39 : Nat) (i : Nat) (σ1 : sS), (i ≤ N9 ∧ ∀ j, j < 51 → σ1 j = σ j) → N9 - i < n39 → TT p l e (Rx 9 215 94 564) s m args below meth c D cy ad A 10 (5 * i) (30 * i) Q σ1 39 [(0, .ref (ad 0)), (1, .int (nI pr)), (2, .int (nI n)), (3, .int (nI N9)), (4, .int (nI (tcs K pr tc N9 i))), (5, .int (nI (stc (fun i => tdb K pr tc N9 (i + 1) - 1) i))), (6, .int (bv (tdb K pr tc N9 i))), (7, .int (nI 1)), (8, .int (nI i))] [] := by
      intro n39
      induction n39 with
      | zero => intro i σ1 _ hn39; exact absurd hn39 (Nat.not_lt_zero _)
      | succ n39 ih39 =>
        intro i σ1 ⟨hi, hf⟩ hn39
        have hX1 := hX.fr (hf 0 (by decide))
        have hS1 := hS.fr (hf 1 (by decide)) (hf 2 (by decide))
        have hT1 := hT.fr (fun j _ h => hf j (by omega))
        refine tg_iload C dL_isCut_39 41 rfl 8 rfl ?_
        refine tg_iload_n C dL_isCut_41 42 rfl rfl 3 rfl ?_
        refine tg_icmp_ge C 150 dL_isCut_42 (by decide) 45 rfl (fun c42 => ?_) (fun c42 => ?_)
        · -- to 150
          replace c42 : N9 ≤ i := (nI_leI (by omega) (by omega)).mp c42
          have hiN : i = N9 := by omega
          have hcut : tcs K pr tc N9 i = lb K pr tc N9 N9 0 := by rw [hiN]; exact tcs_end
          refine tg_iconst C (nI 0) dL_isCut_150 151 rfl (by decide) ?_
          refine tg_istore C dL_isCut_151 153 rfl [(8, .int (nI 0)), (0, .ref (ad 0)), (1, .int (nI pr)), (2, .int (nI n)), (3, .int (nI N9)), (4, .int (nI (tcs K pr tc N9 i))), (5, .int (nI (stc (fun i => tdb K pr tc N9 (i + 1) - 1) i))), (6, .int (bv (tdb K pr tc N9 i))), (7, .int (nI 1))] (by decide) rfl ?_
          have L153 : ∀ (n153 : Nat) (t : Nat), (t ≤ tc) → tc - t < n153 → TT p l e (Rx 9 215 94 564) s m args below meth c D cy ad A 10 (5 * i + t) (30 * i + 6 * t) Q σ1 153 [(0, .ref (ad 0)), (2, .int (nI n)), (4, .int (nI (tcs K pr tc N9 i))), (5, .int (nI (stc (fun i => tdb K pr tc N9 (i + 1) - 1) i))), (7, .int (nI 1)), (8, .int (nI t))] [] := by
            intro n153
            induction n153 with
            | zero => intro t _ hn153; exact absurd hn153 (Nat.not_lt_zero _)
            | succ n153 ih153 =>
              intro t ht hn153
              refine tg_iload C dL_isCut_153 155 rfl 5 rfl ?_
              refine tg_aload_n C dL_isCut_155 156 rfl rfl 0 rfl ?_
              refine tg_callVi C 0 (by decide) (e_0 ad cy _) rfl (c_X4_tongues l D cy ad hDis σ1 hX1) (cwV 0 C.2.2.2.2.1 gL_isCut_X4_tongues rfl rfl rfl (by decide +kernel) ⟨(Nat.le_of_ble_eq_true rfl), (Nat.le_of_ble_eq_true rfl)⟩) rfl rfl (Nat.le_of_ble_eq_true rfl) ⟨(show 5 * i + t ≤ 94 by omega), (show 30 * i + 6 * t ≤ 564 by omega)⟩ dL_isCut_156 159 rfl (fun r156 τ156 h156 => ?_)
              obtain ⟨h156, h156s⟩ := h156
              subst h156s
              subst h156
              refine tg_icmp_ge C 191 dL_isCut_159 (by decide) 162 rfl (fun c159 => ?_) (fun c159 => ?_)
              · -- to 191
                replace c159 : tc ≤ t := (nI_leI (by omega) (by omega)).mp c159
                refine tg_iload C dL_isCut_191 193 rfl 4 rfl ?_
                refine tg_if_eq C 232 dL_isCut_193 (by decide) 196 rfl (fun c193 => absurd c193 (by decide)) (fun c193 => ?_)
                refine tg_aload_n C dL_isCut_196 197 rfl rfl 0 rfl ?_
                refine tg_callYV C hE 0 (by decide) (e_0 ad cy _) rfl (y_cutCost l hl0 D cy ad hDis σ1 hX1 hS1 hT1 hK hN htc) (cwV 0 C.2.2.2.2.1 gL_isCut_X4_cutCost rfl rfl rfl (by decide +kernel) ⟨(Nat.le_of_ble_eq_true rfl), (Nat.le_of_ble_eq_true rfl)⟩) rfl rfl (Nat.le_of_ble_eq_true rfl) ⟨(show 5 * i + t + 1 ≤ 94 by omega), (show 30 * i + 6 * t + 6 ≤ 564 by omega)⟩ dL_isCut_197 200 rfl (fun r197 τ197 h197 => ?_)
                have hf3 : ∀ j, j < 51 → τ197 j = σ j := fun j hj => by rw [h197.2 j hj]; exact hf j hj
                have h197 := h197.1
                subst h197
                have hX3 := hX.fr (hf3 0 (by decide))
                have hS3 := hS.fr (hf3 1 (by decide)) (hf3 2 (by decide))
                have hT3 := hT.fr (fun j _ h => hf3 j (by omega))
                refine tg_iload C dL_isCut_200 202 rfl 2 rfl ?_
                refine tg_icmp_ne C 232 dL_isCut_202 (by decide) 205 rfl (fun c202 => absurd (by rw [hcut]) c202) (fun c202 => ?_)
                refine tg_aload_n C dL_isCut_205 206 rfl rfl 0 rfl ?_
                refine tg_callYV C hE 0 (by decide) (e_0 ad cy _) rfl (y_stretches l hl0 D cy ad hDis τ197 hX3 hS3 hT3 hK hN htc) (cwV 0 C.2.2.2.2.1 gL_isCut_X4_stretches rfl rfl rfl (by decide +kernel) ⟨(Nat.le_of_ble_eq_true rfl), (Nat.le_of_ble_eq_true rfl)⟩) rfl rfl (Nat.le_of_ble_eq_true rfl) ⟨(show 5 * i + t + 1 + 1 ≤ 94 by omega), (show 30 * i + 6 * t + 6 + 6 ≤ 564 by omega)⟩ dL_isCut_206 209 rfl (fun r206 τ206 h206 => ?_)
                have hf4 : ∀ j, j < 51 → τ206 j = σ j := fun j hj => by rw [h206.2 j hj]; exact hf3 j hj
                have h206 := h206.1
                subst h206
                have hX4 := hX.fr (hf4 0 (by decide))
                have hS4 := hS.fr (hf4 1 (by decide)) (hf4 2 (by decide))
                have hT4 := hT.fr (fun j _ h => hf4 j (by omega))
                refine tg_iload C dL_isCut_209 211 rfl 3 rfl ?_
                refine tg_icmp_ne C 232 dL_isCut_211 (by decide) 214 rfl (fun c211 => absurd (by rw [hiN]) c211) (fun c211 => ?_)
                refine tg_iload_n C dL_isCut_214 215 rfl rfl 1 rfl ?_
                refine tg_iconst C (nI 5) dL_isCut_215 216 rfl (by decide) ?_
                refine tg_icmp_gt C 228 dL_isCut_216 (by decide) 219 rfl (fun c216 => ?_) (fun c216 => ?_)
                · -- to 228
                  replace c216 : 5 < n := (nI_ltI (by omega) (by omega)).mp c216
                  refine tg_iconst C (nI 1) dL_isCut_228 229 rfl (by decide) ?_
                  refine tg_goto C 233 dL_isCut_229 (by decide) ?_
                  exact hret (show 5 * i + t + 1 + 1 ≤ 94 by omega) (show 30 * i + 6 * t + 6 + 6 ≤ 564 by omega) dL_isCut_233 rfl ⟨rfl, hf4⟩
                · -- on
                  replace c216 : ¬ 5 < n := fun q => c216 ((nI_ltI (by omega) (by omega)).mpr q)
                  refine tg_aload_n C dL_isCut_219 220 rfl rfl 0 rfl ?_
                  refine tg_callYV C hE 0 (by decide) (e_0 ad cy _) rfl (y_cutCostByTrying l hl0 D cy ad hDis τ206 hX4 hS4 hT4 hK hN htc (by omega)) (cwV 0 C.2.2.2.2.1 gL_isCut_X4_cutCostByTrying rfl rfl rfl (by decide +kernel) ⟨(Nat.le_of_ble_eq_true rfl), (Nat.le_of_ble_eq_true rfl)⟩) rfl rfl (Nat.le_of_ble_eq_true rfl) ⟨(show 5 * i + t + 1 + 1 + 2 ≤ 94 by omega), (show 30 * i + 6 * t + 6 + 6 + 12 ≤ 564 by omega)⟩ dL_isCut_220 223 rfl (fun r220 τ220 h220 => ?_)
                  have hf5 : ∀ j, j < 51 → τ220 j = σ j := fun j hj => by rw [h220.2 j hj]; exact hf4 j hj
                  have h220 := h220.1
                  subst h220
                  refine tg_iload C dL_isCut_223 225 rfl 2 rfl ?_
                  refine tg_icmp_ne C 232 dL_isCut_225 (by decide) 228 rfl (fun c225 => absurd (by rw [hcut]) c225) (fun c225 => ?_)
                  refine tg_iconst C (nI 1) dL_isCut_228 229 rfl (by decide) ?_
                  refine tg_goto C 233 dL_isCut_229 (by decide) ?_
                  exact hret (show 5 * i + t + 1 + 1 + 2 ≤ 94 by omega) (show 30 * i + 6 * t + 6 + 6 + 12 ≤ 564 by omega) dL_isCut_233 rfl ⟨rfl, hf5⟩
              · -- on
                replace c159 : ¬ tc ≤ t := fun q => c159 ((nI_leI (by omega) (by omega)).mpr q)
                refine tg_iload C dL_isCut_162 164 rfl 4 rfl ?_
                refine tg_if_eq C 191 dL_isCut_164 (by decide) 167 rfl (fun c164 => absurd c164 (by decide)) (fun c164 => ?_)
                refine tg_aload_n C dL_isCut_167 168 rfl rfl 0 rfl ?_
                refine tg_iload C dL_isCut_168 170 rfl 5 rfl ?_
                refine tg_callYV C hE 0 (by decide) (e_0 ad cy _) rfl (y_textCost l hl0 D cy ad hDis σ1 hX1 hS1 hT1 (t := t) (d := ctxN n w (ct t) (mt t)) (by omega) rfl) (cwV 1 C.2.2.2.2.1 gL_isCut_X4_textCost rfl rfl rfl (by decide +kernel) ⟨(Nat.le_of_ble_eq_true rfl), (Nat.le_of_ble_eq_true rfl)⟩) rfl rfl (Nat.le_of_ble_eq_true rfl) ⟨(show 5 * i + t + 1 ≤ 94 by omega), (show 30 * i + 6 * t + 6 ≤ 564 by omega)⟩ dL_isCut_170 173 rfl (fun r170 τ170 h170 => ?_)
                obtain ⟨h170, h170s⟩ := h170
                subst h170s
                subst h170
                have hone : tcs K pr tc N9 i ≤ ctxN n w (ct t) (mt t) := by
                  rw [hcut]
                  refine Nat.le_trans (lb_one (t := t) (by omega)) (Nat.le_of_eq ?_)
                  rw [← hN, ← hK]
                  rfl
                have hcx := ctxN_le hS.2.1 w (ct t) (mt t)
                refine tg_iload C dL_isCut_173 175 rfl 2 rfl ?_
                refine tg_icmp_lt C 182 dL_isCut_175 (by decide) 178 rfl (fun c175 => absurd c175 (nI_nlt hone (by omega))) (fun c175 => ?_)
                refine tg_iconst C (nI 1) dL_isCut_178 179 rfl (by decide) ?_
                refine tg_goto C 183 dL_isCut_179 (by decide) ?_
                refine tg_istore C dL_isCut_183 185 rfl [(7, .int (nI 1)), (0, .ref (ad 0)), (2, .int (nI n)), (4, .int (nI (tcs K pr tc N9 i))), (5, .int (nI (stc (fun i => tdb K pr tc N9 (i + 1) - 1) i))), (8, .int (nI t))] (by decide) rfl ?_
                refine tg_iinc C (nI (t + 1)) dL_isCut_185 188 rfl 5 rfl (nI_add t 1) [(8, .int (nI (t + 1))), (7, .int (nI 1)), (0, .ref (ad 0)), (2, .int (nI n)), (4, .int (nI (tcs K pr tc N9 i))), (5, .int (nI (stc (fun i => tdb K pr tc N9 (i + 1) - 1) i)))] (by decide) rfl ?_
                refine tg_goto C 153 dL_isCut_188 (by decide) ?_
                refine tg_sub [2, 3, 4, 5, 1, 0] rfl ?_
                refine tg_widen (k := 5 * i + (t + 1)) (n := 30 * i + 6 * (t + 1)) (by omega) (by omega) ?_
                exact ih153 (t + 1) (by omega) (by omega)
          refine tg_sub [1, 3, 5, 6, 8, 0] rfl ?_
          refine tg_widen (k := 5 * i + 0) (n := 30 * i + 6 * 0) (by omega) (by omega) ?_
          exact L153 _ 0 (Nat.zero_le _) (Nat.lt_succ_self _)
        · -- on
          replace c42 : ¬ N9 ≤ i := fun q => c42 ((nI_leI (by omega) (by omega)).mpr q)
          refine tg_iload C dL_isCut_45 47 rfl 7 rfl ?_
          refine tg_if_eq C 150 dL_isCut_47 (by decide) 50 rfl (fun c47 => absurd c47 (by decide)) (fun c47 => ?_)
          refine tg_aload_n C dL_isCut_50 51 rfl rfl 0 rfl ?_
          refine tg_iload C dL_isCut_51 53 rfl 8 rfl ?_
          refine tg_callYV C hE 0 (by decide) (e_0 ad cy _) rfl (y_cutTongue l hl0 D cy ad hDis σ1 hX1 hS1 hT1 hK hN htc (k := i) (by omega)) (cwV 1 C.2.2.2.2.1 gL_isCut_X4_cutTongue rfl rfl rfl (by decide +kernel) ⟨(Nat.le_of_ble_eq_true rfl), (Nat.le_of_ble_eq_true rfl)⟩) rfl rfl (Nat.le_of_ble_eq_true rfl) ⟨(show 5 * i + 2 ≤ 94 by omega), (show 30 * i + 12 ≤ 564 by omega)⟩ dL_isCut_53 56 rfl (fun r53 τ53 h53 => ?_)
          have hf2 : ∀ j, j < 51 → τ53 j = σ j := fun j hj => by rw [h53.2 j hj]; exact hf j hj
          have h53 := h53.1
          subst h53
          have hX2 := hX.fr (hf2 0 (by decide))
          have hS2 := hS.fr (hf2 1 (by decide)) (hf2 2 (by decide))
          have hT2 := hT.fr (fun j _ h => hf2 j (by omega))
          have htd := tdb_in (k := K) (pr := pr) (N := N9) htc i
          have hbd := tdb_le (k := K) (pr := pr) (N := N9) htc i
          have hkd : K i (tdb K pr tc N9 (i + 1) - 1) ≤ 10 := hKb _ _
          have htcs : tcs K pr tc N9 i ≤ 170 := tcs_le (fun p t _ _ => hKb p t) hpr htc (by omega) hN17
          refine tg_istore C dL_isCut_56 58 rfl [(9, .int (nI ((tdb K pr tc N9 (i + 1) - 1)))), (0, .ref (ad 0)), (1, .int (nI pr)), (2, .int (nI n)), (3, .int (nI N9)), (4, .int (nI (tcs K pr tc N9 i))), (5, .int (nI (stc (fun i => tdb K pr tc N9 (i + 1) - 1) i))), (6, .int (bv (tdb K pr tc N9 i))), (7, .int (nI 1)), (8, .int (nI i))] (by decide) rfl ?_
          refine tg_iload C dL_isCut_58 60 rfl 0 rfl ?_
          refine tg_if_lt C 76 dL_isCut_60 (by decide) 63 rfl (fun c60 => absurd c60 (z_nlt (by omega))) (fun c60 => ?_)
          refine tg_iload C dL_isCut_63 65 rfl 0 rfl ?_
          refine tg_aload_n C dL_isCut_65 66 rfl rfl 1 rfl ?_
          refine tg_callVi C 0 (by decide) (e_0 ad cy _) rfl (c_X4_tongues l D cy ad hDis τ53 hX2) (cwV 0 C.2.2.2.2.1 gL_isCut_X4_tongues rfl rfl rfl (by decide +kernel) ⟨(Nat.le_of_ble_eq_true rfl), (Nat.le_of_ble_eq_true rfl)⟩) rfl rfl (Nat.le_of_ble_eq_true rfl) ⟨(show 5 * i + 2 ≤ 94 by omega), (show 30 * i + 12 ≤ 564 by omega)⟩ dL_isCut_66 69 rfl (fun r66 τ66 h66 => ?_)
          obtain ⟨h66, h66s⟩ := h66
          subst h66s
          subst h66
          refine tg_icmp_ge C 76 dL_isCut_69 (by decide) 72 rfl (fun c69 => absurd c69 (nI_ge (by omega) (by omega))) (fun c69 => ?_)
          refine tg_iconst C (nI 1) dL_isCut_72 73 rfl (by decide) ?_
          refine tg_goto C 77 dL_isCut_73 (by decide) ?_
          refine tg_istore C dL_isCut_77 79 rfl [(7, .int (nI 1)), (9, .int (nI ((tdb K pr tc N9 (i + 1) - 1)))), (0, .ref (ad 0)), (1, .int (nI pr)), (2, .int (nI n)), (3, .int (nI N9)), (4, .int (nI (tcs K pr tc N9 i))), (5, .int (nI (stc (fun i => tdb K pr tc N9 (i + 1) - 1) i))), (6, .int (bv (tdb K pr tc N9 i))), (8, .int (nI i))] (by decide) rfl ?_
          refine tg_iload C dL_isCut_79 81 rfl 6 rfl ?_
          refine tg_iload C dL_isCut_81 83 rfl 0 rfl ?_
          refine tg_if_eq C 119 dL_isCut_83 (by decide) 86 rfl (fun c83 => absurd c83 (by decide)) (fun c83 => ?_)
          refine tg_aload_n C dL_isCut_86 87 rfl rfl 2 rfl ?_
          refine tg_iload C dL_isCut_87 89 rfl 1 rfl ?_
          refine tg_aload_n C dL_isCut_89 90 rfl rfl 2 rfl ?_
          refine tg_iload C dL_isCut_90 92 rfl 9 rfl ?_
          refine tg_callYV C hE 0 (by decide) (e_0 ad cy _) rfl (y_runAt l hl0 D cy ad hDis τ53 hS2 (k := i) (d := rn n w i) (by omega) rfl) (cwV 1 C.2.2.2.2.1 gL_isCut_X4_runAt rfl rfl rfl (by decide +kernel) ⟨(Nat.le_of_ble_eq_true rfl), (Nat.le_of_ble_eq_true rfl)⟩) rfl rfl (Nat.le_of_ble_eq_true rfl) ⟨(show 5 * i + 2 + 1 ≤ 94 by omega), (show 30 * i + 12 + 6 ≤ 564 by omega)⟩ dL_isCut_92 95 rfl (fun r92 τ92 h92 => ?_)
          obtain ⟨h92, h92s⟩ := h92
          subst h92s
          subst h92
          refine tg_callYV C hE 0 (by decide) (e_0 ad cy _) rfl (y_cost l hl0 D cy ad hDis τ53 hX2 hT2 (t := (tdb K pr tc N9 (i + 1) - 1)) (k := rn n w i) (d := K i (tdb K pr tc N9 (i + 1) - 1)) htd.2 (rn_lt (fun k hk => (hS.2.2 k hk).2) i) (by rw [← hK]; rfl)) (cwV 2 C.2.2.2.2.1 gL_isCut_X4_cost rfl rfl rfl (by decide +kernel) ⟨(Nat.le_of_ble_eq_true rfl), (Nat.le_of_ble_eq_true rfl)⟩) rfl rfl (Nat.le_of_ble_eq_true rfl) ⟨(show 5 * i + 2 + 1 + 2 ≤ 94 by omega), (show 30 * i + 12 + 6 + 12 ≤ 564 by omega)⟩ dL_isCut_95 98 rfl (fun r95 τ95 h95 => ?_)
          obtain ⟨h95, h95s⟩ := h95
          subst h95s
          subst h95
          refine tg_iload C dL_isCut_98 100 rfl 8 rfl ?_
          refine tg_if_lt C 110 dL_isCut_100 (by decide) 103 rfl (fun c100 => ?_) (fun c100 => ?_)
          · -- to 110
            replace c100 := (bv_lt (by omega)).mp c100
            refine tg_iconst C (nI 0) dL_isCut_110 111 rfl (by decide) ?_
            refine tg_goto C 115 dL_isCut_111 (by decide) ?_
            refine tg_iadd C (nI (K i (tdb K pr tc N9 (i + 1) - 1) + chg pr (tdb K pr tc N9 i) (tdb K pr tc N9 (i + 1) - 1))) dL_isCut_115 116 rfl (by rw [nI_add, show chg pr (tdb K pr tc N9 i) (tdb K pr tc N9 (i + 1) - 1) = 0 from if_pos (by omega)]) ?_
            refine tg_goto C 120 dL_isCut_116 (by decide) ?_
            refine tg_iadd C (nI ((tcs K pr tc N9 i) + (K i (tdb K pr tc N9 (i + 1) - 1) + chg pr (tdb K pr tc N9 i) (tdb K pr tc N9 (i + 1) - 1)))) dL_isCut_120 121 rfl (nI_add (tcs K pr tc N9 i) (K i (tdb K pr tc N9 (i + 1) - 1) + chg pr (tdb K pr tc N9 i) (tdb K pr tc N9 (i + 1) - 1))) ?_
            refine tg_istore C dL_isCut_121 123 rfl [(4, .int (nI ((tcs K pr tc N9 i) + (K i (tdb K pr tc N9 (i + 1) - 1) + chg pr (tdb K pr tc N9 i) (tdb K pr tc N9 (i + 1) - 1))))), (7, .int (nI 1)), (9, .int (nI ((tdb K pr tc N9 (i + 1) - 1)))), (0, .ref (ad 0)), (1, .int (nI pr)), (2, .int (nI n)), (3, .int (nI N9)), (5, .int (nI (stc (fun i => tdb K pr tc N9 (i + 1) - 1) i))), (6, .int (bv (tdb K pr tc N9 i))), (8, .int (nI i))] (by decide) rfl ?_
            refine tg_iload C dL_isCut_123 125 rfl 7 rfl ?_
            refine tg_iload C dL_isCut_125 127 rfl 2 rfl ?_
            refine tg_iload C dL_isCut_127 129 rfl 8 rfl ?_
            refine tg_icmp_ne C 136 dL_isCut_129 (by decide) 132 rfl (fun c129 => ?_) (fun c129 => ?_)
            · -- to 136
              replace c129 : ¬ (tdb K pr tc N9 i) = (tdb K pr tc N9 (i + 1) - 1) + 1 := fun q => c129 ((bv_t (by omega) (by omega)).mpr q).symm
              refine tg_iconst C (nI 1) dL_isCut_136 137 rfl (by decide) ?_
              refine tg_iadd C (nI (stc (fun i => tdb K pr tc N9 (i + 1) - 1) (i + 1))) dL_isCut_137 138 rfl (by rw [nI_add, show stc (fun i => tdb K pr tc N9 (i + 1) - 1) (i + 1) = stc (fun i => tdb K pr tc N9 (i + 1) - 1) i + 1 from congrArg (stc (fun i => tdb K pr tc N9 (i + 1) - 1) i + ·) (stc_st2 (by omega))]) ?_
              refine tg_istore C dL_isCut_138 140 rfl [(5, .int (nI (stc (fun i => tdb K pr tc N9 (i + 1) - 1) (i + 1)))), (4, .int (nI ((tcs K pr tc N9 i) + (K i (tdb K pr tc N9 (i + 1) - 1) + chg pr (tdb K pr tc N9 i) (tdb K pr tc N9 (i + 1) - 1))))), (7, .int (nI 1)), (9, .int (nI ((tdb K pr tc N9 (i + 1) - 1)))), (0, .ref (ad 0)), (1, .int (nI pr)), (2, .int (nI n)), (3, .int (nI N9)), (6, .int (bv (tdb K pr tc N9 i))), (8, .int (nI i))] (by decide) rfl ?_
              refine tg_iload C dL_isCut_140 142 rfl 3 rfl ?_
              refine tg_top (y := bv (tdb K pr tc N9 (i + 1))) (bv_of htd.1) ?_
              refine tg_istore C dL_isCut_142 144 rfl [(6, .int (bv (tdb K pr tc N9 (i + 1)))), (5, .int (nI (stc (fun i => tdb K pr tc N9 (i + 1) - 1) (i + 1)))), (4, .int (nI ((tcs K pr tc N9 i) + (K i (tdb K pr tc N9 (i + 1) - 1) + chg pr (tdb K pr tc N9 i) (tdb K pr tc N9 (i + 1) - 1))))), (7, .int (nI 1)), (9, .int (nI ((tdb K pr tc N9 (i + 1) - 1)))), (0, .ref (ad 0)), (1, .int (nI pr)), (2, .int (nI n)), (3, .int (nI N9)), (8, .int (nI i))] (by decide) rfl ?_
              refine tg_iinc C (nI (i + 1)) dL_isCut_144 147 rfl 9 rfl (nI_add i 1) [(8, .int (nI (i + 1))), (6, .int (bv (tdb K pr tc N9 (i + 1)))), (5, .int (nI (stc (fun i => tdb K pr tc N9 (i + 1) - 1) (i + 1)))), (4, .int (nI ((tcs K pr tc N9 i) + (K i (tdb K pr tc N9 (i + 1) - 1) + chg pr (tdb K pr tc N9 i) (tdb K pr tc N9 (i + 1) - 1))))), (7, .int (nI 1)), (9, .int (nI ((tdb K pr tc N9 (i + 1) - 1)))), (0, .ref (ad 0)), (1, .int (nI pr)), (2, .int (nI n)), (3, .int (nI N9))] (by decide) rfl ?_
              refine tg_goto C 39 dL_isCut_147 (by decide) ?_
              refine tg_sub [6, 7, 8, 9, 3, 2, 1, 4, 0] rfl ?_
              refine tg_widen (k := 5 * (i + 1)) (n := 30 * (i + 1)) (by omega) (by omega) ?_
              exact ih39 (i + 1) τ53 ⟨by omega, hf2⟩ (by omega)
            · -- on
              replace c129 : (tdb K pr tc N9 i) = (tdb K pr tc N9 (i + 1) - 1) + 1 := (bv_t (by omega) (by omega)).mp c129.symm
              refine tg_iconst C (nI 0) dL_isCut_132 133 rfl (by decide) ?_
              refine tg_goto C 137 dL_isCut_133 (by decide) ?_
              refine tg_iadd C (nI (stc (fun i => tdb K pr tc N9 (i + 1) - 1) (i + 1))) dL_isCut_137 138 rfl (by rw [nI_add, show stc (fun i => tdb K pr tc N9 (i + 1) - 1) (i + 1) = stc (fun i => tdb K pr tc N9 (i + 1) - 1) i + 0 from congrArg (stc (fun i => tdb K pr tc N9 (i + 1) - 1) i + ·) (stc_st1 (by omega))]) ?_
              refine tg_istore C dL_isCut_138 140 rfl [(5, .int (nI (stc (fun i => tdb K pr tc N9 (i + 1) - 1) (i + 1)))), (4, .int (nI ((tcs K pr tc N9 i) + (K i (tdb K pr tc N9 (i + 1) - 1) + chg pr (tdb K pr tc N9 i) (tdb K pr tc N9 (i + 1) - 1))))), (7, .int (nI 1)), (9, .int (nI ((tdb K pr tc N9 (i + 1) - 1)))), (0, .ref (ad 0)), (1, .int (nI pr)), (2, .int (nI n)), (3, .int (nI N9)), (6, .int (bv (tdb K pr tc N9 i))), (8, .int (nI i))] (by decide) rfl ?_
              refine tg_iload C dL_isCut_140 142 rfl 3 rfl ?_
              refine tg_top (y := bv (tdb K pr tc N9 (i + 1))) (bv_of htd.1) ?_
              refine tg_istore C dL_isCut_142 144 rfl [(6, .int (bv (tdb K pr tc N9 (i + 1)))), (5, .int (nI (stc (fun i => tdb K pr tc N9 (i + 1) - 1) (i + 1)))), (4, .int (nI ((tcs K pr tc N9 i) + (K i (tdb K pr tc N9 (i + 1) - 1) + chg pr (tdb K pr tc N9 i) (tdb K pr tc N9 (i + 1) - 1))))), (7, .int (nI 1)), (9, .int (nI ((tdb K pr tc N9 (i + 1) - 1)))), (0, .ref (ad 0)), (1, .int (nI pr)), (2, .int (nI n)), (3, .int (nI N9)), (8, .int (nI i))] (by decide) rfl ?_
              refine tg_iinc C (nI (i + 1)) dL_isCut_144 147 rfl 9 rfl (nI_add i 1) [(8, .int (nI (i + 1))), (6, .int (bv (tdb K pr tc N9 (i + 1)))), (5, .int (nI (stc (fun i => tdb K pr tc N9 (i + 1) - 1) (i + 1)))), (4, .int (nI ((tcs K pr tc N9 i) + (K i (tdb K pr tc N9 (i + 1) - 1) + chg pr (tdb K pr tc N9 i) (tdb K pr tc N9 (i + 1) - 1))))), (7, .int (nI 1)), (9, .int (nI ((tdb K pr tc N9 (i + 1) - 1)))), (0, .ref (ad 0)), (1, .int (nI pr)), (2, .int (nI n)), (3, .int (nI N9))] (by decide) rfl ?_
              refine tg_goto C 39 dL_isCut_147 (by decide) ?_
              refine tg_sub [6, 7, 8, 9, 3, 2, 1, 4, 0] rfl ?_
              refine tg_widen (k := 5 * (i + 1)) (n := 30 * (i + 1)) (by omega) (by omega) ?_
              exact ih39 (i + 1) τ53 ⟨by omega, hf2⟩ (by omega)
          · -- on
            replace c100 : ¬ (tdb K pr tc N9 i) = 0 := fun q => c100 ((bv_lt (by omega)).mpr q)
            refine tg_iload C dL_isCut_103 105 rfl 8 rfl ?_
            refine tg_iload C dL_isCut_105 107 rfl 1 rfl ?_
            refine tg_icmp_ne C 114 dL_isCut_107 (by decide) 110 rfl (fun c107 => ?_) (fun c107 => ?_)
            · -- to 114
              replace c107 : ¬ (tdb K pr tc N9 i) = (tdb K pr tc N9 (i + 1) - 1) + 1 := fun q => c107 ((bv_t (by omega) (by omega)).mpr q)
              refine tg_iload_n C dL_isCut_114 115 rfl rfl 3 rfl ?_
              refine tg_iadd C (nI (K i (tdb K pr tc N9 (i + 1) - 1) + chg pr (tdb K pr tc N9 i) (tdb K pr tc N9 (i + 1) - 1))) dL_isCut_115 116 rfl (by rw [nI_add, show chg pr (tdb K pr tc N9 i) (tdb K pr tc N9 (i + 1) - 1) = pr from if_neg (by omega)]) ?_
              refine tg_goto C 120 dL_isCut_116 (by decide) ?_
              refine tg_iadd C (nI ((tcs K pr tc N9 i) + (K i (tdb K pr tc N9 (i + 1) - 1) + chg pr (tdb K pr tc N9 i) (tdb K pr tc N9 (i + 1) - 1)))) dL_isCut_120 121 rfl (nI_add (tcs K pr tc N9 i) (K i (tdb K pr tc N9 (i + 1) - 1) + chg pr (tdb K pr tc N9 i) (tdb K pr tc N9 (i + 1) - 1))) ?_
              refine tg_istore C dL_isCut_121 123 rfl [(4, .int (nI ((tcs K pr tc N9 i) + (K i (tdb K pr tc N9 (i + 1) - 1) + chg pr (tdb K pr tc N9 i) (tdb K pr tc N9 (i + 1) - 1))))), (7, .int (nI 1)), (9, .int (nI ((tdb K pr tc N9 (i + 1) - 1)))), (0, .ref (ad 0)), (1, .int (nI pr)), (2, .int (nI n)), (3, .int (nI N9)), (5, .int (nI (stc (fun i => tdb K pr tc N9 (i + 1) - 1) i))), (6, .int (bv (tdb K pr tc N9 i))), (8, .int (nI i))] (by decide) rfl ?_
              refine tg_iload C dL_isCut_123 125 rfl 7 rfl ?_
              refine tg_iload C dL_isCut_125 127 rfl 2 rfl ?_
              refine tg_iload C dL_isCut_127 129 rfl 8 rfl ?_
              refine tg_icmp_ne C 136 dL_isCut_129 (by decide) 132 rfl (fun c129 => ?_) (fun c129 => ?_)
              · -- to 136
                replace c129 : ¬ (tdb K pr tc N9 i) = (tdb K pr tc N9 (i + 1) - 1) + 1 := fun q => c129 ((bv_t (by omega) (by omega)).mpr q).symm
                refine tg_iconst C (nI 1) dL_isCut_136 137 rfl (by decide) ?_
                refine tg_iadd C (nI (stc (fun i => tdb K pr tc N9 (i + 1) - 1) (i + 1))) dL_isCut_137 138 rfl (by rw [nI_add, show stc (fun i => tdb K pr tc N9 (i + 1) - 1) (i + 1) = stc (fun i => tdb K pr tc N9 (i + 1) - 1) i + 1 from congrArg (stc (fun i => tdb K pr tc N9 (i + 1) - 1) i + ·) (stc_st2 (by omega))]) ?_
                refine tg_istore C dL_isCut_138 140 rfl [(5, .int (nI (stc (fun i => tdb K pr tc N9 (i + 1) - 1) (i + 1)))), (4, .int (nI ((tcs K pr tc N9 i) + (K i (tdb K pr tc N9 (i + 1) - 1) + chg pr (tdb K pr tc N9 i) (tdb K pr tc N9 (i + 1) - 1))))), (7, .int (nI 1)), (9, .int (nI ((tdb K pr tc N9 (i + 1) - 1)))), (0, .ref (ad 0)), (1, .int (nI pr)), (2, .int (nI n)), (3, .int (nI N9)), (6, .int (bv (tdb K pr tc N9 i))), (8, .int (nI i))] (by decide) rfl ?_
                refine tg_iload C dL_isCut_140 142 rfl 3 rfl ?_
                refine tg_top (y := bv (tdb K pr tc N9 (i + 1))) (bv_of htd.1) ?_
                refine tg_istore C dL_isCut_142 144 rfl [(6, .int (bv (tdb K pr tc N9 (i + 1)))), (5, .int (nI (stc (fun i => tdb K pr tc N9 (i + 1) - 1) (i + 1)))), (4, .int (nI ((tcs K pr tc N9 i) + (K i (tdb K pr tc N9 (i + 1) - 1) + chg pr (tdb K pr tc N9 i) (tdb K pr tc N9 (i + 1) - 1))))), (7, .int (nI 1)), (9, .int (nI ((tdb K pr tc N9 (i + 1) - 1)))), (0, .ref (ad 0)), (1, .int (nI pr)), (2, .int (nI n)), (3, .int (nI N9)), (8, .int (nI i))] (by decide) rfl ?_
                refine tg_iinc C (nI (i + 1)) dL_isCut_144 147 rfl 9 rfl (nI_add i 1) [(8, .int (nI (i + 1))), (6, .int (bv (tdb K pr tc N9 (i + 1)))), (5, .int (nI (stc (fun i => tdb K pr tc N9 (i + 1) - 1) (i + 1)))), (4, .int (nI ((tcs K pr tc N9 i) + (K i (tdb K pr tc N9 (i + 1) - 1) + chg pr (tdb K pr tc N9 i) (tdb K pr tc N9 (i + 1) - 1))))), (7, .int (nI 1)), (9, .int (nI ((tdb K pr tc N9 (i + 1) - 1)))), (0, .ref (ad 0)), (1, .int (nI pr)), (2, .int (nI n)), (3, .int (nI N9))] (by decide) rfl ?_
                refine tg_goto C 39 dL_isCut_147 (by decide) ?_
                refine tg_sub [6, 7, 8, 9, 3, 2, 1, 4, 0] rfl ?_
                refine tg_widen (k := 5 * (i + 1)) (n := 30 * (i + 1)) (by omega) (by omega) ?_
                exact ih39 (i + 1) τ53 ⟨by omega, hf2⟩ (by omega)
              · -- on
                replace c129 : (tdb K pr tc N9 i) = (tdb K pr tc N9 (i + 1) - 1) + 1 := (bv_t (by omega) (by omega)).mp c129.symm
                refine tg_iconst C (nI 0) dL_isCut_132 133 rfl (by decide) ?_
                refine tg_goto C 137 dL_isCut_133 (by decide) ?_
                refine tg_iadd C (nI (stc (fun i => tdb K pr tc N9 (i + 1) - 1) (i + 1))) dL_isCut_137 138 rfl (by rw [nI_add, show stc (fun i => tdb K pr tc N9 (i + 1) - 1) (i + 1) = stc (fun i => tdb K pr tc N9 (i + 1) - 1) i + 0 from congrArg (stc (fun i => tdb K pr tc N9 (i + 1) - 1) i + ·) (stc_st1 (by omega))]) ?_
                refine tg_istore C dL_isCut_138 140 rfl [(5, .int (nI (stc (fun i => tdb K pr tc N9 (i + 1) - 1) (i + 1)))), (4, .int (nI ((tcs K pr tc N9 i) + (K i (tdb K pr tc N9 (i + 1) - 1) + chg pr (tdb K pr tc N9 i) (tdb K pr tc N9 (i + 1) - 1))))), (7, .int (nI 1)), (9, .int (nI ((tdb K pr tc N9 (i + 1) - 1)))), (0, .ref (ad 0)), (1, .int (nI pr)), (2, .int (nI n)), (3, .int (nI N9)), (6, .int (bv (tdb K pr tc N9 i))), (8, .int (nI i))] (by decide) rfl ?_
                refine tg_iload C dL_isCut_140 142 rfl 3 rfl ?_
                refine tg_top (y := bv (tdb K pr tc N9 (i + 1))) (bv_of htd.1) ?_
                refine tg_istore C dL_isCut_142 144 rfl [(6, .int (bv (tdb K pr tc N9 (i + 1)))), (5, .int (nI (stc (fun i => tdb K pr tc N9 (i + 1) - 1) (i + 1)))), (4, .int (nI ((tcs K pr tc N9 i) + (K i (tdb K pr tc N9 (i + 1) - 1) + chg pr (tdb K pr tc N9 i) (tdb K pr tc N9 (i + 1) - 1))))), (7, .int (nI 1)), (9, .int (nI ((tdb K pr tc N9 (i + 1) - 1)))), (0, .ref (ad 0)), (1, .int (nI pr)), (2, .int (nI n)), (3, .int (nI N9)), (8, .int (nI i))] (by decide) rfl ?_
                refine tg_iinc C (nI (i + 1)) dL_isCut_144 147 rfl 9 rfl (nI_add i 1) [(8, .int (nI (i + 1))), (6, .int (bv (tdb K pr tc N9 (i + 1)))), (5, .int (nI (stc (fun i => tdb K pr tc N9 (i + 1) - 1) (i + 1)))), (4, .int (nI ((tcs K pr tc N9 i) + (K i (tdb K pr tc N9 (i + 1) - 1) + chg pr (tdb K pr tc N9 i) (tdb K pr tc N9 (i + 1) - 1))))), (7, .int (nI 1)), (9, .int (nI ((tdb K pr tc N9 (i + 1) - 1)))), (0, .ref (ad 0)), (1, .int (nI pr)), (2, .int (nI n)), (3, .int (nI N9))] (by decide) rfl ?_
                refine tg_goto C 39 dL_isCut_147 (by decide) ?_
                refine tg_sub [6, 7, 8, 9, 3, 2, 1, 4, 0] rfl ?_
                refine tg_widen (k := 5 * (i + 1)) (n := 30 * (i + 1)) (by omega) (by omega) ?_
                exact ih39 (i + 1) τ53 ⟨by omega, hf2⟩ (by omega)
            · -- on
              replace c107 : (tdb K pr tc N9 i) = (tdb K pr tc N9 (i + 1) - 1) + 1 := (bv_t (by omega) (by omega)).mp c107
              refine tg_iconst C (nI 0) dL_isCut_110 111 rfl (by decide) ?_
              refine tg_goto C 115 dL_isCut_111 (by decide) ?_
              refine tg_iadd C (nI (K i (tdb K pr tc N9 (i + 1) - 1) + chg pr (tdb K pr tc N9 i) (tdb K pr tc N9 (i + 1) - 1))) dL_isCut_115 116 rfl (by rw [nI_add, show chg pr (tdb K pr tc N9 i) (tdb K pr tc N9 (i + 1) - 1) = 0 from if_pos (by omega)]) ?_
              refine tg_goto C 120 dL_isCut_116 (by decide) ?_
              refine tg_iadd C (nI ((tcs K pr tc N9 i) + (K i (tdb K pr tc N9 (i + 1) - 1) + chg pr (tdb K pr tc N9 i) (tdb K pr tc N9 (i + 1) - 1)))) dL_isCut_120 121 rfl (nI_add (tcs K pr tc N9 i) (K i (tdb K pr tc N9 (i + 1) - 1) + chg pr (tdb K pr tc N9 i) (tdb K pr tc N9 (i + 1) - 1))) ?_
              refine tg_istore C dL_isCut_121 123 rfl [(4, .int (nI ((tcs K pr tc N9 i) + (K i (tdb K pr tc N9 (i + 1) - 1) + chg pr (tdb K pr tc N9 i) (tdb K pr tc N9 (i + 1) - 1))))), (7, .int (nI 1)), (9, .int (nI ((tdb K pr tc N9 (i + 1) - 1)))), (0, .ref (ad 0)), (1, .int (nI pr)), (2, .int (nI n)), (3, .int (nI N9)), (5, .int (nI (stc (fun i => tdb K pr tc N9 (i + 1) - 1) i))), (6, .int (bv (tdb K pr tc N9 i))), (8, .int (nI i))] (by decide) rfl ?_
              refine tg_iload C dL_isCut_123 125 rfl 7 rfl ?_
              refine tg_iload C dL_isCut_125 127 rfl 2 rfl ?_
              refine tg_iload C dL_isCut_127 129 rfl 8 rfl ?_
              refine tg_icmp_ne C 136 dL_isCut_129 (by decide) 132 rfl (fun c129 => ?_) (fun c129 => ?_)
              · -- to 136
                replace c129 : ¬ (tdb K pr tc N9 i) = (tdb K pr tc N9 (i + 1) - 1) + 1 := fun q => c129 ((bv_t (by omega) (by omega)).mpr q).symm
                refine tg_iconst C (nI 1) dL_isCut_136 137 rfl (by decide) ?_
                refine tg_iadd C (nI (stc (fun i => tdb K pr tc N9 (i + 1) - 1) (i + 1))) dL_isCut_137 138 rfl (by rw [nI_add, show stc (fun i => tdb K pr tc N9 (i + 1) - 1) (i + 1) = stc (fun i => tdb K pr tc N9 (i + 1) - 1) i + 1 from congrArg (stc (fun i => tdb K pr tc N9 (i + 1) - 1) i + ·) (stc_st2 (by omega))]) ?_
                refine tg_istore C dL_isCut_138 140 rfl [(5, .int (nI (stc (fun i => tdb K pr tc N9 (i + 1) - 1) (i + 1)))), (4, .int (nI ((tcs K pr tc N9 i) + (K i (tdb K pr tc N9 (i + 1) - 1) + chg pr (tdb K pr tc N9 i) (tdb K pr tc N9 (i + 1) - 1))))), (7, .int (nI 1)), (9, .int (nI ((tdb K pr tc N9 (i + 1) - 1)))), (0, .ref (ad 0)), (1, .int (nI pr)), (2, .int (nI n)), (3, .int (nI N9)), (6, .int (bv (tdb K pr tc N9 i))), (8, .int (nI i))] (by decide) rfl ?_
                refine tg_iload C dL_isCut_140 142 rfl 3 rfl ?_
                refine tg_top (y := bv (tdb K pr tc N9 (i + 1))) (bv_of htd.1) ?_
                refine tg_istore C dL_isCut_142 144 rfl [(6, .int (bv (tdb K pr tc N9 (i + 1)))), (5, .int (nI (stc (fun i => tdb K pr tc N9 (i + 1) - 1) (i + 1)))), (4, .int (nI ((tcs K pr tc N9 i) + (K i (tdb K pr tc N9 (i + 1) - 1) + chg pr (tdb K pr tc N9 i) (tdb K pr tc N9 (i + 1) - 1))))), (7, .int (nI 1)), (9, .int (nI ((tdb K pr tc N9 (i + 1) - 1)))), (0, .ref (ad 0)), (1, .int (nI pr)), (2, .int (nI n)), (3, .int (nI N9)), (8, .int (nI i))] (by decide) rfl ?_
                refine tg_iinc C (nI (i + 1)) dL_isCut_144 147 rfl 9 rfl (nI_add i 1) [(8, .int (nI (i + 1))), (6, .int (bv (tdb K pr tc N9 (i + 1)))), (5, .int (nI (stc (fun i => tdb K pr tc N9 (i + 1) - 1) (i + 1)))), (4, .int (nI ((tcs K pr tc N9 i) + (K i (tdb K pr tc N9 (i + 1) - 1) + chg pr (tdb K pr tc N9 i) (tdb K pr tc N9 (i + 1) - 1))))), (7, .int (nI 1)), (9, .int (nI ((tdb K pr tc N9 (i + 1) - 1)))), (0, .ref (ad 0)), (1, .int (nI pr)), (2, .int (nI n)), (3, .int (nI N9))] (by decide) rfl ?_
                refine tg_goto C 39 dL_isCut_147 (by decide) ?_
                refine tg_sub [6, 7, 8, 9, 3, 2, 1, 4, 0] rfl ?_
                refine tg_widen (k := 5 * (i + 1)) (n := 30 * (i + 1)) (by omega) (by omega) ?_
                exact ih39 (i + 1) τ53 ⟨by omega, hf2⟩ (by omega)
              · -- on
                replace c129 : (tdb K pr tc N9 i) = (tdb K pr tc N9 (i + 1) - 1) + 1 := (bv_t (by omega) (by omega)).mp c129.symm
                refine tg_iconst C (nI 0) dL_isCut_132 133 rfl (by decide) ?_
                refine tg_goto C 137 dL_isCut_133 (by decide) ?_
                refine tg_iadd C (nI (stc (fun i => tdb K pr tc N9 (i + 1) - 1) (i + 1))) dL_isCut_137 138 rfl (by rw [nI_add, show stc (fun i => tdb K pr tc N9 (i + 1) - 1) (i + 1) = stc (fun i => tdb K pr tc N9 (i + 1) - 1) i + 0 from congrArg (stc (fun i => tdb K pr tc N9 (i + 1) - 1) i + ·) (stc_st1 (by omega))]) ?_
                refine tg_istore C dL_isCut_138 140 rfl [(5, .int (nI (stc (fun i => tdb K pr tc N9 (i + 1) - 1) (i + 1)))), (4, .int (nI ((tcs K pr tc N9 i) + (K i (tdb K pr tc N9 (i + 1) - 1) + chg pr (tdb K pr tc N9 i) (tdb K pr tc N9 (i + 1) - 1))))), (7, .int (nI 1)), (9, .int (nI ((tdb K pr tc N9 (i + 1) - 1)))), (0, .ref (ad 0)), (1, .int (nI pr)), (2, .int (nI n)), (3, .int (nI N9)), (6, .int (bv (tdb K pr tc N9 i))), (8, .int (nI i))] (by decide) rfl ?_
                refine tg_iload C dL_isCut_140 142 rfl 3 rfl ?_
                refine tg_top (y := bv (tdb K pr tc N9 (i + 1))) (bv_of htd.1) ?_
                refine tg_istore C dL_isCut_142 144 rfl [(6, .int (bv (tdb K pr tc N9 (i + 1)))), (5, .int (nI (stc (fun i => tdb K pr tc N9 (i + 1) - 1) (i + 1)))), (4, .int (nI ((tcs K pr tc N9 i) + (K i (tdb K pr tc N9 (i + 1) - 1) + chg pr (tdb K pr tc N9 i) (tdb K pr tc N9 (i + 1) - 1))))), (7, .int (nI 1)), (9, .int (nI ((tdb K pr tc N9 (i + 1) - 1)))), (0, .ref (ad 0)), (1, .int (nI pr)), (2, .int (nI n)), (3, .int (nI N9)), (8, .int (nI i))] (by decide) rfl ?_
                refine tg_iinc C (nI (i + 1)) dL_isCut_144 147 rfl 9 rfl (nI_add i 1) [(8, .int (nI (i + 1))), (6, .int (bv (tdb K pr tc N9 (i + 1)))), (5, .int (nI (stc (fun i => tdb K pr tc N9 (i + 1) - 1) (i + 1)))), (4, .int (nI ((tcs K pr tc N9 i) + (K i (tdb K pr tc N9 (i + 1) - 1) + chg pr (tdb K pr tc N9 i) (tdb K pr tc N9 (i + 1) - 1))))), (7, .int (nI 1)), (9, .int (nI ((tdb K pr tc N9 (i + 1) - 1)))), (0, .ref (ad 0)), (1, .int (nI pr)), (2, .int (nI n)), (3, .int (nI N9))] (by decide) rfl ?_
                refine tg_goto C 39 dL_isCut_147 (by decide) ?_
                refine tg_sub [6, 7, 8, 9, 3, 2, 1, 4, 0] rfl ?_
                refine tg_widen (k := 5 * (i + 1)) (n := 30 * (i + 1)) (by omega) (by omega) ?_
                exact ih39 (i + 1) τ53 ⟨by omega, hf2⟩ (by omega)
    refine tg_sub [6, 7, 8, 5, 4, 3, 2, 1, 0] rfl ?_
    refine tg_widen (k := 5 * 0) (n := 30 * 0) (by omega) (by omega) ?_
    exact L39 _ 0 σ ⟨by omega, fun _ _ => rfl⟩ (Nat.lt_succ_self _)
  · -- on
    replace c16 : n = 0 := (z_eq (by omega)).mp c16
    refine tg_iconst C (nI 0) dL_isCut_19 20 rfl (by decide) ?_
    refine tg_goto C 26 dL_isCut_20 (by decide) ?_
    refine tg_icmp_ne C 33 dL_isCut_26 (by decide) 29 rfl (fun c26 => absurd (by rw [← hN, rc_0 c16]) c26) (fun c26 => ?_)
    refine tg_iconst C (nI 1) dL_isCut_29 30 rfl (by decide) ?_
    refine tg_goto C 34 dL_isCut_30 (by decide) ?_
    refine tg_istore C dL_isCut_34 36 rfl [(7, .int (nI 1)), (6, .int ((-1))), (5, .int (nI 0)), (4, .int (nI 0)), (3, .int (nI N9)), (0, .ref (ad 0)), (1, .int (nI pr)), (2, .int (nI n))] (by decide) rfl ?_
    refine tg_iconst C (nI 0) dL_isCut_36 37 rfl (by decide) ?_
    refine tg_istore C dL_isCut_37 39 rfl [(8, .int (nI 0)), (7, .int (nI 1)), (6, .int ((-1))), (5, .int (nI 0)), (4, .int (nI 0)), (3, .int (nI N9)), (0, .ref (ad 0)), (1, .int (nI pr)), (2, .int (nI n))] (by decide) rfl ?_
    have L39 : ∀ (n39 : Nat) (i : Nat) (σ1 : sS), (i ≤ N9 ∧ ∀ j, j < 51 → σ1 j = σ j) → N9 - i < n39 → TT p l e (Rx 9 215 94 564) s m args below meth c D cy ad A 10 (5 * i) (30 * i) Q σ1 39 [(0, .ref (ad 0)), (1, .int (nI pr)), (2, .int (nI n)), (3, .int (nI N9)), (4, .int (nI (tcs K pr tc N9 i))), (5, .int (nI (stc (fun i => tdb K pr tc N9 (i + 1) - 1) i))), (6, .int (bv (tdb K pr tc N9 i))), (7, .int (nI 1)), (8, .int (nI i))] [] := by
      intro n39
      induction n39 with
      | zero => intro i σ1 _ hn39; exact absurd hn39 (Nat.not_lt_zero _)
      | succ n39 ih39 =>
        intro i σ1 ⟨hi, hf⟩ hn39
        have hX1 := hX.fr (hf 0 (by decide))
        have hS1 := hS.fr (hf 1 (by decide)) (hf 2 (by decide))
        have hT1 := hT.fr (fun j _ h => hf j (by omega))
        refine tg_iload C dL_isCut_39 41 rfl 8 rfl ?_
        refine tg_iload_n C dL_isCut_41 42 rfl rfl 3 rfl ?_
        refine tg_icmp_ge C 150 dL_isCut_42 (by decide) 45 rfl (fun c42 => ?_) (fun c42 => ?_)
        · -- to 150
          replace c42 : N9 ≤ i := (nI_leI (by omega) (by omega)).mp c42
          have hiN : i = N9 := by omega
          have hcut : tcs K pr tc N9 i = lb K pr tc N9 N9 0 := by rw [hiN]; exact tcs_end
          refine tg_iconst C (nI 0) dL_isCut_150 151 rfl (by decide) ?_
          refine tg_istore C dL_isCut_151 153 rfl [(8, .int (nI 0)), (0, .ref (ad 0)), (1, .int (nI pr)), (2, .int (nI n)), (3, .int (nI N9)), (4, .int (nI (tcs K pr tc N9 i))), (5, .int (nI (stc (fun i => tdb K pr tc N9 (i + 1) - 1) i))), (6, .int (bv (tdb K pr tc N9 i))), (7, .int (nI 1))] (by decide) rfl ?_
          have L153 : ∀ (n153 : Nat) (t : Nat), (t ≤ tc) → tc - t < n153 → TT p l e (Rx 9 215 94 564) s m args below meth c D cy ad A 10 (5 * i + t) (30 * i + 6 * t) Q σ1 153 [(0, .ref (ad 0)), (2, .int (nI n)), (4, .int (nI (tcs K pr tc N9 i))), (5, .int (nI (stc (fun i => tdb K pr tc N9 (i + 1) - 1) i))), (7, .int (nI 1)), (8, .int (nI t))] [] := by
            intro n153
            induction n153 with
            | zero => intro t _ hn153; exact absurd hn153 (Nat.not_lt_zero _)
            | succ n153 ih153 =>
              intro t ht hn153
              refine tg_iload C dL_isCut_153 155 rfl 5 rfl ?_
              refine tg_aload_n C dL_isCut_155 156 rfl rfl 0 rfl ?_
              refine tg_callVi C 0 (by decide) (e_0 ad cy _) rfl (c_X4_tongues l D cy ad hDis σ1 hX1) (cwV 0 C.2.2.2.2.1 gL_isCut_X4_tongues rfl rfl rfl (by decide +kernel) ⟨(Nat.le_of_ble_eq_true rfl), (Nat.le_of_ble_eq_true rfl)⟩) rfl rfl (Nat.le_of_ble_eq_true rfl) ⟨(show 5 * i + t ≤ 94 by omega), (show 30 * i + 6 * t ≤ 564 by omega)⟩ dL_isCut_156 159 rfl (fun r156 τ156 h156 => ?_)
              obtain ⟨h156, h156s⟩ := h156
              subst h156s
              subst h156
              refine tg_icmp_ge C 191 dL_isCut_159 (by decide) 162 rfl (fun c159 => ?_) (fun c159 => ?_)
              · -- to 191
                replace c159 : tc ≤ t := (nI_leI (by omega) (by omega)).mp c159
                refine tg_iload C dL_isCut_191 193 rfl 4 rfl ?_
                refine tg_if_eq C 232 dL_isCut_193 (by decide) 196 rfl (fun c193 => absurd c193 (by decide)) (fun c193 => ?_)
                refine tg_aload_n C dL_isCut_196 197 rfl rfl 0 rfl ?_
                refine tg_callYV C hE 0 (by decide) (e_0 ad cy _) rfl (y_cutCost l hl0 D cy ad hDis σ1 hX1 hS1 hT1 hK hN htc) (cwV 0 C.2.2.2.2.1 gL_isCut_X4_cutCost rfl rfl rfl (by decide +kernel) ⟨(Nat.le_of_ble_eq_true rfl), (Nat.le_of_ble_eq_true rfl)⟩) rfl rfl (Nat.le_of_ble_eq_true rfl) ⟨(show 5 * i + t + 1 ≤ 94 by omega), (show 30 * i + 6 * t + 6 ≤ 564 by omega)⟩ dL_isCut_197 200 rfl (fun r197 τ197 h197 => ?_)
                have hf3 : ∀ j, j < 51 → τ197 j = σ j := fun j hj => by rw [h197.2 j hj]; exact hf j hj
                have h197 := h197.1
                subst h197
                have hX3 := hX.fr (hf3 0 (by decide))
                have hS3 := hS.fr (hf3 1 (by decide)) (hf3 2 (by decide))
                have hT3 := hT.fr (fun j _ h => hf3 j (by omega))
                refine tg_iload C dL_isCut_200 202 rfl 2 rfl ?_
                refine tg_icmp_ne C 232 dL_isCut_202 (by decide) 205 rfl (fun c202 => absurd (by rw [hcut]) c202) (fun c202 => ?_)
                refine tg_aload_n C dL_isCut_205 206 rfl rfl 0 rfl ?_
                refine tg_callYV C hE 0 (by decide) (e_0 ad cy _) rfl (y_stretches l hl0 D cy ad hDis τ197 hX3 hS3 hT3 hK hN htc) (cwV 0 C.2.2.2.2.1 gL_isCut_X4_stretches rfl rfl rfl (by decide +kernel) ⟨(Nat.le_of_ble_eq_true rfl), (Nat.le_of_ble_eq_true rfl)⟩) rfl rfl (Nat.le_of_ble_eq_true rfl) ⟨(show 5 * i + t + 1 + 1 ≤ 94 by omega), (show 30 * i + 6 * t + 6 + 6 ≤ 564 by omega)⟩ dL_isCut_206 209 rfl (fun r206 τ206 h206 => ?_)
                have hf4 : ∀ j, j < 51 → τ206 j = σ j := fun j hj => by rw [h206.2 j hj]; exact hf3 j hj
                have h206 := h206.1
                subst h206
                have hX4 := hX.fr (hf4 0 (by decide))
                have hS4 := hS.fr (hf4 1 (by decide)) (hf4 2 (by decide))
                have hT4 := hT.fr (fun j _ h => hf4 j (by omega))
                refine tg_iload C dL_isCut_209 211 rfl 3 rfl ?_
                refine tg_icmp_ne C 232 dL_isCut_211 (by decide) 214 rfl (fun c211 => absurd (by rw [hiN]) c211) (fun c211 => ?_)
                refine tg_iload_n C dL_isCut_214 215 rfl rfl 1 rfl ?_
                refine tg_iconst C (nI 5) dL_isCut_215 216 rfl (by decide) ?_
                refine tg_icmp_gt C 228 dL_isCut_216 (by decide) 219 rfl (fun c216 => ?_) (fun c216 => ?_)
                · -- to 228
                  replace c216 : 5 < n := (nI_ltI (by omega) (by omega)).mp c216
                  refine tg_iconst C (nI 1) dL_isCut_228 229 rfl (by decide) ?_
                  refine tg_goto C 233 dL_isCut_229 (by decide) ?_
                  exact hret (show 5 * i + t + 1 + 1 ≤ 94 by omega) (show 30 * i + 6 * t + 6 + 6 ≤ 564 by omega) dL_isCut_233 rfl ⟨rfl, hf4⟩
                · -- on
                  replace c216 : ¬ 5 < n := fun q => c216 ((nI_ltI (by omega) (by omega)).mpr q)
                  refine tg_aload_n C dL_isCut_219 220 rfl rfl 0 rfl ?_
                  refine tg_callYV C hE 0 (by decide) (e_0 ad cy _) rfl (y_cutCostByTrying l hl0 D cy ad hDis τ206 hX4 hS4 hT4 hK hN htc (by omega)) (cwV 0 C.2.2.2.2.1 gL_isCut_X4_cutCostByTrying rfl rfl rfl (by decide +kernel) ⟨(Nat.le_of_ble_eq_true rfl), (Nat.le_of_ble_eq_true rfl)⟩) rfl rfl (Nat.le_of_ble_eq_true rfl) ⟨(show 5 * i + t + 1 + 1 + 2 ≤ 94 by omega), (show 30 * i + 6 * t + 6 + 6 + 12 ≤ 564 by omega)⟩ dL_isCut_220 223 rfl (fun r220 τ220 h220 => ?_)
                  have hf5 : ∀ j, j < 51 → τ220 j = σ j := fun j hj => by rw [h220.2 j hj]; exact hf4 j hj
                  have h220 := h220.1
                  subst h220
                  refine tg_iload C dL_isCut_223 225 rfl 2 rfl ?_
                  refine tg_icmp_ne C 232 dL_isCut_225 (by decide) 228 rfl (fun c225 => absurd (by rw [hcut]) c225) (fun c225 => ?_)
                  refine tg_iconst C (nI 1) dL_isCut_228 229 rfl (by decide) ?_
                  refine tg_goto C 233 dL_isCut_229 (by decide) ?_
                  exact hret (show 5 * i + t + 1 + 1 + 2 ≤ 94 by omega) (show 30 * i + 6 * t + 6 + 6 + 12 ≤ 564 by omega) dL_isCut_233 rfl ⟨rfl, hf5⟩
              · -- on
                replace c159 : ¬ tc ≤ t := fun q => c159 ((nI_leI (by omega) (by omega)).mpr q)
                refine tg_iload C dL_isCut_162 164 rfl 4 rfl ?_
                refine tg_if_eq C 191 dL_isCut_164 (by decide) 167 rfl (fun c164 => absurd c164 (by decide)) (fun c164 => ?_)
                refine tg_aload_n C dL_isCut_167 168 rfl rfl 0 rfl ?_
                refine tg_iload C dL_isCut_168 170 rfl 5 rfl ?_
                refine tg_callYV C hE 0 (by decide) (e_0 ad cy _) rfl (y_textCost l hl0 D cy ad hDis σ1 hX1 hS1 hT1 (t := t) (d := ctxN n w (ct t) (mt t)) (by omega) rfl) (cwV 1 C.2.2.2.2.1 gL_isCut_X4_textCost rfl rfl rfl (by decide +kernel) ⟨(Nat.le_of_ble_eq_true rfl), (Nat.le_of_ble_eq_true rfl)⟩) rfl rfl (Nat.le_of_ble_eq_true rfl) ⟨(show 5 * i + t + 1 ≤ 94 by omega), (show 30 * i + 6 * t + 6 ≤ 564 by omega)⟩ dL_isCut_170 173 rfl (fun r170 τ170 h170 => ?_)
                obtain ⟨h170, h170s⟩ := h170
                subst h170s
                subst h170
                have hone : tcs K pr tc N9 i ≤ ctxN n w (ct t) (mt t) := by
                  rw [hcut]
                  refine Nat.le_trans (lb_one (t := t) (by omega)) (Nat.le_of_eq ?_)
                  rw [← hN, ← hK]
                  rfl
                have hcx := ctxN_le hS.2.1 w (ct t) (mt t)
                refine tg_iload C dL_isCut_173 175 rfl 2 rfl ?_
                refine tg_icmp_lt C 182 dL_isCut_175 (by decide) 178 rfl (fun c175 => absurd c175 (nI_nlt hone (by omega))) (fun c175 => ?_)
                refine tg_iconst C (nI 1) dL_isCut_178 179 rfl (by decide) ?_
                refine tg_goto C 183 dL_isCut_179 (by decide) ?_
                refine tg_istore C dL_isCut_183 185 rfl [(7, .int (nI 1)), (0, .ref (ad 0)), (2, .int (nI n)), (4, .int (nI (tcs K pr tc N9 i))), (5, .int (nI (stc (fun i => tdb K pr tc N9 (i + 1) - 1) i))), (8, .int (nI t))] (by decide) rfl ?_
                refine tg_iinc C (nI (t + 1)) dL_isCut_185 188 rfl 5 rfl (nI_add t 1) [(8, .int (nI (t + 1))), (7, .int (nI 1)), (0, .ref (ad 0)), (2, .int (nI n)), (4, .int (nI (tcs K pr tc N9 i))), (5, .int (nI (stc (fun i => tdb K pr tc N9 (i + 1) - 1) i)))] (by decide) rfl ?_
                refine tg_goto C 153 dL_isCut_188 (by decide) ?_
                refine tg_sub [2, 3, 4, 5, 1, 0] rfl ?_
                refine tg_widen (k := 5 * i + (t + 1)) (n := 30 * i + 6 * (t + 1)) (by omega) (by omega) ?_
                exact ih153 (t + 1) (by omega) (by omega)
          refine tg_sub [1, 3, 5, 6, 8, 0] rfl ?_
          refine tg_widen (k := 5 * i + 0) (n := 30 * i + 6 * 0) (by omega) (by omega) ?_
          exact L153 _ 0 (Nat.zero_le _) (Nat.lt_succ_self _)
        · -- on
          replace c42 : ¬ N9 ≤ i := fun q => c42 ((nI_leI (by omega) (by omega)).mpr q)
          refine tg_iload C dL_isCut_45 47 rfl 7 rfl ?_
          refine tg_if_eq C 150 dL_isCut_47 (by decide) 50 rfl (fun c47 => absurd c47 (by decide)) (fun c47 => ?_)
          refine tg_aload_n C dL_isCut_50 51 rfl rfl 0 rfl ?_
          refine tg_iload C dL_isCut_51 53 rfl 8 rfl ?_
          refine tg_callYV C hE 0 (by decide) (e_0 ad cy _) rfl (y_cutTongue l hl0 D cy ad hDis σ1 hX1 hS1 hT1 hK hN htc (k := i) (by omega)) (cwV 1 C.2.2.2.2.1 gL_isCut_X4_cutTongue rfl rfl rfl (by decide +kernel) ⟨(Nat.le_of_ble_eq_true rfl), (Nat.le_of_ble_eq_true rfl)⟩) rfl rfl (Nat.le_of_ble_eq_true rfl) ⟨(show 5 * i + 2 ≤ 94 by omega), (show 30 * i + 12 ≤ 564 by omega)⟩ dL_isCut_53 56 rfl (fun r53 τ53 h53 => ?_)
          have hf2 : ∀ j, j < 51 → τ53 j = σ j := fun j hj => by rw [h53.2 j hj]; exact hf j hj
          have h53 := h53.1
          subst h53
          have hX2 := hX.fr (hf2 0 (by decide))
          have hS2 := hS.fr (hf2 1 (by decide)) (hf2 2 (by decide))
          have hT2 := hT.fr (fun j _ h => hf2 j (by omega))
          have htd := tdb_in (k := K) (pr := pr) (N := N9) htc i
          have hbd := tdb_le (k := K) (pr := pr) (N := N9) htc i
          have hkd : K i (tdb K pr tc N9 (i + 1) - 1) ≤ 10 := hKb _ _
          have htcs : tcs K pr tc N9 i ≤ 170 := tcs_le (fun p t _ _ => hKb p t) hpr htc (by omega) hN17
          refine tg_istore C dL_isCut_56 58 rfl [(9, .int (nI ((tdb K pr tc N9 (i + 1) - 1)))), (0, .ref (ad 0)), (1, .int (nI pr)), (2, .int (nI n)), (3, .int (nI N9)), (4, .int (nI (tcs K pr tc N9 i))), (5, .int (nI (stc (fun i => tdb K pr tc N9 (i + 1) - 1) i))), (6, .int (bv (tdb K pr tc N9 i))), (7, .int (nI 1)), (8, .int (nI i))] (by decide) rfl ?_
          refine tg_iload C dL_isCut_58 60 rfl 0 rfl ?_
          refine tg_if_lt C 76 dL_isCut_60 (by decide) 63 rfl (fun c60 => absurd c60 (z_nlt (by omega))) (fun c60 => ?_)
          refine tg_iload C dL_isCut_63 65 rfl 0 rfl ?_
          refine tg_aload_n C dL_isCut_65 66 rfl rfl 1 rfl ?_
          refine tg_callVi C 0 (by decide) (e_0 ad cy _) rfl (c_X4_tongues l D cy ad hDis τ53 hX2) (cwV 0 C.2.2.2.2.1 gL_isCut_X4_tongues rfl rfl rfl (by decide +kernel) ⟨(Nat.le_of_ble_eq_true rfl), (Nat.le_of_ble_eq_true rfl)⟩) rfl rfl (Nat.le_of_ble_eq_true rfl) ⟨(show 5 * i + 2 ≤ 94 by omega), (show 30 * i + 12 ≤ 564 by omega)⟩ dL_isCut_66 69 rfl (fun r66 τ66 h66 => ?_)
          obtain ⟨h66, h66s⟩ := h66
          subst h66s
          subst h66
          refine tg_icmp_ge C 76 dL_isCut_69 (by decide) 72 rfl (fun c69 => absurd c69 (nI_ge (by omega) (by omega))) (fun c69 => ?_)
          refine tg_iconst C (nI 1) dL_isCut_72 73 rfl (by decide) ?_
          refine tg_goto C 77 dL_isCut_73 (by decide) ?_
          refine tg_istore C dL_isCut_77 79 rfl [(7, .int (nI 1)), (9, .int (nI ((tdb K pr tc N9 (i + 1) - 1)))), (0, .ref (ad 0)), (1, .int (nI pr)), (2, .int (nI n)), (3, .int (nI N9)), (4, .int (nI (tcs K pr tc N9 i))), (5, .int (nI (stc (fun i => tdb K pr tc N9 (i + 1) - 1) i))), (6, .int (bv (tdb K pr tc N9 i))), (8, .int (nI i))] (by decide) rfl ?_
          refine tg_iload C dL_isCut_79 81 rfl 6 rfl ?_
          refine tg_iload C dL_isCut_81 83 rfl 0 rfl ?_
          refine tg_if_eq C 119 dL_isCut_83 (by decide) 86 rfl (fun c83 => absurd c83 (by decide)) (fun c83 => ?_)
          refine tg_aload_n C dL_isCut_86 87 rfl rfl 2 rfl ?_
          refine tg_iload C dL_isCut_87 89 rfl 1 rfl ?_
          refine tg_aload_n C dL_isCut_89 90 rfl rfl 2 rfl ?_
          refine tg_iload C dL_isCut_90 92 rfl 9 rfl ?_
          refine tg_callYV C hE 0 (by decide) (e_0 ad cy _) rfl (y_runAt l hl0 D cy ad hDis τ53 hS2 (k := i) (d := rn n w i) (by omega) rfl) (cwV 1 C.2.2.2.2.1 gL_isCut_X4_runAt rfl rfl rfl (by decide +kernel) ⟨(Nat.le_of_ble_eq_true rfl), (Nat.le_of_ble_eq_true rfl)⟩) rfl rfl (Nat.le_of_ble_eq_true rfl) ⟨(show 5 * i + 2 + 1 ≤ 94 by omega), (show 30 * i + 12 + 6 ≤ 564 by omega)⟩ dL_isCut_92 95 rfl (fun r92 τ92 h92 => ?_)
          obtain ⟨h92, h92s⟩ := h92
          subst h92s
          subst h92
          refine tg_callYV C hE 0 (by decide) (e_0 ad cy _) rfl (y_cost l hl0 D cy ad hDis τ53 hX2 hT2 (t := (tdb K pr tc N9 (i + 1) - 1)) (k := rn n w i) (d := K i (tdb K pr tc N9 (i + 1) - 1)) htd.2 (rn_lt (fun k hk => (hS.2.2 k hk).2) i) (by rw [← hK]; rfl)) (cwV 2 C.2.2.2.2.1 gL_isCut_X4_cost rfl rfl rfl (by decide +kernel) ⟨(Nat.le_of_ble_eq_true rfl), (Nat.le_of_ble_eq_true rfl)⟩) rfl rfl (Nat.le_of_ble_eq_true rfl) ⟨(show 5 * i + 2 + 1 + 2 ≤ 94 by omega), (show 30 * i + 12 + 6 + 12 ≤ 564 by omega)⟩ dL_isCut_95 98 rfl (fun r95 τ95 h95 => ?_)
          obtain ⟨h95, h95s⟩ := h95
          subst h95s
          subst h95
          refine tg_iload C dL_isCut_98 100 rfl 8 rfl ?_
          refine tg_if_lt C 110 dL_isCut_100 (by decide) 103 rfl (fun c100 => ?_) (fun c100 => ?_)
          · -- to 110
            replace c100 := (bv_lt (by omega)).mp c100
            refine tg_iconst C (nI 0) dL_isCut_110 111 rfl (by decide) ?_
            refine tg_goto C 115 dL_isCut_111 (by decide) ?_
            refine tg_iadd C (nI (K i (tdb K pr tc N9 (i + 1) - 1) + chg pr (tdb K pr tc N9 i) (tdb K pr tc N9 (i + 1) - 1))) dL_isCut_115 116 rfl (by rw [nI_add, show chg pr (tdb K pr tc N9 i) (tdb K pr tc N9 (i + 1) - 1) = 0 from if_pos (by omega)]) ?_
            refine tg_goto C 120 dL_isCut_116 (by decide) ?_
            refine tg_iadd C (nI ((tcs K pr tc N9 i) + (K i (tdb K pr tc N9 (i + 1) - 1) + chg pr (tdb K pr tc N9 i) (tdb K pr tc N9 (i + 1) - 1)))) dL_isCut_120 121 rfl (nI_add (tcs K pr tc N9 i) (K i (tdb K pr tc N9 (i + 1) - 1) + chg pr (tdb K pr tc N9 i) (tdb K pr tc N9 (i + 1) - 1))) ?_
            refine tg_istore C dL_isCut_121 123 rfl [(4, .int (nI ((tcs K pr tc N9 i) + (K i (tdb K pr tc N9 (i + 1) - 1) + chg pr (tdb K pr tc N9 i) (tdb K pr tc N9 (i + 1) - 1))))), (7, .int (nI 1)), (9, .int (nI ((tdb K pr tc N9 (i + 1) - 1)))), (0, .ref (ad 0)), (1, .int (nI pr)), (2, .int (nI n)), (3, .int (nI N9)), (5, .int (nI (stc (fun i => tdb K pr tc N9 (i + 1) - 1) i))), (6, .int (bv (tdb K pr tc N9 i))), (8, .int (nI i))] (by decide) rfl ?_
            refine tg_iload C dL_isCut_123 125 rfl 7 rfl ?_
            refine tg_iload C dL_isCut_125 127 rfl 2 rfl ?_
            refine tg_iload C dL_isCut_127 129 rfl 8 rfl ?_
            refine tg_icmp_ne C 136 dL_isCut_129 (by decide) 132 rfl (fun c129 => ?_) (fun c129 => ?_)
            · -- to 136
              replace c129 : ¬ (tdb K pr tc N9 i) = (tdb K pr tc N9 (i + 1) - 1) + 1 := fun q => c129 ((bv_t (by omega) (by omega)).mpr q).symm
              refine tg_iconst C (nI 1) dL_isCut_136 137 rfl (by decide) ?_
              refine tg_iadd C (nI (stc (fun i => tdb K pr tc N9 (i + 1) - 1) (i + 1))) dL_isCut_137 138 rfl (by rw [nI_add, show stc (fun i => tdb K pr tc N9 (i + 1) - 1) (i + 1) = stc (fun i => tdb K pr tc N9 (i + 1) - 1) i + 1 from congrArg (stc (fun i => tdb K pr tc N9 (i + 1) - 1) i + ·) (stc_st2 (by omega))]) ?_
              refine tg_istore C dL_isCut_138 140 rfl [(5, .int (nI (stc (fun i => tdb K pr tc N9 (i + 1) - 1) (i + 1)))), (4, .int (nI ((tcs K pr tc N9 i) + (K i (tdb K pr tc N9 (i + 1) - 1) + chg pr (tdb K pr tc N9 i) (tdb K pr tc N9 (i + 1) - 1))))), (7, .int (nI 1)), (9, .int (nI ((tdb K pr tc N9 (i + 1) - 1)))), (0, .ref (ad 0)), (1, .int (nI pr)), (2, .int (nI n)), (3, .int (nI N9)), (6, .int (bv (tdb K pr tc N9 i))), (8, .int (nI i))] (by decide) rfl ?_
              refine tg_iload C dL_isCut_140 142 rfl 3 rfl ?_
              refine tg_top (y := bv (tdb K pr tc N9 (i + 1))) (bv_of htd.1) ?_
              refine tg_istore C dL_isCut_142 144 rfl [(6, .int (bv (tdb K pr tc N9 (i + 1)))), (5, .int (nI (stc (fun i => tdb K pr tc N9 (i + 1) - 1) (i + 1)))), (4, .int (nI ((tcs K pr tc N9 i) + (K i (tdb K pr tc N9 (i + 1) - 1) + chg pr (tdb K pr tc N9 i) (tdb K pr tc N9 (i + 1) - 1))))), (7, .int (nI 1)), (9, .int (nI ((tdb K pr tc N9 (i + 1) - 1)))), (0, .ref (ad 0)), (1, .int (nI pr)), (2, .int (nI n)), (3, .int (nI N9)), (8, .int (nI i))] (by decide) rfl ?_
              refine tg_iinc C (nI (i + 1)) dL_isCut_144 147 rfl 9 rfl (nI_add i 1) [(8, .int (nI (i + 1))), (6, .int (bv (tdb K pr tc N9 (i + 1)))), (5, .int (nI (stc (fun i => tdb K pr tc N9 (i + 1) - 1) (i + 1)))), (4, .int (nI ((tcs K pr tc N9 i) + (K i (tdb K pr tc N9 (i + 1) - 1) + chg pr (tdb K pr tc N9 i) (tdb K pr tc N9 (i + 1) - 1))))), (7, .int (nI 1)), (9, .int (nI ((tdb K pr tc N9 (i + 1) - 1)))), (0, .ref (ad 0)), (1, .int (nI pr)), (2, .int (nI n)), (3, .int (nI N9))] (by decide) rfl ?_
              refine tg_goto C 39 dL_isCut_147 (by decide) ?_
              refine tg_sub [6, 7, 8, 9, 3, 2, 1, 4, 0] rfl ?_
              refine tg_widen (k := 5 * (i + 1)) (n := 30 * (i + 1)) (by omega) (by omega) ?_
              exact ih39 (i + 1) τ53 ⟨by omega, hf2⟩ (by omega)
            · -- on
              replace c129 : (tdb K pr tc N9 i) = (tdb K pr tc N9 (i + 1) - 1) + 1 := (bv_t (by omega) (by omega)).mp c129.symm
              refine tg_iconst C (nI 0) dL_isCut_132 133 rfl (by decide) ?_
              refine tg_goto C 137 dL_isCut_133 (by decide) ?_
              refine tg_iadd C (nI (stc (fun i => tdb K pr tc N9 (i + 1) - 1) (i + 1))) dL_isCut_137 138 rfl (by rw [nI_add, show stc (fun i => tdb K pr tc N9 (i + 1) - 1) (i + 1) = stc (fun i => tdb K pr tc N9 (i + 1) - 1) i + 0 from congrArg (stc (fun i => tdb K pr tc N9 (i + 1) - 1) i + ·) (stc_st1 (by omega))]) ?_
              refine tg_istore C dL_isCut_138 140 rfl [(5, .int (nI (stc (fun i => tdb K pr tc N9 (i + 1) - 1) (i + 1)))), (4, .int (nI ((tcs K pr tc N9 i) + (K i (tdb K pr tc N9 (i + 1) - 1) + chg pr (tdb K pr tc N9 i) (tdb K pr tc N9 (i + 1) - 1))))), (7, .int (nI 1)), (9, .int (nI ((tdb K pr tc N9 (i + 1) - 1)))), (0, .ref (ad 0)), (1, .int (nI pr)), (2, .int (nI n)), (3, .int (nI N9)), (6, .int (bv (tdb K pr tc N9 i))), (8, .int (nI i))] (by decide) rfl ?_
              refine tg_iload C dL_isCut_140 142 rfl 3 rfl ?_
              refine tg_top (y := bv (tdb K pr tc N9 (i + 1))) (bv_of htd.1) ?_
              refine tg_istore C dL_isCut_142 144 rfl [(6, .int (bv (tdb K pr tc N9 (i + 1)))), (5, .int (nI (stc (fun i => tdb K pr tc N9 (i + 1) - 1) (i + 1)))), (4, .int (nI ((tcs K pr tc N9 i) + (K i (tdb K pr tc N9 (i + 1) - 1) + chg pr (tdb K pr tc N9 i) (tdb K pr tc N9 (i + 1) - 1))))), (7, .int (nI 1)), (9, .int (nI ((tdb K pr tc N9 (i + 1) - 1)))), (0, .ref (ad 0)), (1, .int (nI pr)), (2, .int (nI n)), (3, .int (nI N9)), (8, .int (nI i))] (by decide) rfl ?_
              refine tg_iinc C (nI (i + 1)) dL_isCut_144 147 rfl 9 rfl (nI_add i 1) [(8, .int (nI (i + 1))), (6, .int (bv (tdb K pr tc N9 (i + 1)))), (5, .int (nI (stc (fun i => tdb K pr tc N9 (i + 1) - 1) (i + 1)))), (4, .int (nI ((tcs K pr tc N9 i) + (K i (tdb K pr tc N9 (i + 1) - 1) + chg pr (tdb K pr tc N9 i) (tdb K pr tc N9 (i + 1) - 1))))), (7, .int (nI 1)), (9, .int (nI ((tdb K pr tc N9 (i + 1) - 1)))), (0, .ref (ad 0)), (1, .int (nI pr)), (2, .int (nI n)), (3, .int (nI N9))] (by decide) rfl ?_
              refine tg_goto C 39 dL_isCut_147 (by decide) ?_
              refine tg_sub [6, 7, 8, 9, 3, 2, 1, 4, 0] rfl ?_
              refine tg_widen (k := 5 * (i + 1)) (n := 30 * (i + 1)) (by omega) (by omega) ?_
              exact ih39 (i + 1) τ53 ⟨by omega, hf2⟩ (by omega)
          · -- on
            replace c100 : ¬ (tdb K pr tc N9 i) = 0 := fun q => c100 ((bv_lt (by omega)).mpr q)
            refine tg_iload C dL_isCut_103 105 rfl 8 rfl ?_
            refine tg_iload C dL_isCut_105 107 rfl 1 rfl ?_
            refine tg_icmp_ne C 114 dL_isCut_107 (by decide) 110 rfl (fun c107 => ?_) (fun c107 => ?_)
            · -- to 114
              replace c107 : ¬ (tdb K pr tc N9 i) = (tdb K pr tc N9 (i + 1) - 1) + 1 := fun q => c107 ((bv_t (by omega) (by omega)).mpr q)
              refine tg_iload_n C dL_isCut_114 115 rfl rfl 3 rfl ?_
              refine tg_iadd C (nI (K i (tdb K pr tc N9 (i + 1) - 1) + chg pr (tdb K pr tc N9 i) (tdb K pr tc N9 (i + 1) - 1))) dL_isCut_115 116 rfl (by rw [nI_add, show chg pr (tdb K pr tc N9 i) (tdb K pr tc N9 (i + 1) - 1) = pr from if_neg (by omega)]) ?_
              refine tg_goto C 120 dL_isCut_116 (by decide) ?_
              refine tg_iadd C (nI ((tcs K pr tc N9 i) + (K i (tdb K pr tc N9 (i + 1) - 1) + chg pr (tdb K pr tc N9 i) (tdb K pr tc N9 (i + 1) - 1)))) dL_isCut_120 121 rfl (nI_add (tcs K pr tc N9 i) (K i (tdb K pr tc N9 (i + 1) - 1) + chg pr (tdb K pr tc N9 i) (tdb K pr tc N9 (i + 1) - 1))) ?_
              refine tg_istore C dL_isCut_121 123 rfl [(4, .int (nI ((tcs K pr tc N9 i) + (K i (tdb K pr tc N9 (i + 1) - 1) + chg pr (tdb K pr tc N9 i) (tdb K pr tc N9 (i + 1) - 1))))), (7, .int (nI 1)), (9, .int (nI ((tdb K pr tc N9 (i + 1) - 1)))), (0, .ref (ad 0)), (1, .int (nI pr)), (2, .int (nI n)), (3, .int (nI N9)), (5, .int (nI (stc (fun i => tdb K pr tc N9 (i + 1) - 1) i))), (6, .int (bv (tdb K pr tc N9 i))), (8, .int (nI i))] (by decide) rfl ?_
              refine tg_iload C dL_isCut_123 125 rfl 7 rfl ?_
              refine tg_iload C dL_isCut_125 127 rfl 2 rfl ?_
              refine tg_iload C dL_isCut_127 129 rfl 8 rfl ?_
              refine tg_icmp_ne C 136 dL_isCut_129 (by decide) 132 rfl (fun c129 => ?_) (fun c129 => ?_)
              · -- to 136
                replace c129 : ¬ (tdb K pr tc N9 i) = (tdb K pr tc N9 (i + 1) - 1) + 1 := fun q => c129 ((bv_t (by omega) (by omega)).mpr q).symm
                refine tg_iconst C (nI 1) dL_isCut_136 137 rfl (by decide) ?_
                refine tg_iadd C (nI (stc (fun i => tdb K pr tc N9 (i + 1) - 1) (i + 1))) dL_isCut_137 138 rfl (by rw [nI_add, show stc (fun i => tdb K pr tc N9 (i + 1) - 1) (i + 1) = stc (fun i => tdb K pr tc N9 (i + 1) - 1) i + 1 from congrArg (stc (fun i => tdb K pr tc N9 (i + 1) - 1) i + ·) (stc_st2 (by omega))]) ?_
                refine tg_istore C dL_isCut_138 140 rfl [(5, .int (nI (stc (fun i => tdb K pr tc N9 (i + 1) - 1) (i + 1)))), (4, .int (nI ((tcs K pr tc N9 i) + (K i (tdb K pr tc N9 (i + 1) - 1) + chg pr (tdb K pr tc N9 i) (tdb K pr tc N9 (i + 1) - 1))))), (7, .int (nI 1)), (9, .int (nI ((tdb K pr tc N9 (i + 1) - 1)))), (0, .ref (ad 0)), (1, .int (nI pr)), (2, .int (nI n)), (3, .int (nI N9)), (6, .int (bv (tdb K pr tc N9 i))), (8, .int (nI i))] (by decide) rfl ?_
                refine tg_iload C dL_isCut_140 142 rfl 3 rfl ?_
                refine tg_top (y := bv (tdb K pr tc N9 (i + 1))) (bv_of htd.1) ?_
                refine tg_istore C dL_isCut_142 144 rfl [(6, .int (bv (tdb K pr tc N9 (i + 1)))), (5, .int (nI (stc (fun i => tdb K pr tc N9 (i + 1) - 1) (i + 1)))), (4, .int (nI ((tcs K pr tc N9 i) + (K i (tdb K pr tc N9 (i + 1) - 1) + chg pr (tdb K pr tc N9 i) (tdb K pr tc N9 (i + 1) - 1))))), (7, .int (nI 1)), (9, .int (nI ((tdb K pr tc N9 (i + 1) - 1)))), (0, .ref (ad 0)), (1, .int (nI pr)), (2, .int (nI n)), (3, .int (nI N9)), (8, .int (nI i))] (by decide) rfl ?_
                refine tg_iinc C (nI (i + 1)) dL_isCut_144 147 rfl 9 rfl (nI_add i 1) [(8, .int (nI (i + 1))), (6, .int (bv (tdb K pr tc N9 (i + 1)))), (5, .int (nI (stc (fun i => tdb K pr tc N9 (i + 1) - 1) (i + 1)))), (4, .int (nI ((tcs K pr tc N9 i) + (K i (tdb K pr tc N9 (i + 1) - 1) + chg pr (tdb K pr tc N9 i) (tdb K pr tc N9 (i + 1) - 1))))), (7, .int (nI 1)), (9, .int (nI ((tdb K pr tc N9 (i + 1) - 1)))), (0, .ref (ad 0)), (1, .int (nI pr)), (2, .int (nI n)), (3, .int (nI N9))] (by decide) rfl ?_
                refine tg_goto C 39 dL_isCut_147 (by decide) ?_
                refine tg_sub [6, 7, 8, 9, 3, 2, 1, 4, 0] rfl ?_
                refine tg_widen (k := 5 * (i + 1)) (n := 30 * (i + 1)) (by omega) (by omega) ?_
                exact ih39 (i + 1) τ53 ⟨by omega, hf2⟩ (by omega)
              · -- on
                replace c129 : (tdb K pr tc N9 i) = (tdb K pr tc N9 (i + 1) - 1) + 1 := (bv_t (by omega) (by omega)).mp c129.symm
                refine tg_iconst C (nI 0) dL_isCut_132 133 rfl (by decide) ?_
                refine tg_goto C 137 dL_isCut_133 (by decide) ?_
                refine tg_iadd C (nI (stc (fun i => tdb K pr tc N9 (i + 1) - 1) (i + 1))) dL_isCut_137 138 rfl (by rw [nI_add, show stc (fun i => tdb K pr tc N9 (i + 1) - 1) (i + 1) = stc (fun i => tdb K pr tc N9 (i + 1) - 1) i + 0 from congrArg (stc (fun i => tdb K pr tc N9 (i + 1) - 1) i + ·) (stc_st1 (by omega))]) ?_
                refine tg_istore C dL_isCut_138 140 rfl [(5, .int (nI (stc (fun i => tdb K pr tc N9 (i + 1) - 1) (i + 1)))), (4, .int (nI ((tcs K pr tc N9 i) + (K i (tdb K pr tc N9 (i + 1) - 1) + chg pr (tdb K pr tc N9 i) (tdb K pr tc N9 (i + 1) - 1))))), (7, .int (nI 1)), (9, .int (nI ((tdb K pr tc N9 (i + 1) - 1)))), (0, .ref (ad 0)), (1, .int (nI pr)), (2, .int (nI n)), (3, .int (nI N9)), (6, .int (bv (tdb K pr tc N9 i))), (8, .int (nI i))] (by decide) rfl ?_
                refine tg_iload C dL_isCut_140 142 rfl 3 rfl ?_
                refine tg_top (y := bv (tdb K pr tc N9 (i + 1))) (bv_of htd.1) ?_
                refine tg_istore C dL_isCut_142 144 rfl [(6, .int (bv (tdb K pr tc N9 (i + 1)))), (5, .int (nI (stc (fun i => tdb K pr tc N9 (i + 1) - 1) (i + 1)))), (4, .int (nI ((tcs K pr tc N9 i) + (K i (tdb K pr tc N9 (i + 1) - 1) + chg pr (tdb K pr tc N9 i) (tdb K pr tc N9 (i + 1) - 1))))), (7, .int (nI 1)), (9, .int (nI ((tdb K pr tc N9 (i + 1) - 1)))), (0, .ref (ad 0)), (1, .int (nI pr)), (2, .int (nI n)), (3, .int (nI N9)), (8, .int (nI i))] (by decide) rfl ?_
                refine tg_iinc C (nI (i + 1)) dL_isCut_144 147 rfl 9 rfl (nI_add i 1) [(8, .int (nI (i + 1))), (6, .int (bv (tdb K pr tc N9 (i + 1)))), (5, .int (nI (stc (fun i => tdb K pr tc N9 (i + 1) - 1) (i + 1)))), (4, .int (nI ((tcs K pr tc N9 i) + (K i (tdb K pr tc N9 (i + 1) - 1) + chg pr (tdb K pr tc N9 i) (tdb K pr tc N9 (i + 1) - 1))))), (7, .int (nI 1)), (9, .int (nI ((tdb K pr tc N9 (i + 1) - 1)))), (0, .ref (ad 0)), (1, .int (nI pr)), (2, .int (nI n)), (3, .int (nI N9))] (by decide) rfl ?_
                refine tg_goto C 39 dL_isCut_147 (by decide) ?_
                refine tg_sub [6, 7, 8, 9, 3, 2, 1, 4, 0] rfl ?_
                refine tg_widen (k := 5 * (i + 1)) (n := 30 * (i + 1)) (by omega) (by omega) ?_
                exact ih39 (i + 1) τ53 ⟨by omega, hf2⟩ (by omega)
            · -- on
              replace c107 : (tdb K pr tc N9 i) = (tdb K pr tc N9 (i + 1) - 1) + 1 := (bv_t (by omega) (by omega)).mp c107
              refine tg_iconst C (nI 0) dL_isCut_110 111 rfl (by decide) ?_
              refine tg_goto C 115 dL_isCut_111 (by decide) ?_
              refine tg_iadd C (nI (K i (tdb K pr tc N9 (i + 1) - 1) + chg pr (tdb K pr tc N9 i) (tdb K pr tc N9 (i + 1) - 1))) dL_isCut_115 116 rfl (by rw [nI_add, show chg pr (tdb K pr tc N9 i) (tdb K pr tc N9 (i + 1) - 1) = 0 from if_pos (by omega)]) ?_
              refine tg_goto C 120 dL_isCut_116 (by decide) ?_
              refine tg_iadd C (nI ((tcs K pr tc N9 i) + (K i (tdb K pr tc N9 (i + 1) - 1) + chg pr (tdb K pr tc N9 i) (tdb K pr tc N9 (i + 1) - 1)))) dL_isCut_120 121 rfl (nI_add (tcs K pr tc N9 i) (K i (tdb K pr tc N9 (i + 1) - 1) + chg pr (tdb K pr tc N9 i) (tdb K pr tc N9 (i + 1) - 1))) ?_
              refine tg_istore C dL_isCut_121 123 rfl [(4, .int (nI ((tcs K pr tc N9 i) + (K i (tdb K pr tc N9 (i + 1) - 1) + chg pr (tdb K pr tc N9 i) (tdb K pr tc N9 (i + 1) - 1))))), (7, .int (nI 1)), (9, .int (nI ((tdb K pr tc N9 (i + 1) - 1)))), (0, .ref (ad 0)), (1, .int (nI pr)), (2, .int (nI n)), (3, .int (nI N9)), (5, .int (nI (stc (fun i => tdb K pr tc N9 (i + 1) - 1) i))), (6, .int (bv (tdb K pr tc N9 i))), (8, .int (nI i))] (by decide) rfl ?_
              refine tg_iload C dL_isCut_123 125 rfl 7 rfl ?_
              refine tg_iload C dL_isCut_125 127 rfl 2 rfl ?_
              refine tg_iload C dL_isCut_127 129 rfl 8 rfl ?_
              refine tg_icmp_ne C 136 dL_isCut_129 (by decide) 132 rfl (fun c129 => ?_) (fun c129 => ?_)
              · -- to 136
                replace c129 : ¬ (tdb K pr tc N9 i) = (tdb K pr tc N9 (i + 1) - 1) + 1 := fun q => c129 ((bv_t (by omega) (by omega)).mpr q).symm
                refine tg_iconst C (nI 1) dL_isCut_136 137 rfl (by decide) ?_
                refine tg_iadd C (nI (stc (fun i => tdb K pr tc N9 (i + 1) - 1) (i + 1))) dL_isCut_137 138 rfl (by rw [nI_add, show stc (fun i => tdb K pr tc N9 (i + 1) - 1) (i + 1) = stc (fun i => tdb K pr tc N9 (i + 1) - 1) i + 1 from congrArg (stc (fun i => tdb K pr tc N9 (i + 1) - 1) i + ·) (stc_st2 (by omega))]) ?_
                refine tg_istore C dL_isCut_138 140 rfl [(5, .int (nI (stc (fun i => tdb K pr tc N9 (i + 1) - 1) (i + 1)))), (4, .int (nI ((tcs K pr tc N9 i) + (K i (tdb K pr tc N9 (i + 1) - 1) + chg pr (tdb K pr tc N9 i) (tdb K pr tc N9 (i + 1) - 1))))), (7, .int (nI 1)), (9, .int (nI ((tdb K pr tc N9 (i + 1) - 1)))), (0, .ref (ad 0)), (1, .int (nI pr)), (2, .int (nI n)), (3, .int (nI N9)), (6, .int (bv (tdb K pr tc N9 i))), (8, .int (nI i))] (by decide) rfl ?_
                refine tg_iload C dL_isCut_140 142 rfl 3 rfl ?_
                refine tg_top (y := bv (tdb K pr tc N9 (i + 1))) (bv_of htd.1) ?_
                refine tg_istore C dL_isCut_142 144 rfl [(6, .int (bv (tdb K pr tc N9 (i + 1)))), (5, .int (nI (stc (fun i => tdb K pr tc N9 (i + 1) - 1) (i + 1)))), (4, .int (nI ((tcs K pr tc N9 i) + (K i (tdb K pr tc N9 (i + 1) - 1) + chg pr (tdb K pr tc N9 i) (tdb K pr tc N9 (i + 1) - 1))))), (7, .int (nI 1)), (9, .int (nI ((tdb K pr tc N9 (i + 1) - 1)))), (0, .ref (ad 0)), (1, .int (nI pr)), (2, .int (nI n)), (3, .int (nI N9)), (8, .int (nI i))] (by decide) rfl ?_
                refine tg_iinc C (nI (i + 1)) dL_isCut_144 147 rfl 9 rfl (nI_add i 1) [(8, .int (nI (i + 1))), (6, .int (bv (tdb K pr tc N9 (i + 1)))), (5, .int (nI (stc (fun i => tdb K pr tc N9 (i + 1) - 1) (i + 1)))), (4, .int (nI ((tcs K pr tc N9 i) + (K i (tdb K pr tc N9 (i + 1) - 1) + chg pr (tdb K pr tc N9 i) (tdb K pr tc N9 (i + 1) - 1))))), (7, .int (nI 1)), (9, .int (nI ((tdb K pr tc N9 (i + 1) - 1)))), (0, .ref (ad 0)), (1, .int (nI pr)), (2, .int (nI n)), (3, .int (nI N9))] (by decide) rfl ?_
                refine tg_goto C 39 dL_isCut_147 (by decide) ?_
                refine tg_sub [6, 7, 8, 9, 3, 2, 1, 4, 0] rfl ?_
                refine tg_widen (k := 5 * (i + 1)) (n := 30 * (i + 1)) (by omega) (by omega) ?_
                exact ih39 (i + 1) τ53 ⟨by omega, hf2⟩ (by omega)
              · -- on
                replace c129 : (tdb K pr tc N9 i) = (tdb K pr tc N9 (i + 1) - 1) + 1 := (bv_t (by omega) (by omega)).mp c129.symm
                refine tg_iconst C (nI 0) dL_isCut_132 133 rfl (by decide) ?_
                refine tg_goto C 137 dL_isCut_133 (by decide) ?_
                refine tg_iadd C (nI (stc (fun i => tdb K pr tc N9 (i + 1) - 1) (i + 1))) dL_isCut_137 138 rfl (by rw [nI_add, show stc (fun i => tdb K pr tc N9 (i + 1) - 1) (i + 1) = stc (fun i => tdb K pr tc N9 (i + 1) - 1) i + 0 from congrArg (stc (fun i => tdb K pr tc N9 (i + 1) - 1) i + ·) (stc_st1 (by omega))]) ?_
                refine tg_istore C dL_isCut_138 140 rfl [(5, .int (nI (stc (fun i => tdb K pr tc N9 (i + 1) - 1) (i + 1)))), (4, .int (nI ((tcs K pr tc N9 i) + (K i (tdb K pr tc N9 (i + 1) - 1) + chg pr (tdb K pr tc N9 i) (tdb K pr tc N9 (i + 1) - 1))))), (7, .int (nI 1)), (9, .int (nI ((tdb K pr tc N9 (i + 1) - 1)))), (0, .ref (ad 0)), (1, .int (nI pr)), (2, .int (nI n)), (3, .int (nI N9)), (6, .int (bv (tdb K pr tc N9 i))), (8, .int (nI i))] (by decide) rfl ?_
                refine tg_iload C dL_isCut_140 142 rfl 3 rfl ?_
                refine tg_top (y := bv (tdb K pr tc N9 (i + 1))) (bv_of htd.1) ?_
                refine tg_istore C dL_isCut_142 144 rfl [(6, .int (bv (tdb K pr tc N9 (i + 1)))), (5, .int (nI (stc (fun i => tdb K pr tc N9 (i + 1) - 1) (i + 1)))), (4, .int (nI ((tcs K pr tc N9 i) + (K i (tdb K pr tc N9 (i + 1) - 1) + chg pr (tdb K pr tc N9 i) (tdb K pr tc N9 (i + 1) - 1))))), (7, .int (nI 1)), (9, .int (nI ((tdb K pr tc N9 (i + 1) - 1)))), (0, .ref (ad 0)), (1, .int (nI pr)), (2, .int (nI n)), (3, .int (nI N9)), (8, .int (nI i))] (by decide) rfl ?_
                refine tg_iinc C (nI (i + 1)) dL_isCut_144 147 rfl 9 rfl (nI_add i 1) [(8, .int (nI (i + 1))), (6, .int (bv (tdb K pr tc N9 (i + 1)))), (5, .int (nI (stc (fun i => tdb K pr tc N9 (i + 1) - 1) (i + 1)))), (4, .int (nI ((tcs K pr tc N9 i) + (K i (tdb K pr tc N9 (i + 1) - 1) + chg pr (tdb K pr tc N9 i) (tdb K pr tc N9 (i + 1) - 1))))), (7, .int (nI 1)), (9, .int (nI ((tdb K pr tc N9 (i + 1) - 1)))), (0, .ref (ad 0)), (1, .int (nI pr)), (2, .int (nI n)), (3, .int (nI N9))] (by decide) rfl ?_
                refine tg_goto C 39 dL_isCut_147 (by decide) ?_
                refine tg_sub [6, 7, 8, 9, 3, 2, 1, 4, 0] rfl ?_
                refine tg_widen (k := 5 * (i + 1)) (n := 30 * (i + 1)) (by omega) (by omega) ?_
                exact ih39 (i + 1) τ53 ⟨by omega, hf2⟩ (by omega)
    refine tg_sub [6, 7, 8, 5, 4, 3, 2, 1, 0] rfl ?_
    refine tg_widen (k := 5 * 0) (n := 30 * 0) (by omega) (by omega) ?_
    exact L39 _ 0 σ ⟨by omega, fun _ _ => rfl⟩ (Nat.lt_succ_self _)
