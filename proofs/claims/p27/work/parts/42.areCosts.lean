/-! ===== areCosts: the counts are together the total, each cost is the least power that is enough ===== -/
set_option maxHeartbeats 4000000 in
set_option maxRecDepth 100000 in
theorem c_L_areCosts (l : Launch) (hl0 : l.stackTraces = false) (D : va_G) (cy : Nat → ClassId) (ad : Nat → Nat) (hDis : Dis ad) (σ : sS) {tc mg pr : Nat} (hX : Xs σ tc mg pr) {ct : Nat → Nat → Nat} {mt : Nat → Nat} (hT : Ta σ ct mt) {t : Nat} (ht : t < tc) (hsum : sm (ct t) 36 = mt t) : Yi l yL_areCosts wsL_areCosts 8 133 145 870 D cy ad [.ref (ad 0), .int (nI t)] σ (fun r τ => r = nI 1 ∧ σ = τ) := by
  obtain ⟨m9, hm9⟩ : ∃ z, mt t = z := ⟨_, rfl⟩
  have htc := hX.2.2.2.1
  have hmb : mt t ≤ 600 := (hT t (by omega)).2.1
  have hmb9 : m9 ≤ 600 := hm9 ▸ hmb
  refine Yz.of (cc := cL_areCosts) (nL := 10) (own := RL) hDis (by decide) rfl [(0, .ref (ad 0)), (1, .int (nI t))] rfl (Nat.le_of_ble_eq_true rfl) rfl ?_
  intro p e s m args below meth c A Q C hE hret
  refine tg_aload_n C dL_areCosts_0 1 rfl rfl 0 rfl ?_
  refine tg_iload_n C dL_areCosts_1 2 rfl rfl 1 rfl ?_
  refine tg_callYV C hE 0 (by decide) (e_0 ad cy _) rfl (y_total l hl0 D cy ad hDis σ hX hT ht (d := m9) hm9) (cwV 1 C.2.2.2.2.1 gL_areCosts_X4_total rfl rfl rfl (by decide +kernel) ⟨(Nat.le_of_ble_eq_true rfl), (Nat.le_of_ble_eq_true rfl)⟩) rfl rfl (Nat.le_of_ble_eq_true rfl) ⟨(show 0 + 1 ≤ 145 by omega), (show 0 + 6 ≤ 870 by omega)⟩ dL_areCosts_2 5 rfl (fun r2 τ2 h2 => ?_)
  obtain ⟨h2, h2s⟩ := h2
  subst h2s
  subst h2
  refine tg_istore_n C dL_areCosts_5 6 rfl rfl [(2, .int (nI m9)), (0, .ref (ad 0)), (1, .int (nI t))] (by decide) rfl ?_
  refine tg_iconst C (nI 0) dL_areCosts_6 7 rfl (by decide) ?_
  refine tg_istore_n C dL_areCosts_7 8 rfl rfl [(3, .int (nI 0)), (2, .int (nI m9)), (0, .ref (ad 0)), (1, .int (nI t))] (by decide) rfl ?_
  refine tg_iconst C (nI 1) dL_areCosts_8 9 rfl (by decide) ?_
  refine tg_istore C dL_areCosts_9 11 rfl [(4, .int (nI 1)), (3, .int (nI 0)), (2, .int (nI m9)), (0, .ref (ad 0)), (1, .int (nI t))] (by decide) rfl ?_
  refine tg_iconst C (nI 0) dL_areCosts_11 12 rfl (by decide) ?_
  refine tg_istore C dL_areCosts_12 14 rfl [(5, .int (nI 0)), (4, .int (nI 1)), (3, .int (nI 0)), (2, .int (nI m9)), (0, .ref (ad 0)), (1, .int (nI t))] (by decide) rfl ?_
  have L14 : ∀ (n14 : Nat) (i s3 : Nat), (i ≤ 36 ∧ s3 = sm (ct t) i) → 36 - i < n14 → TT p l e (Rx 8 133 145 870) s m args below meth c D cy ad A 10 (1 + 4 * i) (6 + 24 * i) Q σ 14 [(0, .ref (ad 0)), (1, .int (nI t)), (2, .int (nI m9)), (3, .int (nI s3)), (4, .int (nI 1)), (5, .int (nI i))] [] := by
    intro n14
    induction n14 with
    | zero => intro i s3 _ hn14; exact absurd hn14 (Nat.not_lt_zero _)
    | succ n14 ih14 =>
      intro i s3 ⟨hi, hs3⟩ hn14
      refine tg_iload C dL_areCosts_14 16 rfl 5 rfl ?_
      refine tg_bipush C (nI 36) dL_areCosts_16 18 rfl (by decide) ?_
      refine tg_icmp_ge C 148 dL_areCosts_18 (by decide) 21 rfl (fun c18 => ?_) (fun c18 => ?_)
      · -- to 148
        replace c18 : 36 ≤ i := (nI_leI (by omega) (by omega)).mp c18
        refine tg_iload C dL_areCosts_148 150 rfl 4 rfl ?_
        refine tg_if_eq C 162 dL_areCosts_150 (by decide) 153 rfl (fun c150 => absurd c150 (by decide)) (fun c150 => ?_)
        refine tg_iload_n C dL_areCosts_153 154 rfl rfl 3 rfl ?_
        refine tg_iload_n C dL_areCosts_154 155 rfl rfl 2 rfl ?_
        refine tg_icmp_ne C 162 dL_areCosts_155 (by decide) 158 rfl (fun c155 => absurd (by rw [hs3, show i = 36 by omega, hsum, hm9]) c155) (fun c155 => ?_)
        refine tg_iconst C (nI 1) dL_areCosts_158 159 rfl (by decide) ?_
        refine tg_goto C 163 dL_areCosts_159 (by decide) ?_
        exact hret (show 1 + 4 * i ≤ 145 by omega) (show 6 + 24 * i ≤ 870 by omega) dL_areCosts_163 rfl ⟨rfl, rfl⟩
      · -- on
        replace c18 : ¬ 36 ≤ i := fun q => c18 ((nI_leI (by omega) (by omega)).mpr q)
        refine tg_iload C dL_areCosts_21 23 rfl 4 rfl ?_
        refine tg_if_eq C 148 dL_areCosts_23 (by decide) 26 rfl (fun c23 => absurd c23 (by decide)) (fun c23 => ?_)
        obtain ⟨c9, hc9⟩ : ∃ z, ct t i = z := ⟨_, rfl⟩
        obtain ⟨d9, hd9⟩ : ∃ z, costN (ct t i) (mt t) = z := ⟨_, rfl⟩
        have hcb : c9 ≤ 600 := by rw [← hc9]; exact ((hT t (by omega)).2.2 i (by omega)).2
        have hdb : d9 ≤ 10 := by rw [← hd9]; exact costN_le _ _
        have hdz : d9 = 0 → m9 + 36 ≤ c9 + 1 := fun q => by rw [← hm9, ← hc9]; exact costN_zero hmb (by rw [hd9]; exact q)
        have hdp : 0 < d9 → m9 + 36 ≤ (c9 + 1) * 2 * 2 ^ (d9 - 1) ∧ (c9 + 1) * 2 ^ (d9 - 1) < m9 + 36 := fun q => by rw [← hm9, ← hc9, ← hd9]; exact costN_pos hmb (by rw [hd9]; exact q)
        refine tg_aload_n C dL_areCosts_26 27 rfl rfl 0 rfl ?_
        refine tg_iload_n C dL_areCosts_27 28 rfl rfl 1 rfl ?_
        refine tg_iload C dL_areCosts_28 30 rfl 5 rfl ?_
        refine tg_callYV C hE 0 (by decide) (e_0 ad cy _) rfl (y_count l hl0 D cy ad hDis σ hX hT ht (k := i) (by omega) hc9) (cwV 2 C.2.2.2.2.1 gL_areCosts_X4_count rfl rfl rfl (by decide +kernel) ⟨(Nat.le_of_ble_eq_true rfl), (Nat.le_of_ble_eq_true rfl)⟩) rfl rfl (Nat.le_of_ble_eq_true rfl) ⟨(show 1 + 4 * i + 2 ≤ 145 by omega), (show 6 + 24 * i + 12 ≤ 870 by omega)⟩ dL_areCosts_30 33 rfl (fun r30 τ30 h30 => ?_)
        obtain ⟨h30, h30s⟩ := h30
        subst h30s
        subst h30
        refine tg_istore C dL_areCosts_33 35 rfl [(6, .int (nI c9)), (0, .ref (ad 0)), (1, .int (nI t)), (2, .int (nI m9)), (3, .int (nI s3)), (4, .int (nI 1)), (5, .int (nI i))] (by decide) rfl ?_
        refine tg_iconst C (nI 1) dL_areCosts_35 36 rfl (by decide) ?_
        refine tg_istore C dL_areCosts_36 38 rfl [(7, .int (nI 1)), (6, .int (nI c9)), (0, .ref (ad 0)), (1, .int (nI t)), (2, .int (nI m9)), (3, .int (nI s3)), (4, .int (nI 1)), (5, .int (nI i))] (by decide) rfl ?_
        refine tg_aload_n C dL_areCosts_38 39 rfl rfl 2 rfl ?_
        refine tg_iload_n C dL_areCosts_39 40 rfl rfl 3 rfl ?_
        refine tg_iload C dL_areCosts_40 42 rfl 7 rfl ?_
        refine tg_callYV C hE 0 (by decide) (e_0 ad cy _) rfl (y_cost l hl0 D cy ad hDis σ hX hT ht (k := i) (by omega) hd9) (cwV 2 C.2.2.2.2.1 gL_areCosts_X4_cost rfl rfl rfl (by decide +kernel) ⟨(Nat.le_of_ble_eq_true rfl), (Nat.le_of_ble_eq_true rfl)⟩) rfl rfl (Nat.le_of_ble_eq_true rfl) ⟨(show 1 + 4 * i + 2 + 2 ≤ 145 by omega), (show 6 + 24 * i + 12 + 12 ≤ 870 by omega)⟩ dL_areCosts_42 45 rfl (fun r42 τ42 h42 => ?_)
        obtain ⟨h42, h42s⟩ := h42
        subst h42s
        subst h42
        refine tg_istore C dL_areCosts_45 47 rfl [(8, .int (nI d9)), (7, .int (nI 1)), (6, .int (nI c9)), (0, .ref (ad 0)), (1, .int (nI t)), (2, .int (nI m9)), (3, .int (nI s3)), (4, .int (nI 1)), (5, .int (nI i))] (by decide) rfl ?_
        refine tg_iconst C (nI 1) dL_areCosts_47 48 rfl (by decide) ?_
        refine tg_istore C dL_areCosts_48 50 rfl [(9, .int (nI 1)), (8, .int (nI d9)), (7, .int (nI 1)), (6, .int (nI c9)), (0, .ref (ad 0)), (1, .int (nI t)), (2, .int (nI m9)), (3, .int (nI s3)), (4, .int (nI 1)), (5, .int (nI i))] (by decide) rfl ?_
        have L50 : ∀ (n50 : Nat) (k P : Nat), (1 ≤ k ∧ (k ≤ d9 ∨ k = 1) ∧ P = 2 ^ (k - 1)) → 20 - k < n50 → TT p l e (Rx 8 133 145 870) s m args below meth c D cy ad A 10 (1 + 4 * i + 2 + 2) (6 + 24 * i + 12 + 12) Q σ 50 [(0, .ref (ad 0)), (1, .int (nI t)), (2, .int (nI m9)), (3, .int (nI s3)), (4, .int (nI 1)), (5, .int (nI i)), (6, .int (nI c9)), (7, .int (nI P)), (8, .int (nI d9)), (9, .int (nI k))] [] := by
          intro n50
          induction n50 with
          | zero => intro k P _ hn50; exact absurd hn50 (Nat.not_lt_zero _)
          | succ n50 ih50 =>
            intro k P ⟨hk1, hk2, hP⟩ hn50
            refine tg_iload C dL_areCosts_50 52 rfl 9 rfl ?_
            refine tg_iload C dL_areCosts_52 54 rfl 8 rfl ?_
            refine tg_icmp_ge C 69 dL_areCosts_54 (by decide) 57 rfl (fun c54 => ?_) (fun c54 => ?_)
            · -- to 69
              replace c54 : d9 ≤ k := (nI_leI (by omega) (by omega)).mp c54
              obtain rfl : P = 2 ^ (d9 - 1) := by rw [hP]; congr 1; omega
              have hp9 := pow_le9 hdb
              generalize 2 ^ (d9 - 1) = P at hdp hp9 ⊢
              have hq1 : (c9 + 1) * P ≤ 601 * 512 := Nat.mul_le_mul (by omega) hp9
              have hq2 : (c9 + 1) * 2 * P ≤ 1202 * 512 := Nat.mul_le_mul (by omega) hp9
              refine tg_iload_n C dL_areCosts_69 70 rfl rfl 3 rfl ?_
              refine tg_iload C dL_areCosts_70 72 rfl 6 rfl ?_
              refine tg_iadd C (nI (s3 + c9)) dL_areCosts_72 73 rfl (nI_add s3 c9) ?_
              refine tg_istore_n C dL_areCosts_73 74 rfl rfl [(3, .int (nI (s3 + c9))), (0, .ref (ad 0)), (1, .int (nI t)), (2, .int (nI m9)), (4, .int (nI 1)), (5, .int (nI i)), (6, .int (nI c9)), (7, .int (nI P)), (8, .int (nI d9)), (9, .int (nI k))] (by decide) rfl ?_
              refine tg_iload C dL_areCosts_74 76 rfl 8 rfl ?_
              refine tg_if_lt C 139 dL_areCosts_76 (by decide) 79 rfl (fun c76 => absurd c76 (z_nlt (by omega))) (fun c76 => ?_)
              refine tg_iload C dL_areCosts_79 81 rfl 8 rfl ?_
              refine tg_bipush C (nI 20) dL_areCosts_81 83 rfl (by decide) ?_
              refine tg_icmp_ge C 139 dL_areCosts_83 (by decide) 86 rfl (fun c83 => absurd c83 (nI_ge (by omega) (by omega))) (fun c83 => ?_)
              refine tg_iload C dL_areCosts_86 88 rfl 8 rfl ?_
              refine tg_if_ne C 105 dL_areCosts_88 (by decide) 91 rfl (fun c88 => ?_) (fun c88 => ?_)
              · -- to 105
                replace c88 : ¬ d9 = 0 := fun q => c88 ((z_eq (by omega)).mpr q)
                refine tg_iload C dL_areCosts_105 107 rfl 6 rfl ?_
                refine tg_iconst C (nI 1) dL_areCosts_107 108 rfl (by decide) ?_
                refine tg_iadd C (nI (c9 + 1)) dL_areCosts_108 109 rfl (nI_add c9 1) ?_
                refine tg_iconst C (nI 2) dL_areCosts_109 110 rfl (by decide) ?_
                refine tg_imul C (nI ((c9 + 1) * 2)) dL_areCosts_110 111 rfl (pk_mul (c9 + 1) 2) ?_
                refine tg_iload C dL_areCosts_111 113 rfl 7 rfl ?_
                refine tg_imul C (nI (((c9 + 1) * 2) * P)) dL_areCosts_113 114 rfl (pk_mul ((c9 + 1) * 2) P) ?_
                refine tg_iload_n C dL_areCosts_114 115 rfl rfl 3 rfl ?_
                refine tg_bipush C (nI 36) dL_areCosts_115 117 rfl (by decide) ?_
                refine tg_iadd C (nI (m9 + 36)) dL_areCosts_117 118 rfl (nI_add m9 36) ?_
                refine tg_icmp_lt C 139 dL_areCosts_118 (by decide) 121 rfl (fun c118 => absurd c118 (nI_nlt (hdp (by omega)).1 (by omega))) (fun c118 => ?_)
                refine tg_iload C dL_areCosts_121 123 rfl 6 rfl ?_
                refine tg_iconst C (nI 1) dL_areCosts_123 124 rfl (by decide) ?_
                refine tg_iadd C (nI (c9 + 1)) dL_areCosts_124 125 rfl (nI_add c9 1) ?_
                refine tg_iload C dL_areCosts_125 127 rfl 7 rfl ?_
                refine tg_imul C (nI ((c9 + 1) * P)) dL_areCosts_127 128 rfl (pk_mul (c9 + 1) P) ?_
                refine tg_iload_n C dL_areCosts_128 129 rfl rfl 3 rfl ?_
                refine tg_bipush C (nI 36) dL_areCosts_129 131 rfl (by decide) ?_
                refine tg_iadd C (nI (m9 + 36)) dL_areCosts_131 132 rfl (nI_add m9 36) ?_
                refine tg_icmp_ge C 139 dL_areCosts_132 (by decide) 135 rfl (fun c132 => absurd c132 (nI_ge (hdp (by omega)).2 (by omega))) (fun c132 => ?_)
                refine tg_iconst C (nI 1) dL_areCosts_135 136 rfl (by decide) ?_
                refine tg_goto C 140 dL_areCosts_136 (by decide) ?_
                refine tg_istore C dL_areCosts_140 142 rfl [(4, .int (nI 1)), (3, .int (nI (s3 + c9))), (0, .ref (ad 0)), (1, .int (nI t)), (2, .int (nI m9)), (5, .int (nI i)), (6, .int (nI c9)), (7, .int (nI P)), (8, .int (nI d9)), (9, .int (nI k))] (by decide) rfl ?_
                refine tg_iinc C (nI (i + 1)) dL_areCosts_142 145 rfl 5 rfl (nI_add i 1) [(5, .int (nI (i + 1))), (4, .int (nI 1)), (3, .int (nI (s3 + c9))), (0, .ref (ad 0)), (1, .int (nI t)), (2, .int (nI m9)), (6, .int (nI c9)), (7, .int (nI P)), (8, .int (nI d9)), (9, .int (nI k))] (by decide) rfl ?_
                refine tg_goto C 14 dL_areCosts_145 (by decide) ?_
                refine tg_sub [3, 4, 5, 2, 1, 0] rfl ?_
                refine tg_widen (k := 1 + 4 * (i + 1)) (n := 6 + 24 * (i + 1)) (by omega) (by omega) ?_
                exact ih14 (i + 1) (s3 + c9) ⟨by omega, by rw [hs3, ← hc9]; rfl⟩ (by omega)
              · -- on
                replace c88 : d9 = 0 := (z_eq (by omega)).mp c88
                refine tg_iload C dL_areCosts_91 93 rfl 6 rfl ?_
                refine tg_iconst C (nI 1) dL_areCosts_93 94 rfl (by decide) ?_
                refine tg_iadd C (nI (c9 + 1)) dL_areCosts_94 95 rfl (nI_add c9 1) ?_
                refine tg_iload_n C dL_areCosts_95 96 rfl rfl 3 rfl ?_
                refine tg_bipush C (nI 36) dL_areCosts_96 98 rfl (by decide) ?_
                refine tg_iadd C (nI (m9 + 36)) dL_areCosts_98 99 rfl (nI_add m9 36) ?_
                refine tg_icmp_lt C 139 dL_areCosts_99 (by decide) 102 rfl (fun c99 => absurd c99 (nI_nlt (hdz c88) (by omega))) (fun c99 => ?_)
                refine tg_goto C 135 dL_areCosts_102 (by decide) ?_
                refine tg_iconst C (nI 1) dL_areCosts_135 136 rfl (by decide) ?_
                refine tg_goto C 140 dL_areCosts_136 (by decide) ?_
                refine tg_istore C dL_areCosts_140 142 rfl [(4, .int (nI 1)), (3, .int (nI (s3 + c9))), (0, .ref (ad 0)), (1, .int (nI t)), (2, .int (nI m9)), (5, .int (nI i)), (6, .int (nI c9)), (7, .int (nI P)), (8, .int (nI d9)), (9, .int (nI k))] (by decide) rfl ?_
                refine tg_iinc C (nI (i + 1)) dL_areCosts_142 145 rfl 5 rfl (nI_add i 1) [(5, .int (nI (i + 1))), (4, .int (nI 1)), (3, .int (nI (s3 + c9))), (0, .ref (ad 0)), (1, .int (nI t)), (2, .int (nI m9)), (6, .int (nI c9)), (7, .int (nI P)), (8, .int (nI d9)), (9, .int (nI k))] (by decide) rfl ?_
                refine tg_goto C 14 dL_areCosts_145 (by decide) ?_
                refine tg_sub [3, 4, 5, 2, 1, 0] rfl ?_
                refine tg_widen (k := 1 + 4 * (i + 1)) (n := 6 + 24 * (i + 1)) (by omega) (by omega) ?_
                exact ih14 (i + 1) (s3 + c9) ⟨by omega, by rw [hs3, ← hc9]; rfl⟩ (by omega)
            · -- on
              replace c54 : ¬ d9 ≤ k := fun q => c54 ((nI_leI (by omega) (by omega)).mpr q)
              refine tg_iload C dL_areCosts_57 59 rfl 7 rfl ?_
              refine tg_iconst C (nI 2) dL_areCosts_59 60 rfl (by decide) ?_
              refine tg_imul C (nI (P * 2)) dL_areCosts_60 61 rfl (pk_mul P 2) ?_
              refine tg_istore C dL_areCosts_61 63 rfl [(7, .int (nI (P * 2))), (0, .ref (ad 0)), (1, .int (nI t)), (2, .int (nI m9)), (3, .int (nI s3)), (4, .int (nI 1)), (5, .int (nI i)), (6, .int (nI c9)), (8, .int (nI d9)), (9, .int (nI k))] (by decide) rfl ?_
              refine tg_iinc C (nI (k + 1)) dL_areCosts_63 66 rfl 9 rfl (nI_add k 1) [(9, .int (nI (k + 1))), (7, .int (nI (P * 2))), (0, .ref (ad 0)), (1, .int (nI t)), (2, .int (nI m9)), (3, .int (nI s3)), (4, .int (nI 1)), (5, .int (nI i)), (6, .int (nI c9)), (8, .int (nI d9))] (by decide) rfl ?_
              refine tg_goto C 50 dL_areCosts_66 (by decide) ?_
              refine tg_sub [2, 3, 4, 5, 6, 7, 8, 1, 9, 0] rfl ?_
              exact ih50 (k + 1) (P * 2) ⟨by omega, Or.inl (by omega), by rw [hP, ← Nat.pow_succ]; congr 1; omega⟩ (by omega)
        refine tg_sub [4, 5, 6, 7, 8, 9, 3, 2, 1, 0] rfl ?_
        exact L50 _ 1 1 ⟨by omega, Or.inr rfl, rfl⟩ (Nat.lt_succ_self _)
  refine tg_sub [4, 5, 3, 2, 1, 0] rfl ?_
  refine tg_widen (k := 1 + 4 * 0) (n := 6 + 24 * 0) (by omega) (by omega) ?_
  exact L14 _ 0 0 ⟨by omega, rfl⟩ (Nat.lt_succ_self _)
