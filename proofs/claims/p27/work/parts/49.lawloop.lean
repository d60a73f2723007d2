/-! ===== the law's loop ===== -/
section LawLoop
variable {p : Program} {l : Launch} {e : Env} {s : State} {m : MethodId} {args : Array Value} {below : List Frame} {meth : Method} {c : Code} {D : va_G} {cy : Nat → ClassId} {ad : Nat → Nat} {A : Nat → Prop} {cells slots : Nat} {Q : State → Prop} {σ : sS} {b L : Nat} {xs : Nat → Int32}
variable {n : Nat} {w : Nat → Nat} {tc pr tx nx : Nat} {ct : Nat → Nat → Nat} {mt : Nat → Nat} {tn wh : Nat} {vv wv : Int32}
theorem law_loop (C : Cx p s m args c cL_law 12 RL wsL_law D cy ad A) (hE : Ev A s s.heap) (hl0 : l.stackTraces = false) (hXs : va_X b L xs s s.heap) (hbl : b < s.heap.size) (hbA : ¬ A b) (hL : L ≤ 260)
    (kend : ∀ (σ : sS) (n pr tx tn : Nat), TT p l e room_1 s m args below meth c D cy ad A 12 15580 92480 Q σ 381 (lvH ad b n pr tx tn) []) :
    ∀ (f tn : Nat), 60 - tn < f → tn ≤ 60 → ∀ (σ : sS) (n : Nat) (w : Nat → Nat) (tc pr tx nx : Nat) (ct : Nat → Nat → Nat) (mt : Nat → Nat), Inv σ n w tc pr tx nx ct mt → 0 < tc → nx ≤ tn → TT p l e room_1 s m args below meth c D cy ad A 12 (1000 + 243 * tn) (5000 + 1458 * tn) Q σ 23 (lvH ad b n pr tx tn) [] := by
  intro f
  induction f with
  | zero => intro tn h; omega
  | succ f ih =>
    intro tn hf ht σ n w tc pr tx nx ct mt I htc hnx
    refine tg_iload C dL_law_23 25 rfl 0 rfl ?_
    refine tg_bipush C (nI 60) dL_law_25 27 rfl (by decide) ?_
    refine tg_icmp_ge C 381 dL_law_27 (by decide) 30 rfl (fun _ => ?_) (fun hlt => ?_)
    · exact tg_widen (by omega) (by omega) (kend σ n pr tx tn)
    · replace hlt : ¬ 60 ≤ tn := fun q => hlt ((nI_leI (by omega) (by omega)).mpr q)
      exact law_turn C hE hl0 (by omega) (by omega) I htc hnx (by omega) hXs hbl hbA hL (fun τ n w tc pr tx nx ct mt I2 h1 h2 => tg_widen (k := 1000 + 243 * (tn + 1)) (n := 5000 + 1458 * (tn + 1)) (by omega) (by omega) (ih (tn + 1) (by omega) (by omega) τ n w tc pr tx nx ct mt I2 h1 h2))
end LawLoop
