/-! ===== the start: the relation of the two as they are made; no stack traces ===== -/
theorem rel0 : Rel s0w 0 := by
  refine ⟨0, fun _ => 0, 0, 3, 4, 0, 0, fun _ => 0, fun _ => 0, fun _ => 0, fun _ _ => 0, fun _ => 0, ⟨rfl, by decide, fun k h => by omega⟩, ⟨rfl, rfl, rfl, by decide, by decide, by decide⟩, ⟨⟨rfl, by decide, fun k h => by omega⟩, ⟨rfl, rfl, rfl, by decide, by decide, by decide⟩, rfl, rfl, by decide, by decide, fun k h => by omega⟩, fun t ht => ?_, ⟨rfl, fun k h => by omega, fun a b h => by omega, fun a b h => by omega, fun s hs => Or.inr (if_pos hs)⟩, Nat.le_refl _⟩
  match t, ht with
  | 0, _ => exact ⟨rfl, Nat.zero_le _, fun r _ => ⟨rfl, Nat.zero_le _⟩⟩
  | 1, _ => exact ⟨rfl, Nat.zero_le _, fun r _ => ⟨rfl, Nat.zero_le _⟩⟩
  | 2, _ => exact ⟨rfl, Nat.zero_le _, fun r _ => ⟨rfl, Nat.zero_le _⟩⟩
  | 3, _ => exact ⟨rfl, Nat.zero_le _, fun r _ => ⟨rfl, Nat.zero_le _⟩⟩
  | 4, _ => exact ⟨rfl, Nat.zero_le _, fun r _ => ⟨rfl, Nat.zero_le _⟩⟩
theorem no_traces {l : Launch} (h : l.flags = flags0) : l.stackTraces = false := by
  first | (unfold Launch.stackTraces; rw [h]; rfl) | (simp [Launch.stackTraces, h, flags0])
