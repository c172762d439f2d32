/-! ===== the relation at the start ===== -/
section ST0
theorem tri0 {L' : Nat → Nat → Int64} (h : TI 26 (fun _ _ => 0) L' 41 0) : Tri L' := fun n k hn hk => by
  rw [h.2 n k (by omega) (by omega), if_pos (by omega)]
set_option maxRecDepth 100000 in
theorem rs0 : RS (r9f fun _ _ => none) := by
  unfold RS
  refine ⟨by decide +kernel, fun c hc => ?_⟩
  have hc2 : c = 8 ∨ c = 29 ∨ c = 39 ∨ c = 49 ∨ c = 59 ∨ c = 69 ∨ c = 79 ∨ c = 89 ∨ c = 99 ∨ c = 109 := by
    rcases hc with h | ⟨i, h1, h2⟩
    · exact Or.inl h
    · omega
  rcases hc2 with rfl | rfl | rfl | rfl | rfl | rfl | rfl | rfl | rfl | rfl <;> decide +kernel
end ST0
