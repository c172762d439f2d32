/-! ===== the empty petition at the start ===== -/
section ST1
variable {L' : Nat → Nat → Int64}
theorem pet0 (h : TI 26 (fun _ _ => 0) L' 41 0) : PetRel (i9f fun _ _ => 0) L' 109 r00 0 0 0 [] := by
  refine ⟨by decide +kernel, fun v hv => absurd hv (Nat.not_lt_zero v), fun v hv => absurd hv (Nat.not_lt_zero v), by decide +kernel, ?_, ?_, by decide +kernel, by decide, fun j q hq => by simp at hq⟩
  · rw [h.1 109 (by decide)]; decide +kernel
  · rw [h.1 109 (by decide)]; decide +kernel
end ST1
