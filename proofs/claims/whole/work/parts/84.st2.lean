section ST2
variable {L' : Nat → Nat → Int64}
theorem row0 : RwOk w00 := LI.w00.1
theorem jo0 : JO (i9f fun _ _ => 0) r00 0 0 0 [] := by
  refine ⟨?_, fun l hl => absurd hl (Nat.not_lt_zero l), by decide +kernel, by decide +kernel⟩
  exact ⟨by decide +kernel, fun l hl => absurd hl (Nat.not_lt_zero l), fun l hl => absurd hl (Nat.not_lt_zero l)⟩
theorem ca0 : CA (i9f fun _ _ => 0) L' (r9f fun _ _ => none) 109 (fun i => 29 + 10 * i) 0 (fun _ => w00) := by
  refine ⟨⟨rs0, Or.inr ⟨8, by decide, rfl⟩, by decide, by decide +kernel⟩, fun i hi => ⟨?_, Or.inr ⟨i, by omega, rfl⟩, (by show 29 + 10 * i ≠ 8; omega), (by show 29 + 10 * i ≠ 109; omega)⟩, fun i j _ _ e => by (have e2 : 29 + 10 * i = 29 + 10 * j := e); omega, by decide +kernel, by decide, fun i hi => absurd hi (Nat.not_lt_zero i)⟩
  have : i = 0 ∨ i = 1 ∨ i = 2 ∨ i = 3 ∨ i = 4 ∨ i = 5 ∨ i = 6 ∨ i = 7 := by omega
  rcases this with rfl | rfl | rfl | rfl | rfl | rfl | rfl | rfl <;> decide +kernel
end ST2
