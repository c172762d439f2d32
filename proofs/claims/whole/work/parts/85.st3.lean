section ST3
variable {L' : Nat → Nat → Int64}
theorem sm0 (h : TI 26 (fun _ _ => 0) L' 41 0) : SM (i9f fun _ _ => 0) L' (r9f fun _ _ => none) w00 0 (fun _ => w00) (fun _ => 0) 0 := by
  refine ⟨⟨109, fun i => 29 + 10 * i, ⟨rs0, Or.inr ⟨8, by decide, rfl⟩, by decide +kernel, row0, pet0 h, jo0, tri0 h⟩, ca0⟩, ⟨by decide +kernel, by decide, fun k hk => absurd hk (Nat.not_lt_zero k)⟩, fun k hk => ?_, ⟨by decide +kernel, by decide, fun k hk => absurd hk (Nat.not_lt_zero k)⟩, ⟨by decide +kernel, by decide, fun k hk => absurd hk (Nat.not_lt_zero k)⟩, by decide +kernel, by decide +kernel, by decide +kernel, by decide +kernel⟩
  show pd_fw _ 122 r00 1105 122 k = r00 k
  unfold pd_fw
  rw [if_pos ⟨rfl, hk⟩]
end ST3
