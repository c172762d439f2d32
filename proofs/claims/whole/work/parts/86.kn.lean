/-! ===== the classes are known at the start ===== -/
section KN
variable {s : State} {b : Nat}
theorem kn_in : ∀ (ci : Nat) (q : vw_C), pd_cl[ci]? = some q → ∃ n, Cond.instantiable q.1 n ∈ pd_TB
  | 0, q, h => by cases h; exact ⟨_, niX0⟩
  | 1, q, h => by cases h; exact ⟨_, niX1⟩
  | 2, q, h => by cases h; exact ⟨_, niX3⟩
  | 3, q, h => by cases h; exact ⟨_, niX4⟩
  | 4, q, h => by cases h; exact ⟨_, niX5⟩
  | 5, q, h => by cases h; exact ⟨_, niX6⟩
  | 6, q, h => by cases h; exact ⟨_, niX7⟩
  | 7, q, h => by cases h; exact ⟨_, niX8⟩
  | 8, q, h => by cases h; exact ⟨_, niX9⟩
  | n + 9, q, h => by cases h
theorem kn_all (hts : ∀ w ∈ pd_TB, w.before #[Value.ref b] s = true) : ∃ D : va_G, ∀ (c : Nat) (q : vw_C), pd_cl[c]? = some q → u_Kn s q.1 q.2.1 q.2.2 (D.1 c) (D.2 c) := by
  have h : ∀ c : Nat, ∃ (x : ClassId) (f : Nat → Nat), ∀ q : vw_C, pd_cl[c]? = some q → u_Kn s q.1 q.2.1 q.2.2 x f := by
    intro c
    cases hc : pd_cl[c]? with
    | none => exact ⟨default, fun _ => 0, fun q hq => by cases hq⟩
    | some q =>
      obtain ⟨n, hn⟩ := kn_in c q hc
      obtain ⟨-, ty, hk⟩ := pd_ck c q hc
      obtain ⟨x, f, hx⟩ := u_known hts hk.1 (hts _ hn)
      exact ⟨x, f, fun q' hq => by cases hq; exact hx⟩
  exact ⟨⟨fun c => (h c).choose, fun c => (h c).choose_spec.choose⟩, fun c q hq => (h c).choose_spec.choose_spec q hq⟩
end KN
