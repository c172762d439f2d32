/-! ===== the classes are known at the start ===== -/
section KN
variable {s : State} {b : Nat}
theorem kn_one (hts : ∀ w ∈ lw_tbl, w.before #[Value.ref b] s = true) {C : String} {T : u_T} {N n : Nat} (hin : (u_ws C T N).all (fun w => decide (w ∈ lw_tbl)) = true) (hi : Cond.instantiable C n ∈ lw_tbl) : ∃ (cC : ClassId) (iS : Nat → Nat), u_Kn s C T N cC iS := u_known hts (fun w hw => by simpa using List.all_eq_true.mp hin w hw) (hts _ hi)
end KN
