/-- a weaker end -/
theorem pd_At_mono {G : pd_G} {mi : pd_MI} {h mc ms cs ss pc : Nat} {lo : List (Option Value)} {st : List Value} {M : pd_M} {Q Q' : pd_O → pd_M → Prop} (k : pd_At G mi h mc ms cs ss pc lo st M Q) (hq : ∀ o M', Q o M' → Q' o M') : pd_At G mi h mc ms cs ss pc lo st M Q' := by
  intro d p e s m args below meth c H locs ls hd F hS hW hl T hT X
  obtain ⟨t, a1, o, b1, b2, b3⟩ := k d p e s m args below meth c H locs ls hd F hS hW hl T hT X
  refine ⟨t, a1, o, b1, b2, ?_⟩
  rcases b3 with ⟨⟨r, M', e1, e2, e3⟩, e4⟩ | ⟨q, e0, E, ce, L, ⟨M', e2, e3⟩, e4⟩
  · exact Or.inl ⟨⟨r, M', e1, hq _ _ e2, e3⟩, e4⟩
  · exact Or.inr ⟨q, e0, E, ce, L, ⟨M', hq _ _ e2, e3⟩, e4⟩
theorem pd_Ev_mono {G : pd_G} {mi : pd_MI} {h mc ms : Nat} {av : List Value} {M : pd_M} {Q Q' : pd_O → pd_M → Prop} (k : pd_Ev G mi h mc ms av M Q) (hq : ∀ o M', Q o M' → Q' o M') : pd_Ev G mi h mc ms av M Q' := by
  intro d hd
  intro p e ha hc hk s m args below hf happ hP hT
  obtain ⟨k9, o, h1, h2, h3, b3⟩ := k d hd p e ha hc hk s m args below hf happ hP hT
  refine ⟨k9, o, h1, h2, h3, ?_⟩
  rcases b3 with ⟨⟨r, M', e1, e2, e3⟩, e4⟩ | ⟨q, e0, E, ce, L, ⟨M', e2, e3⟩, e4⟩
  · exact Or.inl ⟨⟨r, M', e1, hq _ _ e2, e3⟩, e4⟩
  · exact Or.inr ⟨q, e0, E, ce, L, ⟨M', hq _ _ e2, e3⟩, e4⟩
