/-! what is counted, on both sides -/
abbrev jCK : List jKd := [.inl 5, .inr 2, .inl 2, .inl 8, .inl 1, .inl 37, .inl 38, .inl 40, .inl 23, .inl 46, .inl 24, .inl 25, .inl 41]
def jTC (V : jH) (x m : Nat) : Prop := jTL V x ∧ jRM V m
theorem jTC.keep {E : List jKd} {V V' : jH} {x m : Nat} (h : jTC V x m) (he : jeff E V V') (hn : ∀ k ∈ jCK, k ∉ E) : jTC V' x m :=
  ⟨h.1.keep he (fun k hk => hn k (jsub_of rfl k hk)), h.2.keep he (fun k hk => hn k (jsub_of rfl k hk))⟩
