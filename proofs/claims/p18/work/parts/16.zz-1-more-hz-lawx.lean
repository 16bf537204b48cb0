/-! what is counted, with forms and turnings -/
abbrev jCX : List jKd := [.inl 5, .inr 2, .inl 2, .inl 8, .inl 1, .inl 37, .inl 38, .inl 40, .inl 23, .inl 46, .inl 24, .inl 25, .inl 41, .inl 13, .inl 9, .inl 27, .inl 28]
def jTX (V : jH) (x m : Nat) : Prop := jTL V x ∧ jRM V m ∧ jTF V x ∧ jRF V m
theorem jTX.keep {E : List jKd} {V V' : jH} {x m : Nat} (h : jTX V x m) (he : jeff E V V') (hn : ∀ k ∈ jCX, k ∉ E) : jTX V' x m :=
  ⟨h.1.keep he (fun k hk => hn k (jsub_of rfl k hk)), h.2.1.keep he (fun k hk => hn k (jsub_of rfl k hk)), h.2.2.1.keep he (fun k hk => hn k (jsub_of rfl k hk)), h.2.2.2.keep he (fun k hk => hn k (jsub_of rfl k hk))⟩
