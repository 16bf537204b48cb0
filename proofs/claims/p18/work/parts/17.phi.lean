theorem jnI_eq {x : Int32} {j k : Nat} (h1 : x = nI k) (h2 : x = nI j) (hk : k < 4) (hj : j < 4) : k = j := by
  have h3 : x.toNatClampNeg = k := by rw [h1]; exact nI_clamp (by omega)
  have h4 : x.toNatClampNeg = j := by rw [h2]; exact nI_clamp (by omega)
  omega
theorem jg_le {g : Nat → Nat} {G j : Nat} (h : g 0 + g 1 + g 2 + g 3 ≤ G) (hj : j < 4) : g j ≤ G := by
  rcases (show j = 0 ∨ j = 1 ∨ j = 2 ∨ j = 3 by omega) with rfl | rfl | rfl | rfl <;> omega
theorem jg_none {V : jH} {f : Nat → Option Nat} {g : Nat → Nat} {G j : Nat} (hg : ∀ j, j < 4 → jw9 V f j (g j)) (h : g 0 + g 1 + g 2 + g 3 ≤ G) (hj : j < 4) (hf : f j = none) : 9 ≤ G := by
  have h1 := jg_le h hj
  rcases hg j hj with ⟨-, q2⟩ | ⟨t2, rc2, ts3, h3, e1, -⟩
  · omega
  · rw [hf] at e1; cases e1
theorem jg_some {V : jH} {f : Nat → Option Nat} {g : Nat → Nat} {G j t rc x : Nat} {ts : List Value} {h : Nat → Int32} (hg : ∀ j, j < 4 → jw9 V f j (g j)) (hs : g 0 + g 1 + g 2 + g 3 ≤ G) (hj : j < 4) (hf : f j = some t) (ht : V t = some (.inr (2, ts))) (hr : ts[9]? = some (.ref rc)) (hrc : V rc = some (.inl (9, 7, .inl h))) (hx : x < 7) (hm : (h x).toInt = -1) : 1 ≤ G := by
  have h1 := jg_le hs hj
  have h2 := jcn_lt hm 7 hx
  rcases hg j hj with ⟨q1, q2⟩ | ⟨t2, rc2, ts3, h3, e1, e2, e3, e4, e5⟩
  · omega
  · have q1 := Option.some.inj (hf.symm.trans e1)
    subst q1
    cases ht.symm.trans e2
    cases hr.symm.trans e3
    cases hrc.symm.trans e4
    omega
abbrev mL_law : jM := (yL_law, cL_law, 4, some .boolean)
