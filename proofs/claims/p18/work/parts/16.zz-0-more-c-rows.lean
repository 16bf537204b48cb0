section JY
variable {tS : jTS} {M : jM} {d pc : Nat} {ls : List (Option Value)} {st : List Value} {V : jH} {kc ks : Nat} {Q : Option Value → jH → Prop}
/-- a long read off a known array; written, with what else stays -/
theorem Jz_laldx {t a n : Nat} {f : Nat → Int64} {i : Int32} {A : Int} (hx : jEq i.toInt A) (hd : decode M.2.1 pc = .ok (.laload, 1)) (hV : V a = some (.inl (t, n, .inr (.inl f)))) (ht : jT[t]? = some .long) (h1 : 0 ≤ A) (h2 : A < (n : Int)) (kk : J tS M d (pc + 1) ls (.long (f A.toNat) :: st) V kc ks Q) : J tS M d pc ls (.int i :: .ref a :: st) V kc ks Q := by
  cases hx
  exact J_lald hd hV ht (vp_in_n h1 h2) kk
theorem Jz_lastB {t a n : Nat} {f : Nat → Int64} {i : Int32} {x : Int64} {p : Nat → Prop} {A : Int} (hx : jEq i.toInt A) (hW : WTx p V) (hp : ¬ p a) (hd : decode M.2.1 pc = .ok (.lastore, 1)) (hV : V a = some (.inl (t, n, .inr (.inl f)))) (ht : jT[t]? = some .long) (hc : jAc t = .inr none) (h1 : 0 ≤ A) (h2 : A < (n : Int)) (kk : ∀ (V' : jH) (f' : Nat → Int64), WTx p V' → jeff [.inl t] V V' → V' a = some (.inl (t, n, .inr (.inl f'))) → f' A.toNat = x → (∀ k, k ≠ A.toNat → f' k = f k) → (∀ b : Nat, b ≠ a → V' b = V b) → J tS M d (pc + 1) ls st V' kc ks Q) : J tS M d pc ls (.long x :: .int i :: .ref a :: st) V kc ks Q := by
  cases hx
  have h0 := hW a _ hp hV
  refine J_last hd hV ht (vp_in_n h1 h2) (kk _ _ (hW.put hV jrel.arr (fun _ => ⟨h0.1, h0.2.1, ?_⟩)) (jeff.put hV jrel.arr List.mem_cons_self) jup_self (if_pos rfl) (fun k hk => if_neg hk) (fun b hb => jup_ne hb))
  dsimp only
  rw [hc]
  exact ⟨_, rfl⟩
theorem Jz_zastB {t a n : Nat} {f : Nat → Int32} {i x : Int32} {r : Int × Int} {p : Nat → Prop} {A : Int} (hx : jEq i.toInt A) {X : Int} (hz : jEq x.toInt X) (hW : WTx p V) (hp : ¬ p a) (hd : decode M.2.1 pc = .ok (.bastore, 1)) (hV : V a = some (.inl (t, n, .inl f))) (ht : jT[t]? = some .boolean) (hc : jAc t = .inl r) (hi1 : 0 ≤ A) (hi2 : A < (n : Int)) (h1 : r.1 ≤ X) (h2 : X ≤ r.2) (hnr : ∀ q : Int32, q.toInt = X → vp_nar .boolean q = q) (kk : ∀ (V' : jH) (f' : Nat → Int32), WTx p V' → jeff [.inl t] V V' → V' a = some (.inl (t, n, .inl f')) → f' A.toNat = x → (∀ k, k ≠ A.toNat → f' k = f k) → (∀ b : Nat, b ≠ a → V' b = V b) → J tS M d (pc + 1) ls st V' kc ks Q) : J tS M d pc ls (.int x :: .int i :: .ref a :: st) V kc ks Q := by
  cases hx
  cases hz
  have h0 := hW a _ hp hV
  refine J_zast hd hV ht (vp_in_n hi1 hi2) (kk _ _ (hW.put hV jrel.arr (fun _ => ⟨h0.1, h0.2.1, ?_⟩)) (jeff.put hV jrel.arr List.mem_cons_self) jup_self (by rw [hnr x rfl]; exact pk_us) (fun k hk => pk_un hk) (fun b hb => jup_ne hb))
  have h3 := h0.2.2
  dsimp only at h3 ⊢
  rw [hc] at h3 ⊢
  obtain ⟨g, hg, h4⟩ := h3
  cases hg
  refine ⟨_, rfl, fun j hj => ?_⟩
  by_cases hq : j = i.toNatClampNeg
  · subst hq
    rw [hnr x rfl, pk_us]
    exact ⟨h1, h2⟩
  · rw [pk_un hq]
    exact h4 j hj
end JY
