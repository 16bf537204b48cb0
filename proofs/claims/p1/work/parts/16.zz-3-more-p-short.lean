/-! the shortest way: what is come to within k steps -/
def jcm (op : Nat → Bool) : Nat → Nat → Bool
  | 0, n => decide (n = 9)
  | k + 1, n => jcm op k n || (op n && (jcm op k (n - 1) || jcm op k (n + 1) || jcm op k (n - 8) || jcm op k (n + 8)))
def jshort (op : Nat → Bool) (GL : Nat) (y : Int) : Prop := (0 ≤ y ∧ y < 36 ∧ jcm op y.toNat GL = true ∧ ∀ j : Nat, (j : Int) < y → jcm op j GL = false) ∨ (y = -1 ∧ ∀ j : Nat, j < 36 → jcm op j GL = false)
theorem jshort.same {op : Nat → Bool} {GL : Nat} {y z : Int} (h : jshort op GL y) (k : jshort op GL z) : y = z := by
  rcases h with ⟨a1, a2, a3, a4⟩ | ⟨a1, a2⟩ <;> rcases k with ⟨b1, b2, b3, b4⟩ | ⟨b1, b2⟩
  · by_cases c : y < z
    · have q := b4 y.toNat (by omega)
      rw [a3] at q
      exact absurd q (by decide)
    · by_cases d : z < y
      · have q := a4 z.toNat (by omega)
        rw [b3] at q
        exact absurd q (by decide)
      · omega
  · have q := b2 y.toNat (by omega)
    rw [a3] at q
    exact absurd q (by decide)
  · have q := a2 z.toNat (by omega)
    rw [b3] at q
    exact absurd q (by decide)
  · omega
theorem jcm_suc {op : Nat → Bool} {k n : Nat} : jcm op (k + 1) n = true ↔ jcm op k n = true ∨ (op n = true ∧ (jcm op k (n - 1) = true ∨ jcm op k (n + 1) = true ∨ jcm op k (n - 8) = true ∨ jcm op k (n + 8) = true)) := by
  show (jcm op k n || (op n && (jcm op k (n - 1) || jcm op k (n + 1) || jcm op k (n - 8) || jcm op k (n + 8)))) = true ↔ _
  simp only [Bool.or_eq_true, Bool.and_eq_true, or_assoc]
theorem jcm_mono {op : Nat → Bool} {n k : Nat} (h : jcm op k n = true) : jcm op (k + 1) n = true := jcm_suc.mpr (Or.inl h)
theorem jcm_dk {op : Nat → Bool} {n k d : Nat} (h : jcm op k n = true) (h9 : 9 ≤ n) (ho : op (jdk n d) = true) : jcm op (k + 1) (jdk n d) = true := by
  refine jcm_suc.mpr (Or.inr ⟨ho, ?_⟩)
  unfold jdk
  by_cases c0 : d = 0
  · rw [if_pos c0]
    exact Or.inl (by rw [show n + 1 - 1 = n by omega]; exact h)
  · rw [if_neg c0]
    by_cases c1 : d = 1
    · rw [if_pos c1]
      exact Or.inr (Or.inr (Or.inl (by rw [show n + 8 - 8 = n by omega]; exact h)))
    · rw [if_neg c1]
      by_cases c2 : d = 2
      · rw [if_pos c2]
        exact Or.inr (Or.inl (by rw [show n - 1 + 1 = n by omega]; exact h))
      · rw [if_neg c2]
        exact Or.inr (Or.inr (Or.inr (by rw [show n - 8 + 8 = n by omega]; exact h)))
/-! bits that are moved -/
theorem jbt_sl {x : Int64} {k : Int32} {m : Nat} (hk : (k.toInt64 &&& 63).toBitVec.smod 64 = BitVec.ofNat 64 m) (hm : m < 64) (n : Nat) : jbt (x <<< (k.toInt64 &&& 63)) n = (decide (n < 64) && !decide (n < m) && jbt x (n - m)) := by
  unfold jbt
  show (x.toBitVec <<< ((k.toInt64 &&& 63).toBitVec.smod 64)).getLsbD n = _
  rw [hk, BitVec.getLsbD_shiftLeft', BitVec.toNat_ofNat, Nat.mod_eq_of_lt (show m < 2 ^ 64 by omega)]
theorem jbt_sr {x : Int64} {k : Int32} {m : Nat} (hk : k.toInt64.toUInt64 &&& Int64.toUInt64 63 = UInt64.ofNat m) (hm : m < 64) (n : Nat) : jbt (jlsr x k) n = jbt x (m + n) := by
  unfold jbt
  rw [jlsr_bv x k m hm hk, BitVec.getLsbD_ushiftRight]
theorem jb5 : ∀ p a b c d : Bool, (p || ((((true && !false && a) || b) || (true && !false && c)) || d) && true) = (p || (true && (((a || b) || c) || d))) := by decide
theorem jcm_step {op x : Int64} {k : Nat} (h : ∀ n : Nat, jbt x n = jcm (jbt op) k n) (hop : ∀ n : Nat, jbt op n = true → 9 ≤ n ∧ n ≤ 54) {a b c d : Int32} (ha : a = 1) (hb : b = 1) (hc : c = 8) (hd : d = 8) (n : Nat) : jbt (x ||| ((((x <<< (a.toInt64 &&& 63)) ||| jlsr x b) ||| (x <<< (c.toInt64 &&& 63)) ||| jlsr x d) &&& op)) n = jcm (jbt op) (k + 1) n := by
  subst ha
  subst hb
  subst hc
  subst hd
  rw [jbt_or, jbt_and, jbt_or, jbt_or, jbt_or, jbt_sl (m := 1) (by decide +kernel) (by decide), jbt_sr (m := 1) (by decide +kernel) (by decide), jbt_sl (m := 8) (by decide +kernel) (by decide), jbt_sr (m := 8) (by decide +kernel) (by decide), h, h, h, h, h]
  show _ = (jcm (jbt op) k n || (jbt op n && (jcm (jbt op) k (n - 1) || jcm (jbt op) k (n + 1) || jcm (jbt op) k (n - 8) || jcm (jbt op) k (n + 8))))
  by_cases e : jbt op n = true
  · have q := hop n e
    rw [e, decide_eq_true (show n < 64 by omega), decide_eq_false (show ¬ n < 1 by omega), decide_eq_false (show ¬ n < 8 by omega), Nat.add_comm 1 n, Nat.add_comm 8 n]
    exact jb5 _ _ _ _ _
  · rw [Bool.eq_false_iff.mpr e, Bool.and_false, Bool.false_and]
/-! the reference: far from the first place, a queue -/
def jbn9 (op : Nat → Bool) (w : Nat) (A : Int) (Q F : Nat → Int32) (j : Nat) (D : Int) : Prop := ∀ d : Nat, (d : Int) < D → op (jdk (jpb9 w (Q j).toInt.toNat) d) = true → ∃ r : Nat, (r : Int) < A ∧ jpb9 w r = jdk (jpb9 w (Q j).toInt.toNat) d ∧ 0 ≤ (F r).toInt ∧ (F r).toInt ≤ (F (Q j).toInt.toNat).toInt + 1
def jbq (op : Nat → Bool) (w : Nat) (A : Int) (Q F : Nat → Int32) (i m : Int) : Prop :=
  (0 < A ∧ 1 ≤ m ∧ (F 0).toInt = 0)
  ∧ (∀ q : Nat, (q : Int) < A → 0 ≤ (F q).toInt → jcm op (F q).toInt.toNat (jpb9 w q) = true ∧ ∃ j : Nat, (j : Int) < m ∧ (Q j).toInt.toNat = q)
  ∧ (∀ j : Nat, (j : Int) < m → (0 ≤ (Q j).toInt ∧ (Q j).toInt < A) ∧ 0 ≤ (F (Q j).toInt.toNat).toInt ∧ (F (Q j).toInt.toNat).toInt ≤ (j : Int))
  ∧ (∀ a b : Nat, a ≤ b → (b : Int) < m → (F (Q a).toInt.toNat).toInt ≤ (F (Q b).toInt.toNat).toInt)
  ∧ (∀ b : Nat, (b : Int) < m → i < m → (F (Q b).toInt.toNat).toInt ≤ (F (Q i.toNat).toInt.toNat).toInt + 1)
  ∧ ∀ j : Nat, (j : Int) < i → jbn9 op w A Q F j 4
section JBQ
variable {op : Nat → Bool} {w : Nat} {A i m : Int} {Q F : Nat → Int32}
theorem jbq.init (hA : 0 < A) (hQ : (Q 0).toInt = 0) (hF : (F 0).toInt = 0) (hr : ∀ q : Nat, q ≠ 0 → (q : Int) < A → (F q).toInt = -1) : jbq op w A Q F 0 1 := by
  have e0 : ∀ j : Nat, (j : Int) < 1 → j = 0 := fun j hj => by omega
  have eQ : (Q 0).toInt.toNat = 0 := by rw [hQ]; rfl
  refine ⟨⟨hA, by decide, hF⟩, fun q hq h => ?_, fun j hj => ?_, fun a b hab hb => ?_, fun b hb _ => ?_, fun j hj => absurd hj (by omega)⟩
  · by_cases c : q = 0
    · subst c
      refine ⟨?_, 0, by decide, eQ⟩
      rw [hF, jpb_0]
      rfl
    · have z := hr q c hq
      omega
  · rw [e0 j hj, eQ, hQ, hF]
    exact ⟨⟨by omega, hA⟩, by decide, by decide⟩
  · rw [e0 b hb, show a = 0 by have := e0 b hb; omega]
    exact Int.le_refl _
  · rw [e0 b hb, show (0 : Int).toNat = 0 by decide]
    omega
theorem jbq.add {Q' F' : Nat → Int32} {y : Int32} {d : Nat} (h : jbq op w A Q F i m) (hi : 0 ≤ i) (him : i < m) (hy : 0 ≤ y.toInt ∧ y.toInt < A) (hn : (F y.toInt.toNat).toInt = -1) (hop : op (jdk (jpb9 w (Q i.toNat).toInt.toNat) d) = true) (hk : jpb9 w y.toInt.toNat = jdk (jpb9 w (Q i.toNat).toInt.toNat) d) (hF : (F' y.toInt.toNat).toInt = (F (Q i.toNat).toInt.toNat).toInt + 1) (hFo : ∀ q : Nat, q ≠ y.toInt.toNat → F' q = F q) (hQ : Q' m.toNat = y) (hQo : ∀ j : Nat, j ≠ m.toNat → Q' j = Q j) :
    jbq op w A Q' F' i (m + 1) ∧ ∀ (j : Nat) (D : Int), (j : Int) < m → jbn9 op w A Q F j D → jbn9 op w A Q' F' j D := by
  obtain ⟨⟨hA, hm1, hF0⟩, h1, h2, h3, h4, h5⟩ := h
  have oQ : ∀ j : Nat, (j : Int) < m → Q' j = Q j := fun j hj => hQo j (by omega)
  have nQ : ∀ j : Nat, (j : Int) < m → (Q j).toInt.toNat ≠ y.toInt.toNat := fun j hj e => by
    have q := (h2 j hj).2.1
    rw [e, hn] at q
    exact absurd q (by decide)
  have oF : ∀ j : Nat, (j : Int) < m → (F' (Q' j).toInt.toNat).toInt = (F (Q j).toInt.toNat).toInt := fun j hj => by rw [oQ j hj, hFo _ (nQ j hj)]
  have eF : (F' (Q' m.toNat).toInt.toNat).toInt = (F (Q i.toNat).toInt.toNat).toInt + 1 := by rw [hQ, hF]
  have hiN : ((i.toNat : Nat) : Int) < m := by omega
  have b2 := h2 i.toNat hiN
  have hmm : ∀ j : Nat, (j : Int) < m + 1 → ¬ (j : Int) < m → j = m.toNat := fun j a b => by omega
  have kb : ∀ (j : Nat) (D : Int), (j : Int) < m → jbn9 op w A Q F j D → jbn9 op w A Q' F' j D := fun j D hj hb e he ho => by
    rw [oQ j hj] at ho ⊢
    obtain ⟨r, r1, r2, r3, r4⟩ := hb e he ho
    refine ⟨r, r1, r2, ?_⟩
    have c : r ≠ y.toInt.toNat := fun z => by rw [z, hn] at r3; exact absurd r3 (by decide)
    rw [hFo r c, hFo _ (nQ j hj)]
    exact ⟨r3, r4⟩
  refine ⟨⟨⟨hA, by omega, ?_⟩, fun q hq hp => ?_, fun j hj => ?_, fun a b hab hb => ?_, fun b hb _ => ?_, fun j hj => kb j 4 (by omega) (h5 j hj)⟩, kb⟩
  · rw [hFo 0 (fun z => by rw [← z, hF0] at hn; exact absurd hn (by decide))]
    exact hF0
  · by_cases c : q = y.toInt.toNat
    · subst c
      refine ⟨?_, m.toNat, by omega, by rw [hQ]⟩
      rw [hF, hk, show ((F (Q i.toNat).toInt.toNat).toInt + 1).toNat = (F (Q i.toNat).toInt.toNat).toInt.toNat + 1 by omega]
      refine jcm_dk (h1 _ (by omega) b2.2.1).1 ?_ hop
      unfold jpb9
      omega
    · rw [hFo q c] at hp ⊢
      obtain ⟨q1, j, q2, q3⟩ := h1 q hq hp
      exact ⟨q1, j, by omega, by rw [oQ j q2]; exact q3⟩
  · by_cases c : (j : Int) < m
    · rw [oF j c, oQ j c]
      exact h2 j c
    · rw [hmm j hj c, eF, hQ]
      exact ⟨hy, by omega, by omega⟩
  · by_cases c : (b : Int) < m
    · rw [oF a (by omega), oF b c]
      exact h3 a b hab c
    · rw [hmm b hb c, eF]
      by_cases e : (a : Int) < m
      · rw [oF a e]
        exact h4 a e him
      · rw [hmm a (by omega) e, eF]
        exact Int.le_refl _
  · rw [oF i.toNat hiN]
    by_cases c : (b : Int) < m
    · rw [oF b c]
      exact h4 b c him
    · rw [hmm b hb c, eF]
      exact Int.le_refl _
theorem jbq.next (h : jbq op w A Q F i m) (hi : 0 ≤ i) (him : i < m) (hb : jbn9 op w A Q F i.toNat 4) : jbq op w A Q F (i + 1) m := by
  obtain ⟨h0, h1, h2, h3, h4, h5⟩ := h
  refine ⟨h0, h1, h2, h3, fun b hb hm => ?_, fun j hj => ?_⟩
  · have q1 := h4 b hb him
    have q2 := h3 i.toNat (i + 1).toNat (by omega) (by omega)
    omega
  · by_cases c : (j : Int) < i
    · exact h5 j c
    · rw [show j = i.toNat by omega]
      exact hb
/-- no place there -/
theorem jbn9.no {j : Nat} {D : Int} (h : jbn9 op w A Q F j D) (hD : 0 ≤ D) (hn : op (jdk (jpb9 w (Q j).toInt.toNat) D.toNat) = false) : jbn9 op w A Q F j (D + 1) := fun d hd ho => by
  by_cases c : (d : Int) < D
  · exact h d c ho
  · rw [show d = D.toNat by omega, hn] at ho
    exact absurd ho (by decide)
theorem jbn9.yes {j r : Nat} {D : Int} (h : jbn9 op w A Q F j D) (hD : 0 ≤ D) (h1 : (r : Int) < A) (h2 : jpb9 w r = jdk (jpb9 w (Q j).toInt.toNat) D.toNat) (h3 : 0 ≤ (F r).toInt ∧ (F r).toInt ≤ (F (Q j).toInt.toNat).toInt + 1) : jbn9 op w A Q F j (D + 1) := fun d hd ho => by
  by_cases c : (d : Int) < D
  · exact h d c ho
  · rw [show d = D.toNat by omega]
    exact ⟨r, h1, h2, h3⟩
theorem jbq.old (h : jbq op w A Q F i m) (hi : 0 ≤ i) (him : i < m) {r : Nat} (hr : (r : Int) < A) (h0 : 0 ≤ (F r).toInt) : 0 ≤ (F r).toInt ∧ (F r).toInt ≤ (F (Q i.toNat).toInt.toNat).toInt + 1 := by
  obtain ⟨-, h1, -, -, h4, -⟩ := h
  obtain ⟨-, j, q2, q3⟩ := h1 r hr h0
  have q := h4 j q2 him
  rw [q3] at q
  exact ⟨h0, q⟩
theorem jbq.all (h : jbq op w A Q F i m) (hi : i = m) (h64 : ∀ n : Nat, op n = true → 9 ≤ n) : ∀ (k n : Nat), jcm op k n = true → ∃ q : Nat, (q : Int) < A ∧ jpb9 w q = n ∧ 0 ≤ (F q).toInt ∧ (F q).toInt ≤ (k : Int)
  | 0, n, hc => by
    have e : n = 9 := of_decide_eq_true hc
    obtain ⟨⟨hA, -, hF⟩, -⟩ := h
    exact ⟨0, hA, by rw [e]; exact jpb_0 w, by omega, by omega⟩
  | k + 1, n, hc => by
    rcases jcm_suc.mp hc with q | ⟨ho, q⟩
    · obtain ⟨r, r1, r2, r3, r4⟩ := jbq.all h hi h64 k n q
      exact ⟨r, r1, r2, r3, by omega⟩
    · have h9 := h64 n ho
      have go : ∀ (n2 d : Nat), (d : Int) < 4 → jdk n2 d = n → jcm op k n2 = true → ∃ q : Nat, (q : Int) < A ∧ jpb9 w q = n ∧ 0 ≤ (F q).toInt ∧ (F q).toInt ≤ ((k + 1 : Nat) : Int) := fun n2 d hd e c => by
        obtain ⟨r, r1, r2, r3, r4⟩ := jbq.all h hi h64 k n2 c
        obtain ⟨-, h1, -, -, -, h5⟩ := h
        obtain ⟨-, j, j1, j2⟩ := h1 r r1 r3
        have z := h5 j (by omega) d hd
        rw [j2, r2, e] at z
        obtain ⟨s, s1, s2, s3, s4⟩ := z ho
        exact ⟨s, s1, s2, s3, by omega⟩
      rcases q with q | q | q | q
      · exact go (n - 1) 0 (by decide) (by show (if (0 : Nat) = 0 then _ else _) = _; rw [if_pos rfl]; omega) q
      · exact go (n + 1) 2 (by decide) (by show n + 1 - 1 = n; omega) q
      · exact go (n - 8) 1 (by decide) (by show n - 8 + 8 = n; omega) q
      · exact go (n + 8) 3 (by decide) (by show n + 8 - 8 = n; omega) q
theorem jbq.short (h : jbq op w A Q F i m) (hi : i = m) (hm : m ≤ 36) (h64 : ∀ n : Nat, op n = true → 9 ≤ n) (hw : 0 < w) (hw8 : w ≤ 8) {g GL : Nat} (hg : (g : Int) < A) (hGL : jpb9 w g = GL) (hr : (F g).toInt = -1 ∨ 0 ≤ (F g).toInt) : jshort op GL (F g).toInt := by
  have all := jbq.all h hi h64
  have no : ∀ k : Nat, ((F g).toInt = -1 ∨ (k : Int) < (F g).toInt) → jcm op k GL = false := fun k hk => Bool.eq_false_iff.mpr (fun c => by
    obtain ⟨q, q1, q2, q3, q4⟩ := all k GL c
    have e := jpb_inj hw hw8 (q2.trans hGL.symm)
    rw [e] at q3 q4
    omega)
  rcases hr with c | c
  · exact Or.inr ⟨c, fun j _ => no j (Or.inl c)⟩
  · obtain ⟨-, h1, h2, -⟩ := h
    obtain ⟨q1, j, j1, j2⟩ := h1 g hg c
    have q := (h2 j j1).2.2
    rw [j2] at q
    rw [hGL] at q1
    exact Or.inl ⟨c, by omega, q1, fun k hk => no k (Or.inr hk)⟩
end JBQ
theorem jop54 {op : Int64} {w h : Int32} {H : Nat → Int32} (hbt : ∀ n : Nat, jbt op n = true ↔ ∃ a b : Nat, ((a : Int) < w.toInt ∧ (b : Int) < h.toInt) ∧ n = 9 + a + 8 * b ∧ (H (a + w.toInt.toNat * b)).toInt = 0) (hb : 2 ≤ w.toInt ∧ w.toInt ≤ 6 ∧ 2 ≤ h.toInt ∧ h.toInt ≤ 6) : ∀ n : Nat, jbt op n = true → 9 ≤ n ∧ n ≤ 54 := fun n hn => by
  obtain ⟨a, b, ⟨ha, hb2⟩, e, -⟩ := (hbt n).mp hn
  omega
theorem jopr_of {op : Int64} {w h : Int32} {H : Nat → Int32} (hbt : ∀ n : Nat, jbt op n = true ↔ ∃ a b : Nat, ((a : Int) < w.toInt ∧ (b : Int) < h.toInt) ∧ n = 9 + a + 8 * b ∧ (H (a + w.toInt.toNat * b)).toInt = 0) : jopr (jbt op) w.toInt.toNat h.toInt.toNat H := fun n =>
  (hbt n).trans ⟨fun ⟨a, b, ⟨q1, q2⟩, e, z⟩ => ⟨a, b, ⟨by omega, by omega⟩, e, z⟩, fun ⟨a, b, ⟨q1, q2⟩, e, z⟩ => ⟨a, b, ⟨by omega, by omega⟩, e, z⟩⟩
