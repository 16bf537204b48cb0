/-! where the reference stands in its count, over free variables -/
def jrS (g : Int) (N : Nat) (j rc : Int) (a4 : jA4) (PX PY PZ T : Nat → Int32) : Prop := jrb g (jsr N (jscB (2 ≤ N) g)) N (jPf PX PY PZ) (fun q : Nat => (T q).toInt) (j + 1).toNat (rc.toNat, a4) = jny g (jsr N (jscB (2 ≤ N) g)) N jL0 (0, jZ4)
section JRS
variable {g : Int} {N : Nat} {j rc rc2 : Int} {a4 b4 : jA4} {PX PY PZ T PX' PY' PZ' T' : Nat → Int32}
theorem jrS.get (h : jrS g N j rc a4 PX PY PZ T) (hj : 0 ≤ j) : jrm g (jsr N (jscB (2 ≤ N) g)) N (jPf PX PY PZ) (fun q : Nat => (T q).toInt) j.toNat (rc.toNat, a4) = jny g (jsr N (jscB (2 ≤ N) g)) N jL0 (0, jZ4) := by
  unfold jrS at h
  rw [show (j + 1).toNat = j.toNat + 1 by omega] at h
  exact h
theorem jrS.put (hj : 0 ≤ j) (h : jrm g (jsr N (jscB (2 ≤ N) g)) N (jPf PX PY PZ) (fun q : Nat => (T q).toInt) j.toNat (rc.toNat, a4) = jny g (jsr N (jscB (2 ≤ N) g)) N jL0 (0, jZ4)) : jrS g N j rc a4 PX PY PZ T := by
  unfold jrS
  rw [show (j + 1).toNat = j.toNat + 1 by omega]
  exact h
theorem jrS.init (hn : 1 ≤ N) (hP : jPf PX PY PZ 0 = (0, 0, 0)) (hT : (T 0).toInt = -1) : jrS g N 0 0 jZ4 PX PY PZ T :=
  jrS.put (Int.le_refl _) (jrm_init (g := g) (s := jsr N (jscB (2 ≤ N) g)) (n := N) (P := jPf PX PY PZ) (R := fun q : Nat => (T q).toInt) (a := (0, jZ4)) hn hP hT)
theorem jrS.out (h : jrS g N j rc a4 PX PY PZ T) (hj : 0 ≤ j) (h4 : (T j.toNat).toInt + 1 = jdir g) (ho : ∀ i : Nat, i ≠ j.toNat → T' i = T i) : jrS g N (j + (-1)) rc a4 PX PY PZ T' := by
  unfold jrS
  rw [show (j + (-1) + 1).toNat = j.toNat by omega, ← h.get hj]
  exact (jrm_out (R := fun q : Nat => (T q).toInt) (R' := fun q : Nat => (T' q).toInt) h4 (fun i hi => congrArg Int32.toInt (ho i (by omega)))).symm
theorem jrS.same (h : jrS g N j rc a4 PX PY PZ T) (hj : 0 ≤ j) (h0 : 0 ≤ (T j.toNat).toInt + 1) (h1 : (T j.toNat).toInt + 1 < jdir g) (hT : (T' j.toNat).toInt = (T j.toNat).toInt + 1) (ho : ∀ i : Nat, i ≠ j.toNat → T' i = T i) (hin : jnx g ((T j.toNat).toInt + 1) (jPf PX PY PZ j.toNat) ∈ jpl3 (jPf PX PY PZ) j.toNat) : jrS g N j rc a4 PX PY PZ T' := by
  refine jrS.put hj ?_
  rw [← h.get hj]
  exact (jrm_same (R := fun q : Nat => (T q).toInt) (R' := fun q : Nat => (T' q).toInt) h0 h1 (fun i hi => congrArg Int32.toInt (ho i (by omega))) hT hin).symm
theorem jsr_put {l : List jP3} (hr : rc2.toNat = rc.toNat + 1) (hl : l.length = N + 1) (ha : b4 = jscB (2 ≤ N) g l a4) : jsr N (jscB (2 ≤ N) g) l (rc.toNat, a4) = (rc2.toNat, b4) := by
  unfold jsr
  rw [if_pos hl, hr, ha]
theorem jsr_pass {l : List jP3} (hr : rc2.toNat = rc.toNat + 1) (hl : ¬ l.length = N + 1) : jsr N (jscB (2 ≤ N) g) l (rc.toNat, a4) = (rc2.toNat, a4) := by
  unfold jsr
  rw [if_neg hl, hr]
theorem jrS.leaf (h : jrS g N j rc a4 PX PY PZ T) (hj : 0 ≤ j) (h0 : 0 ≤ (T j.toNat).toInt + 1) (h1 : (T j.toNat).toInt + 1 < jdir g) (hT : (T' j.toNat).toInt = (T j.toNat).toInt + 1) (ho : ∀ i : Nat, i ≠ j.toNat → T' i = T i) (hin : ¬ jnx g ((T j.toNat).toInt + 1) (jPf PX PY PZ j.toNat) ∈ jpl3 (jPf PX PY PZ) j.toNat) (hn : j.toNat + 1 = N) (hr : rc2.toNat = rc.toNat + 1) (ha : b4 = jscB (2 ≤ N) g (jnx g ((T j.toNat).toInt + 1) (jPf PX PY PZ j.toNat) :: jpl3 (jPf PX PY PZ) j.toNat) a4) (hP : ∀ k : Nat, k ≤ j.toNat → jPf PX PY PZ k = jPf PX' PY' PZ' k) : jrS g N j rc2 b4 PX' PY' PZ' T' := by
  refine jrS.put hj ?_
  rw [← h.get hj]
  have q := jrm_leaf (s := jsr N (jscB (2 ≤ N) g)) (n := N) (P := jPf PX PY PZ) (a := (rc.toNat, a4)) (R := fun q : Nat => (T q).toInt) (R' := fun q : Nat => (T' q).toInt) h0 h1 (fun i hi => congrArg Int32.toInt (ho i (by omega))) hT hin hn
  rw [q]
  rw [jsr_put hr (by rw [List.length_cons, jpl3_len]; omega) ha]
  exact (jrm_congr j.toNat (fun i hi => ⟨hP i hi, rfl⟩) _).symm
theorem jrS.down (h : jrS g N j rc a4 PX PY PZ T) (hj : 0 ≤ j) (h0 : 0 ≤ (T j.toNat).toInt + 1) (h1 : (T j.toNat).toInt + 1 < jdir g) (hT : (T' j.toNat).toInt = (T j.toNat).toInt + 1) (ho : ∀ i : Nat, i < j.toNat → T' i = T i) (hin : ¬ jnx g ((T j.toNat).toInt + 1) (jPf PX PY PZ j.toNat) ∈ jpl3 (jPf PX PY PZ) j.toNat) (hn : j.toNat + 1 < N) (hr : rc2.toNat = rc.toNat + 1) (hP : ∀ k : Nat, k ≤ j.toNat → jPf PX PY PZ k = jPf PX' PY' PZ' k) (hP2 : jPf PX' PY' PZ' (j.toNat + 1) = jnx g ((T j.toNat).toInt + 1) (jPf PX PY PZ j.toNat)) (hT2 : (T' (j.toNat + 1)).toInt = -1) : jrS g N (j + 1) rc2 a4 PX' PY' PZ' T' := by
  refine jrS.put (by omega) ?_
  rw [show (j + 1).toNat = j.toNat + 1 by omega, ← h.get hj]
  have q := jrm_down (s := jsr N (jscB (2 ≤ N) g)) (n := N) (P := jPf PX PY PZ) (P' := jPf PX' PY' PZ') (a := (rc.toNat, a4)) (R := fun q : Nat => (T q).toInt) (R' := fun q : Nat => (T' q).toInt) h0 h1 (fun i hi => congrArg Int32.toInt (ho i (by omega))) hT hin hn (fun i hi => (hP i hi).symm) hP2 hT2
  rw [q]
  rw [jsr_pass hr (by rw [List.length_cons, jpl3_len]; omega)]
theorem jrS.fresh (h : jrS g N j rc a4 PX PY PZ T) (hj : 0 ≤ j) (hR : ∀ i : Nat, i ≤ j.toNat → -1 ≤ (T i).toInt) (hn : 1 ≤ N) (h0 : 0 ≤ (T j.toNat).toInt + 1) (h1 : (T j.toNat).toInt + 1 < jdir g) (hin : ¬ jnx g ((T j.toNat).toInt + 1) (jPf PX PY PZ j.toNat) ∈ jpl3 (jPf PX PY PZ) j.toNat) : rc.toNat + 1 ≤ jTT g N jL0 :=
  jrq_fresh (R := fun q : Nat => (T q).toInt) (j := j.toNat) (a := (rc.toNat, a4)) hR (h.get hj) hn h0 h1 hin
theorem jrS.done (h : jrS g N j rc a4 PX PY PZ T) (hj : j = -1) (hn : 1 ≤ N) : rc.toNat = jTT g N jL0 ∧ a4 = jrq g N := by
  subst hj
  exact jrq_done (a := (rc.toNat, a4)) hn h
end JRS
