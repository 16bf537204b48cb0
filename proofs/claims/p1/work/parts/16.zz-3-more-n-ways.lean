/-! ways: what the class's plane holds -/
def jsh9 (d : Int) : Int := if d = 0 then 1 else if d = 1 then 8 else if d = 2 then -1 else -8
theorem jsh_b (d : Int) : -8 ≤ jsh9 d ∧ jsh9 d ≤ 8 := by unfold jsh9; split <;> (try split) <;> (try split) <;> omega
theorem jtabw {i : Int32} (h0 : 0 ≤ i.toInt) (h1 : i.toInt < 4) : (jSv3.getD i.toNatClampNeg 0).toInt = jsh9 i.toInt := by
  have e : ∀ a : Nat, a < 4 → (jSv3.getD a 0).toInt = jsh9 (a : Int) := by decide +kernel
  have hi : i.toNatClampNeg = i.toInt.toNat := rfl
  rw [hi, e i.toInt.toNat (by omega), Int.toNat_of_nonneg h0]
theorem jdk_eq {x d : Int} (h : 9 ≤ x) (h0 : 0 ≤ d) (h1 : d < 4) : ((jdk x.toNat d.toNat : Nat) : Int) = x + jsh9 d := by
  unfold jdk jsh9
  rcases (show d = 0 ∨ d = 1 ∨ d = 2 ∨ d = 3 by omega) with e | e | e | e <;> subst e
  · rw [if_pos (by decide), if_pos (by decide)]; omega
  · rw [if_neg (by decide), if_pos (by decide), if_neg (by decide), if_pos (by decide)]; omega
  · rw [if_neg (by decide), if_neg (by decide), if_pos (by decide), if_neg (by decide), if_neg (by decide), if_pos (by decide)]; omega
  · rw [if_neg (by decide), if_neg (by decide), if_neg (by decide), if_neg (by decide), if_neg (by decide), if_neg (by decide)]; omega
theorem jbt_m1 {n : Nat} (h : n < 64) : jbt (-1) n = true := by
  unfold jbt
  rw [show ((-1 : Int64)).toBitVec = BitVec.allOnes 64 by decide +kernel, BitVec.getLsbD_allOnes]
  exact decide_eq_true h
theorem jbt_big {x : Int64} {n : Nat} (h : 64 ≤ n) : jbt x n = false := BitVec.getLsbD_of_ge _ _ h
theorem jrest {op : Nat → Bool} {l : List Nat} {x b : Int64} {k : Nat} (h64 : ∀ n : Nat, op n = true → 9 ≤ n ∧ n ≤ 54) (hx : ∀ n : Nat, jbt x n = (op n && !decide (n ∈ l))) (hb : ∀ n : Nat, jbt b n = decide (n = k)) (n : Nat) : jbt (x &&& (b ^^^ (-1))) n = (op n && !decide (n ∈ k :: l)) := by
  rw [jbt_and, hx n]
  by_cases e : op n = true
  · rw [e, jbt_xor, hb n, jbt_m1 (by have := h64 n e; omega)]
    by_cases w : n = k
    · rw [decide_eq_true w, decide_eq_true (show n ∈ k :: l from List.mem_cons.mpr (Or.inl w))]
      cases decide (n ∈ l) <;> rfl
    · by_cases q : n ∈ l
      · rw [decide_eq_true q, decide_eq_true (List.mem_cons_of_mem k q)]; rfl
      · rw [decide_eq_false q, decide_eq_false w, decide_eq_false (show ¬ n ∈ k :: l from fun z => (List.mem_cons.mp z).elim w q)]; rfl
  · rw [Bool.eq_false_iff.mpr e]; rfl
theorem jrest0 {op : Nat → Bool} {NO : Nat} {m : List Nat} {y : Int64} (hy : ∀ n : Nat, jbt y n = (op n && !decide (n ∈ m))) (hm : jli op NO m) : y = 0 ↔ m.length = NO := by
  rw [hm.full]
  constructor
  · intro h n hn c
    have q := hy n
    rw [h, jbt_zero, c.1, decide_eq_false c.2] at q
    exact absurd q (by decide)
  · intro h
    refine jbt_ext (fun n => ?_)
    rw [jbt_zero]
    by_cases c : n < 64
    · rw [hy n]
      by_cases e : op n = true
      · rw [e, decide_eq_true (Classical.byContradiction (fun z => h n c ⟨e, z⟩))]; rfl
      · rw [Bool.eq_false_iff.mpr e]; rfl
    · exact jbt_big (by omega)
/-- the numbers that the plane holds -/
def jwr (a : jW9) (rc aw fw : Int32) (WB : Nat → Int32) : Prop := (rc.toInt = (a.1 : Int) ∧ aw.toInt = (a.2.2.1 : Int) ∧ fw.toInt = (a.2.2.2 : Int)) ∧ (∀ k : Nat, k < 36 → (WB k).toInt = (a.2.1 k : Int)) ∧ (a.2.2.1 ≤ a.1 ∧ a.2.2.2 ≤ a.1 ∧ ∀ k : Nat, k < 36 → a.2.1 k ≤ a.1)
theorem jwr.zero {rc aw fw : Int32} {WB : Nat → Int32} (h1 : rc.toInt = 0) (h2 : aw.toInt = 0) (h3 : fw.toInt = 0) (h4 : ∀ k : Nat, k < 36 → (WB k).toInt = 0) : jwr jW0 rc aw fw WB := ⟨⟨h1, h2, h3⟩, h4, Nat.le_refl _, Nat.le_refl _, fun _ _ => Nat.le_refl _⟩
theorem jwr.no {a : jW9} {rc aw fw rc2 : Int32} {WB : Nat → Int32} {GL NO : Nat} {m : List Nat} (h : jwr a rc aw fw WB) (hg : ¬ m.headD 0 = GL) (e1 : rc2.toInt = rc.toInt + 1) : jwr (jws GL NO m a) rc2 aw fw WB := by
  obtain ⟨⟨a1, a2, a3⟩, a4, a5, a6, a7⟩ := h
  unfold jws
  rw [if_neg hg]
  refine ⟨⟨?_, a2, a3⟩, a4, Nat.le_succ_of_le a5, Nat.le_succ_of_le a6, fun k hk => Nat.le_succ_of_le (a7 k hk)⟩
  show rc2.toInt = ((a.1 + 1 : Nat) : Int)
  omega
theorem jwr.yes {a : jW9} {rc aw fw rc2 aw2 fw2 : Int32} {WB WB2 : Nat → Int32} {GL NO : Nat} {m : List Nat} {j : Nat} (h : jwr a rc aw fw WB) (hg : m.headD 0 = GL) (hj : m.length = j + 1) (hj36 : j < 36) (e1 : rc2.toInt = rc.toInt + 1) (e2 : aw2.toInt = aw.toInt + 1) (e3 : (fw2.toInt = fw.toInt + 1 ∧ m.length = NO) ∨ (fw2.toInt = fw.toInt ∧ ¬ m.length = NO)) (e4 : (WB2 j).toInt = (WB j).toInt + 1) (e5 : ∀ i : Nat, i ≠ j → WB2 i = WB i) : jwr (jws GL NO m a) rc2 aw2 fw2 WB2 := by
  obtain ⟨⟨a1, a2, a3⟩, a4, a5, a6, a7⟩ := h
  have hk : m.length - 1 = j := by omega
  unfold jws
  rw [if_pos hg, hk]
  have b4 : ∀ k : Nat, k < 36 → (WB2 k).toInt = (((if k = j then a.2.1 k + 1 else a.2.1 k) : Nat) : Int) ∧ (if k = j then a.2.1 k + 1 else a.2.1 k) ≤ a.1 + 1 := fun k hk => by
    have q1 := a4 k hk
    have q2 := a7 k hk
    by_cases c : k = j
    · subst c
      rw [if_pos rfl]
      exact ⟨by omega, by omega⟩
    · rw [if_neg c, e5 k c]
      exact ⟨q1, by omega⟩
  refine ⟨⟨?_, ?_, ?_⟩, fun k hk => (b4 k hk).1, ?_, ?_, fun k hk => (b4 k hk).2⟩
  · show rc2.toInt = ((a.1 + 1 : Nat) : Int)
    omega
  · show aw2.toInt = ((a.2.2.1 + 1 : Nat) : Int)
    omega
  · show fw2.toInt = (((if m.length = NO then a.2.2.2 + 1 else a.2.2.2) : Nat) : Int)
    rcases e3 with ⟨q1, q2⟩ | ⟨q1, q2⟩
    · rw [if_pos q2]; omega
    · rw [if_neg q2]; omega
  · show a.2.2.1 + 1 ≤ a.1 + 1
    omega
  · show (if m.length = NO then a.2.2.2 + 1 else a.2.2.2) ≤ a.1 + 1
    by_cases c : m.length = NO
    · rw [if_pos c]; omega
    · rw [if_neg c]; omega
/-- one step of the count -/
abbrev jwf (op : Nat → Bool) (GL NO k : Nat) (l : List Nat) : Nat → jW9 → jW9 := jgs (jch op) (fun m b => jgy 4 (jch op) (jwz GL NO) k m (jwz GL NO m b)) l
theorem jwf_0 {op : Nat → Bool} {GL NO k : Nat} {l : List Nat} {a : jW9} : jgy 4 (jch op) (jwz GL NO) (k + 1) l a = jfe 4 (jwf op GL NO k l) 4 a := rfl
theorem jwf_no {op : Nat → Bool} {GL NO k : Nat} {l : List Nat} {d : Nat} {b : jW9} (h : ¬ (op (jdk (l.headD 0) d) = true ∧ ¬ jdk (l.headD 0) d ∈ l)) : jwf op GL NO k l d b = b := jgs_no (jch_no h)
theorem jwf_yes {op : Nat → Bool} {GL NO k : Nat} {l : List Nat} {d : Nat} {b : jW9} (h : op (jdk (l.headD 0) d) = true) (h2 : ¬ jdk (l.headD 0) d ∈ l) (hb : ¬ 600000 < b.1) : jwf op GL NO k l d b = jgy 4 (jch op) (jwz GL NO) k (jdk (l.headD 0) d :: l) (jws GL NO (jdk (l.headD 0) d :: l) b) := by
  refine (jgs_yes (jch_yes h h2)).trans ?_
  show jgy 4 (jch op) (jwz GL NO) k _ (if 600000 < b.1 then b else _) = _
  rw [if_neg hb]
theorem jwf_stop {op : Nat → Bool} {GL NO k : Nat} {l : List Nat} {d : Nat} {b : jW9} (hb : 600000 < b.1) : jwf op GL NO k l d b = b := by
  cases e : jch op l d with
  | none => exact jgs_no e
  | some m =>
    refine (jgs_yes e).trans ?_
    show jgy 4 (jch op) (jwz GL NO) k m (if 600000 < b.1 then b else _) = _
    rw [if_pos hb]
    exact jgz_stop (π := fun a : jW9 => a.1) (s := jws GL NO) hb k m
theorem jli.one {op : Nat → Bool} {NO : Nat} (h9 : op 9 = true) (h : jsum (fun n => (op n).toNat) 64 = NO) : jli op NO [9] := by
  have q := jsum_one (t := fun n => (op n).toNat) (u := fun n => (op n && !decide (n ∈ [9])).toNat) (k := 9) (by
    show (op 9).toNat = (op 9 && !decide (9 ∈ [9])).toNat + 1
    rw [h9]; rfl) (fun n hn => by
    show (op n).toNat = (op n && !decide (n ∈ [9])).toNat
    rw [decide_eq_false (show ¬ n ∈ [9] from fun z => hn (List.mem_singleton.mp z))]
    cases op n <;> rfl) 64 (by decide)
  show jsum _ 64 + 1 = NO
  omega
/-- what the plane says once it has counted; cn: whether it has -/
def jwd (op : Nat → Bool) (GL NO : Nat) (sp rc aw fw : Int32) (WB : Nat → Int32) : Prop := ∃ a : jW9, jgy 4 (jch op) (jwz GL NO) 36 [9] jW0 = a ∧ jwr a rc aw fw WB ∧ a.1 ≤ 600001 ∧ ((sp.toInt = 1 ∧ 600000 < a.1) ∨ (sp.toInt = 0 ∧ ¬ 600000 < a.1))
def jwm (op : Nat → Bool) (GL NO : Nat) (cn sp rc aw fw : Int32) (WB : Nat → Int32) : Prop := cn.toInt = 1 → jwd op GL NO sp rc aw fw WB
theorem jwd.say {op : Nat → Bool} {GL NO : Nat} {sp rc aw fw : Int32} {WB : Nat → Int32} (h : jwd op GL NO sp rc aw fw WB) : (sp.toInt = 0 ∧ (jWY op GL NO).1 ≤ 600000 ∧ aw.toInt = ((jWY op GL NO).2.2.1 : Int) ∧ fw.toInt = ((jWY op GL NO).2.2.2 : Int) ∧ ∀ k : Nat, k < 36 → (WB k).toInt = ((jWY op GL NO).2.1 k : Int)) ∨ (sp.toInt = 1 ∧ 600000 < (jWY op GL NO).1) := by
  obtain ⟨a, ha, ⟨⟨a1, a2, a3⟩, a4, -⟩, -, hs⟩ := h
  by_cases c : (jWY op GL NO).1 ≤ 600000
  · have q := (jWY_run op GL NO).1 c
    rw [ha] at q
    subst q
    rcases hs with ⟨-, s2⟩ | ⟨s1, -⟩
    · exact absurd c (Nat.not_le.mpr s2)
    · exact Or.inl ⟨s1, c, a2, a3, a4⟩
  · have q := (jWY_run op GL NO).2 (Nat.not_le.mp c)
    rw [ha] at q
    rcases hs with ⟨s1, -⟩ | ⟨-, s2⟩
    · exact Or.inr ⟨s1, Nat.not_le.mp c⟩
    · exact absurd q s2
theorem w_X6_cell_o {tS : jTS} (d : Nat) (V0 : jH) {t n : Nat} {f : Nat → Int32} (a : Nat) (x : Int32) (hA : V0 a = some (.inl (t, n, .inl f))) (hN : n < 2 ^ 31) (ht : jT[t]? = some .int) (h0 : 0 ≤ x.toInt) : jTot tS mX6_cell d [.ref a, .int x] V0 0 0 (fun r V => (∃ y : Int32, r = some (.int y) ∧ ((x.toInt < (n : Int) ∧ f x.toInt.toNat = y) ∨ ((n : Int) ≤ x.toInt ∧ y.toInt = 0))) ∧ V = V0) := by
  refine jTot.of_J [some (.ref a), some (.int x)] moX6_cell (Nat.le_of_ble_eq_true rfl) rfl ?_
  refine J_aload_n dX6_cell_0 rfl ?_
  refine J_ifnull dX6_cell_1 ?_
  refine J_iload_n dX6_cell_4 rfl ?_
  refine J_if_lt (tgt := 20) dX6_cell_5 (by decide) (fun c => absurd c (by rw [jlt, Int32.toInt_zero]; omega)) (fun _ => ?_)
  refine J_iload_n dX6_cell_8 rfl ?_
  refine J_aload_n dX6_cell_9 rfl ?_
  refine J_alen (v := Int32.ofNat n) dX6_cell_10 hA ht rfl ?_
  refine J_icmp_ge (tgt := 20) dX6_cell_11 (by decide) (fun c => ?_) (fun c => ?_)
  · rw [jle, jn_len hN] at c
    refine J_iconst (v := 0) dX6_cell_20 (by decide) ?_
    exact J_ret (r := some (.int _)) dX6_cell_21 ⟨rfl, _, rfl, rfl⟩ ⟨⟨_, rfl, Or.inr ⟨c, rfl⟩⟩, rfl⟩
  · rw [jle, jn_len hN] at c
    refine J_aload_n dX6_cell_14 rfl ?_
    refine J_iload_n dX6_cell_15 rfl ?_
    refine J_iald dX6_cell_16 hA ht (vp_in_n h0 (by omega)) ?_
    refine J_goto (tgt := 21) dX6_cell_17 (by decide) ?_
    exact J_ret (r := some (.int _)) dX6_cell_21 ⟨rfl, _, rfl, rfl⟩ ⟨⟨_, rfl, Or.inl ⟨by omega, rfl⟩⟩, rfl⟩
