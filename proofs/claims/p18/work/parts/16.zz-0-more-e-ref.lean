/-! the reference's counting -/
noncomputable def jscB (b : Prop) (g : Int) (l : List jP3) (a : jA4) : jA4 :=
  (a.1 + 1, a.2.1 + (Int32.ofInt (jsq g (l.headD (0, 0, 0)).1 (l.headD (0, 0, 0)).2.1 (l.headD (0, 0, 0)).2.2)).toInt64, jif (b ∧ jbsd g (l.headD (0, 0, 0))) (a.2.2.1 + 1) a.2.2.1, jif (0 < (l.headD (0, 0, 0)).1 ∧ jtp l = (l.headD (0, 0, 0)).1) (a.2.2.2 + 1) a.2.2.2)
abbrev jL0 : List jP3 := [(0, 0, 0)]
abbrev jZ4 : jA4 := (0, 0, 0, 0)
/-- what is counted of walks of n steps: by the class, by the reference -/
noncomputable def jwn (g : Int) (n : Nat) : jA4 := jcw g (jsc g) n jL0 jZ4
noncomputable def jrq (g : Int) (n : Nat) : jA4 := jcw g (jscB (2 ≤ n) g) n jL0 jZ4
theorem jrq_eq {g : Int} {n : Nat} (h : 2 ≤ n) : jrq g n = jwn g n := by
  unfold jrq jwn
  rw [show jscB (2 ≤ n) g = jsc g from funext (fun l => funext (fun a => by
    unfold jscB jsc
    rw [show (2 ≤ n ∧ jbsd g (l.headD (0, 0, 0))) = jbsd g (l.headD (0, 0, 0)) from propext ⟨fun q => q.2, fun q => ⟨h, q⟩⟩]))]
theorem jrq_1 (g : Int) (n : Nat) : (jrq g n).1 = (jwn g n).1 ∧ (jrq g n).2.1 = (jwn g n).2.1 ∧ (jrq g n).2.2.2 = (jwn g n).2.2.2 :=
  jcw_rel (R := fun (x y : jA4) => x.1 = y.1 ∧ x.2.1 = y.2.1 ∧ x.2.2.2 = y.2.2.2) (s := jscB (2 ≤ n) g) (t := jsc g) n jL0 (fun m x y _ q => by
    obtain ⟨q1, q2, q3⟩ := q
    refine ⟨?_, ?_, ?_⟩
    · show x.1 + 1 = y.1 + 1
      rw [q1]
    · show x.2.1 + _ = y.2.1 + _
      rw [q2]
    · show jif _ (x.2.2.2 + 1) x.2.2.2 = jif _ (y.2.2.2 + 1) y.2.2.2
      rw [q3]) jZ4 jZ4 ⟨rfl, rfl, rfl⟩
theorem jwn_cnt (g : Int) (n : Nat) : (jwn g n).1 = jNN g n jL0 := by
  have q := jcw_cnt (g := g) (s := jsc g) (π := fun a : jA4 => a.1) (fun _ _ => rfl) n jL0 jZ4
  exact q.trans (Nat.zero_add _)
theorem jNN_le {g : Int} {n : Nat} (h : 1 ≤ n) : jNN g n jL0 ≤ jTT g n jL0 := by
  obtain ⟨k, rfl⟩ : ∃ k, n = k + 1 := ⟨n - 1, by omega⟩
  rw [jTT_step]
  omega
def jspot (p : jP3) : Int := p.1 + 21 + 43 * (p.2.1 + 21) + 1849 * (p.2.2 + 21)
def jbx (p : jP3) : Prop := (-21 ≤ p.1 ∧ p.1 ≤ 21) ∧ (-21 ≤ p.2.1 ∧ p.2.1 ≤ 21) ∧ (-21 ≤ p.2.2 ∧ p.2.2 ≤ 21)
theorem jspot_b {p : jP3} (h : jbx p) : 0 ≤ jspot p ∧ jspot p ≤ 79506 := by
  obtain ⟨h1, h2, h3⟩ := h
  unfold jspot
  omega
theorem jspot_inj {p q : jP3} (h : jbx p) (k : jbx q) (he : (jspot p).toNat = (jspot q).toNat) : p = q := by
  have b1 := jspot_b h
  have b2 := jspot_b k
  have he2 : jspot p = jspot q := by omega
  obtain ⟨h1, h2, h3⟩ := h
  obtain ⟨k1, k2, k3⟩ := k
  unfold jspot at he2
  exact Prod.ext (by omega) (Prod.ext (by omega) (by omega))
def jsn (T : Nat → Int32) (l : List jP3) : Prop := ∀ p, jbx p → ((T (jspot p).toNat).toInt = 0 ↔ ¬ p ∈ l)
theorem jsn.set {T T2 : Nat → Int32} {l : List jP3} {p : jP3} (h : jsn T l) (hp : jbx p) (h1 : ¬ (T2 (jspot p).toNat).toInt = 0) (ho : ∀ k, k ≠ (jspot p).toNat → T2 k = T k) : jsn T2 (p :: l) := fun q hq => by
  by_cases e : q = p
  · subst e
    exact ⟨fun z => absurd z h1, fun z => absurd List.mem_cons_self z⟩
  · rw [ho _ (fun z => e (jspot_inj hq hp z)), h q hq, List.mem_cons]
    exact ⟨fun z w => w.elim e z, fun z w => z (Or.inr w)⟩
theorem jsn.clr {T T2 : Nat → Int32} {l : List jP3} {p : jP3} (h : jsn T (p :: l)) (hn : ¬ p ∈ l) (hp : jbx p) (h1 : (T2 (jspot p).toNat).toInt = 0) (ho : ∀ k, k ≠ (jspot p).toNat → T2 k = T k) : jsn T2 l := fun q hq => by
  by_cases e : q = p
  · subst e
    exact ⟨fun _ => hn, fun _ => h1⟩
  · rw [ho _ (fun z => e (jspot_inj hq hp z)), h q hq, List.mem_cons]
    exact ⟨fun z w => z (Or.inr w), fun z w => w.elim e z⟩
theorem jsn.off {T T2 : Nat → Int32} {p : jP3} (h : jsn T []) (hp : jbx p) (h1 : (T2 (jspot p).toNat).toInt = 0) (ho : ∀ k, k ≠ (jspot p).toNat → T2 k = T k) : jsn T2 [] := fun q hq => by
  by_cases e : q = p
  · subst e
    exact ⟨fun _ => List.not_mem_nil, fun _ => h1⟩
  · rw [ho _ (fun z => e (jspot_inj hq hp z)), h q hq]
def jPf (X Y Z : Nat → Int32) (k : Nat) : jP3 := ((X k).toInt, (Y k).toInt, (Z k).toInt)
/-- the first m places, the last one first -/
def jplb (P : Nat → jP3) : Nat → List jP3
  | 0 => []
  | m + 1 => jpl3 P m
theorem jplb_succ (P : Nat → jP3) : ∀ m, jplb P (m + 1) = P m :: jplb P m
  | 0 => rfl
  | _ + 1 => rfl
theorem jplb_congr {P Q : Nat → jP3} : ∀ m, (∀ i, i < m → P i = Q i) → jplb P m = jplb Q m
  | 0, _ => rfl
  | m + 1, h => jpl3_congr m (fun i hi => h i (by omega))
theorem jplb_len (P : Nat → jP3) : ∀ m, (jplb P m).length = m
  | 0 => rfl
  | m + 1 => jpl3_len P m
def jnb (g : Int) (k : Nat) (p : jP3) : Prop := (-(k : Int) ≤ p.1 ∧ p.1 ≤ k) ∧ (-(k : Int) ≤ p.2.1 ∧ p.2.1 ≤ k) ∧ (-(k : Int) ≤ p.2.2 ∧ p.2.2 ≤ k) ∧ (¬ g = 3 → p.2.2 = 0)
theorem jnb.bx {g : Int} {k : Nat} {p : jP3} (h : jnb g k p) (hk : k ≤ 21) : jbx p := by
  obtain ⟨h1, h2, h3, -⟩ := h
  exact ⟨by omega, by omega, by omega⟩
theorem jnb.next {g d : Int} {k : Nat} {p : jP3} (h : jnb g k p) : jnb g (k + 1) (jnx g d p) := by
  obtain ⟨h1, h2, h3, h4⟩ := jnx_b (d := d) h
  exact ⟨by omega, by omega, by omega, h4⟩
theorem jtp_cons {p : jP3} {l : List jP3} {m : Nat} (h : l.length = m + 1) : jtp (p :: l) = if p.1 ≤ 0 ∨ jtp l < 0 then -1 else if jtp l < p.1 then p.1 else jtp l := by
  cases l with
  | nil => cases h
  | cons q r => rfl
theorem jscB_mk {b : Prop} {g x y z : Int} {l : List jP3} {CO RG BG CO2 RG2 BG2 : Nat → Int32} {SQ SQ2 : Nat → Int64} {i : Nat} {q : Int32} (hl : l.headD (0, 0, 0) = (x, y, z)) (h0 : 0 ≤ (CO i).toInt) (h1 : (CO2 i).toInt = (CO i).toInt + 1) (hq : q.toInt = jsq g x y z) (h2 : SQ2 i = SQ i + q.toInt64) (h3 : ((b ∧ jbsd g (x, y, z)) ∧ RG2 i = RG i + 1) ∨ (¬ (b ∧ jbsd g (x, y, z)) ∧ RG2 i = RG i)) (h4 : ((0 < x ∧ jtp l = x) ∧ BG2 i = BG i + 1) ∨ (¬ (0 < x ∧ jtp l = x) ∧ BG2 i = BG i)) : jac CO2 SQ2 RG2 BG2 i = jscB b g l (jac CO SQ RG BG i) := by
  unfold jscB
  rw [hl]
  refine Prod.ext ?_ (Prod.ext ?_ (Prod.ext ?_ ?_))
  · show (CO2 i).toInt.toNat = (CO i).toInt.toNat + 1
    omega
  · show SQ2 i = SQ i + (Int32.ofInt (jsq g x y z)).toInt64
    rw [h2, ← hq, Int32.ofInt_toInt]
  · show RG2 i = jif (b ∧ jbsd g (x, y, z)) (RG i + 1) (RG i)
    rcases h3 with ⟨e, h⟩ | ⟨e, h⟩
    · rw [jif_yes e, h]
    · rw [jif_no e, h]
  · show BG2 i = jif (0 < x ∧ jtp l = x) (BG i + 1) (BG i)
    rcases h4 with ⟨e, h⟩ | ⟨e, h⟩
    · rw [jif_yes e, h]
    · rw [jif_no e, h]
/-- what the reference keeps of a ground and a number of steps -/
def jmo (g : Int) (n : Nat) (KN CO : Nat → Int32) (SQ : Nat → Int64) (RG BG : Nat → Int32) (i : Nat) : Prop := ((KN i).toInt = 0 ∧ CO i = 0 ∧ SQ i = 0 ∧ RG i = 0 ∧ BG i = 0) ∨ ((KN i).toInt = 1 ∧ jTT g n jL0 ≤ 600000 ∧ 0 ≤ (CO i).toInt ∧ jac CO SQ RG BG i = jrq g n) ∨ ((KN i).toInt = 1 ∧ 600000 < jTT g n jL0 ∧ (CO i).toInt = -5)
def jmk (g : Int) (n : Nat) (CO : Nat → Int32) (SQ : Nat → Int64) (RG BG : Nat → Int32) (i : Nat) : Prop := (jTT g n jL0 ≤ 600000 ∧ 0 ≤ (CO i).toInt ∧ jac CO SQ RG BG i = jrq g n) ∨ (600000 < jTT g n jL0 ∧ (CO i).toInt = -5)
theorem jrq_0 (g : Int) : jrq g 0 = (1, 0, 0, 0) := by
  unfold jrq
  show jscB (2 ≤ 0) g jL0 jZ4 = _
  unfold jscB
  refine Prod.ext rfl (Prod.ext ?_ (Prod.ext ?_ ?_))
  · show (0 : Int64) + (Int32.ofInt (jsq g 0 0 0)).toInt64 = 0
    rw [show jsq g 0 0 0 = 0 by unfold jsq; split <;> rfl]
    rfl
  · exact jif_no (fun q => absurd q.1 (by decide))
  · exact jif_no (fun q => absurd q.1 (by decide))
theorem jTT_0 (g : Int) (l : List jP3) : jTT g 0 l = 0 := rfl
/-- all done: what has been counted is what is asked -/
theorem jrq_done {g : Int} {n : Nat} {a : Nat × jA4} (hn : 1 ≤ n) (h : a = jny g (jsr n (jscB (2 ≤ n) g)) n jL0 (0, jZ4)) : a.1 = jTT g n jL0 ∧ a.2 = jrq g n := by
  obtain ⟨k, rfl⟩ : ∃ k, n = k + 1 := ⟨n - 1, by omega⟩
  subst h
  refine ⟨?_, ?_⟩
  · have q := jny_cnt (g := g) (s := jsr (k + 1) (jscB (2 ≤ k + 1) g)) (π := fun a : Nat × jA4 => a.1) (fun _ _ => rfl) (k + 1) jL0 (0, jZ4)
    exact q.trans (Nat.zero_add _)
  · exact jny_leaf k jL0 (0, jZ4) (by show 1 + (k + 1) = k + 1 + 1; omega)
theorem jrq_more {g : Int} {n : Nat} {P : Nat → jP3} {R : Nat → Int} {j : Nat} {a : Nat × jA4} (hR : ∀ i, i ≤ j → -1 ≤ R i) (h : jrm g (jsr n (jscB (2 ≤ n) g)) n P R j a = jny g (jsr n (jscB (2 ≤ n) g)) n jL0 (0, jZ4)) (hn : 1 ≤ n) : a.1 ≤ jTT g n jL0 := by
  have q := jrm_le (g := g) (s := jsr n (jscB (2 ≤ n) g)) (π := fun a : Nat × jA4 => a.1) (fun m a => Nat.le_succ a.1) (n := n) (P := P) (R := R) j a (hR j (Nat.le_refl _)) hR
  rw [h, (jrq_done hn rfl).1] at q
  exact q
/-- the class: a level done -/
theorem jcl_done {g tg : Int} {n : Nat} {a : jA4} (hn : 1 ≤ n) (ht : tg = ((jTT g (n - 1) jL0 : Nat) : Int)) (h6 : tg ≤ 600000) (ha : a = jcw g (jfzs g tg) n jL0 jZ4) : (¬ 600000 < tg + (a.1 : Int) → jTT g n jL0 ≤ 600000 ∧ tg + (a.1 : Int) = ((jTT g n jL0 : Nat) : Int) ∧ a = jwn g n) ∧ (600000 < tg + (a.1 : Int) → 600000 < jTT g n jL0) := by
  obtain ⟨k, rfl⟩ : ∃ k, n = k + 1 := ⟨n - 1, by omega⟩
  have hk : k + 1 - 1 = k := rfl
  rw [hk] at ht
  have hs : jTT g (k + 1) jL0 = jTT g k jL0 + jNN g (k + 1) jL0 := jTT_step g k jL0
  have hc : (jwn g (k + 1)).1 = jNN g (k + 1) jL0 := jwn_cnt g (k + 1)
  obtain ⟨r1, r2⟩ := jfz_run (g := g) (L := (600000 - tg).toNat) (π := fun a : jA4 => a.1) (s := jsc g) (fun _ _ => rfl) (k + 1) jL0 jZ4
  have e1 : jcw g (jsc g) (k + 1) jL0 jZ4 = jwn g (k + 1) := rfl
  rw [e1] at r1 r2
  rw [hc] at r1 r2
  by_cases c : jNN g (k + 1) jL0 ≤ (600000 - tg).toNat
  · have e := ha.trans (r1 c)
    rw [e, hc]
    exact ⟨fun _ => ⟨by omega, by omega, rfl⟩, fun z => by omega⟩
  · have e := r2 (by omega)
    have e2 : (600000 - tg).toNat < a.1 := by rw [ha]; exact e
    exact ⟨fun z => absurd (show 600000 < tg + (a.1 : Int) by omega) z, fun _ => by omega⟩
/-- a tally between calls -/
def jtal (g : Int) (WC : Nat → Int32) (SQ : Nat → Int64) (RC BC : Nat → Int32) (cd tg sp : Int) : Prop := (0 ≤ cd ∧ cd ≤ jRg g) ∧ tg = ((jTT g cd.toNat jL0 : Nat) : Int) ∧ tg ≤ 600000 ∧ (WC 0 = 1 ∧ SQ 0 = 0) ∧ (∀ k : Nat, 1 ≤ k → (k : Int) ≤ cd → 0 ≤ (WC k).toInt ∧ jac WC SQ RC BC k = jwn g k) ∧ ((sp = 0 ∧ ∀ k : Nat, cd < (k : Int) → k ≤ 20 → WC k = 0 ∧ SQ k = 0 ∧ RC k = 0 ∧ BC k = 0) ∨ (sp = 1 ∧ 600000 < jTT g (cd.toNat + 1) jL0))
theorem jtal.next {g : Int} {WC RC BC WC2 RC2 BC2 : Nat → Int32} {SQ SQ2 : Nat → Int64} {cd tg cd2 tg2 sp2 : Int} {n : Nat} (h : jtal g WC SQ RC BC cd tg 0) (hn : (n : Int) = cd + 1) (hR : (n : Int) ≤ jRg g) (ho : jot WC2 SQ2 RC2 BC2 WC SQ RC BC n) (hw : 0 ≤ (WC2 n).toInt) (hp : (sp2 = 0 ∧ jTT g n jL0 ≤ 600000 ∧ cd2 = n ∧ tg2 = ((jTT g n jL0 : Nat) : Int) ∧ jac WC2 SQ2 RC2 BC2 n = jwn g n) ∨ (sp2 = 1 ∧ 600000 < jTT g n jL0 ∧ cd2 = cd ∧ tg2 = tg)) : jtal g WC2 SQ2 RC2 BC2 cd2 tg2 sp2 := by
  obtain ⟨⟨a1, a2⟩, a3, a4, ⟨a5, a6⟩, a7, a8⟩ := h
  have z0 := ho 0 (by omega)
  rcases hp with ⟨p1, p2, p3, p4, p5⟩ | ⟨p1, p2, p3, p4⟩
  · subst p3
    refine ⟨⟨by omega, hR⟩, by rw [p4]; rfl, by omega, ⟨z0.1.trans a5, z0.2.1.trans a6⟩, fun k k1 k2 => ?_, Or.inl ⟨p1, fun k k1 k2 => ?_⟩⟩
    · by_cases e : k = n
      · subst e
        exact ⟨hw, p5⟩
      · obtain ⟨o1, o2, o3, o4⟩ := ho k e
        have q := a7 k k1 (by omega)
        unfold jac
        rw [o1, o2, o3, o4]
        exact q
    · obtain ⟨o1, o2, o3, o4⟩ := ho k (by omega)
      rcases a8 with ⟨-, a8⟩ | ⟨a8, -⟩
      · obtain ⟨b1, b2, b3, b4⟩ := a8 k (by omega) k2
        exact ⟨o1.trans b1, o2.trans b2, o3.trans b3, o4.trans b4⟩
      · cases a8
  · subst p3
    subst p4
    refine ⟨⟨a1, a2⟩, a3, a4, ⟨z0.1.trans a5, z0.2.1.trans a6⟩, fun k k1 k2 => ?_, Or.inr ⟨p1, ?_⟩⟩
    · obtain ⟨o1, o2, o3, o4⟩ := ho k (by omega)
      have q := a7 k k1 k2
      unfold jac
      rw [o1, o2, o3, o4]
      exact q
    · rw [show cd2.toNat + 1 = n by omega]
      exact p2
theorem jtal.yes {g : Int} {WC RC BC : Nat → Int32} {SQ : Nat → Int64} {cd tg sp : Int} {n : Nat} (h : jtal g WC SQ RC BC cd tg sp) (hn : (n : Int) ≤ cd) : jTT g n jL0 ≤ 600000 := by
  obtain ⟨⟨a1, a2⟩, a3, a4, -⟩ := h
  have := jTT_mono (g := g) (l := jL0) (show n ≤ cd.toNat by omega)
  omega
theorem jtal.no {g : Int} {WC RC BC : Nat → Int32} {SQ : Nat → Int64} {cd tg sp : Int} {n : Nat} (h : jtal g WC SQ RC BC cd tg sp) (hn : cd < (n : Int)) (h20 : n ≤ 20) (hc : sp = 1 ∨ jRg g ≤ cd) : 600000 < jTT g n jL0 := by
  obtain ⟨⟨a1, a2⟩, a3, a4, -, -, a8⟩ := h
  rcases a8 with ⟨e, -⟩ | ⟨e, a8⟩
  · rcases jRg_cases g with ⟨q1, q2, -⟩ | ⟨q1, q2, -⟩
    · subst q1
      exact jTT_cubes (by omega)
    · omega
  · have := jTT_mono (g := g) (l := jL0) (show cd.toNat + 1 ≤ n by omega)
    omega
theorem jnb.zero {g : Int} : jnb g 0 (0, 0, 0) := ⟨⟨Int.le_refl _, Int.le_refl _⟩, ⟨Int.le_refl _, Int.le_refl _⟩, ⟨Int.le_refl _, Int.le_refl _⟩, fun _ => rfl⟩
theorem jplb_mem {P : Nat → jP3} {p : jP3} : ∀ m, p ∈ jplb P m ↔ ∃ i, i < m ∧ p = P i
  | 0 => ⟨fun h => absurd h List.not_mem_nil, fun ⟨i, hi, _⟩ => by omega⟩
  | m + 1 => (jpl3_mem m).trans ⟨fun ⟨i, hi, e⟩ => ⟨i, by omega, e⟩, fun ⟨i, hi, e⟩ => ⟨i, by omega, e⟩⟩
theorem jrq_fresh {g : Int} {n : Nat} {P : Nat → jP3} {R : Nat → Int} {j : Nat} {a : Nat × jA4} (hR : ∀ i, i ≤ j → -1 ≤ R i) (h : jrm g (jsr n (jscB (2 ≤ n) g)) n P R j a = jny g (jsr n (jscB (2 ≤ n) g)) n jL0 (0, jZ4)) (hn : 1 ≤ n) (h0 : 0 ≤ R j + 1) (h1 : R j + 1 < jdir g) (hin : ¬ jnx g (R j + 1) (P j) ∈ jpl3 P j) : a.1 + 1 ≤ jTT g n jL0 := by
  have hq := jrm_next (g := g) (s := jsr n (jscB (2 ≤ n) g)) (n := n) (P := P) (R := R) (R' := fun i => if i = j then R j + 1 else R i) (j := j) (a := a) h0 h1 (fun i hi => if_neg (by omega)) (if_pos rfl) rfl
  rw [hq] at h
  refine Nat.le_trans ?_ (jrq_more (fun i hi => ?_) h hn)
  · unfold jrF
    rw [jcs_no (by rw [jpl3_head, Int.toNat_of_nonneg h0]; exact hin)]
    exact jny_rel (R := fun (x : Nat × jA4) (_ : Unit) => a.1 + 1 ≤ x.1) (t := fun _ u => u) _ _ (fun m x _ q => Nat.le_succ_of_le q) _ () (Nat.le_refl _)
  · by_cases e : i = j
    · rw [if_pos e]
      omega
    · rw [if_neg e]
      exact hR i hi
theorem jmo.kn {g : Int} {n i : Nat} {KN CO RG BG : Nat → Int32} {SQ : Nat → Int64} (h : jmo g n KN CO SQ RG BG i) (hk : ¬ (KN i).toInt = 0) : (KN i).toInt = 1 ∧ jmk g n CO SQ RG BG i := by
  rcases h with ⟨h1, -⟩ | ⟨h1, h2⟩ | ⟨h1, h2⟩
  · exact absurd h1 hk
  · exact ⟨h1, Or.inl h2⟩
  · exact ⟨h1, Or.inr h2⟩
theorem jmo.un {g : Int} {n i : Nat} {KN CO RG BG : Nat → Int32} {SQ : Nat → Int64} (h : jmo g n KN CO SQ RG BG i) (hk : (KN i).toInt = 0) : CO i = 0 ∧ SQ i = 0 ∧ RG i = 0 ∧ BG i = 0 := by
  rcases h with ⟨-, h2⟩ | ⟨h1, -⟩ | ⟨h1, -⟩
  · exact h2
  · rw [hk] at h1; cases h1
  · rw [hk] at h1; cases h1
theorem jmk.mo {g : Int} {n i : Nat} {KN CO RG BG : Nat → Int32} {SQ : Nat → Int64} (h : jmk g n CO SQ RG BG i) (hk : (KN i).toInt = 1) : jmo g n KN CO SQ RG BG i := by
  rcases h with h | h
  · exact Or.inr (Or.inl ⟨hk, h⟩)
  · exact Or.inr (Or.inr ⟨hk, h⟩)
/-- hidden from what looks at hypotheses -/
def jHid (p : Prop) : Prop := p
