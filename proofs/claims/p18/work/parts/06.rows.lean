/-! rows over a safe heap -/
def jPost (E : List jKd) (V0 : jH) (R : Option Value → jH → Prop) : Option Value → jH → Prop := fun r V => WT V ∧ jeff E V0 V ∧ R r V
def jPostP (p : Nat → Prop) (E : List jKd) (V0 : jH) (R : Option Value → jH → Prop) : Option Value → jH → Prop := fun r V => WTx p V ∧ jeff E V0 V ∧ R r V
def rV : Option Value → jH → Prop := fun r _ => r = none
def rI (lo hi : Int) : Option Value → jH → Prop := fun r _ => ∃ x : Int32, r = some (.int x) ∧ lo ≤ x.toInt ∧ x.toInt ≤ hi
abbrev rN : Option Value → jH → Prop := rI (-2147483648) 2147483647
def rL : Option Value → jH → Prop := fun r _ => ∃ x : Int64, r = some (.long x)
def rR (k : jKd) : Option Value → jH → Prop := fun r V => ∃ a : Nat, r = some (.ref a) ∧ jis V k a
def rQ (k : jKd) : Option Value → jH → Prop := fun r V => r = some .null ∨ ∃ a : Nat, r = some (.ref a) ∧ jis V k a
theorem rN_of (x : Int32) {V : jH} : rN (some (.int x)) V := ⟨x, rfl, (j_rng x).1, (j_rng x).2⟩
theorem nar_b {x : Int32} (h1 : 0 ≤ x.toInt) (h2 : x.toInt ≤ 1) : narrow .boolean (.int x) = .int x := by
  have h3 : x = 0 ∨ x = 1 := by
    rcases (show x.toInt = 0 ∨ x.toInt = 1 by omega) with h | h
    · exact Or.inl (Int32.toInt_inj.mp (by rw [h]; rfl))
    · exact Or.inr (Int32.toInt_inj.mp (by rw [h]; rfl))
  rcases h3 with rfl | rfl <;> rfl
theorem fit_b {x : Int32} (h1 : 0 ≤ x.toInt) (h2 : x.toInt ≤ 1) : fits .boolean (.int x) = true := by
  have h3 : x = 0 ∨ x = 1 := by
    rcases (show x.toInt = 0 ∨ x.toInt = 1 by omega) with h | h
    · exact Or.inl (Int32.toInt_inj.mp (by rw [h]; rfl))
    · exact Or.inr (Int32.toInt_inj.mp (by rw [h]; rfl))
  rcases h3 with rfl | rfl <;> rfl
theorem vp_nar_b {x : Int32} (h1 : 0 ≤ x.toInt) (h2 : x.toInt ≤ 1) : vp_nar .boolean x = x := by
  have h3 : x = 0 ∨ x = 1 := by
    rcases (show x.toInt = 0 ∨ x.toInt = 1 by omega) with h | h
    · exact Or.inl (Int32.toInt_inj.mp (by rw [h]; rfl))
    · exact Or.inr (Int32.toInt_inj.mp (by rw [h]; rfl))
  rcases h3 with rfl | rfl <;> rfl
theorem jokO_set {V : jH} {cs : List jFC} {fs : List Value} {k : Nat} {c : jFC} {v : Value} (h : jokO V cs fs) (hc : cs[k]? = some c) (hv : jokV V c v) : jokO V cs (fs.set k v) := by
  refine ⟨by rw [List.length_set]; exact h.1, fun j c2 hj => ?_⟩
  have hl : k < fs.length := by rw [h.1]; exact (List.getElem?_eq_some_iff.mp hc).1
  by_cases hjk : j = k
  · subst hjk
    cases hc.symm.trans hj
    exact ⟨v, by rw [List.getElem?_set_self hl], hv⟩
  · obtain ⟨w, h1, h2⟩ := h.2 j c2 hj
    exact ⟨w, by rw [List.getElem?_set_ne (Ne.symm hjk)]; exact h1, h2⟩
theorem jokO_nrI {V : jH} {cs : List jFC} {fs : List Value} {k : Nat} {r : Int × Int} (h : jokO V cs fs) (hc : cs[k]? = some (.inl r)) : ∀ b, fs[k]? ≠ some (.ref b) := by
  intro b hb
  obtain ⟨v, h1, x, rfl, -⟩ := h.2 k _ hc
  cases h1.symm.trans hb
theorem jokO_nrL {V : jH} {cs : List jFC} {fs : List Value} {k : Nat} (h : jokO V cs fs) (hc : cs[k]? = some (.inr none)) : ∀ b, fs[k]? ≠ some (.ref b) := by
  intro b hb
  obtain ⟨v, h1, x, rfl⟩ := h.2 k _ hc
  cases h1.symm.trans hb
/-- fields of the reference's object that stay as they are -/
def jkc (c : Nat) (ks : List Nat) (V V' : jH) : Prop := ∀ (a : Nat) (fs : List Value), V a = some (.inr (c, fs)) → ∃ fs' : List Value, V' a = some (.inr (c, fs')) ∧ ∀ k ∈ ks, fs'[k]? = fs[k]?
abbrev jkx : List Nat → jH → jH → Prop := jkc 5
abbrev jkp : jH → jH → Prop := jkx [0, 23, 24]
theorem jkc.rf {c : Nat} {ks : List Nat} {V : jH} : jkc c ks V V := fun _ fs h => ⟨fs, h, fun _ _ => rfl⟩
theorem jkc.trans {c : Nat} {ks : List Nat} {V1 V2 V3 : jH} (h1 : jkc c ks V1 V2) (h2 : jkc c ks V2 V3) : jkc c ks V1 V3 := fun a fs h => by
  obtain ⟨f2, q1, l1⟩ := h1 a fs h
  obtain ⟨f3, q2, l2⟩ := h2 a f2 q1
  exact ⟨f3, q2, fun k hk => (l2 k hk).trans (l1 k hk)⟩
theorem jkc.of {c : Nat} {ks : List Nat} {E : List jKd} {V V' : jH} (h : jeff E V V') (h5 : (.inr c : jKd) ∉ E) : jkc c ks V V' := fun a fs q => ⟨fs, h.2 a _ q h5, fun _ _ => rfl⟩
theorem jkc.put {c : Nat} {ks : List Nat} {V V' : jH} {a ci k : Nat} {fs fs' : List Value} (h3 : V a = some (.inr (ci, fs))) (hO : V' a = some (.inr (ci, fs'))) (hT : ∀ j, j ≠ k → fs'[j]? = fs[j]?) (hb : ∀ b : Nat, b ≠ a → V' b = V b) (hk : k ∉ ks) : jkc c ks V V' := fun b gs q => by
  by_cases hba : b = a
  · subst hba
    cases h3.symm.trans q
    exact ⟨fs', hO, fun j hj => hT j (fun z => hk (z ▸ hj))⟩
  · exact ⟨gs, (hb b hba).trans q, fun _ _ => rfl⟩
section JWR
variable {tS : jTS} {M : jM} {d pc : Nat} {ls : List (Option Value)} {st : List Value} {V : jH} {kc ks : Nat} {Q : Option Value → jH → Prop}
theorem Jw_getI {index ci k a : Nat} {r : Int × Int} {p : Nat → Prop} (hW : WTx p V) (hp : ¬ p a) (hk : jis V (.inr ci) a) (hc : (jFs ci)[k]? = some (.inl r)) (hF : jF M.1.cls index ci k) (hd : decode M.2.1 pc = .ok (.getfield index, 3)) (kk : ∀ x : Int32, r.1 ≤ x.toInt → x.toInt ≤ r.2 → J tS M d (pc + 3) ls (.int x :: st) V kc ks Q) : J tS M d pc ls (.ref a :: st) V kc ks Q := by
  obtain ⟨fs, h1, h2⟩ := WT_obj hW hp hk
  obtain ⟨v, h3, x, rfl, h4, h5⟩ := h2.2 k _ hc
  exact J_get hF hd h1 h3 (kk x h4 h5)
theorem Jw_getL {index ci k a : Nat} {p : Nat → Prop} (hW : WTx p V) (hp : ¬ p a) (hk : jis V (.inr ci) a) (hc : (jFs ci)[k]? = some (.inr none)) (hF : jF M.1.cls index ci k) (hd : decode M.2.1 pc = .ok (.getfield index, 3)) (kk : ∀ x : Int64, J tS M d (pc + 3) ls (.long x :: st) V kc ks Q) : J tS M d pc ls (.ref a :: st) V kc ks Q := by
  obtain ⟨fs, h1, h2⟩ := WT_obj hW hp hk
  obtain ⟨v, h3, x, rfl⟩ := h2.2 k _ hc
  exact J_get hF hd h1 h3 (kk x)
theorem Jw_getR {index ci k a : Nat} {k2 : jKd} {p : Nat → Prop} (hW : WTx p V) (hp : ¬ p a) (hk : jis V (.inr ci) a) (hc : (jFs ci)[k]? = some (.inr (some k2))) (hF : jF M.1.cls index ci k) (hd : decode M.2.1 pc = .ok (.getfield index, 3)) (kk : ∀ b : Nat, jis V k2 b → J tS M d (pc + 3) ls (.ref b :: st) V kc ks Q) : J tS M d pc ls (.ref a :: st) V kc ks Q := by
  obtain ⟨fs, h1, h2⟩ := WT_obj hW hp hk
  obtain ⟨v, h3, b, rfl, h4⟩ := h2.2 k _ hc
  exact J_get hF hd h1 h3 (kk b h4)
theorem Jw_putI {index ci k a : Nat} {r : Int × Int} {ty : FieldType} {x : Int32} {p : Nat → Prop} (hW : WTx p V) (hp : ¬ p a) (hk : jis V (.inr ci) a) (hc : (jFs ci)[k]? = some (.inl r)) (hF : jF M.1.cls index ci k) (hT : jFt ci k false ty) (hd : decode M.2.1 pc = .ok (.putfield index, 3)) (h1 : r.1 ≤ x.toInt) (h2 : x.toInt ≤ r.2) (hn : narrow ty (.int x) = .int x) (hf : fits ty (.int x) = true) (kk : ∀ V' : jH, WTx p V' → jeff [.inr ci] V V' → J tS M d (pc + 3) ls st V' kc ks Q) : J tS M d pc ls (.int x :: .ref a :: st) V kc ks Q := by
  obtain ⟨fs, h3, h4⟩ := WT_obj hW hp hk
  refine J_put hF hT hd h3 hn hf (by rw [h4.1]; exact (List.getElem?_eq_some_iff.mp hc).1) (kk _ (hW.put h3 (jrel.obj (jokO_nrI h4 hc)) (fun _ => jokO_set h4 hc ⟨x, rfl, h1, h2⟩)) (jeff.put h3 (jrel.obj (jokO_nrI h4 hc)) List.mem_cons_self))
theorem Jx_putI {index ci k a : Nat} {r : Int × Int} {ty : FieldType} {x : Int32} {fs : List Value} {p : Nat → Prop} (h3 : V a = some (.inr (ci, fs))) (h4 : jokO V (jFs ci) fs) (hW : WTx p V) (hp : ¬ p a) (hc : (jFs ci)[k]? = some (.inl r)) (hF : jF M.1.cls index ci k) (hT : jFt ci k false ty) (hd : decode M.2.1 pc = .ok (.putfield index, 3)) (h1 : r.1 ≤ x.toInt) (h2 : x.toInt ≤ r.2) (hn : narrow ty (.int x) = .int x) (hf : fits ty (.int x) = true) (kk : ∀ V' : jH, WTx p V' → jeff [.inr ci] V V' → V' a = some (.inr (ci, fs.set k (.int x))) → J tS M d (pc + 3) ls st V' kc ks Q) : J tS M d pc ls (.int x :: .ref a :: st) V kc ks Q := by
  refine J_put hF hT hd h3 hn hf (by rw [h4.1]; exact (List.getElem?_eq_some_iff.mp hc).1) (kk _ (hW.put h3 (jrel.obj (jokO_nrI h4 hc)) (fun _ => jokO_set h4 hc ⟨x, rfl, h1, h2⟩)) (jeff.put h3 (jrel.obj (jokO_nrI h4 hc)) List.mem_cons_self) jup_self)
theorem Jw_putL {index ci k a : Nat} {ty : FieldType} {x : Int64} {p : Nat → Prop} (hW : WTx p V) (hp : ¬ p a) (hk : jis V (.inr ci) a) (hc : (jFs ci)[k]? = some (.inr none)) (hF : jF M.1.cls index ci k) (hT : jFt ci k false ty) (hd : decode M.2.1 pc = .ok (.putfield index, 3)) (hn : narrow ty (.long x) = .long x) (hf : fits ty (.long x) = true) (kk : ∀ V' : jH, WTx p V' → jeff [.inr ci] V V' → J tS M d (pc + 3) ls st V' kc ks Q) : J tS M d pc ls (.long x :: .ref a :: st) V kc ks Q := by
  obtain ⟨fs, h3, h4⟩ := WT_obj hW hp hk
  refine J_put hF hT hd h3 hn hf (by rw [h4.1]; exact (List.getElem?_eq_some_iff.mp hc).1) (kk _ (hW.put h3 (jrel.obj (jokO_nrL h4 hc)) (fun _ => jokO_set h4 hc ⟨x, rfl⟩)) (jeff.put h3 (jrel.obj (jokO_nrL h4 hc)) List.mem_cons_self))
theorem Jw_iald {t a n : Nat} {f : Nat → Int32} {i : Int32} {r : Int × Int} (hd : decode M.2.1 pc = .ok (.iaload, 1)) (hV : V a = some (.inl (t, n, .inl f))) (ht : jT[t]? = some .int) (hv : ∀ j, j < n → r.1 ≤ (f j).toInt ∧ (f j).toInt ≤ r.2) (hin : vp_in i n) (kk : ∀ x : Int32, r.1 ≤ x.toInt → x.toInt ≤ r.2 → J tS M d (pc + 1) ls (.int x :: st) V kc ks Q) : J tS M d pc ls (.int i :: .ref a :: st) V kc ks Q := by
  have h := hv i.toNatClampNeg (Nat.not_le.mp fun q => hin (Or.inr q))
  exact J_iald hd hV ht hin (kk _ h.1 h.2)
theorem Jw_zald {t a n : Nat} {f : Nat → Int32} {i : Int32} {r : Int × Int} (hd : decode M.2.1 pc = .ok (.baload, 1)) (hV : V a = some (.inl (t, n, .inl f))) (ht : jT[t]? = some .boolean) (hv : ∀ j, j < n → r.1 ≤ (f j).toInt ∧ (f j).toInt ≤ r.2) (hin : vp_in i n) (kk : ∀ x : Int32, r.1 ≤ x.toInt → x.toInt ≤ r.2 → J tS M d (pc + 1) ls (.int x :: st) V kc ks Q) : J tS M d pc ls (.int i :: .ref a :: st) V kc ks Q := by
  have h := hv i.toNatClampNeg (Nat.not_le.mp fun q => hin (Or.inr q))
  exact J_zald hd hV ht hin (kk _ h.1 h.2)
theorem Jw_bald {t a n : Nat} {f : Nat → Int32} {i : Int32} {r : Int × Int} (hd : decode M.2.1 pc = .ok (.baload, 1)) (hV : V a = some (.inl (t, n, .inl f))) (ht : jT[t]? = some .byte) (hv : ∀ j, j < n → r.1 ≤ (f j).toInt ∧ (f j).toInt ≤ r.2) (hin : vp_in i n) (kk : ∀ x : Int32, r.1 ≤ x.toInt → x.toInt ≤ r.2 → J tS M d (pc + 1) ls (.int x :: st) V kc ks Q) : J tS M d pc ls (.int i :: .ref a :: st) V kc ks Q := by
  have h := hv i.toNatClampNeg (Nat.not_le.mp fun q => hin (Or.inr q))
  exact J_bald hd hV ht hin (kk _ h.1 h.2)
theorem Jw_iast {t a n : Nat} {f : Nat → Int32} {i x : Int32} {r : Int × Int} {p : Nat → Prop} (hW : WTx p V) (hp : ¬ p a) (hd : decode M.2.1 pc = .ok (.iastore, 1)) (hV : V a = some (.inl (t, n, .inl f))) (ht : jT[t]? = some .int) (hc : jAc t = .inl r) (hin : vp_in i n) (h1 : r.1 ≤ x.toInt) (h2 : x.toInt ≤ r.2) (kk : ∀ V' : jH, WTx p V' → jeff [.inl t] V V' → (∀ b : Nat, b ≠ a → V' b = V b) → J tS M d (pc + 1) ls st V' kc ks Q) : J tS M d pc ls (.int x :: .int i :: .ref a :: st) V kc ks Q := by
  have h0 := hW a _ hp hV
  refine J_iast hd hV ht hin (kk _ (hW.put hV jrel.arr (fun _ => ⟨h0.1, h0.2.1, ?_⟩)) (jeff.put hV jrel.arr List.mem_cons_self) (fun b hb => jup_ne hb))
  have h3 := h0.2.2
  dsimp only at h3 ⊢
  rw [hc] at h3 ⊢
  obtain ⟨g, hg, h4⟩ := h3
  cases hg
  refine ⟨_, rfl, fun j hj => ?_⟩
  by_cases hq : j = i.toNatClampNeg
  · subst hq
    rw [pk_us]
    exact ⟨h1, h2⟩
  · rw [pk_un hq]
    exact h4 j hj
theorem Jw_zast {t a n : Nat} {f : Nat → Int32} {i x : Int32} {r : Int × Int} {p : Nat → Prop} (hW : WTx p V) (hp : ¬ p a) (hd : decode M.2.1 pc = .ok (.bastore, 1)) (hV : V a = some (.inl (t, n, .inl f))) (ht : jT[t]? = some .boolean) (hc : jAc t = .inl r) (hin : vp_in i n) (h1 : r.1 ≤ x.toInt) (h2 : x.toInt ≤ r.2) (hx : vp_nar .boolean x = x) (kk : ∀ V' : jH, WTx p V' → jeff [.inl t] V V' → (∀ b : Nat, b ≠ a → V' b = V b) → J tS M d (pc + 1) ls st V' kc ks Q) : J tS M d pc ls (.int x :: .int i :: .ref a :: st) V kc ks Q := by
  have h0 := hW a _ hp hV
  refine J_zast hd hV ht hin (kk _ (hW.put hV jrel.arr (fun _ => ⟨h0.1, h0.2.1, ?_⟩)) (jeff.put hV jrel.arr List.mem_cons_self) (fun b hb => jup_ne hb))
  have h3 := h0.2.2
  dsimp only at h3 ⊢
  rw [hc] at h3 ⊢
  obtain ⟨g, hg, h4⟩ := h3
  cases hg
  refine ⟨_, rfl, fun j hj => ?_⟩
  by_cases hq : j = i.toNatClampNeg
  · subst hq
    rw [hx]; rw [pk_us]
    exact ⟨h1, h2⟩
  · rw [pk_un hq]
    exact h4 j hj
theorem Jw_bast {t a n : Nat} {f : Nat → Int32} {i x : Int32} {r : Int × Int} {p : Nat → Prop} (hW : WTx p V) (hp : ¬ p a) (hd : decode M.2.1 pc = .ok (.bastore, 1)) (hV : V a = some (.inl (t, n, .inl f))) (ht : jT[t]? = some .byte) (hc : jAc t = .inl r) (hin : vp_in i n) (h1 : r.1 ≤ x.toInt) (h2 : x.toInt ≤ r.2) (hx : vp_nar .byte x = x) (kk : ∀ V' : jH, WTx p V' → jeff [.inl t] V V' → (∀ b : Nat, b ≠ a → V' b = V b) → J tS M d (pc + 1) ls st V' kc ks Q) : J tS M d pc ls (.int x :: .int i :: .ref a :: st) V kc ks Q := by
  have h0 := hW a _ hp hV
  refine J_bast hd hV ht hin (kk _ (hW.put hV jrel.arr (fun _ => ⟨h0.1, h0.2.1, ?_⟩)) (jeff.put hV jrel.arr List.mem_cons_self) (fun b hb => jup_ne hb))
  have h3 := h0.2.2
  dsimp only at h3 ⊢
  rw [hc] at h3 ⊢
  obtain ⟨g, hg, h4⟩ := h3
  cases hg
  refine ⟨_, rfl, fun j hj => ?_⟩
  by_cases hq : j = i.toNatClampNeg
  · subst hq
    rw [hx]; rw [pk_us]
    exact ⟨h1, h2⟩
  · rw [pk_un hq]
    exact h4 j hj
theorem Jw_last {t a n : Nat} {f : Nat → Int64} {i : Int32} {x : Int64} {p : Nat → Prop} (hW : WTx p V) (hp : ¬ p a) (hd : decode M.2.1 pc = .ok (.lastore, 1)) (hV : V a = some (.inl (t, n, .inr (.inl f)))) (ht : jT[t]? = some .long) (hc : jAc t = .inr none) (hin : vp_in i n) (kk : ∀ V' : jH, WTx p V' → jeff [.inl t] V V' → (∀ b : Nat, b ≠ a → V' b = V b) → J tS M d (pc + 1) ls st V' kc ks Q) : J tS M d pc ls (.long x :: .int i :: .ref a :: st) V kc ks Q := by
  have h0 := hW a _ hp hV
  refine J_last hd hV ht hin (kk _ (hW.put hV jrel.arr (fun _ => ⟨h0.1, h0.2.1, ?_⟩)) (jeff.put hV jrel.arr List.mem_cons_self) (fun b hb => jup_ne hb))
  dsimp only
  rw [hc]
  exact ⟨_, rfl⟩
theorem Jw_aald {t a n : Nat} {Cn : String} {k : jKd} {f : Nat → Option Nat} {i : Int32} (hd : decode M.2.1 pc = .ok (.aaload, 1)) (ht : jT[t]? = some (.object Cn)) (hV : V a = some (.inl (t, n, .inr (.inr (.inr (.inr f)))))) (hv : ∀ (j b : Nat), j < n → f j = some b → jis V k b) (hin : vp_in i n) (k1 : J tS M d (pc + 1) ls (.null :: st) V kc ks Q) (k2 : ∀ b : Nat, jis V k b → J tS M d (pc + 1) ls (.ref b :: st) V kc ks Q) : J tS M d pc ls (.int i :: .ref a :: st) V kc ks Q := by
  refine J_aald hd ht hV hin ?_
  have hlt : i.toNatClampNeg < n := Nat.not_le.mp fun q => hin (Or.inr q)
  cases hf : f i.toNatClampNeg with
  | none => exact k1
  | some b => exact k2 b (hv _ b hlt hf)
theorem Jw_aast {t a n v ci : Nat} {q : vw_C} {f : Nat → Option Nat} {i : Int32} {p : Nat → Prop} (hW : WTx p V) (hp : ¬ p a) (hd : decode M.2.1 pc = .ok (.aastore, 1)) (ht : jT[t]? = some (.object q.1)) (hc9 : jcl[ci]? = some q) (hV : V a = some (.inl (t, n, .inr (.inr (.inr (.inr f)))))) (hc : jAc t = .inr (some (.inr ci))) (hv : jis V (.inr ci) v) (hin : vp_in i n) (kk : ∀ V' : jH, WTx p V' → jeff [.inl t] V V' → (∀ b : Nat, b ≠ a → V' b = V b) → V' a = some (.inl (t, n, .inr (.inr (.inr (.inr (va_up f i.toNatClampNeg (some v))))))) → J tS M d (pc + 1) ls st V' kc ks Q) : J tS M d pc ls (.ref v :: .int i :: .ref a :: st) V kc ks Q := by
  have h0 := hW a _ hp hV
  obtain ⟨vs, hvs⟩ := jis_obj hv
  refine J_aast hd ht hc9 hV hvs hin (kk _ (hW.put hV jrel.arr (fun _ => ⟨h0.1, h0.2.1, ?_⟩)) (jeff.put hV jrel.arr List.mem_cons_self) (fun b hb => jup_ne hb) jup_self)
  have h3 := h0.2.2
  dsimp only at h3 ⊢
  rw [hc] at h3 ⊢
  obtain ⟨g, hg, h4⟩ := h3
  cases hg
  refine ⟨_, rfl, fun j b hj hb => ?_⟩
  by_cases hq : j = i.toNatClampNeg
  · subst hq
    rw [va_up_self] at hb
    cases hb
    exact hv
  · rw [va_up_ne _ _ hq] at hb
    exact h4 j b hj hb
theorem Jw_callV0 {b : Nat} {M2 : jM} {index d2 mc ms ci : Nat} {q9 : vw_C} {Q2 : Option Value → jH → Prop} (hM : jMo M2 0) (hw : Cond.methodLink M.1.cls index M2.1 ∈ jWG) (hw2 : Cond.instanceMethod M2.1 ∈ jWG) (hw3 : Cond.selects M2.1.cls M2.1 M2.1 ∈ jWG) (hk : jis V (.inr ci) b) (hc9 : jcl[ci]? = some q9) (hcn : q9.1 = M2.1.cls) (hd : decode M.2.1 pc = .ok (.invokevirtual index, 3)) (ht : jTot tS M2 d2 [.ref b] V mc ms Q2) (hd2 : d2 + 1 ≤ d) (hkc : mc ≤ kc) (hks : ms ≤ ks) (hst : (st.map fun v => v.category).sum ≤ 8) (kk : ∀ (r : Option Value) (V2 : jH), Q2 r V2 → J tS M d (pc + 3) ls (r.toList ++ st) V2 (kc - mc) (ks - ms) Q) : J tS M d pc ls (.ref b :: st) V kc ks Q := by
  obtain ⟨fs, hV⟩ := jis_obj hk
  exact J_callV0 hM hw hw2 hw3 hV hc9 hcn hd ht hd2 hkc hks hst kk
theorem Jw_callV1 {b : Nat} {a1 : Value} {M2 : jM} {index d2 mc ms ci : Nat} {q9 : vw_C} {Q2 : Option Value → jH → Prop} (hM : jMo M2 1) (hw : Cond.methodLink M.1.cls index M2.1 ∈ jWG) (hw2 : Cond.instanceMethod M2.1 ∈ jWG) (hw3 : Cond.selects M2.1.cls M2.1 M2.1 ∈ jWG) (hk : jis V (.inr ci) b) (hc9 : jcl[ci]? = some q9) (hcn : q9.1 = M2.1.cls) (hd : decode M.2.1 pc = .ok (.invokevirtual index, 3)) (ht : jTot tS M2 d2 [.ref b, a1] V mc ms Q2) (hd2 : d2 + 1 ≤ d) (hkc : mc ≤ kc) (hks : ms ≤ ks) (hst : (st.map fun v => v.category).sum ≤ 8) (kk : ∀ (r : Option Value) (V2 : jH), Q2 r V2 → J tS M d (pc + 3) ls (r.toList ++ st) V2 (kc - mc) (ks - ms) Q) : J tS M d pc ls (a1 :: .ref b :: st) V kc ks Q := by
  obtain ⟨fs, hV⟩ := jis_obj hk
  exact J_callV1 hM hw hw2 hw3 hV hc9 hcn hd ht hd2 hkc hks hst kk
theorem Jw_callV2 {b : Nat} {a1 a2 : Value} {M2 : jM} {index d2 mc ms ci : Nat} {q9 : vw_C} {Q2 : Option Value → jH → Prop} (hM : jMo M2 2) (hw : Cond.methodLink M.1.cls index M2.1 ∈ jWG) (hw2 : Cond.instanceMethod M2.1 ∈ jWG) (hw3 : Cond.selects M2.1.cls M2.1 M2.1 ∈ jWG) (hk : jis V (.inr ci) b) (hc9 : jcl[ci]? = some q9) (hcn : q9.1 = M2.1.cls) (hd : decode M.2.1 pc = .ok (.invokevirtual index, 3)) (ht : jTot tS M2 d2 [.ref b, a1, a2] V mc ms Q2) (hd2 : d2 + 1 ≤ d) (hkc : mc ≤ kc) (hks : ms ≤ ks) (hst : (st.map fun v => v.category).sum ≤ 8) (kk : ∀ (r : Option Value) (V2 : jH), Q2 r V2 → J tS M d (pc + 3) ls (r.toList ++ st) V2 (kc - mc) (ks - ms) Q) : J tS M d pc ls (a2 :: a1 :: .ref b :: st) V kc ks Q := by
  obtain ⟨fs, hV⟩ := jis_obj hk
  exact J_callV2 hM hw hw2 hw3 hV hc9 hcn hd ht hd2 hkc hks hst kk
theorem Jw_callV3 {b : Nat} {a1 a2 a3 : Value} {M2 : jM} {index d2 mc ms ci : Nat} {q9 : vw_C} {Q2 : Option Value → jH → Prop} (hM : jMo M2 3) (hw : Cond.methodLink M.1.cls index M2.1 ∈ jWG) (hw2 : Cond.instanceMethod M2.1 ∈ jWG) (hw3 : Cond.selects M2.1.cls M2.1 M2.1 ∈ jWG) (hk : jis V (.inr ci) b) (hc9 : jcl[ci]? = some q9) (hcn : q9.1 = M2.1.cls) (hd : decode M.2.1 pc = .ok (.invokevirtual index, 3)) (ht : jTot tS M2 d2 [.ref b, a1, a2, a3] V mc ms Q2) (hd2 : d2 + 1 ≤ d) (hkc : mc ≤ kc) (hks : ms ≤ ks) (hst : (st.map fun v => v.category).sum ≤ 8) (kk : ∀ (r : Option Value) (V2 : jH), Q2 r V2 → J tS M d (pc + 3) ls (r.toList ++ st) V2 (kc - mc) (ks - ms) Q) : J tS M d pc ls (a3 :: a2 :: a1 :: .ref b :: st) V kc ks Q := by
  obtain ⟨fs, hV⟩ := jis_obj hk
  exact J_callV3 hM hw hw2 hw3 hV hc9 hcn hd ht hd2 hkc hks hst kk
theorem Jw_callV4 {b : Nat} {a1 a2 a3 a4 : Value} {M2 : jM} {index d2 mc ms ci : Nat} {q9 : vw_C} {Q2 : Option Value → jH → Prop} (hM : jMo M2 4) (hw : Cond.methodLink M.1.cls index M2.1 ∈ jWG) (hw2 : Cond.instanceMethod M2.1 ∈ jWG) (hw3 : Cond.selects M2.1.cls M2.1 M2.1 ∈ jWG) (hk : jis V (.inr ci) b) (hc9 : jcl[ci]? = some q9) (hcn : q9.1 = M2.1.cls) (hd : decode M.2.1 pc = .ok (.invokevirtual index, 3)) (ht : jTot tS M2 d2 [.ref b, a1, a2, a3, a4] V mc ms Q2) (hd2 : d2 + 1 ≤ d) (hkc : mc ≤ kc) (hks : ms ≤ ks) (hst : (st.map fun v => v.category).sum ≤ 8) (kk : ∀ (r : Option Value) (V2 : jH), Q2 r V2 → J tS M d (pc + 3) ls (r.toList ++ st) V2 (kc - mc) (ks - ms) Q) : J tS M d pc ls (a4 :: a3 :: a2 :: a1 :: .ref b :: st) V kc ks Q := by
  obtain ⟨fs, hV⟩ := jis_obj hk
  exact J_callV4 hM hw hw2 hw3 hV hc9 hcn hd ht hd2 hkc hks hst kk
theorem Jw_callV5 {b : Nat} {a1 a2 a3 a4 a5 : Value} {M2 : jM} {index d2 mc ms ci : Nat} {q9 : vw_C} {Q2 : Option Value → jH → Prop} (hM : jMo M2 5) (hw : Cond.methodLink M.1.cls index M2.1 ∈ jWG) (hw2 : Cond.instanceMethod M2.1 ∈ jWG) (hw3 : Cond.selects M2.1.cls M2.1 M2.1 ∈ jWG) (hk : jis V (.inr ci) b) (hc9 : jcl[ci]? = some q9) (hcn : q9.1 = M2.1.cls) (hd : decode M.2.1 pc = .ok (.invokevirtual index, 3)) (ht : jTot tS M2 d2 [.ref b, a1, a2, a3, a4, a5] V mc ms Q2) (hd2 : d2 + 1 ≤ d) (hkc : mc ≤ kc) (hks : ms ≤ ks) (hst : (st.map fun v => v.category).sum ≤ 8) (kk : ∀ (r : Option Value) (V2 : jH), Q2 r V2 → J tS M d (pc + 3) ls (r.toList ++ st) V2 (kc - mc) (ks - ms) Q) : J tS M d pc ls (a5 :: a4 :: a3 :: a2 :: a1 :: .ref b :: st) V kc ks Q := by
  obtain ⟨fs, hV⟩ := jis_obj hk
  exact J_callV5 hM hw hw2 hw3 hV hc9 hcn hd ht hd2 hkc hks hst kk
theorem Jk_putI {index ci k a : Nat} {r : Int × Int} {ty : FieldType} {x : Int32} {p : Nat → Prop} (hW : WTx p V) (hp : ¬ p a) (hk : jis V (.inr ci) a) (hc : (jFs ci)[k]? = some (.inl r)) (hF : jF M.1.cls index ci k) (hT : jFt ci k false ty) (hd : decode M.2.1 pc = .ok (.putfield index, 3)) (h1 : r.1 ≤ x.toInt) (h2 : x.toInt ≤ r.2) (hn : narrow ty (.int x) = .int x) (hf : fits ty (.int x) = true) (kk : ∀ V' : jH, WTx p V' → jeff [.inr ci] V V' → (∀ (c : Nat) (ks : List Nat), k ∉ ks → jkc c ks V V') → J tS M d (pc + 3) ls st V' kc ks Q) : J tS M d pc ls (.int x :: .ref a :: st) V kc ks Q := by
  obtain ⟨fs, h3, h4⟩ := WT_obj hW hp hk
  have hl : k < fs.length := by rw [h4.1]; exact (List.getElem?_eq_some_iff.mp hc).1
  refine J_put hF hT hd h3 hn hf hl (kk _ (hW.put h3 (jrel.obj (jokO_nrI h4 hc)) (fun _ => jokO_set h4 hc ⟨x, rfl, h1, h2⟩)) (jeff.put h3 (jrel.obj (jokO_nrI h4 hc)) List.mem_cons_self) (fun c ks hks => jkc.put h3 jup_self (fun j hj => List.getElem?_set_ne (Ne.symm hj)) (fun b hb => jup_ne hb) hks))
end JWR
/-- an int field of an object; an int array -/
def jfI (V : jH) (a ci k : Nat) (y : Int32) : Prop := ∃ fs : List Value, V a = some (.inr (ci, fs)) ∧ fs[k]? = some (.int y)
def jfR (V : jH) (a ci k : Nat) (b : Nat) : Prop := ∃ fs : List Value, V a = some (.inr (ci, fs)) ∧ fs[k]? = some (.ref b)
/-! constructors -/
theorem WTx.fin {p : Nat → Prop} {V : jH} {q : Nat} {e : jE} (hW : WTx (fun a => p a ∨ a = q) V) (h : V q = some e) (hk : jok V e) : WTx p V := by
  intro b e2 hp h2
  by_cases hb : b = q
  · subst hb
    cases h.symm.trans h2
    exact hk
  · exact hW b e2 (fun z => z.elim hp hb) h2
/-- a new object of a safe heap, not yet built -/
theorem WTx.born {p : Nat → Prop} {V : jH} {q : Nat} (hW : WTx p V) (e : jE) (h : V q = none) : WTx (fun a => p a ∨ a = q) (jup V q e) := by
  intro b e2 hp h2
  have hb : b ≠ q := fun z => hp (Or.inr z)
  rw [jup_ne hb] at h2
  exact (hW b e2 (fun z => hp (Or.inl z)) h2).mono (jext.new h)
theorem jokO_nil {V : jH} : jokO V [] [] := ⟨rfl, fun k c h => by simp at h⟩
theorem jokO_cons {V : jH} {c : jFC} {cs : List jFC} {v : Value} {fs : List Value} (h1 : jokV V c v) (h2 : jokO V cs fs) : jokO V (c :: cs) (v :: fs) := by
  refine ⟨congrArg (· + 1) h2.1, fun k c2 hk => ?_⟩
  cases k with
  | zero => cases hk; exact ⟨v, rfl, h1⟩
  | succ k => exact h2.2 k c2 hk
theorem jok_zI {V : jH} {t N : Nat} {r : Int × Int} (hc : jAc t = .inl r) (h1 : r.1 ≤ 0) (h2 : 0 ≤ r.2) (hl : ∀ m, jAl t = some m → N = m) (hN : N < 2 ^ 31) : jok V (.inl (t, N, .inl (fun _ => 0))) := by
  refine ⟨hN, hl, ?_⟩
  dsimp only
  rw [hc]
  exact ⟨_, rfl, fun j _ => ⟨h1, h2⟩⟩
theorem jok_zL {V : jH} {t N : Nat} (hc : jAc t = .inr none) (hl : ∀ m, jAl t = some m → N = m) (hN : N < 2 ^ 31) : jok V (.inl (t, N, .inr (.inl (fun _ => 0)))) := by
  refine ⟨hN, hl, ?_⟩
  dsimp only
  rw [hc]
  exact ⟨_, rfl⟩
theorem jok_zR {V : jH} {t N : Nat} {k : jKd} (hc : jAc t = .inr (some k)) (hl : ∀ m, jAl t = some m → N = m) (hN : N < 2 ^ 31) : jok V (.inl (t, N, .inr (.inr (.inr (.inr (fun _ => none)))))) := by
  refine ⟨hN, hl, ?_⟩
  dsimp only
  rw [hc]
  exact ⟨_, rfl, fun j a _ h => by cases h⟩
theorem jclamp {n : Int32} {B : Nat} (h0 : 0 ≤ n.toInt) (hB : n.toInt ≤ (B : Int)) : n.toNatClampNeg ≤ B ∧ ((n.toNatClampNeg : Nat) : Int) = n.toInt ∧ ¬ n < 0 := by
  have h1 : n.toNatClampNeg = n.toInt.toNat := rfl
  refine ⟨by omega, by omega, ?_⟩
  rw [jlt, Int32.toInt_zero]
  omega
section JCR
variable {tS : jTS} {M : jM} {d pc : Nat} {ls : List (Option Value)} {st : List Value} {V : jH} {kc ks : Nat} {Q : Option Value → jH → Prop}
theorem Jc_put {p : Nat → Prop} {index ci k q : Nat} {fs : List Value} {v : Value} {ty : FieldType} (hF : jF M.1.cls index ci k) (hT : jFt ci k false ty) (hd : decode M.2.1 pc = .ok (.putfield index, 3)) (hV : V q = some (.inr (ci, fs))) (hn : narrow ty v = v) (hf : fits ty v = true) (hl9 : k < fs.length) (hold : ∀ b, fs[k]? ≠ some (.ref b)) (hW : WTx (fun a => p a ∨ a = q) V) (kk : ∀ V' : jH, V' q = some (.inr (ci, fs.set k v)) → WTx (fun a => p a ∨ a = q) V' → jeff [.inr ci] V V' → (∀ b : Nat, b ≠ q → V' b = V b) → J tS M d (pc + 3) ls st V' kc ks Q) : J tS M d pc ls (v :: .ref q :: st) V kc ks Q :=
  J_put hF hT hd hV hn hf hl9 (kk _ jup_self (hW.put hV (jrel.obj hold) (fun h => absurd (Or.inr rfl) h)) (jeff.put hV (jrel.obj hold) List.mem_cons_self) (fun b hb => jup_ne hb))
theorem Jc_putF {p : Nat → Prop} {index ci k q : Nat} {fs : List Value} {v : Value} {ty : FieldType} (hF : jF M.1.cls index ci k) (hT : jFt ci k true ty) (hinit : M.1.name = "<init>") (hdecl : ∀ q : vw_C, jcl[ci]? = some q → (q.2.1 k).1 = M.1.cls) (hd : decode M.2.1 pc = .ok (.putfield index, 3)) (hV : V q = some (.inr (ci, fs))) (hn : narrow ty v = v) (hf : fits ty v = true) (hl9 : k < fs.length) (hold : ∀ b, fs[k]? ≠ some (.ref b)) (hW : WTx (fun a => p a ∨ a = q) V) (kk : ∀ V' : jH, V' q = some (.inr (ci, fs.set k v)) → WTx (fun a => p a ∨ a = q) V' → jeff [.inr ci] V V' → (∀ b : Nat, b ≠ q → V' b = V b) → J tS M d (pc + 3) ls st V' kc ks Q) : J tS M d pc ls (v :: .ref q :: st) V kc ks Q :=
  J_putF hF hT hinit hdecl hd hV hn hf hl9 (kk _ jup_self (hW.put hV (jrel.obj hold) (fun h => absurd (Or.inr rfl) h)) (jeff.put hV (jrel.obj hold) List.mem_cons_self) (fun b hb => jup_ne hb))
theorem Jc_newa {p : Nat → Prop} {atype : ArrayType} {t B : Nat} {n : Int32} {x : (Nat → Int32) ⊕ (Nat → Int64) ⊕ (Nat → UInt32) ⊕ (Nat → UInt64) ⊕ (Nat → Option Nat)} (hw : Cond.arrayClass (newarray.typeOf atype) ∈ jWG) (ht : jT[t]? = some (newarray.typeOf atype)) (hob : ∀ Cn, newarray.typeOf atype ≠ .object Cn) (hcb : componentBytes (newarray.typeOf atype) ≤ 8) (hd : decode M.2.1 pc = .ok (.newarray atype, 2)) (h0 : 0 ≤ n.toInt) (hB : n.toInt ≤ (B : Int)) (hB2 : B ≤ 16777216) (hx9 : ∀ (cA : ClassId) (N : Nat), vp_cell cA (N, x) = arrV cA N (fun _ => defaultValue (newarray.typeOf atype))) (hok : n.toNatClampNeg < 2 ^ 31 → jok V (.inl (t, n.toNatClampNeg, x))) (hkc : 1 ≤ kc) (hks : B ≤ ks) (hW : WTx p V) (kk : ∀ (q : Nat) (V' : jH), V q = none → jis V' (.inl t) q → (∀ (b : Nat) (e : jE), V b = some e → V' b = some e) → WTx p V' → jeff [] V V' → J tS M d (pc + 2) ls (.ref q :: st) V' (kc - 1) (ks - B) Q) : J tS M d pc ls (.int n :: st) V kc ks Q := by
  obtain ⟨h1, h2, h3⟩ := jclamp h0 hB
  have hN : n.toNatClampNeg < 2 ^ 31 := by omega
  refine J_newa (x := (n.toNatClampNeg, x)) hw ht hob hd (fun cA => hx9 cA _) h3 rfl (Nat.le_trans (Nat.mul_le_mul (Nat.le_trans h1 hB2) hcb) (Nat.le_of_ble_eq_true rfl)) hkc (Nat.le_trans h1 hks) (fun q hq => ?_)
  refine J.less (Nat.le_refl _) (by omega) (kk q _ hq ⟨_, jup_self, rfl⟩ (fun b e hb => ?_) (hW.new hq (fun _ => hok hN)) (jeff.new hq))
  rw [jup_ne (fun z => by rw [z, hq] at hb; cases hb)]
  exact hb
theorem Jc_newax {p : Nat → Prop} {atype : ArrayType} {t B : Nat} {n : Int32} {x : (Nat → Int32) ⊕ (Nat → Int64) ⊕ (Nat → UInt32) ⊕ (Nat → UInt64) ⊕ (Nat → Option Nat)} (hw : Cond.arrayClass (newarray.typeOf atype) ∈ jWG) (ht : jT[t]? = some (newarray.typeOf atype)) (hob : ∀ Cn, newarray.typeOf atype ≠ .object Cn) (hcb : componentBytes (newarray.typeOf atype) ≤ 8) (hd : decode M.2.1 pc = .ok (.newarray atype, 2)) (h0 : 0 ≤ n.toInt) (hB : n.toInt ≤ (B : Int)) (hB2 : B ≤ 16777216) (hx9 : ∀ (cA : ClassId) (N : Nat), vp_cell cA (N, x) = arrV cA N (fun _ => defaultValue (newarray.typeOf atype))) (hok : n.toNatClampNeg < 2 ^ 31 → jok V (.inl (t, n.toNatClampNeg, x))) (hkc : 1 ≤ kc) (hks : B ≤ ks) (hW : WTx p V) (kk : ∀ (q : Nat) (V' : jH), V q = none → jis V' (.inl t) q → (∀ (b : Nat) (e : jE), V b = some e → V' b = some e) → WTx p V' → jeff [] V V' → V' q = some (.inl (t, n.toNatClampNeg, x)) → J tS M d (pc + 2) ls (.ref q :: st) V' (kc - 1) (ks - B) Q) : J tS M d pc ls (.int n :: st) V kc ks Q := by
  obtain ⟨h1, h2, h3⟩ := jclamp h0 hB
  have hN : n.toNatClampNeg < 2 ^ 31 := by omega
  refine J_newa (x := (n.toNatClampNeg, x)) hw ht hob hd (fun cA => hx9 cA _) h3 rfl (Nat.le_trans (Nat.mul_le_mul (Nat.le_trans h1 hB2) hcb) (Nat.le_of_ble_eq_true rfl)) hkc (Nat.le_trans h1 hks) (fun q hq => ?_)
  refine J.less (Nat.le_refl _) (by omega) (kk q _ hq ⟨_, jup_self, rfl⟩ (fun b e hb => ?_) (hW.new hq (fun _ => hok hN)) (jeff.new hq) jup_self)
  rw [jup_ne (fun z => by rw [z, hq] at hb; cases hb)]
  exact hb
theorem Jc_newq {p : Nat → Prop} {index t N : Nat} {n : Int32} {Cn : String} (hw : Cond.classLink M.1.cls index Cn ∈ jWG) (hao : Cn ∈ jAO) (ht : jT[t]? = some (.object Cn)) (hd : decode M.2.1 pc = .ok (.anewarray index, 3)) (hn : ¬ n < 0) (hN : n.toNatClampNeg = N) (hby : N * 4 ≤ 536870912) (hok : jok V (.inl (t, N, .inr (.inr (.inr (.inr (fun _ => none))))))) (hkc : 1 ≤ kc) (hks : N ≤ ks) (hW : WTx p V) (kk : ∀ (q : Nat) (V' : jH), V q = none → jis V' (.inl t) q → (∀ (b : Nat) (e : jE), V b = some e → V' b = some e) → WTx p V' → jeff [] V V' → J tS M d (pc + 3) ls (.ref q :: st) V' (kc - 1) (ks - N) Q) : J tS M d pc ls (.int n :: st) V kc ks Q := by
  refine J_newq hw hao ht hd hn hN hby hkc hks (fun q hq => kk q _ hq ⟨_, jup_self, rfl⟩ (fun b e hb => ?_) (hW.new hq (fun _ => hok)) (jeff.new hq))
  rw [jup_ne (fun z => by rw [z, hq] at hb; cases hb)]
  exact hb
theorem Jc_new {p : Nat → Prop} {index ci N : Nat} {fs : List Value} (hN : jNew M.1.cls index ci fs N) (hd : decode M.2.1 pc = .ok (.new index, 3)) (hkc : 1 ≤ kc) (hks : N ≤ ks) (hW : WTx p V) (kk : ∀ (q : Nat) (V' : jH), V q = none → V' q = some (.inr (ci, fs)) → (∀ (b : Nat) (e : jE), V b = some e → V' b = some e) → WTx (fun a => p a ∨ a = q) V' → jeff [] V V' → J tS M d (pc + 3) ls (.ref q :: st) V' (kc - 1) (ks - N) Q) : J tS M d pc ls st V kc ks Q := by
  refine J_new hN hd hkc hks (fun q hq => kk q _ hq jup_self (fun b e hb => ?_) (hW.born _ hq) (jeff.new hq))
  rw [jup_ne (fun z => by rw [z, hq] at hb; cases hb)]
  exact hb
end JCR
