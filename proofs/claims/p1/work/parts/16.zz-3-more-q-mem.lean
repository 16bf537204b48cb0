/-! ways: what is held of them, on both sides -/
theorem jfL.fun {V : jH} {a ci k : Nat} {b c : Int64} (h1 : jfL V a ci k b) (h2 : jfL V a ci k c) : b = c := by
  obtain ⟨fs, q1, q2⟩ := h1
  cases q2.symm.trans (h2.get q1)
  rfl
abbrev jwn9 (op : Nat → Bool) : Nat := jsum (fun n => (op n).toNat) 64
/-- the plane's numbers -/
def jwpl (V : jH) (pl : Nat) (w h : Int32) (op : Int64) : Prop := ∃ (wb : Nat) (rc aw fw cn sp : Int32) (WB : Nat → Int32), (jfI V pl 0 4 rc ∧ jfI V pl 0 5 aw ∧ jfI V pl 0 6 fw ∧ jfI V pl 0 7 cn ∧ jfI V pl 0 8 sp) ∧ jfR V pl 0 0 wb ∧ V wb = some (.inl (12, 36, .inl WB)) ∧ jwm (jbt op) (w.toInt + 8 * h.toInt).toNat (jwn9 (jbt op)) cn sp rc aw fw WB
def jWC (V : jH) (x : Nat) : Prop := ∃ (pl : Nat) (w h : Int32) (op : Int64), jfR V x 4 6 pl ∧ (jfI V pl 0 1 w ∧ jfI V pl 0 2 h ∧ jfL V pl 0 3 op) ∧ jwpl V pl w h op
/-- the reference's numbers -/
def jwrf (V : jH) (m : Nat) (op : Nat → Bool) (w h : Int32) : Prop := ∃ (wb : Nat) (cv sv fv : Int32) (WB : Nat → Int32), (jfI V m 5 26 cv ∧ jfI V m 5 27 sv ∧ jfI V m 5 28 fv) ∧ jfR V m 5 29 wb ∧ V wb = some (.inl (30, 36, .inl WB)) ∧ jrm9 op (w.toInt + 8 * h.toInt).toNat (jwn9 op) cv sv fv WB
def jWR (V : jH) (m : Nat) : Prop := ∃ (rh : Nat) (w h : Int32) (H : Nat → Int32) (op : Nat → Bool), jfR V m 5 25 rh ∧ (jfI V m 5 23 w ∧ jfI V m 5 24 h) ∧ V rh = some (.inl (43, 36, .inl H)) ∧ jopr op w.toInt.toNat h.toInt.toNat H ∧ (H 0).toInt = 0 ∧ jwrf V m op w h
def jWX (V : jH) (x m : Nat) : Prop := jWC V x ∧ jWR V m
theorem jwpl.keep {E : List jKd} {V V' : jH} {pl : Nat} {w h : Int32} {op : Int64} (q : jwpl V pl w h op) (he : jeff E V V') (h0 : (.inr 0 : jKd) ∉ E) (h12 : (.inl 12 : jKd) ∉ E) : jwpl V' pl w h op := by
  obtain ⟨wb, rc, aw, fw, cn, sp, WB, ⟨a4, a5, a6, a7, a8⟩, a0, hWB, hm⟩ := q
  exact ⟨wb, rc, aw, fw, cn, sp, WB, ⟨a4.keep he h0, a5.keep he h0, a6.keep he h0, a7.keep he h0, a8.keep he h0⟩, a0.mono he.1, he.2 _ _ hWB h12, hm⟩
theorem jWC.keep {E : List jKd} {V V' : jH} {x : Nat} (q : jWC V x) (he : jeff E V V') (h0 : (.inr 0 : jKd) ∉ E) (h12 : (.inl 12 : jKd) ∉ E) : jWC V' x := by
  obtain ⟨pl, w, h, op, r1, ⟨a1, a2, a3⟩, hp⟩ := q
  exact ⟨pl, w, h, op, r1.mono he.1, ⟨a1.keep he h0, a2.keep he h0, a3.keep he h0⟩, hp.keep he h0 h12⟩
theorem jWR.core {E : List jKd} {ks : List Nat} {V V' : jH} {m : Nat} (q : jWR V m) (he : jeff E V V') (hk : jkc 5 ks V V') (hs : ∀ k ∈ [23, 24, 26, 27, 28], k ∈ ks) (h43 : (.inl 43 : jKd) ∉ E) (h30 : (.inl 30 : jKd) ∉ E) : jWR V' m := by
  obtain ⟨rh, w, h, H, op, r1, ⟨a1, a2⟩, hH, ho, hH0, wb, cv, sv, fv, WB, ⟨b1, b2, b3⟩, b4, hWB, hm⟩ := q
  exact ⟨rh, w, h, H, op, r1.mono he.1, ⟨a1.kp hk (hs 23 (by decide)), a2.kp hk (hs 24 (by decide))⟩, he.2 _ _ hH h43, ho, hH0, wb, cv, sv, fv, WB, ⟨b1.kp hk (hs 26 (by decide)), b2.kp hk (hs 27 (by decide)), b3.kp hk (hs 28 (by decide))⟩, b4.mono he.1, he.2 _ _ hWB h30, hm⟩
abbrev jWK : List jKd := [.inr 0, .inl 12, .inl 43, .inl 30]
theorem jWX.own {E : List jKd} {V V' : jH} {x m : Nat} (q : jWX V x m) (he : jeff E V V') (hn : ∀ k ∈ (.inr 5 :: jWK : List jKd), k ∉ E) : jWX V' x m :=
  ⟨q.1.keep he (hn _ (jin_of rfl)) (hn _ (jin_of rfl)), q.2.core (ks := [23, 24, 26, 27, 28]) he (jkc.of he (hn _ (jin_of rfl))) (fun _ z => z) (hn _ (jin_of rfl)) (hn _ (jin_of rfl))⟩
theorem jWX.ref {E : List jKd} {ks : List Nat} {V V' : jH} {x m : Nat} (q : jWX V x m) (he : jeff E V V') (hk : jkc 5 ks V V') (hs : ∀ k ∈ [23, 24, 26, 27, 28], k ∈ ks) (hn : ∀ k ∈ jWK, k ∉ E) : jWX V' x m :=
  ⟨q.1.keep he (hn _ (jin_of rfl)) (hn _ (jin_of rfl)), q.2.core he hk hs (hn _ (jin_of rfl)) (hn _ (jin_of rfl))⟩
theorem jWC.got {V : jH} {x pl : Nat} {w h : Int32} {op : Int64} (q : jWC V x) (r1 : jfR V x 4 6 pl) (a1 : jfI V pl 0 1 w) (a2 : jfI V pl 0 2 h) (a3 : jfL V pl 0 3 op) : jwpl V pl w h op := by
  obtain ⟨pl2, w2, h2, op2, r2, ⟨b1, b2, b3⟩, hp⟩ := q
  obtain rfl := r1.fun r2
  obtain rfl := a1.fun b1
  obtain rfl := a2.fun b2
  obtain rfl := a3.fun b3
  exact hp
theorem jopr.same {o1 o2 : Nat → Bool} {w h : Nat} {H : Nat → Int32} (h1 : jopr o1 w h H) (h2 : jopr o2 w h H) : o1 = o2 := funext (fun n => by
  by_cases c : o1 n = true
  · rw [c, (h2 n).mpr ((h1 n).mp c)]
  · rw [Bool.eq_false_iff.mpr c, Bool.eq_false_iff.mpr (fun z => c ((h1 n).mpr ((h2 n).mp z)))])
theorem jWR.got {V : jH} {m rh : Nat} {w h : Int32} {H : Nat → Int32} {op : Nat → Bool} (q : jWR V m) (r1 : jfR V m 5 25 rh) (a1 : jfI V m 5 23 w) (a2 : jfI V m 5 24 h) (hH : V rh = some (.inl (43, 36, .inl H))) (ho : jopr op w.toInt.toNat h.toInt.toNat H) : jwrf V m op w h ∧ (H 0).toInt = 0 := by
  obtain ⟨rh2, w2, h2, H2, op2, r2, ⟨b1, b2⟩, hH2, ho2, hz, hp⟩ := q
  obtain rfl := r1.fun r2
  obtain rfl := a1.fun b1
  obtain rfl := a2.fun b2
  cases hH.symm.trans hH2
  obtain rfl := ho.same ho2
  exact ⟨hp, hz⟩
/-- nothing is counted now -/
theorem jWC.fresh {V : jH} {x pl : Nat} {w h cn : Int32} {op : Int64} (hW : WT V) (r1 : jfR V x 4 6 pl) (a1 : jfI V pl 0 1 w) (a2 : jfI V pl 0 2 h) (a3 : jfL V pl 0 3 op) (a7 : jfI V pl 0 7 cn) (h7 : cn.toInt = 0) : jWC V x := by
  obtain ⟨fs0, hO0, -⟩ := id a1
  obtain ⟨fs, hO, hK⟩ := WT_obj hW id (show jis V (.inr 0) pl from ⟨_, hO0, rfl⟩)
  obtain ⟨w4, hF4, y4, rfl, -, -⟩ := hK.2 4 (.inl (-2147483648, 2147483647)) rfl
  obtain ⟨w5, hF5, y5, rfl, -, -⟩ := hK.2 5 (.inl (-2147483648, 2147483647)) rfl
  obtain ⟨w6, hF6, y6, rfl, -, -⟩ := hK.2 6 (.inl (-2147483648, 2147483647)) rfl
  obtain ⟨w8, hF8, y8, rfl, -, -⟩ := hK.2 8 (.inl (0, 1)) rfl
  obtain ⟨w0, hF0, b0, rfl, hb0⟩ := hK.2 0 (.inr (some (.inl 12))) rfl
  obtain ⟨n, f, hA, hN, hM, hv⟩ := WT_arrI (r := (-2147483648, 2147483647)) hW id rfl hb0
  obtain rfl := hM 36 rfl
  exact ⟨pl, w, h, op, r1, ⟨a1, a2, a3⟩, b0, y4, y5, y6, cn, y8, f, ⟨⟨fs, hO, hF4⟩, ⟨fs, hO, hF5⟩, ⟨fs, hO, hF6⟩, a7, ⟨fs, hO, hF8⟩⟩, ⟨fs, hO, hF0⟩, hA, fun z => absurd (h7.symm.trans z) (by decide)⟩
theorem jWR.fresh {V : jH} {m rh : Nat} {w h cv : Int32} {H : Nat → Int32} {op : Nat → Bool} (hW : WT V) (r1 : jfR V m 5 25 rh) (a1 : jfI V m 5 23 w) (a2 : jfI V m 5 24 h) (hH : V rh = some (.inl (43, 36, .inl H))) (ho : jopr op w.toInt.toNat h.toInt.toNat H) (hz : (H 0).toInt = 0) (a26 : jfI V m 5 26 cv) (h26 : cv.toInt = 0) : jWR V m := by
  obtain ⟨fs0, hO0, -⟩ := id a1
  obtain ⟨fs, hO, hK⟩ := WT_obj hW id (show jis V (.inr 5) m from ⟨_, hO0, rfl⟩)
  obtain ⟨w7, hF7, y7, rfl, -, -⟩ := hK.2 27 (.inl (0, 1)) rfl
  obtain ⟨w8, hF8, y8, rfl, -, -⟩ := hK.2 28 (.inl (-2147483648, 2147483647)) rfl
  obtain ⟨w0, hF0, b0, rfl, hb0⟩ := hK.2 29 (.inr (some (.inl 30))) rfl
  obtain ⟨n, f, hA, hN, hM, hv⟩ := WT_arrI (r := (-2147483648, 2147483647)) hW id rfl hb0
  obtain rfl := hM 36 rfl
  exact ⟨rh, w, h, H, op, r1, ⟨a1, a2⟩, hH, ho, hz, b0, cv, y7, y8, f, ⟨a26, ⟨fs, hO, hF7⟩, ⟨fs, hO, hF8⟩⟩, ⟨fs, hO, hF0⟩, hA, fun z => absurd h26 z⟩
theorem jcell_ne0 {x y w : Int} (hx : 0 ≤ x) (hy : 0 ≤ y) (hw : 2 ≤ w) (h : (x + w * y).toNat = 0) : x = 0 ∧ y = 0 := by
  have q := Int.mul_le_mul_of_nonneg_right hw hy
  constructor <;> omega
theorem jwn36 {op : Int64} {H : Nat → Int32} {w h : Int} (hr : 2 ≤ w ∧ w ≤ 6 ∧ 2 ≤ h ∧ h ≤ 6) (hc : ((jsum (fun n => (jbt op n).toNat) 64 : Nat) : Int) = ((jcn 1 H (w * h).toNat : Nat) : Int)) : jwn9 (jbt op) ≤ 36 := by
  have q := jcn_le (c := 1) (F := H) (w * h).toNat
  have q2 := Int.mul_le_mul hr.2.1 hr.2.2.2 (by omega) (by omega)
  show jsum (fun n => (jbt op n).toNat) 64 ≤ 36
  omega
theorem jop09 {op : Int64} {w h : Int32} {H : Nat → Int32} (hbt : ∀ n : Nat, jbt op n = true ↔ ∃ a b : Nat, ((a : Int) < w.toInt ∧ (b : Int) < h.toInt) ∧ n = 9 + a + 8 * b ∧ (H (a + w.toInt.toNat * b)).toInt = 0) (hb : 2 ≤ w.toInt ∧ w.toInt ≤ 6 ∧ 2 ≤ h.toInt ∧ h.toInt ≤ 6) (hz : (H 0).toInt = 0) : jbt op 9 = true :=
  (hbt 9).mpr ⟨0, 0, ⟨by omega, by omega⟩, rfl, hz⟩
theorem jWX.init {V : jH} {x m : Nat} (hW : WT V) (h1 : jpx V x) (h2 : jmx V m) (h3 : jfI V m 5 23 2) (h4 : jfI V m 5 24 2) (h26 : jfI V m 5 26 0) : jWX V x m := by
  obtain ⟨xs, pl, q1, q2, ⟨cn, c1, c2⟩, w, h, op, p1, p2, p3, p4, p5, p6⟩ := h1
  obtain ⟨ms, rh, q3, q4, q5⟩ := h2
  have e2 : (2 : Int32).toInt.toNat = 2 := by decide
  exact ⟨jWC.fresh hW ⟨xs, q1, q2⟩ p1 p2 p3 c1 c2, jWR.fresh (op := jbt op) (H := fun _ => 0) hW ⟨ms, q3, q4⟩ h3 h4 q5 (fun n => by
    rw [e2]
    exact (p6 n).trans ⟨fun ⟨a, b, q, e⟩ => ⟨a, b, ⟨by omega, by omega⟩, e, rfl⟩, fun ⟨a, b, q, e, _⟩ => ⟨a, b, ⟨by omega, by omega⟩, e⟩⟩) rfl h26 rfl⟩
