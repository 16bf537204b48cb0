/-! THE CLAIM OUT OF ONE WALK OF THE LAW'S BODY. Your part is whole_start (and what it stands on); all else here is the same for every law, but numbers. -/
def R_law : String := "WalkGroundsLaw"
def lw_P (b : Addr) (xs : List Int32) (args : Array Value) (s : State) : Prop := args = #[.ref b] ∧ s.IntsAt b xs ∧ xs.length ≤ 2048 ∧ (Jvm.Cond.and given_1 narrow_1).before args s = true
def lw_Q (_ : Array Value) (s : State) (o : Outcome) (t : State) : Prop := o = .returned (some (.int 1)) ∧ Framed s o t [] 600000 7302250
def lw_Z (below : List Frame) (a : Array Value) (s : State) : State → Prop := fun t => ∃ o, t.status = .running ∧ Ended t below o ∧ lw_Q a s o t
/-- the law's own end, with 1 on the stack, nothing written that was there before, its room as the claim has it -/
theorem lw_ret {p : Program} {l : Launch} {e : Env} {s : State} {m : MethodId} {below : List Frame} {meth : Method} {c : Code} {b : Nat} (hx : p.tables.exec = Jvm.exec) (hb : c.code = code) (hr : meth.sig.returnType = ret) (hlocks : meth.locks = false) {pc : Nat} {H : Heap} {ls : Array Slot} (hdg : decode code pc = .ok (.ireturn, 1)) : W p l e room_1 s m #[Value.ref b] below meth c H [] 600000 7302250 (lw_Z below #[Value.ref b] s) (F0 m pc ls [.int 1]) := by
  intro T hT X
  obtain ⟨fs, hret, hrun, hended, hW, hframe⟩ := X.leave (v := some (.int 1)) (hlocks := hlocks) (fun h => by rw [hr] at h; cases h)
  have hmeth' : T.vm.method? m = some meth := X.method'
  refine ⟨T.setFrames fs, ?_, .returned (some (.int 1)), hrun, hended, rfl, ⟨_, rfl⟩, hW, hframe⟩
  jvm_step X.here [X.here.top, hx, hb, hdg, hmeth', hr, ret, narrow_b1]
  (try refine ⟨rfl, ?_⟩); (try refine ⟨rfl, ?_⟩)
  first | (intro acts; rw [hret _ acts rfl rfl rfl]) | rw [hret _ _ rfl rfl rfl]
  exact Steps.refl _
/-- what holds at the law's entry: the machine, the code, the tables' words (any of lw_tbl by 'hts w (by decide +kernel)'), the script of L ints xs at the cell b, what the Statement gives of the start (any of its parts by flat_of_before) -/
def lw_At (p : Program) (s : State) (m : MethodId) (meth : Method) (c : Code) (b L : Nat) (xs : Nat → Int32) : Prop :=
  p.tables.exec = Jvm.exec ∧ c.code = code ∧ meth.sig.returnType = ret ∧ c.maxLocals = 4 ∧ s.vm.findClass R_law = some m.cls ∧ (∀ w ∈ lw_tbl, w.before #[Value.ref b] s = true) ∧ va_X b L xs s s.heap ∧ b < s.heap.size ∧ meth.locks = false ∧ (Jvm.Cond.and given_1 narrow_1).before #[Value.ref b] s = true
theorem jw_nest : ∀ q ∈ jNL, Cond.methodLinkNest q.1 q.2.1 q.2.2.1 q.2.2.2 ∈ lw_tbl := by
  intro q hq
  simp only [jNL, List.mem_cons, List.not_mem_nil, or_false] at hq
  rcases hq with rfl | rfl | rfl | rfl | rfl | rfl | rfl | rfl | rfl | rfl
  · exact List.mem_append_right _ (List.mem_of_getElem? (i := 170) (by decide +kernel))
  · exact List.mem_append_right _ (List.mem_of_getElem? (i := 206) (by decide +kernel))
  · exact List.mem_append_right _ (List.mem_of_getElem? (i := 311) (by decide +kernel))
  · exact List.mem_append_right _ (List.mem_of_getElem? (i := 324) (by decide +kernel))
  · exact List.mem_append_right _ (List.mem_of_getElem? (i := 428) (by decide +kernel))
  · exact List.mem_append_right _ (List.mem_of_getElem? (i := 450) (by decide +kernel))
  · exact List.mem_append_right _ (List.mem_of_getElem? (i := 516) (by decide +kernel))
  · exact List.mem_append_right _ (List.mem_of_getElem? (i := 522) (by decide +kernel))
  · exact List.mem_append_right _ (List.mem_of_getElem? (i := 568) (by decide +kernel))
  · exact List.mem_append_right _ (List.mem_of_getElem? (i := 569) (by decide +kernel))
theorem jw_over : ∀ c ∈ jAO, Cond.arrayOver (.object c) ∈ lw_tbl := by
  intro q hq
  simp only [jAO, List.mem_cons, List.not_mem_nil, or_false] at hq
  rcases hq with rfl | rfl
  · exact List.mem_append_right _ (List.mem_of_getElem? (i := 20) (by decide +kernel))
  · exact List.mem_append_right _ (List.mem_of_getElem? (i := 64) (by decide +kernel))
theorem jw_ls0 : Cond.laysStatic "WalkGrounds$Ground" "SHIFT_X" "[I" ∈ lw_tbl := List.mem_append_right _ (List.mem_of_getElem? (i := 177) (by decide +kernel))
theorem jw_ls1 : Cond.laysStatic "WalkGrounds$Ground" "SHIFT_Y" "[I" ∈ lw_tbl := List.mem_append_right _ (List.mem_of_getElem? (i := 189) (by decide +kernel))
theorem jw_ls2 : Cond.laysStatic "WalkGrounds$Ground" "AXES" "[I" ∈ lw_tbl := List.mem_append_right _ (List.mem_of_getElem? (i := 238) (by decide +kernel))
theorem jw_ls3 : Cond.laysStatic "WalkGrounds$Plane" "SHIFTS" "[I" ∈ lw_tbl := List.mem_append_right _ (List.mem_of_getElem? (i := 562) (by decide +kernel))
theorem jty_prim {s : State} {args : Array Value} {ty : FieldType} (hob : ∀ n, ty ≠ .object n) (h : (Cond.arrayClass ty).before args s = true) : ∃ cA : ClassId, ArrOfT s cA ty ∧ va_RA s cA ty := by
  obtain ⟨c, k, comp, h1, h2, h3⟩ := Cond.arrayClass_spec h
  refine ⟨c, fun n z => ⟨(fun k h => by cases h), k, h2, comp, h3⟩, ?_⟩
  cases ty <;> first | exact absurd rfl (hob _) | exact h1
theorem jty_obj {s : State} {args : Array Value} {C : String} (h : (Cond.arrayOver (.object C)).before args s = true) : ∃ cA : ClassId, ArrOfT s cA (.object C) ∧ va_RA s cA (.object C) := by
  obtain ⟨comp, c, k, h1, h2, h3, h4, h5⟩ := Cond.arrayOver_spec h
  exact ⟨c, fun n z => ⟨(fun k h => by cases h), k, h3, comp, h4⟩, k, comp, h3, h4, h1, h5⟩
set_option maxRecDepth 100000 in
theorem jT_only : ∀ ty ∈ jT, ty = .int ∨ ty = .long ∨ ty = .boolean ∨ ty = .byte ∨ ty = .object "WalkGrounds$Row" ∨ ty = .object "WalkGrounds$Tally" := by decide +kernel
theorem jstart_K {s : State} {args : Array Value} (hl : ∀ w ∈ lw_tbl, w.before args s = true) : ∃ (D1 : va_G) (cT : Nat → ClassId), ∀ b0 : Nat, jK (D1, cT, b0) s := by
  have hts : ∀ w ∈ jWG, w.before args s = true := fun w hw => hl w (List.mem_filter.mp hw).1
  obtain ⟨c0, i0, k0⟩ := u_known hts jw_u_X2 (hts _ jw_ins_X2)
  obtain ⟨c1, i1, k1⟩ := u_known hts jw_u_X3 (hts _ jw_ins_X3)
  obtain ⟨c2, i2, k2⟩ := u_known hts jw_u_X4 (hts _ jw_ins_X4)
  obtain ⟨c3, i3, k3⟩ := u_known hts jw_u_X5 (hts _ jw_ins_X5)
  obtain ⟨c4, i4, k4⟩ := u_known hts jw_u_X6 (hts _ jw_ins_X6)
  obtain ⟨c5, i5, k5⟩ := u_known hts jw_u_X7 (hts _ jw_ins_X7)
  have hcl : ∀ (c : Nat) (q : vw_C), jcl[c]? = some q → u_Kn s q.1 q.2.1 q.2.2 ((fun k => if k = 0 then c0 else if k = 1 then c1 else if k = 2 then c2 else if k = 3 then c3 else if k = 4 then c4 else c5) c) ((fun k => if k = 0 then i0 else if k = 1 then i1 else if k = 2 then i2 else if k = 3 then i3 else if k = 4 then i4 else i5) c) := by
    intro c q hq
    match c, hq with
    | 0, hq => cases hq; exact k0
    | 1, hq => cases hq; exact k1
    | 2, hq => cases hq; exact k2
    | 3, hq => cases hq; exact k3
    | 4, hq => cases hq; exact k4
    | 5, hq => cases hq; exact k5
    | c + 6, hq => simp [jcl, vwCl] at hq
  have hty : ∀ t : Nat, ∃ cA : ClassId, ∀ ty : FieldType, jT[t]? = some ty → ArrOfT s cA ty ∧ va_RA s cA ty := by
    intro t
    cases h : jT[t]? with
    | none => exact ⟨0, fun ty h2 => by cases h2⟩
    | some ty =>
      have h3 : ∃ cA : ClassId, ArrOfT s cA ty ∧ va_RA s cA ty := by
        rcases jT_only ty (List.mem_of_getElem? h) with rfl | rfl | rfl | rfl | rfl | rfl
        · exact jty_prim (fun n h => by cases h) (hts _ jw_ac_int)
        · exact jty_prim (fun n h => by cases h) (hts _ jw_ac_long)
        · exact jty_prim (fun n h => by cases h) (hts _ jw_ac_boolean)
        · exact jty_prim (fun n h => by cases h) (hts _ jw_ac_byte)
        · exact jty_obj (hl _ (jw_over _ (by decide)))
        · exact jty_obj (hl _ (jw_over _ (by decide)))
      obtain ⟨cA, h4⟩ := h3
      exact ⟨cA, fun ty2 h5 => by cases h5; exact h4⟩
  refine ⟨(_, _), fun t => Classical.choose (hty t), fun b0 => ⟨hcl, fun k q hq => ?_⟩⟩
  unfold jtys at hq
  rw [List.getElem?_map, List.getElem?_zipIdx] at hq
  cases h : jT[k]? with
  | none => rw [h] at hq; simp at hq
  | some ty =>
    rw [h] at hq
    simp at hq
    subst hq
    exact Classical.choose_spec (hty k) ty h
set_option maxRecDepth 100000 in
theorem jstart_T0 {s : State} {args : Array Value} (hs : (Jvm.Cond.and given_1 narrow_1).before args s = true) : ∃ t : Nat, (Term.static "WalkGrounds$Ground" "SHIFT_X" "[I").eval args s none [] s = some (.ref t) ∧ va_T .int t 24 (jSf jSv0) (fun a => s.heap.size ≤ a) s s.heap := by
  have hs := flat_of_before _ hs
  refine va_Tof (tm := (Term.static "WalkGrounds$Ground" "SHIFT_X" "[I")) (N := 24) (by decide) (hs _ (by decide +kernel)) (va_eqt (hs _ (by decide +kernel))) (fun j hj => ?_) (fun a ha h => absurd ha (Nat.not_lt.mpr h))
  match j, hj with
  | 0, _ => exact va_eqt (z := 1) (hs _ (by decide +kernel))
  | 1, _ => exact va_eqt (z := 0) (hs _ (by decide +kernel))
  | 2, _ => exact va_eqt (z := -1) (hs _ (by decide +kernel))
  | 3, _ => exact va_eqt (z := 0) (hs _ (by decide +kernel))
  | 4, _ => exact va_eqt (z := 0) (hs _ (by decide +kernel))
  | 5, _ => exact va_eqt (z := 0) (hs _ (by decide +kernel))
  | 6, _ => exact va_eqt (z := 1) (hs _ (by decide +kernel))
  | 7, _ => exact va_eqt (z := 0) (hs _ (by decide +kernel))
  | 8, _ => exact va_eqt (z := -1) (hs _ (by decide +kernel))
  | 9, _ => exact va_eqt (z := -1) (hs _ (by decide +kernel))
  | 10, _ => exact va_eqt (z := 0) (hs _ (by decide +kernel))
  | 11, _ => exact va_eqt (z := 1) (hs _ (by decide +kernel))
  | 12, _ => exact va_eqt (z := 1) (hs _ (by decide +kernel))
  | 13, _ => exact va_eqt (z := -1) (hs _ (by decide +kernel))
  | 14, _ => exact va_eqt (z := 0) (hs _ (by decide +kernel))
  | 15, _ => exact va_eqt (z := 0) (hs _ (by decide +kernel))
  | 16, _ => exact va_eqt (z := 0) (hs _ (by decide +kernel))
  | 17, _ => exact va_eqt (z := 0) (hs _ (by decide +kernel))
  | 18, _ => exact va_eqt (z := 1) (hs _ (by decide +kernel))
  | 19, _ => exact va_eqt (z := 0) (hs _ (by decide +kernel))
  | 20, _ => exact va_eqt (z := 0) (hs _ (by decide +kernel))
  | 21, _ => exact va_eqt (z := -1) (hs _ (by decide +kernel))
  | 22, _ => exact va_eqt (z := 0) (hs _ (by decide +kernel))
  | 23, _ => exact va_eqt (z := 0) (hs _ (by decide +kernel))
  | j + 24, hj => exact absurd hj (by omega)
set_option maxRecDepth 100000 in
theorem jstart_T1 {s : State} {args : Array Value} (hs : (Jvm.Cond.and given_1 narrow_1).before args s = true) : ∃ t : Nat, (Term.static "WalkGrounds$Ground" "SHIFT_Y" "[I").eval args s none [] s = some (.ref t) ∧ va_T .int t 24 (jSf jSv1) (fun a => s.heap.size ≤ a) s s.heap := by
  have hs := flat_of_before _ hs
  refine va_Tof (tm := (Term.static "WalkGrounds$Ground" "SHIFT_Y" "[I")) (N := 24) (by decide) (hs _ (by decide +kernel)) (va_eqt (hs _ (by decide +kernel))) (fun j hj => ?_) (fun a ha h => absurd ha (Nat.not_lt.mpr h))
  match j, hj with
  | 0, _ => exact va_eqt (z := 0) (hs _ (by decide +kernel))
  | 1, _ => exact va_eqt (z := 1) (hs _ (by decide +kernel))
  | 2, _ => exact va_eqt (z := 0) (hs _ (by decide +kernel))
  | 3, _ => exact va_eqt (z := -1) (hs _ (by decide +kernel))
  | 4, _ => exact va_eqt (z := 0) (hs _ (by decide +kernel))
  | 5, _ => exact va_eqt (z := 0) (hs _ (by decide +kernel))
  | 6, _ => exact va_eqt (z := 0) (hs _ (by decide +kernel))
  | 7, _ => exact va_eqt (z := 1) (hs _ (by decide +kernel))
  | 8, _ => exact va_eqt (z := 1) (hs _ (by decide +kernel))
  | 9, _ => exact va_eqt (z := 0) (hs _ (by decide +kernel))
  | 10, _ => exact va_eqt (z := -1) (hs _ (by decide +kernel))
  | 11, _ => exact va_eqt (z := -1) (hs _ (by decide +kernel))
  | 12, _ => exact va_eqt (z := 0) (hs _ (by decide +kernel))
  | 13, _ => exact va_eqt (z := 0) (hs _ (by decide +kernel))
  | 14, _ => exact va_eqt (z := 0) (hs _ (by decide +kernel))
  | 15, _ => exact va_eqt (z := 0) (hs _ (by decide +kernel))
  | 16, _ => exact va_eqt (z := 0) (hs _ (by decide +kernel))
  | 17, _ => exact va_eqt (z := 0) (hs _ (by decide +kernel))
  | 18, _ => exact va_eqt (z := 0) (hs _ (by decide +kernel))
  | 19, _ => exact va_eqt (z := 1) (hs _ (by decide +kernel))
  | 20, _ => exact va_eqt (z := 0) (hs _ (by decide +kernel))
  | 21, _ => exact va_eqt (z := 0) (hs _ (by decide +kernel))
  | 22, _ => exact va_eqt (z := -1) (hs _ (by decide +kernel))
  | 23, _ => exact va_eqt (z := 0) (hs _ (by decide +kernel))
  | j + 24, hj => exact absurd hj (by omega)
set_option maxRecDepth 100000 in
theorem jstart_T2 {s : State} {args : Array Value} (hs : (Jvm.Cond.and given_1 narrow_1).before args s = true) : ∃ t : Nat, (Term.static "WalkGrounds$Ground" "AXES" "[I").eval args s none [] s = some (.ref t) ∧ va_T .int t 18 (jSf jSv2) (fun a => s.heap.size ≤ a) s s.heap := by
  have hs := flat_of_before _ hs
  refine va_Tof (tm := (Term.static "WalkGrounds$Ground" "AXES" "[I")) (N := 18) (by decide) (hs _ (by decide +kernel)) (va_eqt (hs _ (by decide +kernel))) (fun j hj => ?_) (fun a ha h => absurd ha (Nat.not_lt.mpr h))
  match j, hj with
  | 0, _ => exact va_eqt (z := 0) (hs _ (by decide +kernel))
  | 1, _ => exact va_eqt (z := 1) (hs _ (by decide +kernel))
  | 2, _ => exact va_eqt (z := 2) (hs _ (by decide +kernel))
  | 3, _ => exact va_eqt (z := 0) (hs _ (by decide +kernel))
  | 4, _ => exact va_eqt (z := 2) (hs _ (by decide +kernel))
  | 5, _ => exact va_eqt (z := 1) (hs _ (by decide +kernel))
  | 6, _ => exact va_eqt (z := 1) (hs _ (by decide +kernel))
  | 7, _ => exact va_eqt (z := 0) (hs _ (by decide +kernel))
  | 8, _ => exact va_eqt (z := 2) (hs _ (by decide +kernel))
  | 9, _ => exact va_eqt (z := 1) (hs _ (by decide +kernel))
  | 10, _ => exact va_eqt (z := 2) (hs _ (by decide +kernel))
  | 11, _ => exact va_eqt (z := 0) (hs _ (by decide +kernel))
  | 12, _ => exact va_eqt (z := 2) (hs _ (by decide +kernel))
  | 13, _ => exact va_eqt (z := 0) (hs _ (by decide +kernel))
  | 14, _ => exact va_eqt (z := 1) (hs _ (by decide +kernel))
  | 15, _ => exact va_eqt (z := 2) (hs _ (by decide +kernel))
  | 16, _ => exact va_eqt (z := 1) (hs _ (by decide +kernel))
  | 17, _ => exact va_eqt (z := 0) (hs _ (by decide +kernel))
  | j + 18, hj => exact absurd hj (by omega)
set_option maxRecDepth 100000 in
theorem jstart_T3 {s : State} {args : Array Value} (hs : (Jvm.Cond.and given_1 narrow_1).before args s = true) : ∃ t : Nat, (Term.static "WalkGrounds$Plane" "SHIFTS" "[I").eval args s none [] s = some (.ref t) ∧ va_T .int t 4 (jSf jSv3) (fun a => s.heap.size ≤ a) s s.heap := by
  have hs := flat_of_before _ hs
  refine va_Tof (tm := (Term.static "WalkGrounds$Plane" "SHIFTS" "[I")) (N := 4) (by decide) (hs _ (by decide +kernel)) (va_eqt (hs _ (by decide +kernel))) (fun j hj => ?_) (fun a ha h => absurd ha (Nat.not_lt.mpr h))
  match j, hj with
  | 0, _ => exact va_eqt (z := 1) (hs _ (by decide +kernel))
  | 1, _ => exact va_eqt (z := 8) (hs _ (by decide +kernel))
  | 2, _ => exact va_eqt (z := -1) (hs _ (by decide +kernel))
  | 3, _ => exact va_eqt (z := -8) (hs _ (by decide +kernel))
  | j + 4, hj => exact absurd hj (by omega)
theorem jstart_St {s : State} {b L : Nat} {xs : Nat → Int32} (hl : ∀ w ∈ lw_tbl, w.before #[Value.ref b] s = true) (hs : (Jvm.Cond.and given_1 narrow_1).before #[Value.ref b] s = true) (hX : va_X b L xs s s.heap) (hb : b < s.heap.size) (D1 : va_G) (cT : Nat → ClassId) : ∃ tA : Nat → Nat, jSt (tA, some (b, L, xs)) (D1, cT, s.heap.size) s := by
  obtain ⟨t0, e0, h0⟩ := jstart_T0 hs
  obtain ⟨t1, e1, h1⟩ := jstart_T1 hs
  obtain ⟨t2, e2, h2⟩ := jstart_T2 hs
  obtain ⟨t3, e3, h3⟩ := jstart_T3 hs
  have hA : ∀ a : Nat, a < s.heap.size → ¬ (fun a => s.heap.size ≤ a) a := fun a ha h => absurd ha (Nat.not_lt.mpr h)
  have hts : ∀ w ∈ jWG, w.before #[Value.ref b] s = true := fun w hw => hl w (List.mem_filter.mp hw).1
  refine ⟨fun k => if k = 0 then t0 else if k = 1 then t1 else if k = 2 then t2 else t3, fun k q hq => ?_, fun b2 L2 xs2 h => ?_⟩
  · match k, hq with
    | 0, hq => cases hq; exact ⟨va_Zref (hl _ jw_ls0) (hts _ jw_in_X0) e0 hA, h0⟩
    | 1, hq => cases hq; exact ⟨va_Zref (hl _ jw_ls1) (hts _ jw_in_X0) e1 hA, h1⟩
    | 2, hq => cases hq; exact ⟨va_Zref (hl _ jw_ls2) (hts _ jw_in_X0) e2 hA, h2⟩
    | 3, hq => cases hq; exact ⟨va_Zref (hl _ jw_ls3) (hts _ jw_in_X2) e3 hA, h3⟩
    | k + 4, hq => simp [jSs] at hq
  · cases h
    obtain ⟨scr, g1, g2, g3, g4, g5⟩ := hX
    exact ⟨scr, g1, g2, g3, by rw [g4]; exact Nat.le_refl _, by rw [g4], g5, fun h => absurd hb (Nat.not_lt.mpr h)⟩
/-- the law's own walk gives the skeleton's part -/
theorem jstart {p : Program} {e : Env} {s : State} {m : MethodId} {below : List Frame} {meth : Method} {c : Code} (l : Launch) {b L : Nat} {xs : Nat → Int32} (C0 : lw_At p s m meth c b L xs)
    (k : ∀ tA : Nat → Nat, J (tA, some (b, L, xs)) mL_law 1000 0 [some (.ref b), none, none, none] [] (fun _ => none) 600000 7302250 (fun r _ => r = some (.int 1))) : W p l e room_1 s m #[Value.ref b] below meth c s.heap [] 0 0 (lw_Z below #[Value.ref b] s) (entryFrame m ([Value.ref b] : List Value).toArray 4) := by
  obtain ⟨hx, hb, hr, hml, hown, hts, hX, hbl, hlocks, hgv⟩ := id C0
  obtain ⟨D1, cT, hK⟩ := jstart_K hts
  obtain ⟨tA, hSt⟩ := jstart_St hts hgv hX hbl D1 cT
  have hl := lv_entry ([.ref b]) (n := 4) (Nat.le_of_ble_eq_true rfl)
  rw [lg_entry_eq]
  generalize (lg_sl ([.ref b]) ++ List.replicate (4 - (lg_sl ([.ref b])).length) Slot.unset).toArray = lsA at hl ⊢
  have hl : jL lsA 4 [some (.ref b), none, none, none] := hl
  have hV : jHv (D1, cT, s.heap.size) s.heap (fun _ => none) := ⟨[], fun _ => .inr (0, []), fun a e h => (by cases h), fun k q h => (by simp [jw, va_pl] at h), ⟨fun i j p q h => (by simp [jw, va_pl] at h), fun k q h => (by simp [jw, va_pl] at h)⟩⟩
  refine k tA (D1, cT, s.heap.size) p l e room_1 s m #[Value.ref b] below meth c s.heap [] 0 0 lsA _ ⟨hx, hb, hml, hown, fun w hw => hts w (List.mem_filter.mp hw).1, ⟨fun q hq => va_Nw.of rfl (hts _ (jw_nest q hq)), fun C hC => va_AO.of (A := #[Value.ref b]) (hts _ (jw_over C hC))⟩, fun h => absurd h (by decide), hK _, hSt, by decide, by decide, Nat.le_refl _⟩ ?_ hl hV va_S.rf (by decide) (by decide)
  intro r V2 H2 locs2 cells2 slots2 pc2 lsA2 i hq hi hH2 hS2 hc2 hs2 hd2
  subst hq
  obtain ⟨rfl, -, -, -⟩ := hi
  refine va_forget (fun q hq => hS2.2.2 q hq) ?_
  refine W.widen (k := 600000) (n := 7302250) hc2 hs2 ?_
  exact lw_ret hx hb hr hlocks hd2
