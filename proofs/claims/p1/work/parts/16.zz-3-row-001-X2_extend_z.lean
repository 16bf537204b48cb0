set_option maxRecDepth 100000 in
set_option maxHeartbeats 8000000 in
theorem w_X2_extend_z {tS : jTS} : ∀ (K d : Nat) (V0 : jH) (a0 : Nat) (x1 : Int32) (x2 : Int32) (x3 : Int64) (w1 : Int32) (h1 : Int32) (rc : Int32) (aw : Int32) (fw : Int32) (sp : Int32) (wb : Nat) (op : Nat → Bool) (NO : Nat) (l : List Nat) (a : jW9) (WB : Nat → Int32), 2 + K ≤ d → WT V0 → (jis V0 (.inr 0) a0) → (0 ≤ x1.toInt) → (x1.toInt ≤ 36) → (jfI V0 a0 0 1 w1) → (jfI V0 a0 0 2 h1) → (jfI V0 a0 0 4 rc) → (jfI V0 a0 0 5 aw) → (jfI V0 a0 0 6 fw) → (jfI V0 a0 0 8 sp) → (jfR V0 a0 0 0 wb) → (V0 wb = some (.inl (12, 36, .inl WB))) → (2 ≤ w1.toInt) → (w1.toInt ≤ 6) → (2 ≤ h1.toInt) → (h1.toInt ≤ 6) → (jwr a rc aw fw WB) → (a.1 ≤ 600001) → (((sp.toInt = 1 ∧ 600000 < a.1) ∨ (sp.toInt = 0 ∧ ¬ 600000 < a.1))) → (l.length = x1.toInt.toNat + 1) → (l.headD 0 = x2.toInt.toNat) → (9 ≤ x2.toInt) → (x2.toInt ≤ 54) → (∀ n : Nat, jbt x3 n = (op n && !decide (n ∈ l))) → (∀ n : Nat, op n = true → 9 ≤ n ∧ n ≤ 54) → (jli op NO l) → (NO ≤ 36) → (37 - x1.toInt).toNat < K → jTot tS mX2_extend d [.ref a0, .int x1, .int x2, .long x3] V0 0 0 (fun r V => (jPost [.inr 0, .inl 12] V0 rV) r V ∧ (∃ (WB2 : Nat → Int32) (rc2 aw2 fw2 sp2 : Int32) (a2 : jW9), V wb = some (.inl (12, 36, .inl WB2)) ∧ jfI V a0 0 4 rc2 ∧ jfI V a0 0 5 aw2 ∧ jfI V a0 0 6 fw2 ∧ jfI V a0 0 8 sp2 ∧ jgy 4 (jch op) (jwz (w1.toInt + 8 * h1.toInt).toNat NO) (36 - x1.toInt).toNat l a = a2 ∧ jwr a2 rc2 aw2 fw2 WB2 ∧ a2.1 ≤ 600001 ∧ ((sp2.toInt = 1 ∧ 600000 < a2.1) ∨ (sp2.toInt = 0 ∧ ¬ 600000 < a2.1))) ∧ jkc 0 [1, 2, 3] V0 V ∧ jfp [a0, wb] V0 V ∧ (∃ w12 : Int32, jfI V a0 0 1 w12 ∧ (w12.toInt = w1.toInt)) ∧ (∃ h12 : Int32, jfI V a0 0 2 h12 ∧ (h12.toInt = h1.toInt))) := by
  intro K
  induction K with
  | zero => intro d V0 a0 x1 x2 x3 w1 h1 rc aw fw sp wb op NO l a WB hd hW ha0 hl1 hh1 hf_w1 hf_h1 hf_rc hf_aw hf_fw hf_sp hr_wb ha_WB hp0 hp1 hp2 hp3 hp4 hp5 hp6 hp7 hp8 hp9 hp10 hp11 hp12 hp13 hp14 hrk; exact absurd hrk (Nat.not_lt_zero _)
  | succ K IH =>
  intro d V0 a0 x1 x2 x3 w1 h1 rc aw fw sp wb op NO l a WB hd hW ha0 hl1 hh1 hf_w1 hf_h1 hf_rc hf_aw hf_fw hf_sp hr_wb ha_WB hp0 hp1 hp2 hp3 hp4 hp5 hp6 hp7 hp8 hp9 hp10 hp11 hp12 hp13 hp14 hrk
  refine jTot.of_J [some (.ref a0), some (.int x1), some (.int x2), some (.long x3), none, none, none, none, none, none, none, none, none] moX2_extend (Nat.le_of_ble_eq_true rfl) rfl ?_
  have hrx2 := j_rng x2
  have he : jeff [.inr 0, .inl 12] V0 V0 := jeff.refl _ _
  have hkp : jkc 0 [1, 2, 3] V0 V0 := jkc.rf
  have hfp : jfp [a0, wb] V0 V0 := jfp.rf
  obtain ⟨fs_a0, hO_a0, hK_a0⟩ := WT_obj hW id ha0
  have hF_w1 := hf_w1.get hO_a0
  have hrw1 : (-2147483648) ≤ w1.toInt ∧ w1.toInt ≤ 2147483647 := jok_rngI hK_a0 rfl hF_w1
  have hF_h1 := hf_h1.get hO_a0
  have hrh1 : (-2147483648) ≤ h1.toInt ∧ h1.toInt ≤ 2147483647 := jok_rngI hK_a0 rfl hF_h1
  have hF_rc := hf_rc.get hO_a0
  have hrrc : (-2147483648) ≤ rc.toInt ∧ rc.toInt ≤ 2147483647 := jok_rngI hK_a0 rfl hF_rc
  have hF_aw := hf_aw.get hO_a0
  have hraw : (-2147483648) ≤ aw.toInt ∧ aw.toInt ≤ 2147483647 := jok_rngI hK_a0 rfl hF_aw
  have hF_fw := hf_fw.get hO_a0
  have hrfw : (-2147483648) ≤ fw.toInt ∧ fw.toInt ≤ 2147483647 := jok_rngI hK_a0 rfl hF_fw
  have hF_sp := hf_sp.get hO_a0
  have hrsp : 0 ≤ sp.toInt ∧ sp.toInt ≤ 1 := jok_rngI hK_a0 rfl hF_sp
  have hF_wb := hr_wb.get hO_a0
  obtain ⟨w_wb, hFq_wb, b_wb, hbq_wb, hb_wb⟩ := hK_a0.2 0 (.inr (some (.inl 12))) rfl
  cases hF_wb.symm.trans (hFq_wb.trans (congrArg some hbq_wb))
  obtain ⟨hN_WB, hv_WB⟩ := WT_rngI (r := ((-2147483648), 2147483647)) hW id rfl ha_WB
  clear hN_WB
  refine J_iload_n dX2_extend_0 rfl ?_
  refine Jz_bipush 36 dX2_extend_1 (by decide) (fun y1 he1 => ?_)
  refine Jz_icmp_lt (tgt := 7) jEq.rf he1 dX2_extend_3 (by decide) (fun c3 => ?_) (fun c3 => ?_)
  · refine J_aload_n dX2_extend_7 rfl ?_
    refine J_get jf_X2_15 dX2_extend_8 hO_a0 hF_w1 ?_
    refine Jz_iconst 1 dX2_extend_11 (by decide) (fun y11 he11 => ?_)
    refine Jz_isub jEq.rf he11 dX2_extend_12 (by omega) (by omega) (fun y12 he12 => ?_)
    refine J_aload_n dX2_extend_13 rfl ?_
    refine J_get jf_X2_19 dX2_extend_14 hO_a0 hF_h1 ?_
    refine Jz_iconst 1 dX2_extend_17 (by decide) (fun y17 he17 => ?_)
    refine Jz_isub jEq.rf he17 dX2_extend_18 (by omega) (by omega) (fun y18 he18 => ?_)
    refine J_callS2 moX2_numberOf jw_ml_X2_50 jw_st_X2_numberOf dX2_extend_19 (w_X2_numberOf_z (d - 1) _ y12 y18 (by omega)   (by (try simp only [he12.eq, true_and, and_true]) <;> omega) (by (try simp only [he12.eq, true_and, and_true]) <;> omega) (by (try simp only [he18.eq, true_and, and_true]) <;> omega) (by (try simp only [he18.eq, true_and, and_true]) <;> omega)) (by omega) (Nat.zero_le _) (Nat.zero_le _) (Nat.le_of_ble_eq_true rfl) (fun r19 V19 h19 => ?_)
    obtain ⟨⟨y19, rfl, hl19, hh19, hP19_0⟩, hE19⟩ := h19
    have hE19 := hE19.symm
    subst hE19
    clear hl19 hh19
    try simp only [he12.eq, he18.eq] at hP19_0
    have hz19 : jEq y19.toInt (9 + (w1.toInt - 1) + 8 * (h1.toInt - 1)) := hP19_0
    clear hP19_0
    refine J_istore dX2_extend_22 rfl (by decide) ?_
    refine J_gets (k := 3) rfl jw_fl_X2_63 dX2_extend_24 ?_
    refine J_astore dX2_extend_27 rfl (by decide) ?_
    refine J_aload dX2_extend_29 rfl ?_
    refine J_tlen (k := 3) (v := Int32.ofNat 4) rfl dX2_extend_31 rfl ?_
    have he31 : jEq (Int32.ofNat 4).toInt 4 := nI_toInt (by decide)
    generalize Int32.ofNat 4 = y31 at he31 ⊢
    refine J_istore dX2_extend_32 rfl (by decide) ?_
    refine Jz_iconst 0 dX2_extend_34 (by decide) (fun y34 he34 => ?_)
    refine J_istore dX2_extend_35 rfl (by decide) ?_
    have L37 : ∀ (N : Nat) (V : jH) (i8n37 : Int32) (gs37a0 : List Value) (g4n37 : Int32) (g5n37 : Int32) (g6n37 : Int32) (g8n37 : Int32) (F12n37 : Nat → Int32), WT V → jeff [.inr 0, .inl 12] V0 V → (jis V (.inr 0) a0) → (jis V (.inl 12) wb) → (jkc 0 [1, 2, 3] V0 V) → (jfp [a0, wb] V0 V) → (V a0 = some (.inr (0, gs37a0))) → (gs37a0[1]? = some (.int w1)) → (gs37a0[2]? = some (.int h1)) → (gs37a0[4]? = some (.int g4n37)) → (gs37a0[5]? = some (.int g5n37)) → (gs37a0[6]? = some (.int g6n37)) → (gs37a0[8]? = some (.int g8n37)) → (gs37a0[0]? = some (.ref wb)) → (V wb = some (.inl (12, 36, .inl F12n37))) → (0 ≤ i8n37.toInt ∧ i8n37.toInt ≤ 4) → (∃ b : jW9, jwr b g4n37 g5n37 g6n37 F12n37 ∧ b.1 ≤ 600001 ∧ ((g8n37.toInt = 1 ∧ 600000 < b.1) ∨ (g8n37.toInt = 0 ∧ ¬ 600000 < b.1)) ∧ jfe 4 (jwf op (w1.toInt + 8 * h1.toInt).toNat NO (36 - x1.toInt - 1).toNat l) (4 - i8n37.toInt).toNat b = jgy 4 (jch op) (jwz (w1.toInt + 8 * h1.toInt).toNat NO) (36 - x1.toInt).toNat l a) → (300 - i8n37.toInt).toNat < N → J tS mX2_extend d 37 [some (.ref a0), some (.int x1), some (.int x2), some (.long x3), none, some (.int y19), some (.ref (tS.1 3)), some (.int y31), some (.int i8n37), none, none, none, none] [] V 0 0 (fun r V => (jPost [.inr 0, .inl 12] V0 rV) r V ∧ (∃ (WB2 : Nat → Int32) (rc2 aw2 fw2 sp2 : Int32) (a2 : jW9), V wb = some (.inl (12, 36, .inl WB2)) ∧ jfI V a0 0 4 rc2 ∧ jfI V a0 0 5 aw2 ∧ jfI V a0 0 6 fw2 ∧ jfI V a0 0 8 sp2 ∧ jgy 4 (jch op) (jwz (w1.toInt + 8 * h1.toInt).toNat NO) (36 - x1.toInt).toNat l a = a2 ∧ jwr a2 rc2 aw2 fw2 WB2 ∧ a2.1 ≤ 600001 ∧ ((sp2.toInt = 1 ∧ 600000 < a2.1) ∨ (sp2.toInt = 0 ∧ ¬ 600000 < a2.1))) ∧ jkc 0 [1, 2, 3] V0 V ∧ jfp [a0, wb] V0 V ∧ (∃ w12 : Int32, jfI V a0 0 1 w12 ∧ (w12.toInt = w1.toInt)) ∧ (∃ h12 : Int32, jfI V a0 0 2 h12 ∧ (h12.toInt = h1.toInt))) := by
      intro N
      induction N with
      | zero => intro V i8n37 gs37a0 g4n37 g5n37 g6n37 g8n37 F12n37 hW he ha0 hb_wb hkp hfp hOgs37a0 hFgs37a0_1 hFgs37a0_2 hFgs37a0_4 hFgs37a0_5 hFgs37a0_6 hFgs37a0_8 hFgs37a0_0 hAF12n37 hi8 hst hm; exact absurd hm (Nat.not_lt_zero _)
      | succ N ih =>
        intro V i8n37 gs37a0 g4n37 g5n37 g6n37 g8n37 F12n37 hW he ha0 hb_wb hkp hfp hOgs37a0 hFgs37a0_1 hFgs37a0_2 hFgs37a0_4 hFgs37a0_5 hFgs37a0_6 hFgs37a0_8 hFgs37a0_0 hAF12n37 hi8 hst hm
        have ih37 := ih
        have hri8 := j_rng i8n37
        have hKgs37a0 : jokO V (jFs 0) gs37a0 := hW _ _ id hOgs37a0
        have hrgg4n37 : (-2147483648) ≤ g4n37.toInt ∧ g4n37.toInt ≤ 2147483647 := jok_rngI hKgs37a0 rfl hFgs37a0_4
        have hrgg5n37 : (-2147483648) ≤ g5n37.toInt ∧ g5n37.toInt ≤ 2147483647 := jok_rngI hKgs37a0 rfl hFgs37a0_5
        have hrgg6n37 : (-2147483648) ≤ g6n37.toInt ∧ g6n37.toInt ≤ 2147483647 := jok_rngI hKgs37a0 rfl hFgs37a0_6
        have hrgg8n37 : 0 ≤ g8n37.toInt ∧ g8n37.toInt ≤ 1 := jok_rngI hKgs37a0 rfl hFgs37a0_8
        obtain ⟨hNF12n37, hvF12n37⟩ := WT_rngI (r := ((-2147483648), 2147483647)) hW id rfl hAF12n37
        clear hNF12n37
        obtain ⟨b, hjr, hb1, hsp, hacc⟩ := hst
        have hjr2 := hjr
        obtain ⟨⟨e1, e2, e3⟩, e4, e5, e6, e7⟩ := hjr2
        clear hp6
        refine J_iload dX2_extend_37 rfl ?_
        refine J_iload dX2_extend_39 rfl ?_
        refine Jz_icmp_ge (tgt := 165) jEq.rf he31 dX2_extend_41 (by decide) (fun c41 => ?_) (fun c41 => ?_)
        · exact J_ret (r := none) dX2_extend_165 ⟨rfl, rfl⟩ (⟨⟨hW, he, rfl⟩, ⟨F12n37, g4n37, g5n37, g6n37, g8n37, b, hAF12n37, ⟨_, hOgs37a0, hFgs37a0_4⟩, ⟨_, hOgs37a0, hFgs37a0_5⟩, ⟨_, hOgs37a0, hFgs37a0_6⟩, ⟨_, hOgs37a0, hFgs37a0_8⟩, (by rw [show (4 - i8n37.toInt).toNat = 0 by omega] at hacc; exact hacc.symm), hjr, hb1, hsp⟩, hkp, hfp, ⟨_, ⟨_, hOgs37a0, hFgs37a0_1⟩, (by omega)⟩, ⟨_, ⟨_, hOgs37a0, hFgs37a0_2⟩, (by omega)⟩⟩)
        · refine J_aload dX2_extend_44 rfl ?_
          refine J_iload dX2_extend_46 rfl ?_
          refine J_ti (k := 3) (v := .int (jSv3.getD i8n37.toNatClampNeg 0)) rfl rfl dX2_extend_48 (vp_in_n (by omega) (by show _ < ((4 : Nat) : Int); omega)) rfl ?_
          have hz48 : jEq (jSv3.getD i8n37.toNatClampNeg 0).toInt (jsh9 i8n37.toInt) := (jtabw (by omega) (by omega))
          generalize jSv3.getD i8n37.toNatClampNeg 0 = y48 at hz48 ⊢
          refine J_istore dX2_extend_49 rfl (by decide) ?_
          refine J_iload_n dX2_extend_51 rfl ?_
          refine J_iload dX2_extend_52 rfl ?_
          have hsb := jsh_b i8n37.toInt
          have hkx : ((jdk (l.headD 0) i8n37.toInt.toNat : Nat) : Int) = (x2.toInt + jsh9 i8n37.toInt) := by rw [hp8]; exact jdk_eq hp9 (by omega) (by omega)
          have hjs := jfe_step (n := 4) (c := (4 - (i8n37.toInt + 1)).toNat) (d := i8n37.toInt.toNat) (f := jwf op (w1.toInt + 8 * h1.toInt).toNat NO (36 - x1.toInt - 1).toNat l) (a := b) (by omega)
          rw [show (4 - (i8n37.toInt + 1)).toNat + 1 = (4 - i8n37.toInt).toNat by omega, hacc] at hjs
          refine Jz_iadd jEq.rf hz48 dX2_extend_54 (by omega) (by omega) (fun y54 he54 => ?_)
          refine J_istore dX2_extend_55 rfl (by decide) ?_
          refine J_lconst (v := 1) dX2_extend_57 rfl ?_
          refine J_iload dX2_extend_58 rfl ?_
          refine J_lshl dX2_extend_60 rfl ?_
          refine J_lstore dX2_extend_61 rfl (by decide) ?_
          have hbit : ∀ n : Nat, jbt ((1 : Int64) <<< (y54.toInt64 &&& 63)) n = decide (n = jdk (l.headD 0) i8n37.toInt.toNat) := fun n => by rw [jbt_shl (by rw [he54.eq]; omega) (by rw [he54.eq]; omega), he54.eq]; exact decide_eq_decide.mpr (by omega)
          refine J_lload_n dX2_extend_63 rfl ?_
          refine J_lload dX2_extend_64 rfl ?_
          refine J_land dX2_extend_66 ?_
          refine J_lconst (v := 0) dX2_extend_67 rfl ?_
          refine Jz_lcmp dX2_extend_68 (fun y68 he68 => ?_)
          refine Jz_if_eq (tgt := 159) jEq.rf dX2_extend_69 (by decide) (fun c69 => ?_) (fun c69 => ?_)
          · have hnin : ¬ (op (jdk (l.headD 0) i8n37.toInt.toNat) = true ∧ ¬ jdk (l.headD 0) i8n37.toInt.toNat ∈ l) := fun z => by have q := (jbt_one hbit).mp (he68.mp c69); rw [hp11, z.1, decide_eq_false z.2] at q; exact absurd q (by decide)
            refine Jz_iinc 1 dX2_extend_159 rfl rfl (by decide) jEq.rf (by decide) (by omega) (by omega) (fun y159 he159 => ?_)
            refine J_goto (tgt := 37) dX2_extend_162 (by decide) ?_
            refine J.mask [true, true, true, true, false, true, true, true, true, false, false, false, false] ?_
            exact ih37 _ y159 gs37a0 g4n37 g5n37 g6n37 g8n37 F12n37 hW he ha0 hb_wb hkp hfp hOgs37a0 hFgs37a0_1 hFgs37a0_2 hFgs37a0_4 hFgs37a0_5 hFgs37a0_6 hFgs37a0_8 hFgs37a0_0 hAF12n37 (by (try simp only [he159.eq, true_and, and_true]) <;> omega) ⟨b, hjr, hb1, hsp, (by rw [he159.eq, hjs, jwf_no hnin])⟩ (by (try simp only [he159.eq, true_and, and_true]) <;> omega)
          · have hyb : jbt x3 (jdk (l.headD 0) i8n37.toInt.toNat) = true := Eq.mp (Bool.not_eq_false _) (fun q => c69 (he68.mpr ((jbt_one hbit).mpr q)))
            rw [hp11, Bool.and_eq_true] at hyb
            have hop : op (jdk (l.headD 0) i8n37.toInt.toNat) = true := hyb.1
            have hnl : ¬ jdk (l.headD 0) i8n37.toInt.toNat ∈ l := fun z => by have q := hyb.2; rw [decide_eq_true z] at q; exact absurd q (by decide)
            have hnx := hp12 _ hop
            have hlm : jli op NO (jdk (l.headD 0) i8n37.toInt.toNat :: l) := hp13.next (fun n z => by have q := hp12 n z; omega) (jch_yes hop hnl)
            have hlml := hlm.le
            rw [List.length_cons, hp7] at hlml
            have hrs : ∀ n : Nat, jbt (x3 &&& (((1 : Int64) <<< (y54.toInt64 &&& 63)) ^^^ (-1 : Int64))) n = (op n && !decide (n ∈ (jdk (l.headD 0) i8n37.toInt.toNat :: l))) := jrest hp12 hp11 hbit
            refine J_aload_n dX2_extend_72 rfl ?_
            refine J_get jf_X2_39 dX2_extend_73 hOgs37a0 hFgs37a0_8 ?_
            refine Jz_if_eq (tgt := 82) jEq.rf dX2_extend_76 (by decide) (fun c76 => ?_) (fun c76 => ?_)
            · have hb6 : ¬ 600000 < b.1 := by omega
              clear hsp
              refine J_aload_n dX2_extend_82 rfl ?_
              refine J_dup dX2_extend_83 rfl ?_
              refine J_get jf_X2_26 dX2_extend_84 hOgs37a0 hFgs37a0_4 ?_
              refine Jz_iconst 1 dX2_extend_87 (by decide) (fun y87 he87 => ?_)
              refine Jz_iadd jEq.rf he87 dX2_extend_88 (by omega) (by omega) (fun y88 he88 => ?_)
              refine Jz_putI hOgs37a0 hW id rfl jf_X2_26 jt_X2_4 he88 dX2_extend_89 (by omega) (by omega) (fun _ _ => ⟨rfl, rfl⟩) (fun V89 fs89 hW hx89 hO89 hS89 hT89 hB89 => ?_)
              have hK89 : jokO _ (jFs 0) fs89 := hW _ _ id hO89
              have hF89_1 := (hT89 1 (by decide)).trans hFgs37a0_1
              have hF89_2 := (hT89 2 (by decide)).trans hFgs37a0_2
              have hF89_5 := (hT89 5 (by decide)).trans hFgs37a0_5
              have hF89_6 := (hT89 6 (by decide)).trans hFgs37a0_6
              have hF89_8 := (hT89 8 (by decide)).trans hFgs37a0_8
              have hF89_0 := (hT89 0 (by decide)).trans hFgs37a0_0
              have he := he.trans (hx89.sub (jsub_of rfl))
              have hkp := hkp.trans (jkc.put hOgs37a0 hO89 hT89 hB89 (by decide))
              have hfp := hfp.trans (jfp.one hB89 List.mem_cons_self)
              have ha0 := ha0.mono hx89.1
              have hb_wb := hb_wb.mono hx89.1
              have hAF12n37 := hx89.2 _ _ hAF12n37 (jnot_of rfl)
              refine J_aload_n dX2_extend_92 rfl ?_
              refine J_aload_n dX2_extend_93 rfl ?_
              refine J_get jf_X2_26 dX2_extend_94 hO89 hS89 ?_
              refine Jz_ldc 600000 jw_k_X2_66 dX2_extend_97 (by decide) (fun y97 he97 => ?_)
              have K107 : ∀ (t0k107 : Int32), ((t0k107.toInt = 1 ∧ 600000 < b.1 + 1) ∨ (t0k107.toInt = 0 ∧ ¬ 600000 < b.1 + 1)) → J tS mX2_extend d 107 [some (.ref a0), some (.int x1), some (.int x2), some (.long x3), none, some (.int y19), some (.ref (tS.1 3)), some (.int y31), some (.int i8n37), some (.int y48), some (.int y54), some (.long ((1 : Int64) <<< (y54.toInt64 &&& 63))), none] [.int t0k107, .ref a0] V89 0 0 (fun r V => (jPost [.inr 0, .inl 12] V0 rV) r V ∧ (∃ (WB2 : Nat → Int32) (rc2 aw2 fw2 sp2 : Int32) (a2 : jW9), V wb = some (.inl (12, 36, .inl WB2)) ∧ jfI V a0 0 4 rc2 ∧ jfI V a0 0 5 aw2 ∧ jfI V a0 0 6 fw2 ∧ jfI V a0 0 8 sp2 ∧ jgy 4 (jch op) (jwz (w1.toInt + 8 * h1.toInt).toNat NO) (36 - x1.toInt).toNat l a = a2 ∧ jwr a2 rc2 aw2 fw2 WB2 ∧ a2.1 ≤ 600001 ∧ ((sp2.toInt = 1 ∧ 600000 < a2.1) ∨ (sp2.toInt = 0 ∧ ¬ 600000 < a2.1))) ∧ jkc 0 [1, 2, 3] V0 V ∧ jfp [a0, wb] V0 V ∧ (∃ w12 : Int32, jfI V a0 0 1 w12 ∧ (w12.toInt = w1.toInt)) ∧ (∃ h12 : Int32, jfI V a0 0 2 h12 ∧ (h12.toInt = h1.toInt))) := by
                intro  t0k107     hk107_0
                refine Jz_putI hO89 hW id rfl jf_X2_39 jt_X2_8 jEq.rf dX2_extend_107 (by omega) (by omega) (fun _ h => ⟨nar_b (by omega) (by omega), fit_b (by omega) (by omega)⟩) (fun V107 fs107 hW hx107 hO107 hS107 hT107 hB107 => ?_)
                have hK107 : jokO _ (jFs 0) fs107 := hW _ _ id hO107
                have hF107_4 := (hT107 4 (by decide)).trans hS89
                have hF107_1 := (hT107 1 (by decide)).trans hF89_1
                have hF107_2 := (hT107 2 (by decide)).trans hF89_2
                have hF107_5 := (hT107 5 (by decide)).trans hF89_5
                have hF107_6 := (hT107 6 (by decide)).trans hF89_6
                have hF107_0 := (hT107 0 (by decide)).trans hF89_0
                have he := he.trans (hx107.sub (jsub_of rfl))
                have hkp := hkp.trans (jkc.put hO89 hO107 hT107 hB107 (by decide))
                have hfp := hfp.trans (jfp.one hB107 List.mem_cons_self)
                have ha0 := ha0.mono hx107.1
                have hb_wb := hb_wb.mono hx107.1
                have hAF12n37 := hx107.2 _ _ hAF12n37 (jnot_of rfl)
                refine J_iload dX2_extend_110 rfl ?_
                refine J_iload dX2_extend_112 rfl ?_
                refine Jz_icmp_ne (tgt := 142) he54 hz19 dX2_extend_114 (by decide) (fun c114 => ?_) (fun c114 => ?_)
                · have hj2 : jwr (jws (w1.toInt + 8 * h1.toInt).toNat NO (jdk (l.headD 0) i8n37.toInt.toNat :: l) b) y88 g5n37 g6n37 F12n37 := hjr.no (show ¬ jdk (l.headD 0) i8n37.toInt.toNat = _ by omega) he88.eq
                  refine J_aload_n dX2_extend_142 rfl ?_
                  refine J_iload_n dX2_extend_143 rfl ?_
                  refine Jz_iconst 1 dX2_extend_144 (by decide) (fun y144 he144 => ?_)
                  refine Jz_iadd jEq.rf he144 dX2_extend_145 (by omega) (by omega) (fun y145 he145 => ?_)
                  refine J_iload dX2_extend_146 rfl ?_
                  refine J_lload_n dX2_extend_148 rfl ?_
                  refine J_lload dX2_extend_149 rfl ?_
                  refine J_ldc2 jw_k_X2_57 dX2_extend_151 ?_
                  refine J_lxor dX2_extend_154 ?_
                  refine J_land dX2_extend_155 ?_
                  have hw1 := jws_1 (w1.toInt + 8 * h1.toInt).toNat NO (jdk (l.headD 0) i8n37.toInt.toNat :: l) b
                  refine J_callS4 moX2_extend jw_ml_X2_59 jw_st_X2_extend dX2_extend_156 (IH (d - 1) _ a0 y145 y54 (x3 &&& (((1 : Int64) <<< (y54.toInt64 &&& 63)) ^^^ (-1 : Int64))) w1 h1 y88 g5n37 g6n37 t0k107 wb op NO (jdk (l.headD 0) i8n37.toInt.toNat :: l) (jws (w1.toInt + 8 * h1.toInt).toNat NO (jdk (l.headD 0) i8n37.toInt.toNat :: l) b) F12n37 (by omega) hW ha0 (by (try simp only [he145.eq, true_and, and_true]) <;> omega) (by (try simp only [he145.eq, true_and, and_true]) <;> omega) ⟨_, hO107, hF107_1⟩ ⟨_, hO107, hF107_2⟩ ⟨_, hO107, hF107_4⟩ ⟨_, hO107, hF107_5⟩ ⟨_, hO107, hF107_6⟩ ⟨_, hO107, hS107⟩ ⟨_, hO107, hF107_0⟩ hAF12n37 (by omega) (by omega) (by omega) (by omega) hj2 (by rw [hw1]; omega) (by rw [hw1]; omega) (by rw [List.length_cons, hp7, he145.eq]; omega) (by rw [he54.eq]; show jdk (l.headD 0) i8n37.toInt.toNat = _; omega) (by rw [he54.eq]; omega) (by rw [he54.eq]; omega) hrs hp12 hlm hp14 (by (try simp only [he145.eq, he54.eq, he88.eq, true_and, and_true]) <;> omega)) (by omega) (Nat.zero_le _) (Nat.zero_le _) (Nat.le_of_ble_eq_true rfl) (fun r156 V156 h156 => ?_)
                  obtain ⟨h156, hX156_0, hX156_1, hX156_2, ⟨fv156_0, hfv156_0, hfp156_0⟩, ⟨fv156_1, hfv156_1, hfp156_1⟩⟩ := h156
                  obtain ⟨hW, hx156, hr156⟩ := h156
                  have he := he.trans (hx156.sub (jsub_of rfl))
                  have hkp := hkp.trans hX156_1
                  have hfp := hfp.trans (hX156_2.sub (fun b hb => by simp only [List.mem_cons, List.not_mem_nil, or_false] at hb ⊢; first | (rcases hb with h9 | h9 <;> simp only [h9, true_or, or_true]) | omega))
                  have ha0 := ha0.mono hx156.1
                  have hb_wb := hb_wb.mono hx156.1
                  obtain ⟨fs156a0, hOfs156a0, hRfs156a0⟩ := hx156.1.keep hO107
                  have hKfs156a0 : jokO _ (jFs 0) fs156a0 := hW _ _ id hOfs156a0
                  have hFfs156a0_0 := hRfs156a0 _ _ hF107_0
                  cases hr156
                  have hFv156_0 := hfv156_0.get hOfs156a0
                  try simp only [he145.eq, he54.eq, he88.eq] at hfp156_0
                  have hsb156_0 : w1 = fv156_0 := (jI_inj.mp hfp156_0).symm
                  subst hsb156_0
                  have hFv156_1 := hfv156_1.get hOfs156a0
                  try simp only [he145.eq, he54.eq, he88.eq] at hfp156_1
                  have hsb156_1 : h1 = fv156_1 := (jI_inj.mp hfp156_1).symm
                  subst hsb156_1
                  obtain ⟨WB156, rc156, aw156, fw156, sp156, b3, hWa156, hrf156, haf156, hff156, hsf156, he3, hj3, hb3, hs3⟩ := hX156_0
                  rw [he145.eq, show (36 - (x1.toInt + 1)).toNat = (36 - x1.toInt - 1).toNat by omega] at he3
                  have hFv1564 := hrf156.get hOfs156a0
                  have hFv1565 := haf156.get hOfs156a0
                  have hFv1566 := hff156.get hOfs156a0
                  have hFv1568 := hsf156.get hOfs156a0
                  obtain ⟨hN_WB156, hv_WB156⟩ := WT_rngI (r := ((-2147483648), 2147483647)) hW id rfl hWa156
                  clear hN_WB156
                  refine Jz_iinc 1 dX2_extend_159 rfl rfl (by decide) jEq.rf (by decide) (by omega) (by omega) (fun y159 he159 => ?_)
                  refine J_goto (tgt := 37) dX2_extend_162 (by decide) ?_
                  refine J.mask [true, true, true, true, false, true, true, true, true, false, false, false, false] ?_
                  exact ih37 _ y159 fs156a0 rc156 aw156 fw156 sp156 WB156 hW he ha0 hb_wb hkp hfp hOfs156a0 hFv156_0 hFv156_1 hFv1564 hFv1565 hFv1566 hFv1568 hFfs156a0_0 hWa156 (by (try simp only [he159.eq, true_and, and_true]) <;> omega) ⟨b3, hj3, hb3, hs3, (by rw [he159.eq, hjs, jwf_yes hop hnl hb6, ← he3])⟩ (by (try simp only [he159.eq, true_and, and_true]) <;> omega)
                · have e4x := e4 (x1.toInt + 1).toNat (by omega)
                  have e7x := e7 (x1.toInt + 1).toNat (by omega)
                  refine J_aload_n dX2_extend_117 rfl ?_
                  refine J_iload_n dX2_extend_118 rfl ?_
                  refine Jz_iconst 1 dX2_extend_119 (by decide) (fun y119 he119 => ?_)
                  refine Jz_iadd jEq.rf he119 dX2_extend_120 (by omega) (by omega) (fun y120 he120 => ?_)
                  refine J_lload_n dX2_extend_121 rfl ?_
                  refine J_lload dX2_extend_122 rfl ?_
                  refine J_ldc2 jw_k_X2_57 dX2_extend_124 ?_
                  refine J_lxor dX2_extend_127 ?_
                  refine J_land dX2_extend_128 ?_
                  refine J_lconst (v := 0) dX2_extend_129 rfl ?_
                  refine Jz_lcmp dX2_extend_130 (fun y130 he130 => ?_)
                  have K139 : ∀ (t0k139 : Int32), ((¬ t0k139.toInt = 0 ∧ x1.toInt.toNat + 1 + 1 = NO) ∨ (t0k139.toInt = 0 ∧ ¬ x1.toInt.toNat + 1 + 1 = NO)) → J tS mX2_extend d 139 [some (.ref a0), some (.int x1), some (.int x2), some (.long x3), none, some (.int y19), some (.ref (tS.1 3)), some (.int y31), some (.int i8n37), some (.int y48), some (.int y54), some (.long ((1 : Int64) <<< (y54.toInt64 &&& 63))), none] [.int t0k139, .int y120, .ref a0] V107 0 0 (fun r V => (jPost [.inr 0, .inl 12] V0 rV) r V ∧ (∃ (WB2 : Nat → Int32) (rc2 aw2 fw2 sp2 : Int32) (a2 : jW9), V wb = some (.inl (12, 36, .inl WB2)) ∧ jfI V a0 0 4 rc2 ∧ jfI V a0 0 5 aw2 ∧ jfI V a0 0 6 fw2 ∧ jfI V a0 0 8 sp2 ∧ jgy 4 (jch op) (jwz (w1.toInt + 8 * h1.toInt).toNat NO) (36 - x1.toInt).toNat l a = a2 ∧ jwr a2 rc2 aw2 fw2 WB2 ∧ a2.1 ≤ 600001 ∧ ((sp2.toInt = 1 ∧ 600000 < a2.1) ∨ (sp2.toInt = 0 ∧ ¬ 600000 < a2.1))) ∧ jkc 0 [1, 2, 3] V0 V ∧ jfp [a0, wb] V0 V ∧ (∃ w12 : Int32, jfI V a0 0 1 w12 ∧ (w12.toInt = w1.toInt)) ∧ (∃ h12 : Int32, jfI V a0 0 2 h12 ∧ (h12.toInt = h1.toInt))) := by
                    intro  t0k139     hk139_0
                    refine Jw_callV2 (q9 := (RX2, TX2, 9)) moX2_score jw_ml_X2_67 jw_im_X2_score jw_se_X2_score ha0 rfl rfl dX2_extend_139 (w_X2_score_z (d - 1) _ a0 y120 t0k139 w1 h1 y88 g5n37 g6n37 t0k107 wb F12n37 (by omega) hW  ha0 ⟨_, hO107, hF107_1⟩ ⟨_, hO107, hF107_2⟩ ⟨_, hO107, hF107_4⟩ ⟨_, hO107, hF107_5⟩ ⟨_, hO107, hF107_6⟩ ⟨_, hO107, hS107⟩ ⟨_, hO107, hF107_0⟩ hAF12n37 (by (try simp only [he120.eq, true_and, and_true]) <;> omega) (by (try simp only [he120.eq, true_and, and_true]) <;> omega) (by omega) (by omega) (by omega) (by omega) (by (try simp only [he120.eq, true_and, and_true]) <;> omega) (by (try simp only [he120.eq, true_and, and_true]) <;> omega)) (by omega) (Nat.zero_le _) (Nat.zero_le _) (Nat.le_of_ble_eq_true rfl) (fun r139 V139 h139 => ?_)
                    obtain ⟨h139, hX139_0, hX139_1, hX139_2, ⟨fv139_0, hfv139_0, hfp139_0⟩, ⟨fv139_1, hfv139_1, hfp139_1⟩, ⟨fv139_2, hfv139_2, hfp139_2⟩, ⟨fv139_3, hfv139_3, hfp139_3⟩⟩ := h139
                    obtain ⟨hW, hx139, hr139⟩ := h139
                    have he := he.trans (hx139.sub (jsub_of rfl))
                    have hkp := hkp.trans hX139_1
                    have hfp := hfp.trans (hX139_2.sub (fun b hb => by simp only [List.mem_cons, List.not_mem_nil, or_false] at hb ⊢; first | (rcases hb with h9 | h9 <;> simp only [h9, true_or, or_true]) | omega))
                    have ha0 := ha0.mono hx139.1
                    have hb_wb := hb_wb.mono hx139.1
                    obtain ⟨fs139a0, hOfs139a0, hRfs139a0⟩ := hx139.1.keep hO107
                    have hKfs139a0 : jokO _ (jFs 0) fs139a0 := hW _ _ id hOfs139a0
                    have hFfs139a0_0 := hRfs139a0 _ _ hF107_0
                    cases hr139
                    have hFv139_0 := hfv139_0.get hOfs139a0
                    try simp only [he120.eq, he88.eq] at hfp139_0
                    have hsb139_0 : w1 = fv139_0 := (jI_inj.mp hfp139_0).symm
                    subst hsb139_0
                    have hFv139_1 := hfv139_1.get hOfs139a0
                    try simp only [he120.eq, he88.eq] at hfp139_1
                    have hsb139_1 : h1 = fv139_1 := (jI_inj.mp hfp139_1).symm
                    subst hsb139_1
                    have hFv139_2 := hfv139_2.get hOfs139a0
                    try simp only [he120.eq, he88.eq] at hfp139_2
                    have hzf139_2 : jEq fv139_2.toInt ((g4n37.toInt + 1)) := hfp139_2
                    clear hfp139_2
                    have hFv139_3 := hfv139_3.get hOfs139a0
                    try simp only [he120.eq, he88.eq] at hfp139_3
                    have hsb139_3 : t0k107 = fv139_3 := (jI_inj.mp hfp139_3).symm
                    subst hsb139_3
                    obtain ⟨WB139, aw139, fw139, hWa139, haf139, hff139, q1, q2, q3, q4⟩ := hX139_0
                    rw [he120.eq] at q3 q4
                    have hj2 : jwr (jws (w1.toInt + 8 * h1.toInt).toNat NO (jdk (l.headD 0) i8n37.toInt.toNat :: l) b) fv139_2 aw139 fw139 WB139 := hjr.yes (j := (x1.toInt + 1).toNat) (show jdk (l.headD 0) i8n37.toInt.toNat = _ by omega) (by rw [List.length_cons, hp7]; omega) (by omega) hzf139_2.eq q1 (by rw [List.length_cons, hp7]; rcases q2 with ⟨w1, w2⟩ | ⟨w1, w2⟩; exact Or.inl ⟨w2, by omega⟩; exact Or.inr ⟨w2, by omega⟩) q3 q4
                    have hFv1395 := haf139.get hOfs139a0
                    have hFv1396 := hff139.get hOfs139a0
                    obtain ⟨hN_WB139, hv_WB139⟩ := WT_rngI (r := ((-2147483648), 2147483647)) hW id rfl hWa139
                    clear hN_WB139
                    refine J_aload_n dX2_extend_142 rfl ?_
                    refine J_iload_n dX2_extend_143 rfl ?_
                    refine Jz_iconst 1 dX2_extend_144 (by decide) (fun y144 he144 => ?_)
                    refine Jz_iadd jEq.rf he144 dX2_extend_145 (by omega) (by omega) (fun y145 he145 => ?_)
                    refine J_iload dX2_extend_146 rfl ?_
                    refine J_lload_n dX2_extend_148 rfl ?_
                    refine J_lload dX2_extend_149 rfl ?_
                    refine J_ldc2 jw_k_X2_57 dX2_extend_151 ?_
                    refine J_lxor dX2_extend_154 ?_
                    refine J_land dX2_extend_155 ?_
                    have hw1 := jws_1 (w1.toInt + 8 * h1.toInt).toNat NO (jdk (l.headD 0) i8n37.toInt.toNat :: l) b
                    refine J_callS4 moX2_extend jw_ml_X2_59 jw_st_X2_extend dX2_extend_156 (IH (d - 1) _ a0 y145 y54 (x3 &&& (((1 : Int64) <<< (y54.toInt64 &&& 63)) ^^^ (-1 : Int64))) w1 h1 fv139_2 aw139 fw139 t0k107 wb op NO (jdk (l.headD 0) i8n37.toInt.toNat :: l) (jws (w1.toInt + 8 * h1.toInt).toNat NO (jdk (l.headD 0) i8n37.toInt.toNat :: l) b) WB139 (by omega) hW ha0 (by (try simp only [he145.eq, true_and, and_true]) <;> omega) (by (try simp only [he145.eq, true_and, and_true]) <;> omega) ⟨_, hOfs139a0, hFv139_0⟩ ⟨_, hOfs139a0, hFv139_1⟩ ⟨_, hOfs139a0, hFv139_2⟩ ⟨_, hOfs139a0, hFv1395⟩ ⟨_, hOfs139a0, hFv1396⟩ ⟨_, hOfs139a0, hFv139_3⟩ ⟨_, hOfs139a0, hFfs139a0_0⟩ hWa139 (by omega) (by omega) (by omega) (by omega) hj2 (by rw [hw1]; omega) (by rw [hw1]; omega) (by rw [List.length_cons, hp7, he145.eq]; omega) (by rw [he54.eq]; show jdk (l.headD 0) i8n37.toInt.toNat = _; omega) (by rw [he54.eq]; omega) (by rw [he54.eq]; omega) hrs hp12 hlm hp14 (by (try simp only [he145.eq, he54.eq, hzf139_2.eq, true_and, and_true]) <;> omega)) (by omega) (Nat.zero_le _) (Nat.zero_le _) (Nat.le_of_ble_eq_true rfl) (fun r156 V156 h156 => ?_)
                    obtain ⟨h156, hX156_0, hX156_1, hX156_2, ⟨fv156_0, hfv156_0, hfp156_0⟩, ⟨fv156_1, hfv156_1, hfp156_1⟩⟩ := h156
                    obtain ⟨hW, hx156, hr156⟩ := h156
                    have he := he.trans (hx156.sub (jsub_of rfl))
                    have hkp := hkp.trans hX156_1
                    have hfp := hfp.trans (hX156_2.sub (fun b hb => by simp only [List.mem_cons, List.not_mem_nil, or_false] at hb ⊢; first | (rcases hb with h9 | h9 <;> simp only [h9, true_or, or_true]) | omega))
                    have ha0 := ha0.mono hx156.1
                    have hb_wb := hb_wb.mono hx156.1
                    obtain ⟨fs156a0, hOfs156a0, hRfs156a0⟩ := hx156.1.keep hOfs139a0
                    have hKfs156a0 : jokO _ (jFs 0) fs156a0 := hW _ _ id hOfs156a0
                    have hFfs156a0_0 := hRfs156a0 _ _ hFfs139a0_0
                    cases hr156
                    have hFv156_0 := hfv156_0.get hOfs156a0
                    try simp only [he145.eq, he54.eq, hzf139_2.eq] at hfp156_0
                    have hsb156_0 : w1 = fv156_0 := (jI_inj.mp hfp156_0).symm
                    subst hsb156_0
                    have hFv156_1 := hfv156_1.get hOfs156a0
                    try simp only [he145.eq, he54.eq, hzf139_2.eq] at hfp156_1
                    have hsb156_1 : h1 = fv156_1 := (jI_inj.mp hfp156_1).symm
                    subst hsb156_1
                    obtain ⟨WB156, rc156, aw156, fw156, sp156, b3, hWa156, hrf156, haf156, hff156, hsf156, he3, hj3, hb3, hs3⟩ := hX156_0
                    rw [he145.eq, show (36 - (x1.toInt + 1)).toNat = (36 - x1.toInt - 1).toNat by omega] at he3
                    have hFv1564 := hrf156.get hOfs156a0
                    have hFv1565 := haf156.get hOfs156a0
                    have hFv1566 := hff156.get hOfs156a0
                    have hFv1568 := hsf156.get hOfs156a0
                    obtain ⟨hN_WB156, hv_WB156⟩ := WT_rngI (r := ((-2147483648), 2147483647)) hW id rfl hWa156
                    clear hN_WB156
                    refine Jz_iinc 1 dX2_extend_159 rfl rfl (by decide) jEq.rf (by decide) (by omega) (by omega) (fun y159 he159 => ?_)
                    refine J_goto (tgt := 37) dX2_extend_162 (by decide) ?_
                    refine J.mask [true, true, true, true, false, true, true, true, true, false, false, false, false] ?_
                    exact ih37 _ y159 fs156a0 rc156 aw156 fw156 sp156 WB156 hW he ha0 hb_wb hkp hfp hOfs156a0 hFv156_0 hFv156_1 hFv1564 hFv1565 hFv1566 hFv1568 hFfs156a0_0 hWa156 (by (try simp only [he159.eq, true_and, and_true]) <;> omega) ⟨b3, hj3, hb3, hs3, (by rw [he159.eq, hjs, jwf_yes hop hnl hb6, ← he3])⟩ (by (try simp only [he159.eq, true_and, and_true]) <;> omega)
                  refine Jz_if_ne (tgt := 138) jEq.rf dX2_extend_131 (by decide) (fun c131 => ?_) (fun c131 => ?_)
                  · refine Jz_iconst 0 dX2_extend_138 (by decide) (fun y138 he138 => ?_)
                    exact K139  y138  (by have hrz := jrest0 hrs hlm; rw [List.length_cons, hp7] at hrz; exact Or.inr ⟨he138.eq, fun z => c131 (he130.mpr (hrz.mpr z))⟩)
                  · refine Jz_iconst 1 dX2_extend_134 (by decide) (fun y134 he134 => ?_)
                    refine J_goto (tgt := 139) dX2_extend_135 (by decide) ?_
                    exact K139  y134  (by have hrz := jrest0 hrs hlm; rw [List.length_cons, hp7] at hrz; exact Or.inl ⟨by rw [he134.eq]; decide, hrz.mp (he130.mp c131)⟩)
              refine Jz_icmp_le (tgt := 106) he88 he97 dX2_extend_99 (by decide) (fun c99 => ?_) (fun c99 => ?_)
              · refine Jz_iconst 0 dX2_extend_106 (by decide) (fun y106 he106 => ?_)
                exact K107  y106  (by (try simp only [he106.eq, true_and, and_true]) <;> omega)
              · refine Jz_iconst 1 dX2_extend_102 (by decide) (fun y102 he102 => ?_)
                refine J_goto (tgt := 107) dX2_extend_103 (by decide) ?_
                exact K107  y102  (by (try simp only [he102.eq, true_and, and_true]) <;> omega)
            · refine J_goto (tgt := 159) dX2_extend_79 (by decide) ?_
              refine Jz_iinc 1 dX2_extend_159 rfl rfl (by decide) jEq.rf (by decide) (by omega) (by omega) (fun y159 he159 => ?_)
              refine J_goto (tgt := 37) dX2_extend_162 (by decide) ?_
              refine J.mask [true, true, true, true, false, true, true, true, true, false, false, false, false] ?_
              exact ih37 _ y159 gs37a0 g4n37 g5n37 g6n37 g8n37 F12n37 hW he ha0 hb_wb hkp hfp hOgs37a0 hFgs37a0_1 hFgs37a0_2 hFgs37a0_4 hFgs37a0_5 hFgs37a0_6 hFgs37a0_8 hFgs37a0_0 hAF12n37 (by (try simp only [he159.eq, true_and, and_true]) <;> omega) ⟨b, hjr, hb1, hsp, (by rw [he159.eq, hjs, jwf_stop (by omega)])⟩ (by (try simp only [he159.eq, true_and, and_true]) <;> omega)
    refine J.mask [true, true, true, true, false, true, true, true, true, false, false, false, false] ?_
    exact L37 _ _ y34 fs_a0 rc aw fw sp WB hW he ha0 hb_wb hkp hfp hO_a0 hF_w1 hF_h1 hF_rc hF_aw hF_fw hF_sp hF_wb ha_WB (by (try simp only [he34.eq, true_and, and_true]) <;> omega) ⟨a, hp4, hp5, hp6, (by rw [he34.eq, show (4 - (0 : Int)).toNat = 4 by decide, show (36 - x1.toInt).toNat = (36 - x1.toInt - 1).toNat + 1 by omega]; rfl)⟩ (Nat.lt_succ_self _)
  · exact J_ret (r := none) dX2_extend_6 ⟨rfl, rfl⟩ (⟨⟨hW, he, rfl⟩, ⟨WB, rc, aw, fw, sp, a, ha_WB, ⟨_, hO_a0, hF_rc⟩, ⟨_, hO_a0, hF_aw⟩, ⟨_, hO_a0, hF_fw⟩, ⟨_, hO_a0, hF_sp⟩, (by rw [show (36 - x1.toInt).toNat = 0 by omega]; rfl), hp4, hp5, hp6⟩, hkp, hfp, ⟨_, ⟨_, hO_a0, hF_w1⟩, (by omega)⟩, ⟨_, ⟨_, hO_a0, hF_h1⟩, (by omega)⟩⟩)
