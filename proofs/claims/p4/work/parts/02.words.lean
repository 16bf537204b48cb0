abbrev jcl : List vw_C := vwCl
abbrev jT : List FieldType := [.int, .long, .boolean, .byte, .object "WalkGrounds$Row", .object "WalkGrounds$Tally"] ++ List.replicate 34 .int ++ List.replicate 6 .boolean ++ List.replicate 4 .long
abbrev jAO : List String := ["WalkGrounds$Row", "WalkGrounds$Tally"]
abbrev jNL : List (String × Nat × MethodName × String) := [(RX3, 43, yX6_cell, "WalkGrounds"), (RX3, 77, yX6_put, "WalkGrounds"), (RX1, 19, yX6_put, "WalkGrounds"), (RX1, 53, yX6_cell, "WalkGrounds"), (RX4, 74, yX6_cell, "WalkGrounds"), (RX6, 179, yX1_countForms, "WalkGrounds"), (RX5, 79, yX6_put, "WalkGrounds"), (RX5, 83, yX6_cell, "WalkGrounds"), (RX2, 71, yX6_cell, "WalkGrounds"), (RX2, 75, yX6_put, "WalkGrounds")]
abbrev jS : Type := String × String × String × FieldType × Nat × (Nat → Value)
def jSv0 : List Int32 := [1, 0, -1, 0, 0, 0, 1, 0, -1, -1, 0, 1, 1, -1, 0, 0, 0, 0, 1, 0, 0, -1, 0, 0]
def jSv1 : List Int32 := [0, 1, 0, -1, 0, 0, 0, 1, 1, 0, -1, -1, 0, 0, 0, 0, 0, 0, 0, 1, 0, 0, -1, 0]
def jSv2 : List Int32 := [0, 1, 2, 0, 2, 1, 1, 0, 2, 1, 2, 0, 2, 0, 1, 2, 1, 0]
def jSv3 : List Int32 := [1, 8, -1, -8]
def jSf (l : List Int32) : Nat → Value := fun j => .int (l.getD j 0)
abbrev jSs : List jS := [("WalkGrounds$Ground", "SHIFT_X", "[I", .int, 24, jSf jSv0), ("WalkGrounds$Ground", "SHIFT_Y", "[I", .int, 24, jSf jSv1), ("WalkGrounds$Ground", "AXES", "[I", .int, 18, jSf jSv2), ("WalkGrounds$Plane", "SHIFTS", "[I", .int, 4, jSf jSv3)]
def jWG : List Cond := lw_tbl.filter goodWord
theorem jWG_in {w : Cond} (h : w ∈ lw_tbl) (hg : goodWord w = true) : w ∈ jWG := List.mem_filter.mpr ⟨h, hg⟩
theorem jw_in_L : Cond.initialized RL ∈ jWG := jWG_in (List.mem_append_right _ (List.mem_of_getElem? (i := 0) (by decide +kernel))) rfl
theorem jw_in_X6 : Cond.initialized RX6 ∈ jWG := jWG_in (List.mem_append_right _ (List.mem_of_getElem? (i := 1) (by decide +kernel))) rfl
theorem jw_in_X3 : Cond.initialized RX3 ∈ jWG := jWG_in (List.mem_append_right _ (List.mem_of_getElem? (i := 2) (by decide +kernel))) rfl
theorem jw_in_J9 : Cond.initialized RJ9 ∈ jWG := jWG_in (List.mem_append_right _ (List.mem_of_getElem? (i := 3) (by decide +kernel))) rfl
theorem jw_in_X2 : Cond.initialized RX2 ∈ jWG := jWG_in (List.mem_append_right _ (List.mem_of_getElem? (i := 4) (by decide +kernel))) rfl
theorem jw_in_X7 : Cond.initialized RX7 ∈ jWG := jWG_in (List.mem_append_right _ (List.mem_of_getElem? (i := 5) (by decide +kernel))) rfl
theorem jw_in_X0 : Cond.initialized RX0 ∈ jWG := jWG_in (List.mem_append_right _ (List.mem_of_getElem? (i := 6) (by decide +kernel))) rfl
theorem jw_in_X1 : Cond.initialized RX1 ∈ jWG := jWG_in (List.mem_append_right _ (List.mem_of_getElem? (i := 7) (by decide +kernel))) rfl
theorem jw_in_X4 : Cond.initialized RX4 ∈ jWG := jWG_in (List.mem_append_right _ (List.mem_of_getElem? (i := 8) (by decide +kernel))) rfl
theorem jw_in_X5 : Cond.initialized RX5 ∈ jWG := jWG_in (List.mem_append_right _ (List.mem_of_getElem? (i := 9) (by decide +kernel))) rfl
theorem jw_in_J13 : Cond.initialized RJ13 ∈ jWG := jWG_in (List.mem_append_right _ (List.mem_of_getElem? (i := 10) (by decide +kernel))) rfl
theorem jw_cl_L_7 : Cond.classLink RL 7 RX6 ∈ jWG := jWG_in (List.mem_append_right _ (List.mem_of_getElem? (i := 11) (by decide +kernel))) rfl
theorem jw_ins_X6 : Cond.instantiable RX6 7 ∈ jWG := jWG_in (List.mem_append_right _ (List.mem_of_getElem? (i := 12) (by decide +kernel))) rfl
theorem jw_ml_L_9 : Cond.methodLink RL 9 yX6_init ∈ jWG := jWG_in (List.mem_append_right _ (List.mem_of_getElem? (i := 13) (by decide +kernel))) rfl
theorem jw_im_X6_init : Cond.instanceMethod yX6_init ∈ jWG := jWG_in (List.mem_append_right _ (List.mem_of_getElem? (i := 14) (by decide +kernel))) rfl
theorem jw_co_X6_init : Cond.code yX6_init cX6_init 1 none ∈ jWG := jWG_in (List.mem_append_right _ (List.mem_of_getElem? (i := 15) (by decide +kernel))) rfl
theorem jw_ml_X6_1 : Cond.methodLink RX6 1 Lib.objectInit ∈ jWG := jWG_in (List.mem_append_right _ (List.mem_of_getElem? (i := 16) (by decide +kernel))) rfl
theorem jw_cl_X6_9 : Cond.classLink RX6 9 RX3 ∈ jWG := jWG_in (List.mem_append_right _ (List.mem_of_getElem? (i := 19) (by decide +kernel))) rfl
theorem jw_ins_X3 : Cond.instantiable RX3 7 ∈ jWG := jWG_in (List.mem_append_right _ (List.mem_of_getElem? (i := 21) (by decide +kernel))) rfl
theorem jw_ml_X6_19 : Cond.methodLink RX6 19 yX3_init ∈ jWG := jWG_in (List.mem_append_right _ (List.mem_of_getElem? (i := 22) (by decide +kernel))) rfl
theorem jw_im_X3_init : Cond.instanceMethod yX3_init ∈ jWG := jWG_in (List.mem_append_right _ (List.mem_of_getElem? (i := 23) (by decide +kernel))) rfl
theorem jw_co_X3_init : Cond.code yX3_init cX3_init 2 none ∈ jWG := jWG_in (List.mem_append_right _ (List.mem_of_getElem? (i := 24) (by decide +kernel))) rfl
theorem jw_ml_X3_3 : Cond.methodLink RX3 3 Lib.objectInit ∈ jWG := jWG_in (List.mem_append_right _ (List.mem_of_getElem? (i := 25) (by decide +kernel))) rfl
theorem jw_ml_X3_18 : Cond.methodLink RX3 18 Lib.Math.min.name ∈ jWG := jWG_in (List.mem_append_right _ (List.mem_of_getElem? (i := 26) (by decide +kernel))) rfl
theorem jw_ml_X3_24 : Cond.methodLink RX3 24 Lib.Math.max.name ∈ jWG := jWG_in (List.mem_append_right _ (List.mem_of_getElem? (i := 29) (by decide +kernel))) rfl
theorem jw_fl_X3_27 : Cond.fieldLink RX3 27 "WalkGrounds$Row" "most" "I" ∈ jWG := jWG_in (List.mem_append_right _ (List.mem_of_getElem? (i := 32) (by decide +kernel))) rfl
theorem jw_fl_X3_30 : Cond.fieldLink RX3 30 "WalkGrounds$Row" "steps" "[I" ∈ jWG := jWG_in (List.mem_append_right _ (List.mem_of_getElem? (i := 33) (by decide +kernel))) rfl
theorem jw_fl_X1_57 : Cond.fieldLink RX1 57 "WalkGrounds$Row" "steps" "[I" ∈ jWG := jWG_in (List.mem_append_right _ (List.mem_of_getElem? (i := 34) (by decide +kernel))) rfl
theorem jw_fl_X3_34 : Cond.fieldLink RX3 34 "WalkGrounds$Row" "xs" "[I" ∈ jWG := jWG_in (List.mem_append_right _ (List.mem_of_getElem? (i := 35) (by decide +kernel))) rfl
theorem jw_fl_X6_107 : Cond.fieldLink RX6 107 "WalkGrounds$Row" "xs" "[I" ∈ jWG := jWG_in (List.mem_append_right _ (List.mem_of_getElem? (i := 36) (by decide +kernel))) rfl
theorem jw_fl_X3_37 : Cond.fieldLink RX3 37 "WalkGrounds$Row" "ys" "[I" ∈ jWG := jWG_in (List.mem_append_right _ (List.mem_of_getElem? (i := 37) (by decide +kernel))) rfl
theorem jw_fl_X6_114 : Cond.fieldLink RX6 114 "WalkGrounds$Row" "ys" "[I" ∈ jWG := jWG_in (List.mem_append_right _ (List.mem_of_getElem? (i := 38) (by decide +kernel))) rfl
theorem jw_fl_X3_40 : Cond.fieldLink RX3 40 "WalkGrounds$Row" "zs" "[I" ∈ jWG := jWG_in (List.mem_append_right _ (List.mem_of_getElem? (i := 39) (by decide +kernel))) rfl
theorem jw_fl_X6_117 : Cond.fieldLink RX6 117 "WalkGrounds$Row" "zs" "[I" ∈ jWG := jWG_in (List.mem_append_right _ (List.mem_of_getElem? (i := 40) (by decide +kernel))) rfl
theorem jw_fl_X3_9 : Cond.fieldLink RX3 9 "WalkGrounds$Row" "ground" "I" ∈ jWG := jWG_in (List.mem_append_right _ (List.mem_of_getElem? (i := 41) (by decide +kernel))) rfl
theorem jw_fl_X1_23 : Cond.fieldLink RX1 23 "WalkGrounds$Row" "ground" "I" ∈ jWG := jWG_in (List.mem_append_right _ (List.mem_of_getElem? (i := 42) (by decide +kernel))) rfl
theorem jw_fl_X6_59 : Cond.fieldLink RX6 59 "WalkGrounds$Row" "ground" "I" ∈ jWG := jWG_in (List.mem_append_right _ (List.mem_of_getElem? (i := 43) (by decide +kernel))) rfl
theorem jw_fl_X3_15 : Cond.fieldLink RX3 15 "WalkGrounds$Row" "size" "I" ∈ jWG := jWG_in (List.mem_append_right _ (List.mem_of_getElem? (i := 44) (by decide +kernel))) rfl
theorem jw_fl_X1_9 : Cond.fieldLink RX1 9 "WalkGrounds$Row" "size" "I" ∈ jWG := jWG_in (List.mem_append_right _ (List.mem_of_getElem? (i := 45) (by decide +kernel))) rfl
theorem jw_fl_X6_69 : Cond.fieldLink RX6 69 "WalkGrounds$Row" "size" "I" ∈ jWG := jWG_in (List.mem_append_right _ (List.mem_of_getElem? (i := 46) (by decide +kernel))) rfl
theorem jw_ac_int : Cond.arrayClass .int ∈ jWG := jWG_in (List.mem_append_right _ (List.mem_of_getElem? (i := 62) (by decide +kernel))) rfl
theorem jw_cl_X6_33 : Cond.classLink RX6 33 RX4 ∈ jWG := jWG_in (List.mem_append_right _ (List.mem_of_getElem? (i := 63) (by decide +kernel))) rfl
theorem jw_cl_X6_39 : Cond.classLink RX6 39 RX2 ∈ jWG := jWG_in (List.mem_append_right _ (List.mem_of_getElem? (i := 65) (by decide +kernel))) rfl
theorem jw_ins_X2 : Cond.instantiable RX2 9 ∈ jWG := jWG_in (List.mem_append_right _ (List.mem_of_getElem? (i := 66) (by decide +kernel))) rfl
theorem jw_ml_X6_41 : Cond.methodLink RX6 41 yX2_init ∈ jWG := jWG_in (List.mem_append_right _ (List.mem_of_getElem? (i := 67) (by decide +kernel))) rfl
theorem jw_im_X2_init : Cond.instanceMethod yX2_init ∈ jWG := jWG_in (List.mem_append_right _ (List.mem_of_getElem? (i := 68) (by decide +kernel))) rfl
theorem jw_co_X2_init : Cond.code yX2_init cX2_init 1 none ∈ jWG := jWG_in (List.mem_append_right _ (List.mem_of_getElem? (i := 69) (by decide +kernel))) rfl
theorem jw_ml_X2_5 : Cond.methodLink RX2 5 Lib.objectInit ∈ jWG := jWG_in (List.mem_append_right _ (List.mem_of_getElem? (i := 70) (by decide +kernel))) rfl
theorem jw_ml_X2_42 : Cond.methodLink RX2 42 yX2_lay ∈ jWG := jWG_in (List.mem_append_right _ (List.mem_of_getElem? (i := 71) (by decide +kernel))) rfl
theorem jw_im_X2_lay : Cond.instanceMethod yX2_lay ∈ jWG := jWG_in (List.mem_append_right _ (List.mem_of_getElem? (i := 72) (by decide +kernel))) rfl
theorem jw_se_X2_lay : Cond.selects yX2_lay.cls yX2_lay yX2_lay ∈ jWG := jWG_in (List.mem_append_right _ (List.mem_of_getElem? (i := 73) (by decide +kernel))) rfl
theorem jw_co_X2_lay : Cond.code yX2_lay cX2_lay 5 none ∈ jWG := jWG_in (List.mem_append_right _ (List.mem_of_getElem? (i := 74) (by decide +kernel))) rfl
theorem jw_ml_X2_46 : Cond.methodLink RX2 46 yX2_bitOf ∈ jWG := jWG_in (List.mem_append_right _ (List.mem_of_getElem? (i := 75) (by decide +kernel))) rfl
theorem jw_st_X2_bitOf : Cond.static yX2_bitOf ∈ jWG := jWG_in (List.mem_append_right _ (List.mem_of_getElem? (i := 76) (by decide +kernel))) rfl
theorem jw_co_X2_bitOf : Cond.code yX2_bitOf cX2_bitOf 2 (some .long) ∈ jWG := jWG_in (List.mem_append_right _ (List.mem_of_getElem? (i := 77) (by decide +kernel))) rfl
theorem jw_ml_X2_50 : Cond.methodLink RX2 50 yX2_numberOf ∈ jWG := jWG_in (List.mem_append_right _ (List.mem_of_getElem? (i := 78) (by decide +kernel))) rfl
theorem jw_st_X2_numberOf : Cond.static yX2_numberOf ∈ jWG := jWG_in (List.mem_append_right _ (List.mem_of_getElem? (i := 79) (by decide +kernel))) rfl
theorem jw_co_X2_numberOf : Cond.code yX2_numberOf cX2_numberOf 2 (some .int) ∈ jWG := jWG_in (List.mem_append_right _ (List.mem_of_getElem? (i := 80) (by decide +kernel))) rfl
theorem jw_fl_X2_11 : Cond.fieldLink RX2 11 "WalkGrounds$Plane" "waysBySteps" "[I" ∈ jWG := jWG_in (List.mem_append_right _ (List.mem_of_getElem? (i := 81) (by decide +kernel))) rfl
theorem jw_fl_X6_228 : Cond.fieldLink RX6 228 "WalkGrounds$Plane" "waysBySteps" "[I" ∈ jWG := jWG_in (List.mem_append_right _ (List.mem_of_getElem? (i := 82) (by decide +kernel))) rfl
theorem jw_fl_X2_15 : Cond.fieldLink RX2 15 "WalkGrounds$Plane" "w" "I" ∈ jWG := jWG_in (List.mem_append_right _ (List.mem_of_getElem? (i := 83) (by decide +kernel))) rfl
theorem jw_fl_X6_205 : Cond.fieldLink RX6 205 "WalkGrounds$Plane" "w" "I" ∈ jWG := jWG_in (List.mem_append_right _ (List.mem_of_getElem? (i := 84) (by decide +kernel))) rfl
theorem jw_fl_X2_19 : Cond.fieldLink RX2 19 "WalkGrounds$Plane" "h" "I" ∈ jWG := jWG_in (List.mem_append_right _ (List.mem_of_getElem? (i := 85) (by decide +kernel))) rfl
theorem jw_fl_X6_208 : Cond.fieldLink RX6 208 "WalkGrounds$Plane" "h" "I" ∈ jWG := jWG_in (List.mem_append_right _ (List.mem_of_getElem? (i := 86) (by decide +kernel))) rfl
theorem jw_fl_X2_22 : Cond.fieldLink RX2 22 "WalkGrounds$Plane" "open" "J" ∈ jWG := jWG_in (List.mem_append_right _ (List.mem_of_getElem? (i := 87) (by decide +kernel))) rfl
theorem jw_fl_X6_234 : Cond.fieldLink RX6 234 "WalkGrounds$Plane" "open" "J" ∈ jWG := jWG_in (List.mem_append_right _ (List.mem_of_getElem? (i := 88) (by decide +kernel))) rfl
theorem jw_fl_X2_26 : Cond.fieldLink RX2 26 "WalkGrounds$Plane" "rowCount" "I" ∈ jWG := jWG_in (List.mem_append_right _ (List.mem_of_getElem? (i := 89) (by decide +kernel))) rfl
theorem jw_fl_X2_29 : Cond.fieldLink RX2 29 "WalkGrounds$Plane" "allWays" "I" ∈ jWG := jWG_in (List.mem_append_right _ (List.mem_of_getElem? (i := 90) (by decide +kernel))) rfl
theorem jw_fl_X6_225 : Cond.fieldLink RX6 225 "WalkGrounds$Plane" "allWays" "I" ∈ jWG := jWG_in (List.mem_append_right _ (List.mem_of_getElem? (i := 91) (by decide +kernel))) rfl
theorem jw_fl_X2_32 : Cond.fieldLink RX2 32 "WalkGrounds$Plane" "fullWays" "I" ∈ jWG := jWG_in (List.mem_append_right _ (List.mem_of_getElem? (i := 92) (by decide +kernel))) rfl
theorem jw_fl_X6_222 : Cond.fieldLink RX6 222 "WalkGrounds$Plane" "fullWays" "I" ∈ jWG := jWG_in (List.mem_append_right _ (List.mem_of_getElem? (i := 93) (by decide +kernel))) rfl
theorem jw_fl_X2_35 : Cond.fieldLink RX2 35 "WalkGrounds$Plane" "isCountedNow" "Z" ∈ jWG := jWG_in (List.mem_append_right _ (List.mem_of_getElem? (i := 94) (by decide +kernel))) rfl
theorem jw_fl_X2_39 : Cond.fieldLink RX2 39 "WalkGrounds$Plane" "spent" "Z" ∈ jWG := jWG_in (List.mem_append_right _ (List.mem_of_getElem? (i := 95) (by decide +kernel))) rfl
theorem jw_fl_X6_11 : Cond.fieldLink RX6 11 "WalkGrounds" "made" "[LWalkGrounds$Row;" ∈ jWG := jWG_in (List.mem_append_right _ (List.mem_of_getElem? (i := 115) (by decide +kernel))) rfl
theorem jw_fl_X6_15 : Cond.fieldLink RX6 15 "WalkGrounds" "madeCount" "I" ∈ jWG := jWG_in (List.mem_append_right _ (List.mem_of_getElem? (i := 116) (by decide +kernel))) rfl
theorem jw_fl_X6_22 : Cond.fieldLink RX6 22 "WalkGrounds" "trial" "LWalkGrounds$Row;" ∈ jWG := jWG_in (List.mem_append_right _ (List.mem_of_getElem? (i := 117) (by decide +kernel))) rfl
theorem jw_fl_X6_26 : Cond.fieldLink RX6 26 "WalkGrounds" "ownForm" "[I" ∈ jWG := jWG_in (List.mem_append_right _ (List.mem_of_getElem? (i := 118) (by decide +kernel))) rfl
theorem jw_fl_X6_30 : Cond.fieldLink RX6 30 "WalkGrounds" "otherForm" "[I" ∈ jWG := jWG_in (List.mem_append_right _ (List.mem_of_getElem? (i := 119) (by decide +kernel))) rfl
theorem jw_fl_X6_35 : Cond.fieldLink RX6 35 "WalkGrounds" "tallies" "[LWalkGrounds$Tally;" ∈ jWG := jWG_in (List.mem_append_right _ (List.mem_of_getElem? (i := 120) (by decide +kernel))) rfl
theorem jw_fl_X6_42 : Cond.fieldLink RX6 42 "WalkGrounds" "plane" "LWalkGrounds$Plane;" ∈ jWG := jWG_in (List.mem_append_right _ (List.mem_of_getElem? (i := 121) (by decide +kernel))) rfl
theorem jw_ml_L_13 : Cond.methodLink RL 13 yX6_walk ∈ jWG := jWG_in (List.mem_append_right _ (List.mem_of_getElem? (i := 137) (by decide +kernel))) rfl
theorem jw_im_X6_walk : Cond.instanceMethod yX6_walk ∈ jWG := jWG_in (List.mem_append_right _ (List.mem_of_getElem? (i := 138) (by decide +kernel))) rfl
theorem jw_se_X6_walk : Cond.selects yX6_walk.cls yX6_walk yX6_walk ∈ jWG := jWG_in (List.mem_append_right _ (List.mem_of_getElem? (i := 139) (by decide +kernel))) rfl
theorem jw_co_X6_walk : Cond.code yX6_walk cX6_walk 3 (some .int) ∈ jWG := jWG_in (List.mem_append_right _ (List.mem_of_getElem? (i := 140) (by decide +kernel))) rfl
theorem jw_ml_X6_46 : Cond.methodLink RX6 46 yX0_isGround ∈ jWG := jWG_in (List.mem_append_right _ (List.mem_of_getElem? (i := 141) (by decide +kernel))) rfl
theorem jw_st_X0_isGround : Cond.static yX0_isGround ∈ jWG := jWG_in (List.mem_append_right _ (List.mem_of_getElem? (i := 142) (by decide +kernel))) rfl
theorem jw_co_X0_isGround : Cond.code yX0_isGround cX0_isGround 1 (some .boolean) ∈ jWG := jWG_in (List.mem_append_right _ (List.mem_of_getElem? (i := 143) (by decide +kernel))) rfl
theorem jw_ml_X6_52 : Cond.methodLink RX6 52 yX3_begin ∈ jWG := jWG_in (List.mem_append_right _ (List.mem_of_getElem? (i := 144) (by decide +kernel))) rfl
theorem jw_im_X3_begin : Cond.instanceMethod yX3_begin ∈ jWG := jWG_in (List.mem_append_right _ (List.mem_of_getElem? (i := 145) (by decide +kernel))) rfl
theorem jw_se_X3_begin : Cond.selects yX3_begin.cls yX3_begin yX3_begin ∈ jWG := jWG_in (List.mem_append_right _ (List.mem_of_getElem? (i := 146) (by decide +kernel))) rfl
theorem jw_co_X3_begin : Cond.code yX3_begin cX3_begin 2 none ∈ jWG := jWG_in (List.mem_append_right _ (List.mem_of_getElem? (i := 147) (by decide +kernel))) rfl
theorem jw_ml_L_18 : Cond.methodLink RL 18 yX6_step ∈ jWG := jWG_in (List.mem_append_right _ (List.mem_of_getElem? (i := 148) (by decide +kernel))) rfl
theorem jw_im_X6_step : Cond.instanceMethod yX6_step ∈ jWG := jWG_in (List.mem_append_right _ (List.mem_of_getElem? (i := 149) (by decide +kernel))) rfl
theorem jw_se_X6_step : Cond.selects yX6_step.cls yX6_step yX6_step ∈ jWG := jWG_in (List.mem_append_right _ (List.mem_of_getElem? (i := 150) (by decide +kernel))) rfl
theorem jw_co_X6_step : Cond.code yX6_step cX6_step 4 (some .int) ∈ jWG := jWG_in (List.mem_append_right _ (List.mem_of_getElem? (i := 151) (by decide +kernel))) rfl
theorem jw_ml_X6_55 : Cond.methodLink RX6 55 yX6_rowOf ∈ jWG := jWG_in (List.mem_append_right _ (List.mem_of_getElem? (i := 152) (by decide +kernel))) rfl
theorem jw_im_X6_rowOf : Cond.instanceMethod yX6_rowOf ∈ jWG := jWG_in (List.mem_append_right _ (List.mem_of_getElem? (i := 154) (by decide +kernel))) rfl
theorem jw_co_X6_rowOf : Cond.code yX6_rowOf cX6_rowOf 2 (some (.object "WalkGrounds$Row")) ∈ jWG := jWG_in (List.mem_append_right _ (List.mem_of_getElem? (i := 155) (by decide +kernel))) rfl
theorem jw_ml_X6_62 : Cond.methodLink RX6 62 yX0_isDirection ∈ jWG := jWG_in (List.mem_append_right _ (List.mem_of_getElem? (i := 156) (by decide +kernel))) rfl
theorem jw_st_X0_isDirection : Cond.static yX0_isDirection ∈ jWG := jWG_in (List.mem_append_right _ (List.mem_of_getElem? (i := 157) (by decide +kernel))) rfl
theorem jw_co_X0_isDirection : Cond.code yX0_isDirection cX0_isDirection 2 (some .boolean) ∈ jWG := jWG_in (List.mem_append_right _ (List.mem_of_getElem? (i := 158) (by decide +kernel))) rfl
theorem jw_ml_X0_9 : Cond.methodLink RX0 9 yX0_directions ∈ jWG := jWG_in (List.mem_append_right _ (List.mem_of_getElem? (i := 159) (by decide +kernel))) rfl
theorem jw_st_X0_directions : Cond.static yX0_directions ∈ jWG := jWG_in (List.mem_append_right _ (List.mem_of_getElem? (i := 160) (by decide +kernel))) rfl
theorem jw_co_X0_directions : Cond.code yX0_directions cX0_directions 1 (some .int) ∈ jWG := jWG_in (List.mem_append_right _ (List.mem_of_getElem? (i := 161) (by decide +kernel))) rfl
theorem jw_ml_X6_66 : Cond.methodLink RX6 66 yX3_leads ∈ jWG := jWG_in (List.mem_append_right _ (List.mem_of_getElem? (i := 162) (by decide +kernel))) rfl
theorem jw_im_X3_leads : Cond.instanceMethod yX3_leads ∈ jWG := jWG_in (List.mem_append_right _ (List.mem_of_getElem? (i := 163) (by decide +kernel))) rfl
theorem jw_se_X3_leads : Cond.selects yX3_leads.cls yX3_leads yX3_leads ∈ jWG := jWG_in (List.mem_append_right _ (List.mem_of_getElem? (i := 164) (by decide +kernel))) rfl
theorem jw_co_X3_leads : Cond.code yX3_leads cX3_leads 2 (some .boolean) ∈ jWG := jWG_in (List.mem_append_right _ (List.mem_of_getElem? (i := 165) (by decide +kernel))) rfl
theorem jw_ml_X3_47 : Cond.methodLink RX3 47 yX3_endX ∈ jWG := jWG_in (List.mem_append_right _ (List.mem_of_getElem? (i := 166) (by decide +kernel))) rfl
theorem jw_im_X3_endX : Cond.instanceMethod yX3_endX ∈ jWG := jWG_in (List.mem_append_right _ (List.mem_of_getElem? (i := 167) (by decide +kernel))) rfl
theorem jw_se_X3_endX : Cond.selects yX3_endX.cls yX3_endX yX3_endX ∈ jWG := jWG_in (List.mem_append_right _ (List.mem_of_getElem? (i := 168) (by decide +kernel))) rfl
theorem jw_co_X3_endX : Cond.code yX3_endX cX3_endX 1 (some .int) ∈ jWG := jWG_in (List.mem_append_right _ (List.mem_of_getElem? (i := 169) (by decide +kernel))) rfl
theorem jw_st_X6_cell : Cond.static yX6_cell ∈ jWG := jWG_in (List.mem_append_right _ (List.mem_of_getElem? (i := 171) (by decide +kernel))) rfl
theorem jw_co_X6_cell : Cond.code yX6_cell cX6_cell 2 (some .int) ∈ jWG := jWG_in (List.mem_append_right _ (List.mem_of_getElem? (i := 172) (by decide +kernel))) rfl
theorem jw_ml_X3_51 : Cond.methodLink RX3 51 yX0_shiftX ∈ jWG := jWG_in (List.mem_append_right _ (List.mem_of_getElem? (i := 173) (by decide +kernel))) rfl
theorem jw_st_X0_shiftX : Cond.static yX0_shiftX ∈ jWG := jWG_in (List.mem_append_right _ (List.mem_of_getElem? (i := 174) (by decide +kernel))) rfl
theorem jw_co_X0_shiftX : Cond.code yX0_shiftX cX0_shiftX 3 (some .int) ∈ jWG := jWG_in (List.mem_append_right _ (List.mem_of_getElem? (i := 175) (by decide +kernel))) rfl
theorem jw_fl_X0_18 : Cond.fieldLink RX0 18 "WalkGrounds$Ground" "SHIFT_X" "[I" ∈ jWG := jWG_in (List.mem_append_right _ (List.mem_of_getElem? (i := 176) (by decide +kernel))) rfl
theorem jw_ml_X3_56 : Cond.methodLink RX3 56 yX3_endY ∈ jWG := jWG_in (List.mem_append_right _ (List.mem_of_getElem? (i := 178) (by decide +kernel))) rfl
theorem jw_im_X3_endY : Cond.instanceMethod yX3_endY ∈ jWG := jWG_in (List.mem_append_right _ (List.mem_of_getElem? (i := 179) (by decide +kernel))) rfl
theorem jw_se_X3_endY : Cond.selects yX3_endY.cls yX3_endY yX3_endY ∈ jWG := jWG_in (List.mem_append_right _ (List.mem_of_getElem? (i := 180) (by decide +kernel))) rfl
theorem jw_co_X3_endY : Cond.code yX3_endY cX3_endY 1 (some .int) ∈ jWG := jWG_in (List.mem_append_right _ (List.mem_of_getElem? (i := 181) (by decide +kernel))) rfl
theorem jw_ml_X3_59 : Cond.methodLink RX3 59 yX0_shiftY ∈ jWG := jWG_in (List.mem_append_right _ (List.mem_of_getElem? (i := 182) (by decide +kernel))) rfl
theorem jw_st_X0_shiftY : Cond.static yX0_shiftY ∈ jWG := jWG_in (List.mem_append_right _ (List.mem_of_getElem? (i := 183) (by decide +kernel))) rfl
theorem jw_co_X0_shiftY : Cond.code yX0_shiftY cX0_shiftY 5 (some .int) ∈ jWG := jWG_in (List.mem_append_right _ (List.mem_of_getElem? (i := 184) (by decide +kernel))) rfl
theorem jw_ml_X0_22 : Cond.methodLink RX0 22 yX0_isEven ∈ jWG := jWG_in (List.mem_append_right _ (List.mem_of_getElem? (i := 185) (by decide +kernel))) rfl
theorem jw_st_X0_isEven : Cond.static yX0_isEven ∈ jWG := jWG_in (List.mem_append_right _ (List.mem_of_getElem? (i := 186) (by decide +kernel))) rfl
theorem jw_co_X0_isEven : Cond.code yX0_isEven cX0_isEven 2 (some .boolean) ∈ jWG := jWG_in (List.mem_append_right _ (List.mem_of_getElem? (i := 187) (by decide +kernel))) rfl
theorem jw_fl_X0_26 : Cond.fieldLink RX0 26 "WalkGrounds$Ground" "SHIFT_Y" "[I" ∈ jWG := jWG_in (List.mem_append_right _ (List.mem_of_getElem? (i := 188) (by decide +kernel))) rfl
theorem jw_ml_X3_63 : Cond.methodLink RX3 63 yX3_endZ ∈ jWG := jWG_in (List.mem_append_right _ (List.mem_of_getElem? (i := 190) (by decide +kernel))) rfl
theorem jw_im_X3_endZ : Cond.instanceMethod yX3_endZ ∈ jWG := jWG_in (List.mem_append_right _ (List.mem_of_getElem? (i := 191) (by decide +kernel))) rfl
theorem jw_se_X3_endZ : Cond.selects yX3_endZ.cls yX3_endZ yX3_endZ ∈ jWG := jWG_in (List.mem_append_right _ (List.mem_of_getElem? (i := 192) (by decide +kernel))) rfl
theorem jw_co_X3_endZ : Cond.code yX3_endZ cX3_endZ 1 (some .int) ∈ jWG := jWG_in (List.mem_append_right _ (List.mem_of_getElem? (i := 193) (by decide +kernel))) rfl
theorem jw_ml_X3_66 : Cond.methodLink RX3 66 yX0_shiftZ ∈ jWG := jWG_in (List.mem_append_right _ (List.mem_of_getElem? (i := 194) (by decide +kernel))) rfl
theorem jw_st_X0_shiftZ : Cond.static yX0_shiftZ ∈ jWG := jWG_in (List.mem_append_right _ (List.mem_of_getElem? (i := 195) (by decide +kernel))) rfl
theorem jw_co_X0_shiftZ : Cond.code yX0_shiftZ cX0_shiftZ 2 (some .int) ∈ jWG := jWG_in (List.mem_append_right _ (List.mem_of_getElem? (i := 196) (by decide +kernel))) rfl
theorem jw_ml_X3_69 : Cond.methodLink RX3 69 yX3_hasCome ∈ jWG := jWG_in (List.mem_append_right _ (List.mem_of_getElem? (i := 197) (by decide +kernel))) rfl
theorem jw_im_X3_hasCome : Cond.instanceMethod yX3_hasCome ∈ jWG := jWG_in (List.mem_append_right _ (List.mem_of_getElem? (i := 199) (by decide +kernel))) rfl
theorem jw_co_X3_hasCome : Cond.code yX3_hasCome cX3_hasCome 5 (some .boolean) ∈ jWG := jWG_in (List.mem_append_right _ (List.mem_of_getElem? (i := 200) (by decide +kernel))) rfl
theorem jw_ml_X6_72 : Cond.methodLink RX6 72 yX3_lay ∈ jWG := jWG_in (List.mem_append_right _ (List.mem_of_getElem? (i := 201) (by decide +kernel))) rfl
theorem jw_im_X3_lay : Cond.instanceMethod yX3_lay ∈ jWG := jWG_in (List.mem_append_right _ (List.mem_of_getElem? (i := 202) (by decide +kernel))) rfl
theorem jw_se_X3_lay : Cond.selects yX3_lay.cls yX3_lay yX3_lay ∈ jWG := jWG_in (List.mem_append_right _ (List.mem_of_getElem? (i := 203) (by decide +kernel))) rfl
theorem jw_co_X3_lay : Cond.code yX3_lay cX3_lay 5 (some .boolean) ∈ jWG := jWG_in (List.mem_append_right _ (List.mem_of_getElem? (i := 204) (by decide +kernel))) rfl
theorem jw_ml_X3_73 : Cond.methodLink RX3 73 yX3_leads ∈ jWG := jWG_in (List.mem_append_right _ (List.mem_of_getElem? (i := 205) (by decide +kernel))) rfl
theorem jw_st_X6_put : Cond.static yX6_put ∈ jWG := jWG_in (List.mem_append_right _ (List.mem_of_getElem? (i := 207) (by decide +kernel))) rfl
theorem jw_co_X6_put : Cond.code yX6_put cX6_put 3 none ∈ jWG := jWG_in (List.mem_append_right _ (List.mem_of_getElem? (i := 208) (by decide +kernel))) rfl
theorem jw_ml_L_23 : Cond.methodLink RL 23 yX6_back ∈ jWG := jWG_in (List.mem_append_right _ (List.mem_of_getElem? (i := 209) (by decide +kernel))) rfl
theorem jw_im_X6_back : Cond.instanceMethod yX6_back ∈ jWG := jWG_in (List.mem_append_right _ (List.mem_of_getElem? (i := 210) (by decide +kernel))) rfl
theorem jw_se_X6_back : Cond.selects yX6_back.cls yX6_back yX6_back ∈ jWG := jWG_in (List.mem_append_right _ (List.mem_of_getElem? (i := 211) (by decide +kernel))) rfl
theorem jw_co_X6_back : Cond.code yX6_back cX6_back 4 (some .int) ∈ jWG := jWG_in (List.mem_append_right _ (List.mem_of_getElem? (i := 212) (by decide +kernel))) rfl
theorem jw_ml_X6_75 : Cond.methodLink RX6 75 yX3_drop ∈ jWG := jWG_in (List.mem_append_right _ (List.mem_of_getElem? (i := 213) (by decide +kernel))) rfl
theorem jw_im_X3_drop : Cond.instanceMethod yX3_drop ∈ jWG := jWG_in (List.mem_append_right _ (List.mem_of_getElem? (i := 214) (by decide +kernel))) rfl
theorem jw_se_X3_drop : Cond.selects yX3_drop.cls yX3_drop yX3_drop ∈ jWG := jWG_in (List.mem_append_right _ (List.mem_of_getElem? (i := 215) (by decide +kernel))) rfl
theorem jw_co_X3_drop : Cond.code yX3_drop cX3_drop 2 none ∈ jWG := jWG_in (List.mem_append_right _ (List.mem_of_getElem? (i := 216) (by decide +kernel))) rfl
theorem jw_ml_L_27 : Cond.methodLink RL 27 yX6_pivot ∈ jWG := jWG_in (List.mem_append_right _ (List.mem_of_getElem? (i := 217) (by decide +kernel))) rfl
theorem jw_im_X6_pivot : Cond.instanceMethod yX6_pivot ∈ jWG := jWG_in (List.mem_append_right _ (List.mem_of_getElem? (i := 218) (by decide +kernel))) rfl
theorem jw_se_X6_pivot : Cond.selects yX6_pivot.cls yX6_pivot yX6_pivot ∈ jWG := jWG_in (List.mem_append_right _ (List.mem_of_getElem? (i := 219) (by decide +kernel))) rfl
theorem jw_co_X6_pivot : Cond.code yX6_pivot cX6_pivot 7 (some .int) ∈ jWG := jWG_in (List.mem_append_right _ (List.mem_of_getElem? (i := 220) (by decide +kernel))) rfl
theorem jw_ml_X6_78 : Cond.methodLink RX6 78 yX0_isTurn ∈ jWG := jWG_in (List.mem_append_right _ (List.mem_of_getElem? (i := 221) (by decide +kernel))) rfl
theorem jw_st_X0_isTurn : Cond.static yX0_isTurn ∈ jWG := jWG_in (List.mem_append_right _ (List.mem_of_getElem? (i := 222) (by decide +kernel))) rfl
theorem jw_co_X0_isTurn : Cond.code yX0_isTurn cX0_isTurn 2 (some .boolean) ∈ jWG := jWG_in (List.mem_append_right _ (List.mem_of_getElem? (i := 223) (by decide +kernel))) rfl
theorem jw_ml_X0_15 : Cond.methodLink RX0 15 yX0_turns ∈ jWG := jWG_in (List.mem_append_right _ (List.mem_of_getElem? (i := 224) (by decide +kernel))) rfl
theorem jw_st_X0_turns : Cond.static yX0_turns ∈ jWG := jWG_in (List.mem_append_right _ (List.mem_of_getElem? (i := 225) (by decide +kernel))) rfl
theorem jw_co_X0_turns : Cond.code yX0_turns cX0_turns 1 (some .int) ∈ jWG := jWG_in (List.mem_append_right _ (List.mem_of_getElem? (i := 226) (by decide +kernel))) rfl
theorem jw_ml_X6_81 : Cond.methodLink RX6 81 yX3_direction ∈ jWG := jWG_in (List.mem_append_right _ (List.mem_of_getElem? (i := 227) (by decide +kernel))) rfl
theorem jw_im_X3_direction : Cond.instanceMethod yX3_direction ∈ jWG := jWG_in (List.mem_append_right _ (List.mem_of_getElem? (i := 228) (by decide +kernel))) rfl
theorem jw_se_X3_direction : Cond.selects yX3_direction.cls yX3_direction yX3_direction ∈ jWG := jWG_in (List.mem_append_right _ (List.mem_of_getElem? (i := 229) (by decide +kernel))) rfl
theorem jw_co_X3_direction : Cond.code yX3_direction cX3_direction 2 (some .int) ∈ jWG := jWG_in (List.mem_append_right _ (List.mem_of_getElem? (i := 230) (by decide +kernel))) rfl
theorem jw_ml_X6_85 : Cond.methodLink RX6 85 yX0_turned ∈ jWG := jWG_in (List.mem_append_right _ (List.mem_of_getElem? (i := 231) (by decide +kernel))) rfl
theorem jw_st_X0_turned : Cond.static yX0_turned ∈ jWG := jWG_in (List.mem_append_right _ (List.mem_of_getElem? (i := 232) (by decide +kernel))) rfl
theorem jw_co_X0_turned : Cond.code yX0_turned cX0_turned 5 (some .int) ∈ jWG := jWG_in (List.mem_append_right _ (List.mem_of_getElem? (i := 233) (by decide +kernel))) rfl
theorem jw_ml_X0_29 : Cond.methodLink RX0 29 yX0_turnedInCubes ∈ jWG := jWG_in (List.mem_append_right _ (List.mem_of_getElem? (i := 234) (by decide +kernel))) rfl
theorem jw_st_X0_turnedInCubes : Cond.static yX0_turnedInCubes ∈ jWG := jWG_in (List.mem_append_right _ (List.mem_of_getElem? (i := 235) (by decide +kernel))) rfl
theorem jw_co_X0_turnedInCubes : Cond.code yX0_turnedInCubes cX0_turnedInCubes 7 (some .int) ∈ jWG := jWG_in (List.mem_append_right _ (List.mem_of_getElem? (i := 236) (by decide +kernel))) rfl
theorem jw_fl_X0_33 : Cond.fieldLink RX0 33 "WalkGrounds$Ground" "AXES" "[I" ∈ jWG := jWG_in (List.mem_append_right _ (List.mem_of_getElem? (i := 237) (by decide +kernel))) rfl
theorem jw_ml_X6_89 : Cond.methodLink RX6 89 yX3_become ∈ jWG := jWG_in (List.mem_append_right _ (List.mem_of_getElem? (i := 239) (by decide +kernel))) rfl
theorem jw_im_X3_become : Cond.instanceMethod yX3_become ∈ jWG := jWG_in (List.mem_append_right _ (List.mem_of_getElem? (i := 240) (by decide +kernel))) rfl
theorem jw_se_X3_become : Cond.selects yX3_become.cls yX3_become yX3_become ∈ jWG := jWG_in (List.mem_append_right _ (List.mem_of_getElem? (i := 241) (by decide +kernel))) rfl
theorem jw_co_X3_become : Cond.code yX3_become cX3_become 3 none ∈ jWG := jWG_in (List.mem_append_right _ (List.mem_of_getElem? (i := 242) (by decide +kernel))) rfl
theorem jw_ml_L_32 : Cond.methodLink RL 32 yX6_join ∈ jWG := jWG_in (List.mem_append_right _ (List.mem_of_getElem? (i := 243) (by decide +kernel))) rfl
theorem jw_im_X6_join : Cond.instanceMethod yX6_join ∈ jWG := jWG_in (List.mem_append_right _ (List.mem_of_getElem? (i := 244) (by decide +kernel))) rfl
theorem jw_se_X6_join : Cond.selects yX6_join.cls yX6_join yX6_join ∈ jWG := jWG_in (List.mem_append_right _ (List.mem_of_getElem? (i := 245) (by decide +kernel))) rfl
theorem jw_co_X6_join : Cond.code yX6_join cX6_join 6 (some .int) ∈ jWG := jWG_in (List.mem_append_right _ (List.mem_of_getElem? (i := 246) (by decide +kernel))) rfl
theorem jw_ml_L_36 : Cond.methodLink RL 36 yX6_turnBack ∈ jWG := jWG_in (List.mem_append_right _ (List.mem_of_getElem? (i := 247) (by decide +kernel))) rfl
theorem jw_im_X6_turnBack : Cond.instanceMethod yX6_turnBack ∈ jWG := jWG_in (List.mem_append_right _ (List.mem_of_getElem? (i := 248) (by decide +kernel))) rfl
theorem jw_se_X6_turnBack : Cond.selects yX6_turnBack.cls yX6_turnBack yX6_turnBack ∈ jWG := jWG_in (List.mem_append_right _ (List.mem_of_getElem? (i := 249) (by decide +kernel))) rfl
theorem jw_co_X6_turnBack : Cond.code yX6_turnBack cX6_turnBack 4 (some .int) ∈ jWG := jWG_in (List.mem_append_right _ (List.mem_of_getElem? (i := 250) (by decide +kernel))) rfl
theorem jw_ml_X6_93 : Cond.methodLink RX6 93 yX3_endX ∈ jWG := jWG_in (List.mem_append_right _ (List.mem_of_getElem? (i := 251) (by decide +kernel))) rfl
theorem jw_ml_X6_97 : Cond.methodLink RX6 97 yX3_endY ∈ jWG := jWG_in (List.mem_append_right _ (List.mem_of_getElem? (i := 252) (by decide +kernel))) rfl
theorem jw_ml_X6_100 : Cond.methodLink RX6 100 yX0_isEven ∈ jWG := jWG_in (List.mem_append_right _ (List.mem_of_getElem? (i := 253) (by decide +kernel))) rfl
theorem jw_ml_X6_103 : Cond.methodLink RX6 103 yX0_opposite ∈ jWG := jWG_in (List.mem_append_right _ (List.mem_of_getElem? (i := 254) (by decide +kernel))) rfl
theorem jw_st_X0_opposite : Cond.static yX0_opposite ∈ jWG := jWG_in (List.mem_append_right _ (List.mem_of_getElem? (i := 255) (by decide +kernel))) rfl
theorem jw_co_X0_opposite : Cond.code yX0_opposite cX0_opposite 3 (some .int) ∈ jWG := jWG_in (List.mem_append_right _ (List.mem_of_getElem? (i := 256) (by decide +kernel))) rfl
theorem jw_ml_L_40 : Cond.methodLink RL 40 yX6_stepAt ∈ jWG := jWG_in (List.mem_append_right _ (List.mem_of_getElem? (i := 257) (by decide +kernel))) rfl
theorem jw_im_X6_stepAt : Cond.instanceMethod yX6_stepAt ∈ jWG := jWG_in (List.mem_append_right _ (List.mem_of_getElem? (i := 258) (by decide +kernel))) rfl
theorem jw_se_X6_stepAt : Cond.selects yX6_stepAt.cls yX6_stepAt yX6_stepAt ∈ jWG := jWG_in (List.mem_append_right _ (List.mem_of_getElem? (i := 259) (by decide +kernel))) rfl
theorem jw_co_X6_stepAt : Cond.code yX6_stepAt cX6_stepAt 4 (some .int) ∈ jWG := jWG_in (List.mem_append_right _ (List.mem_of_getElem? (i := 260) (by decide +kernel))) rfl
theorem jw_ml_L_44 : Cond.methodLink RL 44 yX6_place ∈ jWG := jWG_in (List.mem_append_right _ (List.mem_of_getElem? (i := 261) (by decide +kernel))) rfl
theorem jw_im_X6_place : Cond.instanceMethod yX6_place ∈ jWG := jWG_in (List.mem_append_right _ (List.mem_of_getElem? (i := 262) (by decide +kernel))) rfl
theorem jw_se_X6_place : Cond.selects yX6_place.cls yX6_place yX6_place ∈ jWG := jWG_in (List.mem_append_right _ (List.mem_of_getElem? (i := 263) (by decide +kernel))) rfl
theorem jw_co_X6_place : Cond.code yX6_place cX6_place 5 (some .int) ∈ jWG := jWG_in (List.mem_append_right _ (List.mem_of_getElem? (i := 264) (by decide +kernel))) rfl
theorem jw_ml_X6_110 : Cond.methodLink RX6 110 yX6_cell ∈ jWG := jWG_in (List.mem_append_right _ (List.mem_of_getElem? (i := 265) (by decide +kernel))) rfl
theorem jw_ml_L_48 : Cond.methodLink RL 48 yX6_about ∈ jWG := jWG_in (List.mem_append_right _ (List.mem_of_getElem? (i := 266) (by decide +kernel))) rfl
theorem jw_im_X6_about : Cond.instanceMethod yX6_about ∈ jWG := jWG_in (List.mem_append_right _ (List.mem_of_getElem? (i := 267) (by decide +kernel))) rfl
theorem jw_se_X6_about : Cond.selects yX6_about.cls yX6_about yX6_about ∈ jWG := jWG_in (List.mem_append_right _ (List.mem_of_getElem? (i := 268) (by decide +kernel))) rfl
theorem jw_co_X6_about : Cond.code yX6_about cX6_about 4 (some .int) ∈ jWG := jWG_in (List.mem_append_right _ (List.mem_of_getElem? (i := 269) (by decide +kernel))) rfl
theorem jw_ml_X6_120 : Cond.methodLink RX6 120 yX3_endZ ∈ jWG := jWG_in (List.mem_append_right _ (List.mem_of_getElem? (i := 270) (by decide +kernel))) rfl
theorem jw_ml_X6_123 : Cond.methodLink RX6 123 yX0_square ∈ jWG := jWG_in (List.mem_append_right _ (List.mem_of_getElem? (i := 271) (by decide +kernel))) rfl
theorem jw_st_X0_square : Cond.static yX0_square ∈ jWG := jWG_in (List.mem_append_right _ (List.mem_of_getElem? (i := 272) (by decide +kernel))) rfl
theorem jw_co_X0_square : Cond.code yX0_square cX0_square 5 (some .int) ∈ jWG := jWG_in (List.mem_append_right _ (List.mem_of_getElem? (i := 273) (by decide +kernel))) rfl
theorem jw_ml_X6_127 : Cond.methodLink RX6 127 yX3_isRing ∈ jWG := jWG_in (List.mem_append_right _ (List.mem_of_getElem? (i := 274) (by decide +kernel))) rfl
theorem jw_im_X3_isRing : Cond.instanceMethod yX3_isRing ∈ jWG := jWG_in (List.mem_append_right _ (List.mem_of_getElem? (i := 275) (by decide +kernel))) rfl
theorem jw_se_X3_isRing : Cond.selects yX3_isRing.cls yX3_isRing yX3_isRing ∈ jWG := jWG_in (List.mem_append_right _ (List.mem_of_getElem? (i := 276) (by decide +kernel))) rfl
theorem jw_co_X3_isRing : Cond.code yX3_isRing cX3_isRing 1 (some .boolean) ∈ jWG := jWG_in (List.mem_append_right _ (List.mem_of_getElem? (i := 277) (by decide +kernel))) rfl
theorem jw_ml_X3_81 : Cond.methodLink RX3 81 yX0_isBesideBeginning ∈ jWG := jWG_in (List.mem_append_right _ (List.mem_of_getElem? (i := 278) (by decide +kernel))) rfl
theorem jw_st_X0_isBesideBeginning : Cond.static yX0_isBesideBeginning ∈ jWG := jWG_in (List.mem_append_right _ (List.mem_of_getElem? (i := 279) (by decide +kernel))) rfl
theorem jw_co_X0_isBesideBeginning : Cond.code yX0_isBesideBeginning cX0_isBesideBeginning 4 (some .boolean) ∈ jWG := jWG_in (List.mem_append_right _ (List.mem_of_getElem? (i := 280) (by decide +kernel))) rfl
theorem jw_ml_X0_36 : Cond.methodLink RX0 36 yX0_square ∈ jWG := jWG_in (List.mem_append_right _ (List.mem_of_getElem? (i := 281) (by decide +kernel))) rfl
theorem jw_ml_X6_131 : Cond.methodLink RX6 131 yX3_twiceArea ∈ jWG := jWG_in (List.mem_append_right _ (List.mem_of_getElem? (i := 282) (by decide +kernel))) rfl
theorem jw_im_X3_twiceArea : Cond.instanceMethod yX3_twiceArea ∈ jWG := jWG_in (List.mem_append_right _ (List.mem_of_getElem? (i := 283) (by decide +kernel))) rfl
theorem jw_se_X3_twiceArea : Cond.selects yX3_twiceArea.cls yX3_twiceArea yX3_twiceArea ∈ jWG := jWG_in (List.mem_append_right _ (List.mem_of_getElem? (i := 284) (by decide +kernel))) rfl
theorem jw_co_X3_twiceArea : Cond.code yX3_twiceArea cX3_twiceArea 3 (some .int) ∈ jWG := jWG_in (List.mem_append_right _ (List.mem_of_getElem? (i := 285) (by decide +kernel))) rfl
theorem jw_ml_X3_85 : Cond.methodLink RX3 85 Lib.Math.abs.name ∈ jWG := jWG_in (List.mem_append_right _ (List.mem_of_getElem? (i := 286) (by decide +kernel))) rfl
theorem jw_ml_X6_134 : Cond.methodLink RX6 134 yX3_bends ∈ jWG := jWG_in (List.mem_append_right _ (List.mem_of_getElem? (i := 289) (by decide +kernel))) rfl
theorem jw_im_X3_bends : Cond.instanceMethod yX3_bends ∈ jWG := jWG_in (List.mem_append_right _ (List.mem_of_getElem? (i := 290) (by decide +kernel))) rfl
theorem jw_se_X3_bends : Cond.selects yX3_bends.cls yX3_bends yX3_bends ∈ jWG := jWG_in (List.mem_append_right _ (List.mem_of_getElem? (i := 291) (by decide +kernel))) rfl
theorem jw_co_X3_bends : Cond.code yX3_bends cX3_bends 3 (some .int) ∈ jWG := jWG_in (List.mem_append_right _ (List.mem_of_getElem? (i := 292) (by decide +kernel))) rfl
theorem jw_ml_X3_89 : Cond.methodLink RX3 89 yX3_direction ∈ jWG := jWG_in (List.mem_append_right _ (List.mem_of_getElem? (i := 293) (by decide +kernel))) rfl
theorem jw_ml_X6_137 : Cond.methodLink RX6 137 yX3_isBridge ∈ jWG := jWG_in (List.mem_append_right _ (List.mem_of_getElem? (i := 294) (by decide +kernel))) rfl
theorem jw_im_X3_isBridge : Cond.instanceMethod yX3_isBridge ∈ jWG := jWG_in (List.mem_append_right _ (List.mem_of_getElem? (i := 295) (by decide +kernel))) rfl
theorem jw_se_X3_isBridge : Cond.selects yX3_isBridge.cls yX3_isBridge yX3_isBridge ∈ jWG := jWG_in (List.mem_append_right _ (List.mem_of_getElem? (i := 296) (by decide +kernel))) rfl
theorem jw_co_X3_isBridge : Cond.code yX3_isBridge cX3_isBridge 2 (some .boolean) ∈ jWG := jWG_in (List.mem_append_right _ (List.mem_of_getElem? (i := 297) (by decide +kernel))) rfl
theorem jw_ml_X6_140 : Cond.methodLink RX6 140 yX3_leadsOn ∈ jWG := jWG_in (List.mem_append_right _ (List.mem_of_getElem? (i := 298) (by decide +kernel))) rfl
theorem jw_im_X3_leadsOn : Cond.instanceMethod yX3_leadsOn ∈ jWG := jWG_in (List.mem_append_right _ (List.mem_of_getElem? (i := 299) (by decide +kernel))) rfl
theorem jw_se_X3_leadsOn : Cond.selects yX3_leadsOn.cls yX3_leadsOn yX3_leadsOn ∈ jWG := jWG_in (List.mem_append_right _ (List.mem_of_getElem? (i := 300) (by decide +kernel))) rfl
theorem jw_co_X3_leadsOn : Cond.code yX3_leadsOn cX3_leadsOn 3 (some .int) ∈ jWG := jWG_in (List.mem_append_right _ (List.mem_of_getElem? (i := 301) (by decide +kernel))) rfl
theorem jw_ml_X3_92 : Cond.methodLink RX3 92 yX0_directions ∈ jWG := jWG_in (List.mem_append_right _ (List.mem_of_getElem? (i := 302) (by decide +kernel))) rfl
theorem jw_ml_L_52 : Cond.methodLink RL 52 yX6_form ∈ jWG := jWG_in (List.mem_append_right _ (List.mem_of_getElem? (i := 303) (by decide +kernel))) rfl
theorem jw_im_X6_form : Cond.instanceMethod yX6_form ∈ jWG := jWG_in (List.mem_append_right _ (List.mem_of_getElem? (i := 304) (by decide +kernel))) rfl
theorem jw_se_X6_form : Cond.selects yX6_form.cls yX6_form yX6_form ∈ jWG := jWG_in (List.mem_append_right _ (List.mem_of_getElem? (i := 305) (by decide +kernel))) rfl
theorem jw_co_X6_form : Cond.code yX6_form cX6_form 4 (some .int) ∈ jWG := jWG_in (List.mem_append_right _ (List.mem_of_getElem? (i := 306) (by decide +kernel))) rfl
theorem jw_ml_X6_143 : Cond.methodLink RX6 143 yX1_writeForm ∈ jWG := jWG_in (List.mem_append_right _ (List.mem_of_getElem? (i := 307) (by decide +kernel))) rfl
theorem jw_st_X1_writeForm : Cond.static yX1_writeForm ∈ jWG := jWG_in (List.mem_append_right _ (List.mem_of_getElem? (i := 308) (by decide +kernel))) rfl
theorem jw_co_X1_writeForm : Cond.code yX1_writeForm cX1_writeForm 3 none ∈ jWG := jWG_in (List.mem_append_right _ (List.mem_of_getElem? (i := 309) (by decide +kernel))) rfl
theorem jw_ml_X1_15 : Cond.methodLink RX1 15 yX3_direction ∈ jWG := jWG_in (List.mem_append_right _ (List.mem_of_getElem? (i := 310) (by decide +kernel))) rfl
theorem jw_ml_X1_26 : Cond.methodLink RX1 26 yX0_turns ∈ jWG := jWG_in (List.mem_append_right _ (List.mem_of_getElem? (i := 312) (by decide +kernel))) rfl
theorem jw_ml_X1_31 : Cond.methodLink RX1 31 yX1_keepLesser ∈ jWG := jWG_in (List.mem_append_right _ (List.mem_of_getElem? (i := 313) (by decide +kernel))) rfl
theorem jw_st_X1_keepLesser : Cond.static yX1_keepLesser ∈ jWG := jWG_in (List.mem_append_right _ (List.mem_of_getElem? (i := 314) (by decide +kernel))) rfl
theorem jw_co_X1_keepLesser : Cond.code yX1_keepLesser cX1_keepLesser 5 none ∈ jWG := jWG_in (List.mem_append_right _ (List.mem_of_getElem? (i := 315) (by decide +kernel))) rfl
theorem jw_ml_X1_37 : Cond.methodLink RX1 37 yX1_isBelow ∈ jWG := jWG_in (List.mem_append_right _ (List.mem_of_getElem? (i := 316) (by decide +kernel))) rfl
theorem jw_st_X1_isBelow : Cond.static yX1_isBelow ∈ jWG := jWG_in (List.mem_append_right _ (List.mem_of_getElem? (i := 317) (by decide +kernel))) rfl
theorem jw_co_X1_isBelow : Cond.code yX1_isBelow cX1_isBelow 6 (some .boolean) ∈ jWG := jWG_in (List.mem_append_right _ (List.mem_of_getElem? (i := 318) (by decide +kernel))) rfl
theorem jw_ml_X1_41 : Cond.methodLink RX1 41 yX1_turnedStep ∈ jWG := jWG_in (List.mem_append_right _ (List.mem_of_getElem? (i := 319) (by decide +kernel))) rfl
theorem jw_st_X1_turnedStep : Cond.static yX1_turnedStep ∈ jWG := jWG_in (List.mem_append_right _ (List.mem_of_getElem? (i := 320) (by decide +kernel))) rfl
theorem jw_co_X1_turnedStep : Cond.code yX1_turnedStep cX1_turnedStep 5 (some .int) ∈ jWG := jWG_in (List.mem_append_right _ (List.mem_of_getElem? (i := 321) (by decide +kernel))) rfl
theorem jw_ml_X1_45 : Cond.methodLink RX1 45 yX0_opposite ∈ jWG := jWG_in (List.mem_append_right _ (List.mem_of_getElem? (i := 322) (by decide +kernel))) rfl
theorem jw_ml_X1_49 : Cond.methodLink RX1 49 yX0_turned ∈ jWG := jWG_in (List.mem_append_right _ (List.mem_of_getElem? (i := 323) (by decide +kernel))) rfl
theorem jw_ml_L_56 : Cond.methodLink RL 56 yX6_alike ∈ jWG := jWG_in (List.mem_append_right _ (List.mem_of_getElem? (i := 325) (by decide +kernel))) rfl
theorem jw_im_X6_alike : Cond.instanceMethod yX6_alike ∈ jWG := jWG_in (List.mem_append_right _ (List.mem_of_getElem? (i := 326) (by decide +kernel))) rfl
theorem jw_se_X6_alike : Cond.selects yX6_alike.cls yX6_alike yX6_alike ∈ jWG := jWG_in (List.mem_append_right _ (List.mem_of_getElem? (i := 327) (by decide +kernel))) rfl
theorem jw_co_X6_alike : Cond.code yX6_alike cX6_alike 6 (some .int) ∈ jWG := jWG_in (List.mem_append_right _ (List.mem_of_getElem? (i := 328) (by decide +kernel))) rfl
theorem jw_ml_L_60 : Cond.methodLink RL 60 yX6_walks ∈ jWG := jWG_in (List.mem_append_right _ (List.mem_of_getElem? (i := 329) (by decide +kernel))) rfl
theorem jw_im_X6_walks : Cond.instanceMethod yX6_walks ∈ jWG := jWG_in (List.mem_append_right _ (List.mem_of_getElem? (i := 330) (by decide +kernel))) rfl
theorem jw_se_X6_walks : Cond.selects yX6_walks.cls yX6_walks yX6_walks ∈ jWG := jWG_in (List.mem_append_right _ (List.mem_of_getElem? (i := 331) (by decide +kernel))) rfl
theorem jw_co_X6_walks : Cond.code yX6_walks cX6_walks 4 (some .int) ∈ jWG := jWG_in (List.mem_append_right _ (List.mem_of_getElem? (i := 332) (by decide +kernel))) rfl
theorem jw_ml_X6_149 : Cond.methodLink RX6 149 yX6_tallyFor ∈ jWG := jWG_in (List.mem_append_right _ (List.mem_of_getElem? (i := 333) (by decide +kernel))) rfl
theorem jw_im_X6_tallyFor : Cond.instanceMethod yX6_tallyFor ∈ jWG := jWG_in (List.mem_append_right _ (List.mem_of_getElem? (i := 335) (by decide +kernel))) rfl
theorem jw_co_X6_tallyFor : Cond.code yX6_tallyFor cX6_tallyFor 5 (some (.object "WalkGrounds$Tally")) ∈ jWG := jWG_in (List.mem_append_right _ (List.mem_of_getElem? (i := 336) (by decide +kernel))) rfl
theorem jw_ins_X4 : Cond.instantiable RX4 14 ∈ jWG := jWG_in (List.mem_append_right _ (List.mem_of_getElem? (i := 337) (by decide +kernel))) rfl
theorem jw_ml_X6_256 : Cond.methodLink RX6 256 yX4_init ∈ jWG := jWG_in (List.mem_append_right _ (List.mem_of_getElem? (i := 338) (by decide +kernel))) rfl
theorem jw_im_X4_init : Cond.instanceMethod yX4_init ∈ jWG := jWG_in (List.mem_append_right _ (List.mem_of_getElem? (i := 339) (by decide +kernel))) rfl
theorem jw_co_X4_init : Cond.code yX4_init cX4_init 3 none ∈ jWG := jWG_in (List.mem_append_right _ (List.mem_of_getElem? (i := 340) (by decide +kernel))) rfl
theorem jw_ml_X4_3 : Cond.methodLink RX4 3 Lib.objectInit ∈ jWG := jWG_in (List.mem_append_right _ (List.mem_of_getElem? (i := 341) (by decide +kernel))) rfl
theorem jw_fl_X4_45 : Cond.fieldLink RX4 45 "WalkGrounds$Tally" "ground" "I" ∈ jWG := jWG_in (List.mem_append_right _ (List.mem_of_getElem? (i := 342) (by decide +kernel))) rfl
theorem jw_fl_X4_48 : Cond.fieldLink RX4 48 "WalkGrounds$Tally" "range" "I" ∈ jWG := jWG_in (List.mem_append_right _ (List.mem_of_getElem? (i := 343) (by decide +kernel))) rfl
theorem jw_fl_X4_51 : Cond.fieldLink RX4 51 "WalkGrounds$Tally" "side" "I" ∈ jWG := jWG_in (List.mem_append_right _ (List.mem_of_getElem? (i := 344) (by decide +kernel))) rfl
theorem jw_fl_X4_54 : Cond.fieldLink RX4 54 "WalkGrounds$Tally" "taken" "[Z" ∈ jWG := jWG_in (List.mem_append_right _ (List.mem_of_getElem? (i := 345) (by decide +kernel))) rfl
theorem jw_fl_X4_9 : Cond.fieldLink RX4 9 "WalkGrounds$Tally" "walkCounts" "[I" ∈ jWG := jWG_in (List.mem_append_right _ (List.mem_of_getElem? (i := 346) (by decide +kernel))) rfl
theorem jw_fl_X6_156 : Cond.fieldLink RX6 156 "WalkGrounds$Tally" "walkCounts" "[I" ∈ jWG := jWG_in (List.mem_append_right _ (List.mem_of_getElem? (i := 347) (by decide +kernel))) rfl
theorem jw_fl_X4_15 : Cond.fieldLink RX4 15 "WalkGrounds$Tally" "squareSums" "[J" ∈ jWG := jWG_in (List.mem_append_right _ (List.mem_of_getElem? (i := 348) (by decide +kernel))) rfl
theorem jw_fl_X6_161 : Cond.fieldLink RX6 161 "WalkGrounds$Tally" "squareSums" "[J" ∈ jWG := jWG_in (List.mem_append_right _ (List.mem_of_getElem? (i := 349) (by decide +kernel))) rfl
theorem jw_fl_X4_19 : Cond.fieldLink RX4 19 "WalkGrounds$Tally" "ringCounts" "[I" ∈ jWG := jWG_in (List.mem_append_right _ (List.mem_of_getElem? (i := 350) (by decide +kernel))) rfl
theorem jw_fl_X6_170 : Cond.fieldLink RX6 170 "WalkGrounds$Tally" "ringCounts" "[I" ∈ jWG := jWG_in (List.mem_append_right _ (List.mem_of_getElem? (i := 351) (by decide +kernel))) rfl
theorem jw_fl_X4_22 : Cond.fieldLink RX4 22 "WalkGrounds$Tally" "bridgeCounts" "[I" ∈ jWG := jWG_in (List.mem_append_right _ (List.mem_of_getElem? (i := 352) (by decide +kernel))) rfl
theorem jw_fl_X6_173 : Cond.fieldLink RX6 173 "WalkGrounds$Tally" "bridgeCounts" "[I" ∈ jWG := jWG_in (List.mem_append_right _ (List.mem_of_getElem? (i := 353) (by decide +kernel))) rfl
theorem jw_fl_X4_25 : Cond.fieldLink RX4 25 "WalkGrounds$Tally" "formCounts" "[I" ∈ jWG := jWG_in (List.mem_append_right _ (List.mem_of_getElem? (i := 354) (by decide +kernel))) rfl
theorem jw_fl_X6_176 : Cond.fieldLink RX6 176 "WalkGrounds$Tally" "formCounts" "[I" ∈ jWG := jWG_in (List.mem_append_right _ (List.mem_of_getElem? (i := 355) (by decide +kernel))) rfl
theorem jw_fl_X4_28 : Cond.fieldLink RX4 28 "WalkGrounds$Tally" "reachCounts" "[I" ∈ jWG := jWG_in (List.mem_append_right _ (List.mem_of_getElem? (i := 356) (by decide +kernel))) rfl
theorem jw_fl_X6_190 : Cond.fieldLink RX6 190 "WalkGrounds$Tally" "reachCounts" "[I" ∈ jWG := jWG_in (List.mem_append_right _ (List.mem_of_getElem? (i := 357) (by decide +kernel))) rfl
theorem jw_fl_X4_31 : Cond.fieldLink RX4 31 "WalkGrounds$Tally" "level" "I" ∈ jWG := jWG_in (List.mem_append_right _ (List.mem_of_getElem? (i := 358) (by decide +kernel))) rfl
theorem jw_fl_X4_35 : Cond.fieldLink RX4 35 "WalkGrounds$Tally" "counted" "I" ∈ jWG := jWG_in (List.mem_append_right _ (List.mem_of_getElem? (i := 359) (by decide +kernel))) rfl
theorem jw_fl_X4_38 : Cond.fieldLink RX4 38 "WalkGrounds$Tally" "together" "I" ∈ jWG := jWG_in (List.mem_append_right _ (List.mem_of_getElem? (i := 360) (by decide +kernel))) rfl
theorem jw_fl_X4_41 : Cond.fieldLink RX4 41 "WalkGrounds$Tally" "spent" "Z" ∈ jWG := jWG_in (List.mem_append_right _ (List.mem_of_getElem? (i := 361) (by decide +kernel))) rfl
theorem jw_ac_long : Cond.arrayClass .long ∈ jWG := jWG_in (List.mem_append_right _ (List.mem_of_getElem? (i := 391) (by decide +kernel))) rfl
theorem jw_ac_boolean : Cond.arrayClass .boolean ∈ jWG := jWG_in (List.mem_append_right _ (List.mem_of_getElem? (i := 392) (by decide +kernel))) rfl
theorem jw_ml_X6_153 : Cond.methodLink RX6 153 yX4_holds ∈ jWG := jWG_in (List.mem_append_right _ (List.mem_of_getElem? (i := 393) (by decide +kernel))) rfl
theorem jw_im_X4_holds : Cond.instanceMethod yX4_holds ∈ jWG := jWG_in (List.mem_append_right _ (List.mem_of_getElem? (i := 394) (by decide +kernel))) rfl
theorem jw_se_X4_holds : Cond.selects yX4_holds.cls yX4_holds yX4_holds ∈ jWG := jWG_in (List.mem_append_right _ (List.mem_of_getElem? (i := 395) (by decide +kernel))) rfl
theorem jw_co_X4_holds : Cond.code yX4_holds cX4_holds 3 (some .boolean) ∈ jWG := jWG_in (List.mem_append_right _ (List.mem_of_getElem? (i := 396) (by decide +kernel))) rfl
theorem jw_ml_X4_58 : Cond.methodLink RX4 58 yX4_countLevel ∈ jWG := jWG_in (List.mem_append_right _ (List.mem_of_getElem? (i := 397) (by decide +kernel))) rfl
theorem jw_im_X4_countLevel : Cond.instanceMethod yX4_countLevel ∈ jWG := jWG_in (List.mem_append_right _ (List.mem_of_getElem? (i := 399) (by decide +kernel))) rfl
theorem jw_co_X4_countLevel : Cond.code yX4_countLevel cX4_countLevel 3 none ∈ jWG := jWG_in (List.mem_append_right _ (List.mem_of_getElem? (i := 400) (by decide +kernel))) rfl
theorem jw_ml_X4_62 : Cond.methodLink RX4 62 yX4_cellOf ∈ jWG := jWG_in (List.mem_append_right _ (List.mem_of_getElem? (i := 401) (by decide +kernel))) rfl
theorem jw_im_X4_cellOf : Cond.instanceMethod yX4_cellOf ∈ jWG := jWG_in (List.mem_append_right _ (List.mem_of_getElem? (i := 403) (by decide +kernel))) rfl
theorem jw_co_X4_cellOf : Cond.code yX4_cellOf cX4_cellOf 5 (some .int) ∈ jWG := jWG_in (List.mem_append_right _ (List.mem_of_getElem? (i := 404) (by decide +kernel))) rfl
theorem jw_ml_X4_66 : Cond.methodLink RX4 66 yX4_setTaken ∈ jWG := jWG_in (List.mem_append_right _ (List.mem_of_getElem? (i := 405) (by decide +kernel))) rfl
theorem jw_im_X4_setTaken : Cond.instanceMethod yX4_setTaken ∈ jWG := jWG_in (List.mem_append_right _ (List.mem_of_getElem? (i := 407) (by decide +kernel))) rfl
theorem jw_co_X4_setTaken : Cond.code yX4_setTaken cX4_setTaken 3 none ∈ jWG := jWG_in (List.mem_append_right _ (List.mem_of_getElem? (i := 408) (by decide +kernel))) rfl
theorem jw_ml_X4_70 : Cond.methodLink RX4 70 yX4_extend ∈ jWG := jWG_in (List.mem_append_right _ (List.mem_of_getElem? (i := 409) (by decide +kernel))) rfl
theorem jw_st_X4_extend : Cond.static yX4_extend ∈ jWG := jWG_in (List.mem_append_right _ (List.mem_of_getElem? (i := 410) (by decide +kernel))) rfl
theorem jw_co_X4_extend : Cond.code yX4_extend cX4_extend 14 none ∈ jWG := jWG_in (List.mem_append_right _ (List.mem_of_getElem? (i := 411) (by decide +kernel))) rfl
theorem jw_ml_X4_78 : Cond.methodLink RX4 78 yX0_directions ∈ jWG := jWG_in (List.mem_append_right _ (List.mem_of_getElem? (i := 412) (by decide +kernel))) rfl
theorem jw_ml_X4_84 : Cond.methodLink RX4 84 yX0_shiftX ∈ jWG := jWG_in (List.mem_append_right _ (List.mem_of_getElem? (i := 413) (by decide +kernel))) rfl
theorem jw_ml_X4_88 : Cond.methodLink RX4 88 yX0_shiftY ∈ jWG := jWG_in (List.mem_append_right _ (List.mem_of_getElem? (i := 414) (by decide +kernel))) rfl
theorem jw_ml_X4_92 : Cond.methodLink RX4 92 yX0_shiftZ ∈ jWG := jWG_in (List.mem_append_right _ (List.mem_of_getElem? (i := 415) (by decide +kernel))) rfl
theorem jw_ml_X4_95 : Cond.methodLink RX4 95 yX4_isTaken ∈ jWG := jWG_in (List.mem_append_right _ (List.mem_of_getElem? (i := 416) (by decide +kernel))) rfl
theorem jw_im_X4_isTaken : Cond.instanceMethod yX4_isTaken ∈ jWG := jWG_in (List.mem_append_right _ (List.mem_of_getElem? (i := 418) (by decide +kernel))) rfl
theorem jw_co_X4_isTaken : Cond.code yX4_isTaken cX4_isTaken 2 (some .boolean) ∈ jWG := jWG_in (List.mem_append_right _ (List.mem_of_getElem? (i := 419) (by decide +kernel))) rfl
theorem jw_ml_X4_99 : Cond.methodLink RX4 99 Lib.Math.max.name ∈ jWG := jWG_in (List.mem_append_right _ (List.mem_of_getElem? (i := 420) (by decide +kernel))) rfl
theorem jw_ml_X4_104 : Cond.methodLink RX4 104 yX4_score ∈ jWG := jWG_in (List.mem_append_right _ (List.mem_of_getElem? (i := 421) (by decide +kernel))) rfl
theorem jw_im_X4_score : Cond.instanceMethod yX4_score ∈ jWG := jWG_in (List.mem_append_right _ (List.mem_of_getElem? (i := 423) (by decide +kernel))) rfl
theorem jw_co_X4_score : Cond.code yX4_score cX4_score 5 none ∈ jWG := jWG_in (List.mem_append_right _ (List.mem_of_getElem? (i := 424) (by decide +kernel))) rfl
theorem jw_ml_X4_108 : Cond.methodLink RX4 108 yX0_square ∈ jWG := jWG_in (List.mem_append_right _ (List.mem_of_getElem? (i := 425) (by decide +kernel))) rfl
theorem jw_ml_X4_111 : Cond.methodLink RX4 111 yX0_isBesideBeginning ∈ jWG := jWG_in (List.mem_append_right _ (List.mem_of_getElem? (i := 426) (by decide +kernel))) rfl
theorem jw_k_X4_115 : Cond.constant RX4 115 (600000 : Int32) ∈ jWG := jWG_in (List.mem_append_right _ (List.mem_of_getElem? (i := 427) (by decide +kernel))) rfl
theorem jw_ml_L_64 : Cond.methodLink RL 64 yX6_squares ∈ jWG := jWG_in (List.mem_append_right _ (List.mem_of_getElem? (i := 429) (by decide +kernel))) rfl
theorem jw_im_X6_squares : Cond.instanceMethod yX6_squares ∈ jWG := jWG_in (List.mem_append_right _ (List.mem_of_getElem? (i := 430) (by decide +kernel))) rfl
theorem jw_se_X6_squares : Cond.selects yX6_squares.cls yX6_squares yX6_squares ∈ jWG := jWG_in (List.mem_append_right _ (List.mem_of_getElem? (i := 431) (by decide +kernel))) rfl
theorem jw_co_X6_squares : Cond.code yX6_squares cX6_squares 4 (some .long) ∈ jWG := jWG_in (List.mem_append_right _ (List.mem_of_getElem? (i := 432) (by decide +kernel))) rfl
theorem jw_k_X6_159 : Cond.constantLong RX6 159 (-2 : Int64) ∈ jWG := jWG_in (List.mem_append_right _ (List.mem_of_getElem? (i := 433) (by decide +kernel))) rfl
theorem jw_ml_X6_165 : Cond.methodLink RX6 165 yX6_cell_ ∈ jWG := jWG_in (List.mem_append_right _ (List.mem_of_getElem? (i := 434) (by decide +kernel))) rfl
theorem jw_st_X6_cell_ : Cond.static yX6_cell_ ∈ jWG := jWG_in (List.mem_append_right _ (List.mem_of_getElem? (i := 435) (by decide +kernel))) rfl
theorem jw_co_X6_cell_ : Cond.code yX6_cell_ cX6_cell_ 2 (some .long) ∈ jWG := jWG_in (List.mem_append_right _ (List.mem_of_getElem? (i := 436) (by decide +kernel))) rfl
theorem jw_k_X6_168 : Cond.constantLong RX6 168 (-5 : Int64) ∈ jWG := jWG_in (List.mem_append_right _ (List.mem_of_getElem? (i := 437) (by decide +kernel))) rfl
theorem jw_ml_L_69 : Cond.methodLink RL 69 yX6_rings ∈ jWG := jWG_in (List.mem_append_right _ (List.mem_of_getElem? (i := 438) (by decide +kernel))) rfl
theorem jw_im_X6_rings : Cond.instanceMethod yX6_rings ∈ jWG := jWG_in (List.mem_append_right _ (List.mem_of_getElem? (i := 439) (by decide +kernel))) rfl
theorem jw_se_X6_rings : Cond.selects yX6_rings.cls yX6_rings yX6_rings ∈ jWG := jWG_in (List.mem_append_right _ (List.mem_of_getElem? (i := 440) (by decide +kernel))) rfl
theorem jw_co_X6_rings : Cond.code yX6_rings cX6_rings 4 (some .int) ∈ jWG := jWG_in (List.mem_append_right _ (List.mem_of_getElem? (i := 441) (by decide +kernel))) rfl
theorem jw_ml_L_73 : Cond.methodLink RL 73 yX6_bridges ∈ jWG := jWG_in (List.mem_append_right _ (List.mem_of_getElem? (i := 442) (by decide +kernel))) rfl
theorem jw_im_X6_bridges : Cond.instanceMethod yX6_bridges ∈ jWG := jWG_in (List.mem_append_right _ (List.mem_of_getElem? (i := 443) (by decide +kernel))) rfl
theorem jw_se_X6_bridges : Cond.selects yX6_bridges.cls yX6_bridges yX6_bridges ∈ jWG := jWG_in (List.mem_append_right _ (List.mem_of_getElem? (i := 444) (by decide +kernel))) rfl
theorem jw_co_X6_bridges : Cond.code yX6_bridges cX6_bridges 4 (some .int) ∈ jWG := jWG_in (List.mem_append_right _ (List.mem_of_getElem? (i := 445) (by decide +kernel))) rfl
theorem jw_ml_L_77 : Cond.methodLink RL 77 yX6_forms ∈ jWG := jWG_in (List.mem_append_right _ (List.mem_of_getElem? (i := 446) (by decide +kernel))) rfl
theorem jw_im_X6_forms : Cond.instanceMethod yX6_forms ∈ jWG := jWG_in (List.mem_append_right _ (List.mem_of_getElem? (i := 447) (by decide +kernel))) rfl
theorem jw_se_X6_forms : Cond.selects yX6_forms.cls yX6_forms yX6_forms ∈ jWG := jWG_in (List.mem_append_right _ (List.mem_of_getElem? (i := 448) (by decide +kernel))) rfl
theorem jw_co_X6_forms : Cond.code yX6_forms cX6_forms 4 (some .int) ∈ jWG := jWG_in (List.mem_append_right _ (List.mem_of_getElem? (i := 449) (by decide +kernel))) rfl
theorem jw_st_X1_countForms : Cond.static yX1_countForms ∈ jWG := jWG_in (List.mem_append_right _ (List.mem_of_getElem? (i := 451) (by decide +kernel))) rfl
theorem jw_co_X1_countForms : Cond.code yX1_countForms cX1_countForms 5 (some .int) ∈ jWG := jWG_in (List.mem_append_right _ (List.mem_of_getElem? (i := 452) (by decide +kernel))) rfl
theorem jw_ml_X1_61 : Cond.methodLink RX1 61 yX1_isOwnForm ∈ jWG := jWG_in (List.mem_append_right _ (List.mem_of_getElem? (i := 453) (by decide +kernel))) rfl
theorem jw_st_X1_isOwnForm : Cond.static yX1_isOwnForm ∈ jWG := jWG_in (List.mem_append_right _ (List.mem_of_getElem? (i := 454) (by decide +kernel))) rfl
theorem jw_co_X1_isOwnForm : Cond.code yX1_isOwnForm cX1_isOwnForm 2 (some .boolean) ∈ jWG := jWG_in (List.mem_append_right _ (List.mem_of_getElem? (i := 455) (by decide +kernel))) rfl
theorem jw_ml_X1_65 : Cond.methodLink RX1 65 yX0_directions ∈ jWG := jWG_in (List.mem_append_right _ (List.mem_of_getElem? (i := 456) (by decide +kernel))) rfl
theorem jw_ml_X1_68 : Cond.methodLink RX1 68 yX3_lay ∈ jWG := jWG_in (List.mem_append_right _ (List.mem_of_getElem? (i := 457) (by decide +kernel))) rfl
theorem jw_ml_X1_72 : Cond.methodLink RX1 72 yX1_countForms ∈ jWG := jWG_in (List.mem_append_right _ (List.mem_of_getElem? (i := 458) (by decide +kernel))) rfl
theorem jw_ml_X1_76 : Cond.methodLink RX1 76 yX3_drop ∈ jWG := jWG_in (List.mem_append_right _ (List.mem_of_getElem? (i := 459) (by decide +kernel))) rfl
theorem jw_ml_X6_183 : Cond.methodLink RX6 183 yX6_put ∈ jWG := jWG_in (List.mem_append_right _ (List.mem_of_getElem? (i := 460) (by decide +kernel))) rfl
theorem jw_ml_L_81 : Cond.methodLink RL 81 yX6_reach ∈ jWG := jWG_in (List.mem_append_right _ (List.mem_of_getElem? (i := 461) (by decide +kernel))) rfl
theorem jw_im_X6_reach : Cond.instanceMethod yX6_reach ∈ jWG := jWG_in (List.mem_append_right _ (List.mem_of_getElem? (i := 462) (by decide +kernel))) rfl
theorem jw_se_X6_reach : Cond.selects yX6_reach.cls yX6_reach yX6_reach ∈ jWG := jWG_in (List.mem_append_right _ (List.mem_of_getElem? (i := 463) (by decide +kernel))) rfl
theorem jw_co_X6_reach : Cond.code yX6_reach cX6_reach 6 (some .int) ∈ jWG := jWG_in (List.mem_append_right _ (List.mem_of_getElem? (i := 464) (by decide +kernel))) rfl
theorem jw_ml_X6_187 : Cond.methodLink RX6 187 yX0_directions ∈ jWG := jWG_in (List.mem_append_right _ (List.mem_of_getElem? (i := 465) (by decide +kernel))) rfl
theorem jw_cl_X6_193 : Cond.classLink RX6 193 RX5 ∈ jWG := jWG_in (List.mem_append_right _ (List.mem_of_getElem? (i := 466) (by decide +kernel))) rfl
theorem jw_ins_X5 : Cond.instantiable RX5 7 ∈ jWG := jWG_in (List.mem_append_right _ (List.mem_of_getElem? (i := 467) (by decide +kernel))) rfl
theorem jw_ml_X6_195 : Cond.methodLink RX6 195 yX5_init ∈ jWG := jWG_in (List.mem_append_right _ (List.mem_of_getElem? (i := 468) (by decide +kernel))) rfl
theorem jw_im_X5_init : Cond.instanceMethod yX5_init ∈ jWG := jWG_in (List.mem_append_right _ (List.mem_of_getElem? (i := 469) (by decide +kernel))) rfl
theorem jw_co_X5_init : Cond.code yX5_init cX5_init 5 none ∈ jWG := jWG_in (List.mem_append_right _ (List.mem_of_getElem? (i := 470) (by decide +kernel))) rfl
theorem jw_ml_X5_3 : Cond.methodLink RX5 3 Lib.objectInit ∈ jWG := jWG_in (List.mem_append_right _ (List.mem_of_getElem? (i := 471) (by decide +kernel))) rfl
theorem jw_ml_X5_22 : Cond.methodLink RX5 22 Lib.Math.min.name ∈ jWG := jWG_in (List.mem_append_right _ (List.mem_of_getElem? (i := 472) (by decide +kernel))) rfl
theorem jw_ml_X5_28 : Cond.methodLink RX5 28 Lib.Math.max.name ∈ jWG := jWG_in (List.mem_append_right _ (List.mem_of_getElem? (i := 473) (by decide +kernel))) rfl
theorem jw_ml_X5_34 : Cond.methodLink RX5 34 yX0_directions ∈ jWG := jWG_in (List.mem_append_right _ (List.mem_of_getElem? (i := 474) (by decide +kernel))) rfl
theorem jw_fl_X5_19 : Cond.fieldLink RX5 19 "WalkGrounds$Turnings" "ground" "I" ∈ jWG := jWG_in (List.mem_append_right _ (List.mem_of_getElem? (i := 475) (by decide +kernel))) rfl
theorem jw_fl_X5_31 : Cond.fieldLink RX5 31 "WalkGrounds$Turnings" "steps" "I" ∈ jWG := jWG_in (List.mem_append_right _ (List.mem_of_getElem? (i := 476) (by decide +kernel))) rfl
theorem jw_fl_X5_40 : Cond.fieldLink RX5 40 "WalkGrounds$Turnings" "base" "I" ∈ jWG := jWG_in (List.mem_append_right _ (List.mem_of_getElem? (i := 477) (by decide +kernel))) rfl
theorem jw_fl_X5_43 : Cond.fieldLink RX5 43 "WalkGrounds$Turnings" "states" "[B" ∈ jWG := jWG_in (List.mem_append_right _ (List.mem_of_getElem? (i := 478) (by decide +kernel))) rfl
theorem jw_fl_X5_47 : Cond.fieldLink RX5 47 "WalkGrounds$Turnings" "queue" "[I" ∈ jWG := jWG_in (List.mem_append_right _ (List.mem_of_getElem? (i := 479) (by decide +kernel))) rfl
theorem jw_fl_X5_9 : Cond.fieldLink RX5 9 "WalkGrounds$Turnings" "digits" "[I" ∈ jWG := jWG_in (List.mem_append_right _ (List.mem_of_getElem? (i := 480) (by decide +kernel))) rfl
theorem jw_fl_X5_15 : Cond.fieldLink RX5 15 "WalkGrounds$Turnings" "queued" "I" ∈ jWG := jWG_in (List.mem_append_right _ (List.mem_of_getElem? (i := 481) (by decide +kernel))) rfl
theorem jw_ac_byte : Cond.arrayClass .byte ∈ jWG := jWG_in (List.mem_append_right _ (List.mem_of_getElem? (i := 497) (by decide +kernel))) rfl
theorem jw_ml_X6_198 : Cond.methodLink RX6 198 yX5_countReached ∈ jWG := jWG_in (List.mem_append_right _ (List.mem_of_getElem? (i := 498) (by decide +kernel))) rfl
theorem jw_im_X5_countReached : Cond.instanceMethod yX5_countReached ∈ jWG := jWG_in (List.mem_append_right _ (List.mem_of_getElem? (i := 499) (by decide +kernel))) rfl
theorem jw_se_X5_countReached : Cond.selects yX5_countReached.cls yX5_countReached yX5_countReached ∈ jWG := jWG_in (List.mem_append_right _ (List.mem_of_getElem? (i := 500) (by decide +kernel))) rfl
theorem jw_co_X5_countReached : Cond.code yX5_countReached cX5_countReached 5 (some .int) ∈ jWG := jWG_in (List.mem_append_right _ (List.mem_of_getElem? (i := 501) (by decide +kernel))) rfl
theorem jw_ml_X5_50 : Cond.methodLink RX5 50 yX3_begin ∈ jWG := jWG_in (List.mem_append_right _ (List.mem_of_getElem? (i := 502) (by decide +kernel))) rfl
theorem jw_ml_X5_56 : Cond.methodLink RX5 56 yX5_markWalks ∈ jWG := jWG_in (List.mem_append_right _ (List.mem_of_getElem? (i := 503) (by decide +kernel))) rfl
theorem jw_st_X5_markWalks : Cond.static yX5_markWalks ∈ jWG := jWG_in (List.mem_append_right _ (List.mem_of_getElem? (i := 504) (by decide +kernel))) rfl
theorem jw_co_X5_markWalks : Cond.code yX5_markWalks cX5_markWalks 5 none ∈ jWG := jWG_in (List.mem_append_right _ (List.mem_of_getElem? (i := 505) (by decide +kernel))) rfl
theorem jw_ml_X5_72 : Cond.methodLink RX5 72 yX3_lay ∈ jWG := jWG_in (List.mem_append_right _ (List.mem_of_getElem? (i := 506) (by decide +kernel))) rfl
theorem jw_ml_X5_76 : Cond.methodLink RX5 76 yX3_drop ∈ jWG := jWG_in (List.mem_append_right _ (List.mem_of_getElem? (i := 507) (by decide +kernel))) rfl
theorem jw_ml_X5_60 : Cond.methodLink RX5 60 yX5_arriveAt ∈ jWG := jWG_in (List.mem_append_right _ (List.mem_of_getElem? (i := 508) (by decide +kernel))) rfl
theorem jw_im_X5_arriveAt : Cond.instanceMethod yX5_arriveAt ∈ jWG := jWG_in (List.mem_append_right _ (List.mem_of_getElem? (i := 510) (by decide +kernel))) rfl
theorem jw_co_X5_arriveAt : Cond.code yX5_arriveAt cX5_arriveAt 2 none ∈ jWG := jWG_in (List.mem_append_right _ (List.mem_of_getElem? (i := 511) (by decide +kernel))) rfl
theorem jw_ml_X5_63 : Cond.methodLink RX5 63 yX5_takeApart ∈ jWG := jWG_in (List.mem_append_right _ (List.mem_of_getElem? (i := 512) (by decide +kernel))) rfl
theorem jw_im_X5_takeApart : Cond.instanceMethod yX5_takeApart ∈ jWG := jWG_in (List.mem_append_right _ (List.mem_of_getElem? (i := 514) (by decide +kernel))) rfl
theorem jw_co_X5_takeApart : Cond.code yX5_takeApart cX5_takeApart 4 none ∈ jWG := jWG_in (List.mem_append_right _ (List.mem_of_getElem? (i := 515) (by decide +kernel))) rfl
theorem jw_ml_X5_66 : Cond.methodLink RX5 66 yX0_turns ∈ jWG := jWG_in (List.mem_append_right _ (List.mem_of_getElem? (i := 517) (by decide +kernel))) rfl
theorem jw_ml_X5_69 : Cond.methodLink RX5 69 yX5_numberTurned ∈ jWG := jWG_in (List.mem_append_right _ (List.mem_of_getElem? (i := 518) (by decide +kernel))) rfl
theorem jw_im_X5_numberTurned : Cond.instanceMethod yX5_numberTurned ∈ jWG := jWG_in (List.mem_append_right _ (List.mem_of_getElem? (i := 520) (by decide +kernel))) rfl
theorem jw_co_X5_numberTurned : Cond.code yX5_numberTurned cX5_numberTurned 6 (some .int) ∈ jWG := jWG_in (List.mem_append_right _ (List.mem_of_getElem? (i := 521) (by decide +kernel))) rfl
theorem jw_ml_X5_87 : Cond.methodLink RX5 87 yX0_turned ∈ jWG := jWG_in (List.mem_append_right _ (List.mem_of_getElem? (i := 523) (by decide +kernel))) rfl
theorem jw_ml_L_85 : Cond.methodLink RL 85 yX6_board ∈ jWG := jWG_in (List.mem_append_right _ (List.mem_of_getElem? (i := 524) (by decide +kernel))) rfl
theorem jw_im_X6_board : Cond.instanceMethod yX6_board ∈ jWG := jWG_in (List.mem_append_right _ (List.mem_of_getElem? (i := 525) (by decide +kernel))) rfl
theorem jw_se_X6_board : Cond.selects yX6_board.cls yX6_board yX6_board ∈ jWG := jWG_in (List.mem_append_right _ (List.mem_of_getElem? (i := 526) (by decide +kernel))) rfl
theorem jw_co_X6_board : Cond.code yX6_board cX6_board 3 (some .int) ∈ jWG := jWG_in (List.mem_append_right _ (List.mem_of_getElem? (i := 527) (by decide +kernel))) rfl
theorem jw_ml_X6_202 : Cond.methodLink RX6 202 yX2_lay ∈ jWG := jWG_in (List.mem_append_right _ (List.mem_of_getElem? (i := 528) (by decide +kernel))) rfl
theorem jw_ml_L_89 : Cond.methodLink RL 89 yX6_hole ∈ jWG := jWG_in (List.mem_append_right _ (List.mem_of_getElem? (i := 529) (by decide +kernel))) rfl
theorem jw_im_X6_hole : Cond.instanceMethod yX6_hole ∈ jWG := jWG_in (List.mem_append_right _ (List.mem_of_getElem? (i := 530) (by decide +kernel))) rfl
theorem jw_se_X6_hole : Cond.selects yX6_hole.cls yX6_hole yX6_hole ∈ jWG := jWG_in (List.mem_append_right _ (List.mem_of_getElem? (i := 531) (by decide +kernel))) rfl
theorem jw_co_X6_hole : Cond.code yX6_hole cX6_hole 4 (some .int) ∈ jWG := jWG_in (List.mem_append_right _ (List.mem_of_getElem? (i := 532) (by decide +kernel))) rfl
theorem jw_ml_X6_211 : Cond.methodLink RX6 211 yX2_isHole ∈ jWG := jWG_in (List.mem_append_right _ (List.mem_of_getElem? (i := 533) (by decide +kernel))) rfl
theorem jw_im_X2_isHole : Cond.instanceMethod yX2_isHole ∈ jWG := jWG_in (List.mem_append_right _ (List.mem_of_getElem? (i := 534) (by decide +kernel))) rfl
theorem jw_se_X2_isHole : Cond.selects yX2_isHole.cls yX2_isHole yX2_isHole ∈ jWG := jWG_in (List.mem_append_right _ (List.mem_of_getElem? (i := 535) (by decide +kernel))) rfl
theorem jw_co_X2_isHole : Cond.code yX2_isHole cX2_isHole 3 (some .boolean) ∈ jWG := jWG_in (List.mem_append_right _ (List.mem_of_getElem? (i := 536) (by decide +kernel))) rfl
theorem jw_ml_X6_214 : Cond.methodLink RX6 214 yX2_isCorner ∈ jWG := jWG_in (List.mem_append_right _ (List.mem_of_getElem? (i := 537) (by decide +kernel))) rfl
theorem jw_im_X2_isCorner : Cond.instanceMethod yX2_isCorner ∈ jWG := jWG_in (List.mem_append_right _ (List.mem_of_getElem? (i := 538) (by decide +kernel))) rfl
theorem jw_se_X2_isCorner : Cond.selects yX2_isCorner.cls yX2_isCorner yX2_isCorner ∈ jWG := jWG_in (List.mem_append_right _ (List.mem_of_getElem? (i := 539) (by decide +kernel))) rfl
theorem jw_co_X2_isCorner : Cond.code yX2_isCorner cX2_isCorner 3 (some .boolean) ∈ jWG := jWG_in (List.mem_append_right _ (List.mem_of_getElem? (i := 540) (by decide +kernel))) rfl
theorem jw_ml_X6_217 : Cond.methodLink RX6 217 yX2_turnOver ∈ jWG := jWG_in (List.mem_append_right _ (List.mem_of_getElem? (i := 541) (by decide +kernel))) rfl
theorem jw_im_X2_turnOver : Cond.instanceMethod yX2_turnOver ∈ jWG := jWG_in (List.mem_append_right _ (List.mem_of_getElem? (i := 542) (by decide +kernel))) rfl
theorem jw_se_X2_turnOver : Cond.selects yX2_turnOver.cls yX2_turnOver yX2_turnOver ∈ jWG := jWG_in (List.mem_append_right _ (List.mem_of_getElem? (i := 543) (by decide +kernel))) rfl
theorem jw_co_X2_turnOver : Cond.code yX2_turnOver cX2_turnOver 3 none ∈ jWG := jWG_in (List.mem_append_right _ (List.mem_of_getElem? (i := 544) (by decide +kernel))) rfl
theorem jw_ml_L_94 : Cond.methodLink RL 94 yX6_ways ∈ jWG := jWG_in (List.mem_append_right _ (List.mem_of_getElem? (i := 545) (by decide +kernel))) rfl
theorem jw_im_X6_ways : Cond.instanceMethod yX6_ways ∈ jWG := jWG_in (List.mem_append_right _ (List.mem_of_getElem? (i := 546) (by decide +kernel))) rfl
theorem jw_se_X6_ways : Cond.selects yX6_ways.cls yX6_ways yX6_ways ∈ jWG := jWG_in (List.mem_append_right _ (List.mem_of_getElem? (i := 547) (by decide +kernel))) rfl
theorem jw_co_X6_ways : Cond.code yX6_ways cX6_ways 2 (some .int) ∈ jWG := jWG_in (List.mem_append_right _ (List.mem_of_getElem? (i := 548) (by decide +kernel))) rfl
theorem jw_ml_X6_220 : Cond.methodLink RX6 220 yX2_holds ∈ jWG := jWG_in (List.mem_append_right _ (List.mem_of_getElem? (i := 549) (by decide +kernel))) rfl
theorem jw_im_X2_holds : Cond.instanceMethod yX2_holds ∈ jWG := jWG_in (List.mem_append_right _ (List.mem_of_getElem? (i := 550) (by decide +kernel))) rfl
theorem jw_se_X2_holds : Cond.selects yX2_holds.cls yX2_holds yX2_holds ∈ jWG := jWG_in (List.mem_append_right _ (List.mem_of_getElem? (i := 551) (by decide +kernel))) rfl
theorem jw_co_X2_holds : Cond.code yX2_holds cX2_holds 1 (some .boolean) ∈ jWG := jWG_in (List.mem_append_right _ (List.mem_of_getElem? (i := 552) (by decide +kernel))) rfl
theorem jw_ml_X2_54 : Cond.methodLink RX2 54 yX2_countWays ∈ jWG := jWG_in (List.mem_append_right _ (List.mem_of_getElem? (i := 553) (by decide +kernel))) rfl
theorem jw_im_X2_countWays : Cond.instanceMethod yX2_countWays ∈ jWG := jWG_in (List.mem_append_right _ (List.mem_of_getElem? (i := 555) (by decide +kernel))) rfl
theorem jw_co_X2_countWays : Cond.code yX2_countWays cX2_countWays 2 none ∈ jWG := jWG_in (List.mem_append_right _ (List.mem_of_getElem? (i := 556) (by decide +kernel))) rfl
theorem jw_k_X2_57 : Cond.constantLong RX2 57 (-1 : Int64) ∈ jWG := jWG_in (List.mem_append_right _ (List.mem_of_getElem? (i := 557) (by decide +kernel))) rfl
theorem jw_ml_X2_59 : Cond.methodLink RX2 59 yX2_extend ∈ jWG := jWG_in (List.mem_append_right _ (List.mem_of_getElem? (i := 558) (by decide +kernel))) rfl
theorem jw_st_X2_extend : Cond.static yX2_extend ∈ jWG := jWG_in (List.mem_append_right _ (List.mem_of_getElem? (i := 559) (by decide +kernel))) rfl
theorem jw_co_X2_extend : Cond.code yX2_extend cX2_extend 13 none ∈ jWG := jWG_in (List.mem_append_right _ (List.mem_of_getElem? (i := 560) (by decide +kernel))) rfl
theorem jw_fl_X2_63 : Cond.fieldLink RX2 63 "WalkGrounds$Plane" "SHIFTS" "[I" ∈ jWG := jWG_in (List.mem_append_right _ (List.mem_of_getElem? (i := 561) (by decide +kernel))) rfl
theorem jw_k_X2_66 : Cond.constant RX2 66 (600000 : Int32) ∈ jWG := jWG_in (List.mem_append_right _ (List.mem_of_getElem? (i := 563) (by decide +kernel))) rfl
theorem jw_ml_X2_67 : Cond.methodLink RX2 67 yX2_score ∈ jWG := jWG_in (List.mem_append_right _ (List.mem_of_getElem? (i := 564) (by decide +kernel))) rfl
theorem jw_im_X2_score : Cond.instanceMethod yX2_score ∈ jWG := jWG_in (List.mem_append_right _ (List.mem_of_getElem? (i := 566) (by decide +kernel))) rfl
theorem jw_co_X2_score : Cond.code yX2_score cX2_score 3 none ∈ jWG := jWG_in (List.mem_append_right _ (List.mem_of_getElem? (i := 567) (by decide +kernel))) rfl
theorem jw_ml_L_99 : Cond.methodLink RL 99 yX6_waysOf ∈ jWG := jWG_in (List.mem_append_right _ (List.mem_of_getElem? (i := 570) (by decide +kernel))) rfl
theorem jw_im_X6_waysOf : Cond.instanceMethod yX6_waysOf ∈ jWG := jWG_in (List.mem_append_right _ (List.mem_of_getElem? (i := 571) (by decide +kernel))) rfl
theorem jw_se_X6_waysOf : Cond.selects yX6_waysOf.cls yX6_waysOf yX6_waysOf ∈ jWG := jWG_in (List.mem_append_right _ (List.mem_of_getElem? (i := 572) (by decide +kernel))) rfl
theorem jw_co_X6_waysOf : Cond.code yX6_waysOf cX6_waysOf 2 (some .int) ∈ jWG := jWG_in (List.mem_append_right _ (List.mem_of_getElem? (i := 573) (by decide +kernel))) rfl
theorem jw_ml_L_103 : Cond.methodLink RL 103 yX6_shortest ∈ jWG := jWG_in (List.mem_append_right _ (List.mem_of_getElem? (i := 574) (by decide +kernel))) rfl
theorem jw_im_X6_shortest : Cond.instanceMethod yX6_shortest ∈ jWG := jWG_in (List.mem_append_right _ (List.mem_of_getElem? (i := 575) (by decide +kernel))) rfl
theorem jw_se_X6_shortest : Cond.selects yX6_shortest.cls yX6_shortest yX6_shortest ∈ jWG := jWG_in (List.mem_append_right _ (List.mem_of_getElem? (i := 576) (by decide +kernel))) rfl
theorem jw_co_X6_shortest : Cond.code yX6_shortest cX6_shortest 1 (some .int) ∈ jWG := jWG_in (List.mem_append_right _ (List.mem_of_getElem? (i := 577) (by decide +kernel))) rfl
theorem jw_ml_X6_231 : Cond.methodLink RX6 231 yX2_shortestSteps ∈ jWG := jWG_in (List.mem_append_right _ (List.mem_of_getElem? (i := 578) (by decide +kernel))) rfl
theorem jw_im_X2_shortestSteps : Cond.instanceMethod yX2_shortestSteps ∈ jWG := jWG_in (List.mem_append_right _ (List.mem_of_getElem? (i := 579) (by decide +kernel))) rfl
theorem jw_se_X2_shortestSteps : Cond.selects yX2_shortestSteps.cls yX2_shortestSteps yX2_shortestSteps ∈ jWG := jWG_in (List.mem_append_right _ (List.mem_of_getElem? (i := 580) (by decide +kernel))) rfl
theorem jw_co_X2_shortestSteps : Cond.code yX2_shortestSteps cX2_shortestSteps 8 (some .int) ∈ jWG := jWG_in (List.mem_append_right _ (List.mem_of_getElem? (i := 581) (by decide +kernel))) rfl
theorem jw_ml_L_108 : Cond.methodLink RL 108 yX6_count ∈ jWG := jWG_in (List.mem_append_right _ (List.mem_of_getElem? (i := 582) (by decide +kernel))) rfl
theorem jw_im_X6_count : Cond.instanceMethod yX6_count ∈ jWG := jWG_in (List.mem_append_right _ (List.mem_of_getElem? (i := 583) (by decide +kernel))) rfl
theorem jw_se_X6_count : Cond.selects yX6_count.cls yX6_count yX6_count ∈ jWG := jWG_in (List.mem_append_right _ (List.mem_of_getElem? (i := 584) (by decide +kernel))) rfl
theorem jw_co_X6_count : Cond.code yX6_count cX6_count 2 (some .int) ∈ jWG := jWG_in (List.mem_append_right _ (List.mem_of_getElem? (i := 585) (by decide +kernel))) rfl
theorem jw_ml_X6_238 : Cond.methodLink RX6 238 yJ13_bitCount_95d88 ∈ jWG := jWG_in (List.mem_append_right _ (List.mem_of_getElem? (i := 586) (by decide +kernel))) rfl
theorem jw_st_J13_bitCount_95d88 : Cond.static yJ13_bitCount_95d88 ∈ jWG := jWG_in (List.mem_append_right _ (List.mem_of_getElem? (i := 587) (by decide +kernel))) rfl
theorem jw_co_J13_bitCount_95d88 : Cond.code yJ13_bitCount_95d88 cJ13_bitCount_95d88 2 (some .int) ∈ jWG := jWG_in (List.mem_append_right _ (List.mem_of_getElem? (i := 588) (by decide +kernel))) rfl
theorem jw_k_J13_314 : Cond.constantLong RJ13 314 (6148914691236517205 : Int64) ∈ jWG := jWG_in (List.mem_append_right _ (List.mem_of_getElem? (i := 589) (by decide +kernel))) rfl
theorem jw_k_J13_316 : Cond.constantLong RJ13 316 (3689348814741910323 : Int64) ∈ jWG := jWG_in (List.mem_append_right _ (List.mem_of_getElem? (i := 590) (by decide +kernel))) rfl
theorem jw_k_J13_318 : Cond.constantLong RJ13 318 (1085102592571150095 : Int64) ∈ jWG := jWG_in (List.mem_append_right _ (List.mem_of_getElem? (i := 591) (by decide +kernel))) rfl
theorem jw_ml_L_112 : Cond.methodLink RL 112 yX6_digest ∈ jWG := jWG_in (List.mem_append_right _ (List.mem_of_getElem? (i := 592) (by decide +kernel))) rfl
theorem jw_im_X6_digest : Cond.instanceMethod yX6_digest ∈ jWG := jWG_in (List.mem_append_right _ (List.mem_of_getElem? (i := 593) (by decide +kernel))) rfl
theorem jw_se_X6_digest : Cond.selects yX6_digest.cls yX6_digest yX6_digest ∈ jWG := jWG_in (List.mem_append_right _ (List.mem_of_getElem? (i := 594) (by decide +kernel))) rfl
theorem jw_co_X6_digest : Cond.code yX6_digest cX6_digest 5 (some .long) ∈ jWG := jWG_in (List.mem_append_right _ (List.mem_of_getElem? (i := 595) (by decide +kernel))) rfl
theorem jw_k_X6_244 : Cond.constantLong RX6 244 (107 : Int64) ∈ jWG := jWG_in (List.mem_append_right _ (List.mem_of_getElem? (i := 596) (by decide +kernel))) rfl
theorem jw_k_X6_246 : Cond.constantLong RX6 246 (31 : Int64) ∈ jWG := jWG_in (List.mem_append_right _ (List.mem_of_getElem? (i := 597) (by decide +kernel))) rfl
theorem jw_ml_X6_248 : Cond.methodLink RX6 248 yX6_count ∈ jWG := jWG_in (List.mem_append_right _ (List.mem_of_getElem? (i := 598) (by decide +kernel))) rfl
theorem jw_ml_X6_251 : Cond.methodLink RX6 251 yX3_digestOnto ∈ jWG := jWG_in (List.mem_append_right _ (List.mem_of_getElem? (i := 599) (by decide +kernel))) rfl
theorem jw_im_X3_digestOnto : Cond.instanceMethod yX3_digestOnto ∈ jWG := jWG_in (List.mem_append_right _ (List.mem_of_getElem? (i := 600) (by decide +kernel))) rfl
theorem jw_se_X3_digestOnto : Cond.selects yX3_digestOnto.cls yX3_digestOnto yX3_digestOnto ∈ jWG := jWG_in (List.mem_append_right _ (List.mem_of_getElem? (i := 601) (by decide +kernel))) rfl
theorem jw_co_X3_digestOnto : Cond.code yX3_digestOnto cX3_digestOnto 6 (some .long) ∈ jWG := jWG_in (List.mem_append_right _ (List.mem_of_getElem? (i := 602) (by decide +kernel))) rfl
theorem jw_k_X3_95 : Cond.constantLong RX3 95 (31 : Int64) ∈ jWG := jWG_in (List.mem_append_right _ (List.mem_of_getElem? (i := 603) (by decide +kernel))) rfl
theorem jw_ml_X6_255 : Cond.methodLink RX6 255 yX2_digestOnto ∈ jWG := jWG_in (List.mem_append_right _ (List.mem_of_getElem? (i := 604) (by decide +kernel))) rfl
theorem jw_im_X2_digestOnto : Cond.instanceMethod yX2_digestOnto ∈ jWG := jWG_in (List.mem_append_right _ (List.mem_of_getElem? (i := 605) (by decide +kernel))) rfl
theorem jw_se_X2_digestOnto : Cond.selects yX2_digestOnto.cls yX2_digestOnto yX2_digestOnto ∈ jWG := jWG_in (List.mem_append_right _ (List.mem_of_getElem? (i := 606) (by decide +kernel))) rfl
theorem jw_co_X2_digestOnto : Cond.code yX2_digestOnto cX2_digestOnto 7 (some .long) ∈ jWG := jWG_in (List.mem_append_right _ (List.mem_of_getElem? (i := 607) (by decide +kernel))) rfl
theorem jw_ml_X2_79 : Cond.methodLink RX2 79 yX2_isHole ∈ jWG := jWG_in (List.mem_append_right _ (List.mem_of_getElem? (i := 608) (by decide +kernel))) rfl
theorem jw_k_X2_83 : Cond.constantLong RX2 83 (31 : Int64) ∈ jWG := jWG_in (List.mem_append_right _ (List.mem_of_getElem? (i := 609) (by decide +kernel))) rfl
theorem jw_cl_L_10 : Cond.classLink RL 10 RX7 ∈ jWG := jWG_in (List.mem_append_right _ (List.mem_of_getElem? (i := 610) (by decide +kernel))) rfl
theorem jw_ins_X7 : Cond.instantiable RX7 34 ∈ jWG := jWG_in (List.mem_append_right _ (List.mem_of_getElem? (i := 611) (by decide +kernel))) rfl
theorem jw_ml_L_12 : Cond.methodLink RL 12 yX7_init ∈ jWG := jWG_in (List.mem_append_right _ (List.mem_of_getElem? (i := 612) (by decide +kernel))) rfl
theorem jw_im_X7_init : Cond.instanceMethod yX7_init ∈ jWG := jWG_in (List.mem_append_right _ (List.mem_of_getElem? (i := 613) (by decide +kernel))) rfl
theorem jw_co_X7_init : Cond.code yX7_init cX7_init 1 none ∈ jWG := jWG_in (List.mem_append_right _ (List.mem_of_getElem? (i := 614) (by decide +kernel))) rfl
theorem jw_ml_X7_1 : Cond.methodLink RX7 1 Lib.objectInit ∈ jWG := jWG_in (List.mem_append_right _ (List.mem_of_getElem? (i := 615) (by decide +kernel))) rfl
theorem jw_k_X7_54 : Cond.constant RX7 54 (79507 : Int32) ∈ jWG := jWG_in (List.mem_append_right _ (List.mem_of_getElem? (i := 616) (by decide +kernel))) rfl
theorem jw_fl_X7_102 : Cond.fieldLink RX7 102 "WalkGroundsModel" "walks" "I" ∈ jWG := jWG_in (List.mem_append_right _ (List.mem_of_getElem? (i := 617) (by decide +kernel))) rfl
theorem jw_fl_X7_7 : Cond.fieldLink RX7 7 "WalkGroundsModel" "ground" "[I" ∈ jWG := jWG_in (List.mem_append_right _ (List.mem_of_getElem? (i := 618) (by decide +kernel))) rfl
theorem jw_fl_X7_13 : Cond.fieldLink RX7 13 "WalkGroundsModel" "many" "[I" ∈ jWG := jWG_in (List.mem_append_right _ (List.mem_of_getElem? (i := 619) (by decide +kernel))) rfl
theorem jw_fl_X7_16 : Cond.fieldLink RX7 16 "WalkGroundsModel" "step" "[I" ∈ jWG := jWG_in (List.mem_append_right _ (List.mem_of_getElem? (i := 620) (by decide +kernel))) rfl
theorem jw_fl_X7_19 : Cond.fieldLink RX7 19 "WalkGroundsModel" "row" "[I" ∈ jWG := jWG_in (List.mem_append_right _ (List.mem_of_getElem? (i := 621) (by decide +kernel))) rfl
theorem jw_fl_X7_109 : Cond.fieldLink RX7 109 "WalkGroundsModel" "rowLong" "I" ∈ jWG := jWG_in (List.mem_append_right _ (List.mem_of_getElem? (i := 622) (by decide +kernel))) rfl
theorem jw_fl_X7_22 : Cond.fieldLink RX7 22 "WalkGroundsModel" "px" "[I" ∈ jWG := jWG_in (List.mem_append_right _ (List.mem_of_getElem? (i := 623) (by decide +kernel))) rfl
theorem jw_fl_X7_25 : Cond.fieldLink RX7 25 "WalkGroundsModel" "py" "[I" ∈ jWG := jWG_in (List.mem_append_right _ (List.mem_of_getElem? (i := 624) (by decide +kernel))) rfl
theorem jw_fl_X7_28 : Cond.fieldLink RX7 28 "WalkGroundsModel" "pz" "[I" ∈ jWG := jWG_in (List.mem_append_right _ (List.mem_of_getElem? (i := 625) (by decide +kernel))) rfl
theorem jw_fl_X7_31 : Cond.fieldLink RX7 31 "WalkGroundsModel" "form" "[I" ∈ jWG := jWG_in (List.mem_append_right _ (List.mem_of_getElem? (i := 626) (by decide +kernel))) rfl
theorem jw_fl_X7_34 : Cond.fieldLink RX7 34 "WalkGroundsModel" "other" "[I" ∈ jWG := jWG_in (List.mem_append_right _ (List.mem_of_getElem? (i := 627) (by decide +kernel))) rfl
theorem jw_fl_X7_37 : Cond.fieldLink RX7 37 "WalkGroundsModel" "isKnown" "[Z" ∈ jWG := jWG_in (List.mem_append_right _ (List.mem_of_getElem? (i := 628) (by decide +kernel))) rfl
theorem jw_fl_X7_41 : Cond.fieldLink RX7 41 "WalkGroundsModel" "counted" "[I" ∈ jWG := jWG_in (List.mem_append_right _ (List.mem_of_getElem? (i := 629) (by decide +kernel))) rfl
theorem jw_fl_X7_44 : Cond.fieldLink RX7 44 "WalkGroundsModel" "squared" "[J" ∈ jWG := jWG_in (List.mem_append_right _ (List.mem_of_getElem? (i := 630) (by decide +kernel))) rfl
theorem jw_fl_X7_48 : Cond.fieldLink RX7 48 "WalkGroundsModel" "ringed" "[I" ∈ jWG := jWG_in (List.mem_append_right _ (List.mem_of_getElem? (i := 631) (by decide +kernel))) rfl
theorem jw_fl_X7_51 : Cond.fieldLink RX7 51 "WalkGroundsModel" "bridged" "[I" ∈ jWG := jWG_in (List.mem_append_right _ (List.mem_of_getElem? (i := 632) (by decide +kernel))) rfl
theorem jw_fl_X7_55 : Cond.fieldLink RX7 55 "WalkGroundsModel" "seen" "[Z" ∈ jWG := jWG_in (List.mem_append_right _ (List.mem_of_getElem? (i := 633) (by decide +kernel))) rfl
theorem jw_fl_X7_58 : Cond.fieldLink RX7 58 "WalkGroundsModel" "highX" "[I" ∈ jWG := jWG_in (List.mem_append_right _ (List.mem_of_getElem? (i := 634) (by decide +kernel))) rfl
theorem jw_fl_X7_61 : Cond.fieldLink RX7 61 "WalkGroundsModel" "formed" "[I" ∈ jWG := jWG_in (List.mem_append_right _ (List.mem_of_getElem? (i := 635) (by decide +kernel))) rfl
theorem jw_fl_X7_64 : Cond.fieldLink RX7 64 "WalkGroundsModel" "reached" "[I" ∈ jWG := jWG_in (List.mem_append_right _ (List.mem_of_getElem? (i := 636) (by decide +kernel))) rfl
theorem jw_fl_X7_67 : Cond.fieldLink RX7 67 "WalkGroundsModel" "isMet" "[Z" ∈ jWG := jWG_in (List.mem_append_right _ (List.mem_of_getElem? (i := 637) (by decide +kernel))) rfl
theorem jw_fl_X7_70 : Cond.fieldLink RX7 70 "WalkGroundsModel" "queue" "[I" ∈ jWG := jWG_in (List.mem_append_right _ (List.mem_of_getElem? (i := 638) (by decide +kernel))) rfl
theorem jw_fl_X7_205 : Cond.fieldLink RX7 205 "WalkGroundsModel" "queued" "I" ∈ jWG := jWG_in (List.mem_append_right _ (List.mem_of_getElem? (i := 639) (by decide +kernel))) rfl
theorem jw_fl_X7_73 : Cond.fieldLink RX7 73 "WalkGroundsModel" "wide" "I" ∈ jWG := jWG_in (List.mem_append_right _ (List.mem_of_getElem? (i := 640) (by decide +kernel))) rfl
theorem jw_fl_X7_77 : Cond.fieldLink RX7 77 "WalkGroundsModel" "high" "I" ∈ jWG := jWG_in (List.mem_append_right _ (List.mem_of_getElem? (i := 641) (by decide +kernel))) rfl
theorem jw_fl_X7_80 : Cond.fieldLink RX7 80 "WalkGroundsModel" "isHole" "[Z" ∈ jWG := jWG_in (List.mem_append_right _ (List.mem_of_getElem? (i := 642) (by decide +kernel))) rfl
theorem jw_fl_X7_214 : Cond.fieldLink RX7 214 "WalkGroundsModel" "isCounted" "Z" ∈ jWG := jWG_in (List.mem_append_right _ (List.mem_of_getElem? (i := 643) (by decide +kernel))) rfl
theorem jw_fl_X7_218 : Cond.fieldLink RX7 218 "WalkGroundsModel" "isSpent" "Z" ∈ jWG := jWG_in (List.mem_append_right _ (List.mem_of_getElem? (i := 644) (by decide +kernel))) rfl
theorem jw_fl_X7_221 : Cond.fieldLink RX7 221 "WalkGroundsModel" "fullWays" "I" ∈ jWG := jWG_in (List.mem_append_right _ (List.mem_of_getElem? (i := 645) (by decide +kernel))) rfl
theorem jw_fl_X7_83 : Cond.fieldLink RX7 83 "WalkGroundsModel" "waysBy" "[I" ∈ jWG := jWG_in (List.mem_append_right _ (List.mem_of_getElem? (i := 646) (by decide +kernel))) rfl
theorem jw_fl_X7_86 : Cond.fieldLink RX7 86 "WalkGroundsModel" "isGone" "[Z" ∈ jWG := jWG_in (List.mem_append_right _ (List.mem_of_getElem? (i := 647) (by decide +kernel))) rfl
theorem jw_fl_X7_89 : Cond.fieldLink RX7 89 "WalkGroundsModel" "way" "[I" ∈ jWG := jWG_in (List.mem_append_right _ (List.mem_of_getElem? (i := 648) (by decide +kernel))) rfl
theorem jw_fl_X7_92 : Cond.fieldLink RX7 92 "WalkGroundsModel" "tryNow" "[I" ∈ jWG := jWG_in (List.mem_append_right _ (List.mem_of_getElem? (i := 649) (by decide +kernel))) rfl
theorem jw_fl_X7_95 : Cond.fieldLink RX7 95 "WalkGroundsModel" "far" "[I" ∈ jWG := jWG_in (List.mem_append_right _ (List.mem_of_getElem? (i := 650) (by decide +kernel))) rfl
theorem jw_ml_L_17 : Cond.methodLink RL 17 yX7_walk ∈ jWG := jWG_in (List.mem_append_right _ (List.mem_of_getElem? (i := 720) (by decide +kernel))) rfl
theorem jw_im_X7_walk : Cond.instanceMethod yX7_walk ∈ jWG := jWG_in (List.mem_append_right _ (List.mem_of_getElem? (i := 721) (by decide +kernel))) rfl
theorem jw_se_X7_walk : Cond.selects yX7_walk.cls yX7_walk yX7_walk ∈ jWG := jWG_in (List.mem_append_right _ (List.mem_of_getElem? (i := 722) (by decide +kernel))) rfl
theorem jw_co_X7_walk : Cond.code yX7_walk cX7_walk 2 (some .int) ∈ jWG := jWG_in (List.mem_append_right _ (List.mem_of_getElem? (i := 723) (by decide +kernel))) rfl
theorem jw_ml_X7_105 : Cond.methodLink RX7 105 yX7_in ∈ jWG := jWG_in (List.mem_append_right _ (List.mem_of_getElem? (i := 724) (by decide +kernel))) rfl
theorem jw_st_X7_in : Cond.static yX7_in ∈ jWG := jWG_in (List.mem_append_right _ (List.mem_of_getElem? (i := 725) (by decide +kernel))) rfl
theorem jw_co_X7_in : Cond.code yX7_in cX7_in 3 (some .boolean) ∈ jWG := jWG_in (List.mem_append_right _ (List.mem_of_getElem? (i := 726) (by decide +kernel))) rfl
theorem jw_ml_L_22 : Cond.methodLink RL 22 yX7_step ∈ jWG := jWG_in (List.mem_append_right _ (List.mem_of_getElem? (i := 727) (by decide +kernel))) rfl
theorem jw_im_X7_step : Cond.instanceMethod yX7_step ∈ jWG := jWG_in (List.mem_append_right _ (List.mem_of_getElem? (i := 728) (by decide +kernel))) rfl
theorem jw_se_X7_step : Cond.selects yX7_step.cls yX7_step yX7_step ∈ jWG := jWG_in (List.mem_append_right _ (List.mem_of_getElem? (i := 729) (by decide +kernel))) rfl
theorem jw_co_X7_step : Cond.code yX7_step cX7_step 3 (some .int) ∈ jWG := jWG_in (List.mem_append_right _ (List.mem_of_getElem? (i := 730) (by decide +kernel))) rfl
theorem jw_ml_X7_130 : Cond.methodLink RX7 130 yX7_isWalk ∈ jWG := jWG_in (List.mem_append_right _ (List.mem_of_getElem? (i := 731) (by decide +kernel))) rfl
theorem jw_im_X7_isWalk : Cond.instanceMethod yX7_isWalk ∈ jWG := jWG_in (List.mem_append_right _ (List.mem_of_getElem? (i := 733) (by decide +kernel))) rfl
theorem jw_co_X7_isWalk : Cond.code yX7_isWalk cX7_isWalk 2 (some .boolean) ∈ jWG := jWG_in (List.mem_append_right _ (List.mem_of_getElem? (i := 734) (by decide +kernel))) rfl
theorem jw_ml_X7_133 : Cond.methodLink RX7 133 yX7_directions ∈ jWG := jWG_in (List.mem_append_right _ (List.mem_of_getElem? (i := 735) (by decide +kernel))) rfl
theorem jw_st_X7_directions : Cond.static yX7_directions ∈ jWG := jWG_in (List.mem_append_right _ (List.mem_of_getElem? (i := 736) (by decide +kernel))) rfl
theorem jw_co_X7_directions : Cond.code yX7_directions cX7_directions 1 (some .int) ∈ jWG := jWG_in (List.mem_append_right _ (List.mem_of_getElem? (i := 737) (by decide +kernel))) rfl
theorem jw_ml_X7_137 : Cond.methodLink RX7 137 yX7_brings ∈ jWG := jWG_in (List.mem_append_right _ (List.mem_of_getElem? (i := 738) (by decide +kernel))) rfl
theorem jw_im_X7_brings : Cond.instanceMethod yX7_brings ∈ jWG := jWG_in (List.mem_append_right _ (List.mem_of_getElem? (i := 740) (by decide +kernel))) rfl
theorem jw_co_X7_brings : Cond.code yX7_brings cX7_brings 3 none ∈ jWG := jWG_in (List.mem_append_right _ (List.mem_of_getElem? (i := 741) (by decide +kernel))) rfl
theorem jw_ml_X7_140 : Cond.methodLink RX7 140 yX7_becomes ∈ jWG := jWG_in (List.mem_append_right _ (List.mem_of_getElem? (i := 742) (by decide +kernel))) rfl
theorem jw_im_X7_becomes : Cond.instanceMethod yX7_becomes ∈ jWG := jWG_in (List.mem_append_right _ (List.mem_of_getElem? (i := 744) (by decide +kernel))) rfl
theorem jw_co_X7_becomes : Cond.code yX7_becomes cX7_becomes 2 (some .int) ∈ jWG := jWG_in (List.mem_append_right _ (List.mem_of_getElem? (i := 745) (by decide +kernel))) rfl
theorem jw_ml_X7_122 : Cond.methodLink RX7 122 yX7_goes ∈ jWG := jWG_in (List.mem_append_right _ (List.mem_of_getElem? (i := 746) (by decide +kernel))) rfl
theorem jw_im_X7_goes : Cond.instanceMethod yX7_goes ∈ jWG := jWG_in (List.mem_append_right _ (List.mem_of_getElem? (i := 748) (by decide +kernel))) rfl
theorem jw_co_X7_goes : Cond.code yX7_goes cX7_goes 5 (some .boolean) ∈ jWG := jWG_in (List.mem_append_right _ (List.mem_of_getElem? (i := 749) (by decide +kernel))) rfl
theorem jw_ml_X7_112 : Cond.methodLink RX7 112 yX7_stepX ∈ jWG := jWG_in (List.mem_append_right _ (List.mem_of_getElem? (i := 750) (by decide +kernel))) rfl
theorem jw_st_X7_stepX : Cond.static yX7_stepX ∈ jWG := jWG_in (List.mem_append_right _ (List.mem_of_getElem? (i := 751) (by decide +kernel))) rfl
theorem jw_co_X7_stepX : Cond.code yX7_stepX cX7_stepX 2 (some .int) ∈ jWG := jWG_in (List.mem_append_right _ (List.mem_of_getElem? (i := 752) (by decide +kernel))) rfl
theorem jw_ml_X7_115 : Cond.methodLink RX7 115 yX7_stepY ∈ jWG := jWG_in (List.mem_append_right _ (List.mem_of_getElem? (i := 753) (by decide +kernel))) rfl
theorem jw_st_X7_stepY : Cond.static yX7_stepY ∈ jWG := jWG_in (List.mem_append_right _ (List.mem_of_getElem? (i := 754) (by decide +kernel))) rfl
theorem jw_co_X7_stepY : Cond.code yX7_stepY cX7_stepY 3 (some .int) ∈ jWG := jWG_in (List.mem_append_right _ (List.mem_of_getElem? (i := 755) (by decide +kernel))) rfl
theorem jw_ml_X7_119 : Cond.methodLink RX7 119 yX7_stepZ ∈ jWG := jWG_in (List.mem_append_right _ (List.mem_of_getElem? (i := 756) (by decide +kernel))) rfl
theorem jw_st_X7_stepZ : Cond.static yX7_stepZ ∈ jWG := jWG_in (List.mem_append_right _ (List.mem_of_getElem? (i := 757) (by decide +kernel))) rfl
theorem jw_co_X7_stepZ : Cond.code yX7_stepZ cX7_stepZ 2 (some .int) ∈ jWG := jWG_in (List.mem_append_right _ (List.mem_of_getElem? (i := 758) (by decide +kernel))) rfl
theorem jw_ml_X7_126 : Cond.methodLink RX7 126 yX7_keeps ∈ jWG := jWG_in (List.mem_append_right _ (List.mem_of_getElem? (i := 759) (by decide +kernel))) rfl
theorem jw_im_X7_keeps : Cond.instanceMethod yX7_keeps ∈ jWG := jWG_in (List.mem_append_right _ (List.mem_of_getElem? (i := 761) (by decide +kernel))) rfl
theorem jw_co_X7_keeps : Cond.code yX7_keeps cX7_keeps 3 none ∈ jWG := jWG_in (List.mem_append_right _ (List.mem_of_getElem? (i := 762) (by decide +kernel))) rfl
theorem jw_ml_L_26 : Cond.methodLink RL 26 yX7_back ∈ jWG := jWG_in (List.mem_append_right _ (List.mem_of_getElem? (i := 763) (by decide +kernel))) rfl
theorem jw_im_X7_back : Cond.instanceMethod yX7_back ∈ jWG := jWG_in (List.mem_append_right _ (List.mem_of_getElem? (i := 764) (by decide +kernel))) rfl
theorem jw_se_X7_back : Cond.selects yX7_back.cls yX7_back yX7_back ∈ jWG := jWG_in (List.mem_append_right _ (List.mem_of_getElem? (i := 765) (by decide +kernel))) rfl
theorem jw_co_X7_back : Cond.code yX7_back cX7_back 3 (some .int) ∈ jWG := jWG_in (List.mem_append_right _ (List.mem_of_getElem? (i := 766) (by decide +kernel))) rfl
theorem jw_ml_L_31 : Cond.methodLink RL 31 yX7_pivot ∈ jWG := jWG_in (List.mem_append_right _ (List.mem_of_getElem? (i := 767) (by decide +kernel))) rfl
theorem jw_im_X7_pivot : Cond.instanceMethod yX7_pivot ∈ jWG := jWG_in (List.mem_append_right _ (List.mem_of_getElem? (i := 768) (by decide +kernel))) rfl
theorem jw_se_X7_pivot : Cond.selects yX7_pivot.cls yX7_pivot yX7_pivot ∈ jWG := jWG_in (List.mem_append_right _ (List.mem_of_getElem? (i := 769) (by decide +kernel))) rfl
theorem jw_co_X7_pivot : Cond.code yX7_pivot cX7_pivot 5 (some .int) ∈ jWG := jWG_in (List.mem_append_right _ (List.mem_of_getElem? (i := 770) (by decide +kernel))) rfl
theorem jw_ml_X7_143 : Cond.methodLink RX7 143 yX7_turns ∈ jWG := jWG_in (List.mem_append_right _ (List.mem_of_getElem? (i := 771) (by decide +kernel))) rfl
theorem jw_st_X7_turns : Cond.static yX7_turns ∈ jWG := jWG_in (List.mem_append_right _ (List.mem_of_getElem? (i := 772) (by decide +kernel))) rfl
theorem jw_co_X7_turns : Cond.code yX7_turns cX7_turns 1 (some .int) ∈ jWG := jWG_in (List.mem_append_right _ (List.mem_of_getElem? (i := 773) (by decide +kernel))) rfl
theorem jw_ml_X7_146 : Cond.methodLink RX7 146 yX7_turned ∈ jWG := jWG_in (List.mem_append_right _ (List.mem_of_getElem? (i := 774) (by decide +kernel))) rfl
theorem jw_st_X7_turned : Cond.static yX7_turned ∈ jWG := jWG_in (List.mem_append_right _ (List.mem_of_getElem? (i := 775) (by decide +kernel))) rfl
theorem jw_co_X7_turned : Cond.code yX7_turned cX7_turned 5 (some .int) ∈ jWG := jWG_in (List.mem_append_right _ (List.mem_of_getElem? (i := 776) (by decide +kernel))) rfl
theorem jw_ml_X7_98 : Cond.methodLink RX7 98 yX7_axis ∈ jWG := jWG_in (List.mem_append_right _ (List.mem_of_getElem? (i := 777) (by decide +kernel))) rfl
theorem jw_st_X7_axis : Cond.static yX7_axis ∈ jWG := jWG_in (List.mem_append_right _ (List.mem_of_getElem? (i := 778) (by decide +kernel))) rfl
theorem jw_co_X7_axis : Cond.code yX7_axis cX7_axis 5 (some .int) ∈ jWG := jWG_in (List.mem_append_right _ (List.mem_of_getElem? (i := 779) (by decide +kernel))) rfl
theorem jw_ml_L_35 : Cond.methodLink RL 35 yX7_join ∈ jWG := jWG_in (List.mem_append_right _ (List.mem_of_getElem? (i := 780) (by decide +kernel))) rfl
theorem jw_im_X7_join : Cond.instanceMethod yX7_join ∈ jWG := jWG_in (List.mem_append_right _ (List.mem_of_getElem? (i := 781) (by decide +kernel))) rfl
theorem jw_se_X7_join : Cond.selects yX7_join.cls yX7_join yX7_join ∈ jWG := jWG_in (List.mem_append_right _ (List.mem_of_getElem? (i := 782) (by decide +kernel))) rfl
theorem jw_co_X7_join : Cond.code yX7_join cX7_join 5 (some .int) ∈ jWG := jWG_in (List.mem_append_right _ (List.mem_of_getElem? (i := 783) (by decide +kernel))) rfl
theorem jw_ml_L_39 : Cond.methodLink RL 39 yX7_turnBack ∈ jWG := jWG_in (List.mem_append_right _ (List.mem_of_getElem? (i := 784) (by decide +kernel))) rfl
theorem jw_im_X7_turnBack : Cond.instanceMethod yX7_turnBack ∈ jWG := jWG_in (List.mem_append_right _ (List.mem_of_getElem? (i := 785) (by decide +kernel))) rfl
theorem jw_se_X7_turnBack : Cond.selects yX7_turnBack.cls yX7_turnBack yX7_turnBack ∈ jWG := jWG_in (List.mem_append_right _ (List.mem_of_getElem? (i := 786) (by decide +kernel))) rfl
theorem jw_co_X7_turnBack : Cond.code yX7_turnBack cX7_turnBack 3 (some .int) ∈ jWG := jWG_in (List.mem_append_right _ (List.mem_of_getElem? (i := 787) (by decide +kernel))) rfl
theorem jw_ml_X7_149 : Cond.methodLink RX7 149 yX7_opposite ∈ jWG := jWG_in (List.mem_append_right _ (List.mem_of_getElem? (i := 788) (by decide +kernel))) rfl
theorem jw_st_X7_opposite : Cond.static yX7_opposite ∈ jWG := jWG_in (List.mem_append_right _ (List.mem_of_getElem? (i := 789) (by decide +kernel))) rfl
theorem jw_co_X7_opposite : Cond.code yX7_opposite cX7_opposite 2 (some .int) ∈ jWG := jWG_in (List.mem_append_right _ (List.mem_of_getElem? (i := 790) (by decide +kernel))) rfl
theorem jw_ml_L_43 : Cond.methodLink RL 43 yX7_stepAt ∈ jWG := jWG_in (List.mem_append_right _ (List.mem_of_getElem? (i := 791) (by decide +kernel))) rfl
theorem jw_im_X7_stepAt : Cond.instanceMethod yX7_stepAt ∈ jWG := jWG_in (List.mem_append_right _ (List.mem_of_getElem? (i := 792) (by decide +kernel))) rfl
theorem jw_se_X7_stepAt : Cond.selects yX7_stepAt.cls yX7_stepAt yX7_stepAt ∈ jWG := jWG_in (List.mem_append_right _ (List.mem_of_getElem? (i := 793) (by decide +kernel))) rfl
theorem jw_co_X7_stepAt : Cond.code yX7_stepAt cX7_stepAt 3 (some .int) ∈ jWG := jWG_in (List.mem_append_right _ (List.mem_of_getElem? (i := 794) (by decide +kernel))) rfl
theorem jw_ml_L_47 : Cond.methodLink RL 47 yX7_place ∈ jWG := jWG_in (List.mem_append_right _ (List.mem_of_getElem? (i := 795) (by decide +kernel))) rfl
theorem jw_im_X7_place : Cond.instanceMethod yX7_place ∈ jWG := jWG_in (List.mem_append_right _ (List.mem_of_getElem? (i := 796) (by decide +kernel))) rfl
theorem jw_se_X7_place : Cond.selects yX7_place.cls yX7_place yX7_place ∈ jWG := jWG_in (List.mem_append_right _ (List.mem_of_getElem? (i := 797) (by decide +kernel))) rfl
theorem jw_co_X7_place : Cond.code yX7_place cX7_place 4 (some .int) ∈ jWG := jWG_in (List.mem_append_right _ (List.mem_of_getElem? (i := 798) (by decide +kernel))) rfl
theorem jw_ml_L_51 : Cond.methodLink RL 51 yX7_about ∈ jWG := jWG_in (List.mem_append_right _ (List.mem_of_getElem? (i := 799) (by decide +kernel))) rfl
theorem jw_im_X7_about : Cond.instanceMethod yX7_about ∈ jWG := jWG_in (List.mem_append_right _ (List.mem_of_getElem? (i := 800) (by decide +kernel))) rfl
theorem jw_se_X7_about : Cond.selects yX7_about.cls yX7_about yX7_about ∈ jWG := jWG_in (List.mem_append_right _ (List.mem_of_getElem? (i := 801) (by decide +kernel))) rfl
theorem jw_co_X7_about : Cond.code yX7_about cX7_about 6 (some .int) ∈ jWG := jWG_in (List.mem_append_right _ (List.mem_of_getElem? (i := 802) (by decide +kernel))) rfl
theorem jw_ml_X7_152 : Cond.methodLink RX7 152 yX7_square ∈ jWG := jWG_in (List.mem_append_right _ (List.mem_of_getElem? (i := 803) (by decide +kernel))) rfl
theorem jw_st_X7_square : Cond.static yX7_square ∈ jWG := jWG_in (List.mem_append_right _ (List.mem_of_getElem? (i := 804) (by decide +kernel))) rfl
theorem jw_co_X7_square : Cond.code yX7_square cX7_square 4 (some .int) ∈ jWG := jWG_in (List.mem_append_right _ (List.mem_of_getElem? (i := 805) (by decide +kernel))) rfl
theorem jw_ml_X7_156 : Cond.methodLink RX7 156 yX7_isRing ∈ jWG := jWG_in (List.mem_append_right _ (List.mem_of_getElem? (i := 806) (by decide +kernel))) rfl
theorem jw_im_X7_isRing : Cond.instanceMethod yX7_isRing ∈ jWG := jWG_in (List.mem_append_right _ (List.mem_of_getElem? (i := 808) (by decide +kernel))) rfl
theorem jw_co_X7_isRing : Cond.code yX7_isRing cX7_isRing 6 (some .boolean) ∈ jWG := jWG_in (List.mem_append_right _ (List.mem_of_getElem? (i := 809) (by decide +kernel))) rfl
theorem jw_ml_X7_159 : Cond.methodLink RX7 159 yX7_area ∈ jWG := jWG_in (List.mem_append_right _ (List.mem_of_getElem? (i := 810) (by decide +kernel))) rfl
theorem jw_im_X7_area : Cond.instanceMethod yX7_area ∈ jWG := jWG_in (List.mem_append_right _ (List.mem_of_getElem? (i := 812) (by decide +kernel))) rfl
theorem jw_co_X7_area : Cond.code yX7_area cX7_area 4 (some .int) ∈ jWG := jWG_in (List.mem_append_right _ (List.mem_of_getElem? (i := 813) (by decide +kernel))) rfl
theorem jw_ml_X7_163 : Cond.methodLink RX7 163 yX7_isBridge ∈ jWG := jWG_in (List.mem_append_right _ (List.mem_of_getElem? (i := 814) (by decide +kernel))) rfl
theorem jw_im_X7_isBridge : Cond.instanceMethod yX7_isBridge ∈ jWG := jWG_in (List.mem_append_right _ (List.mem_of_getElem? (i := 816) (by decide +kernel))) rfl
theorem jw_co_X7_isBridge : Cond.code yX7_isBridge cX7_isBridge 3 (some .boolean) ∈ jWG := jWG_in (List.mem_append_right _ (List.mem_of_getElem? (i := 817) (by decide +kernel))) rfl
theorem jw_ml_X7_167 : Cond.methodLink RX7 167 yX7_leadingOn ∈ jWG := jWG_in (List.mem_append_right _ (List.mem_of_getElem? (i := 818) (by decide +kernel))) rfl
theorem jw_im_X7_leadingOn : Cond.instanceMethod yX7_leadingOn ∈ jWG := jWG_in (List.mem_append_right _ (List.mem_of_getElem? (i := 820) (by decide +kernel))) rfl
theorem jw_co_X7_leadingOn : Cond.code yX7_leadingOn cX7_leadingOn 8 (some .int) ∈ jWG := jWG_in (List.mem_append_right _ (List.mem_of_getElem? (i := 821) (by decide +kernel))) rfl
theorem jw_ml_L_55 : Cond.methodLink RL 55 yX7_form ∈ jWG := jWG_in (List.mem_append_right _ (List.mem_of_getElem? (i := 822) (by decide +kernel))) rfl
theorem jw_im_X7_form : Cond.instanceMethod yX7_form ∈ jWG := jWG_in (List.mem_append_right _ (List.mem_of_getElem? (i := 823) (by decide +kernel))) rfl
theorem jw_se_X7_form : Cond.selects yX7_form.cls yX7_form yX7_form ∈ jWG := jWG_in (List.mem_append_right _ (List.mem_of_getElem? (i := 824) (by decide +kernel))) rfl
theorem jw_co_X7_form : Cond.code yX7_form cX7_form 3 (some .int) ∈ jWG := jWG_in (List.mem_append_right _ (List.mem_of_getElem? (i := 825) (by decide +kernel))) rfl
theorem jw_ml_X7_174 : Cond.methodLink RX7 174 yX7_findForm ∈ jWG := jWG_in (List.mem_append_right _ (List.mem_of_getElem? (i := 826) (by decide +kernel))) rfl
theorem jw_im_X7_findForm : Cond.instanceMethod yX7_findForm ∈ jWG := jWG_in (List.mem_append_right _ (List.mem_of_getElem? (i := 828) (by decide +kernel))) rfl
theorem jw_co_X7_findForm : Cond.code yX7_findForm cX7_findForm 7 none ∈ jWG := jWG_in (List.mem_append_right _ (List.mem_of_getElem? (i := 829) (by decide +kernel))) rfl
theorem jw_ml_X7_170 : Cond.methodLink RX7 170 yX7_tried ∈ jWG := jWG_in (List.mem_append_right _ (List.mem_of_getElem? (i := 830) (by decide +kernel))) rfl
theorem jw_im_X7_tried : Cond.instanceMethod yX7_tried ∈ jWG := jWG_in (List.mem_append_right _ (List.mem_of_getElem? (i := 832) (by decide +kernel))) rfl
theorem jw_co_X7_tried : Cond.code yX7_tried cX7_tried 5 (some .int) ∈ jWG := jWG_in (List.mem_append_right _ (List.mem_of_getElem? (i := 833) (by decide +kernel))) rfl
theorem jw_ml_L_59 : Cond.methodLink RL 59 yX7_alike ∈ jWG := jWG_in (List.mem_append_right _ (List.mem_of_getElem? (i := 834) (by decide +kernel))) rfl
theorem jw_im_X7_alike : Cond.instanceMethod yX7_alike ∈ jWG := jWG_in (List.mem_append_right _ (List.mem_of_getElem? (i := 835) (by decide +kernel))) rfl
theorem jw_se_X7_alike : Cond.selects yX7_alike.cls yX7_alike yX7_alike ∈ jWG := jWG_in (List.mem_append_right _ (List.mem_of_getElem? (i := 836) (by decide +kernel))) rfl
theorem jw_co_X7_alike : Cond.code yX7_alike cX7_alike 6 (some .int) ∈ jWG := jWG_in (List.mem_append_right _ (List.mem_of_getElem? (i := 837) (by decide +kernel))) rfl
theorem jw_ml_L_63 : Cond.methodLink RL 63 yX7_walks ∈ jWG := jWG_in (List.mem_append_right _ (List.mem_of_getElem? (i := 838) (by decide +kernel))) rfl
theorem jw_im_X7_walks : Cond.instanceMethod yX7_walks ∈ jWG := jWG_in (List.mem_append_right _ (List.mem_of_getElem? (i := 839) (by decide +kernel))) rfl
theorem jw_se_X7_walks : Cond.selects yX7_walks.cls yX7_walks yX7_walks ∈ jWG := jWG_in (List.mem_append_right _ (List.mem_of_getElem? (i := 840) (by decide +kernel))) rfl
theorem jw_co_X7_walks : Cond.code yX7_walks cX7_walks 3 (some .int) ∈ jWG := jWG_in (List.mem_append_right _ (List.mem_of_getElem? (i := 841) (by decide +kernel))) rfl
theorem jw_ml_X7_184 : Cond.methodLink RX7 184 yX7_isGround ∈ jWG := jWG_in (List.mem_append_right _ (List.mem_of_getElem? (i := 842) (by decide +kernel))) rfl
theorem jw_st_X7_isGround : Cond.static yX7_isGround ∈ jWG := jWG_in (List.mem_append_right _ (List.mem_of_getElem? (i := 843) (by decide +kernel))) rfl
theorem jw_co_X7_isGround : Cond.code yX7_isGround cX7_isGround 1 (some .boolean) ∈ jWG := jWG_in (List.mem_append_right _ (List.mem_of_getElem? (i := 844) (by decide +kernel))) rfl
theorem jw_ml_X7_187 : Cond.methodLink RX7 187 yX7_counts ∈ jWG := jWG_in (List.mem_append_right _ (List.mem_of_getElem? (i := 845) (by decide +kernel))) rfl
theorem jw_im_X7_counts : Cond.instanceMethod yX7_counts ∈ jWG := jWG_in (List.mem_append_right _ (List.mem_of_getElem? (i := 847) (by decide +kernel))) rfl
theorem jw_co_X7_counts : Cond.code yX7_counts cX7_counts 10 none ∈ jWG := jWG_in (List.mem_append_right _ (List.mem_of_getElem? (i := 848) (by decide +kernel))) rfl
theorem jw_ml_X7_177 : Cond.methodLink RX7 177 yX7_spot ∈ jWG := jWG_in (List.mem_append_right _ (List.mem_of_getElem? (i := 849) (by decide +kernel))) rfl
theorem jw_st_X7_spot : Cond.static yX7_spot ∈ jWG := jWG_in (List.mem_append_right _ (List.mem_of_getElem? (i := 850) (by decide +kernel))) rfl
theorem jw_co_X7_spot : Cond.code yX7_spot cX7_spot 3 (some .int) ∈ jWG := jWG_in (List.mem_append_right _ (List.mem_of_getElem? (i := 851) (by decide +kernel))) rfl
theorem jw_k_X7_180 : Cond.constant RX7 180 (600000 : Int32) ∈ jWG := jWG_in (List.mem_append_right _ (List.mem_of_getElem? (i := 852) (by decide +kernel))) rfl
theorem jw_ml_X7_181 : Cond.methodLink RX7 181 yX7_forgets ∈ jWG := jWG_in (List.mem_append_right _ (List.mem_of_getElem? (i := 853) (by decide +kernel))) rfl
theorem jw_im_X7_forgets : Cond.instanceMethod yX7_forgets ∈ jWG := jWG_in (List.mem_append_right _ (List.mem_of_getElem? (i := 855) (by decide +kernel))) rfl
theorem jw_co_X7_forgets : Cond.code yX7_forgets cX7_forgets 3 none ∈ jWG := jWG_in (List.mem_append_right _ (List.mem_of_getElem? (i := 856) (by decide +kernel))) rfl
theorem jw_ml_L_68 : Cond.methodLink RL 68 yX7_squares ∈ jWG := jWG_in (List.mem_append_right _ (List.mem_of_getElem? (i := 857) (by decide +kernel))) rfl
theorem jw_im_X7_squares : Cond.instanceMethod yX7_squares ∈ jWG := jWG_in (List.mem_append_right _ (List.mem_of_getElem? (i := 858) (by decide +kernel))) rfl
theorem jw_se_X7_squares : Cond.selects yX7_squares.cls yX7_squares yX7_squares ∈ jWG := jWG_in (List.mem_append_right _ (List.mem_of_getElem? (i := 859) (by decide +kernel))) rfl
theorem jw_co_X7_squares : Cond.code yX7_squares cX7_squares 3 (some .long) ∈ jWG := jWG_in (List.mem_append_right _ (List.mem_of_getElem? (i := 860) (by decide +kernel))) rfl
theorem jw_k_X7_191 : Cond.constantLong RX7 191 (-2 : Int64) ∈ jWG := jWG_in (List.mem_append_right _ (List.mem_of_getElem? (i := 861) (by decide +kernel))) rfl
theorem jw_k_X7_193 : Cond.constantLong RX7 193 (-5 : Int64) ∈ jWG := jWG_in (List.mem_append_right _ (List.mem_of_getElem? (i := 862) (by decide +kernel))) rfl
theorem jw_ml_L_72 : Cond.methodLink RL 72 yX7_rings ∈ jWG := jWG_in (List.mem_append_right _ (List.mem_of_getElem? (i := 863) (by decide +kernel))) rfl
theorem jw_im_X7_rings : Cond.instanceMethod yX7_rings ∈ jWG := jWG_in (List.mem_append_right _ (List.mem_of_getElem? (i := 864) (by decide +kernel))) rfl
theorem jw_se_X7_rings : Cond.selects yX7_rings.cls yX7_rings yX7_rings ∈ jWG := jWG_in (List.mem_append_right _ (List.mem_of_getElem? (i := 865) (by decide +kernel))) rfl
theorem jw_co_X7_rings : Cond.code yX7_rings cX7_rings 3 (some .int) ∈ jWG := jWG_in (List.mem_append_right _ (List.mem_of_getElem? (i := 866) (by decide +kernel))) rfl
theorem jw_ml_L_76 : Cond.methodLink RL 76 yX7_bridges ∈ jWG := jWG_in (List.mem_append_right _ (List.mem_of_getElem? (i := 867) (by decide +kernel))) rfl
theorem jw_im_X7_bridges : Cond.instanceMethod yX7_bridges ∈ jWG := jWG_in (List.mem_append_right _ (List.mem_of_getElem? (i := 868) (by decide +kernel))) rfl
theorem jw_se_X7_bridges : Cond.selects yX7_bridges.cls yX7_bridges yX7_bridges ∈ jWG := jWG_in (List.mem_append_right _ (List.mem_of_getElem? (i := 869) (by decide +kernel))) rfl
theorem jw_co_X7_bridges : Cond.code yX7_bridges cX7_bridges 3 (some .int) ∈ jWG := jWG_in (List.mem_append_right _ (List.mem_of_getElem? (i := 870) (by decide +kernel))) rfl
theorem jw_ml_L_80 : Cond.methodLink RL 80 yX7_forms ∈ jWG := jWG_in (List.mem_append_right _ (List.mem_of_getElem? (i := 871) (by decide +kernel))) rfl
theorem jw_im_X7_forms : Cond.instanceMethod yX7_forms ∈ jWG := jWG_in (List.mem_append_right _ (List.mem_of_getElem? (i := 872) (by decide +kernel))) rfl
theorem jw_se_X7_forms : Cond.selects yX7_forms.cls yX7_forms yX7_forms ∈ jWG := jWG_in (List.mem_append_right _ (List.mem_of_getElem? (i := 873) (by decide +kernel))) rfl
theorem jw_co_X7_forms : Cond.code yX7_forms cX7_forms 6 (some .int) ∈ jWG := jWG_in (List.mem_append_right _ (List.mem_of_getElem? (i := 874) (by decide +kernel))) rfl
theorem jw_ml_X7_195 : Cond.methodLink RX7 195 yX7_power ∈ jWG := jWG_in (List.mem_append_right _ (List.mem_of_getElem? (i := 875) (by decide +kernel))) rfl
theorem jw_st_X7_power : Cond.static yX7_power ∈ jWG := jWG_in (List.mem_append_right _ (List.mem_of_getElem? (i := 876) (by decide +kernel))) rfl
theorem jw_co_X7_power : Cond.code yX7_power cX7_power 4 (some .int) ∈ jWG := jWG_in (List.mem_append_right _ (List.mem_of_getElem? (i := 877) (by decide +kernel))) rfl
theorem jw_ml_X7_198 : Cond.methodLink RX7 198 yX7_rowOf ∈ jWG := jWG_in (List.mem_append_right _ (List.mem_of_getElem? (i := 878) (by decide +kernel))) rfl
theorem jw_im_X7_rowOf : Cond.instanceMethod yX7_rowOf ∈ jWG := jWG_in (List.mem_append_right _ (List.mem_of_getElem? (i := 880) (by decide +kernel))) rfl
theorem jw_co_X7_rowOf : Cond.code yX7_rowOf cX7_rowOf 6 none ∈ jWG := jWG_in (List.mem_append_right _ (List.mem_of_getElem? (i := 881) (by decide +kernel))) rfl
theorem jw_ml_X7_202 : Cond.methodLink RX7 202 yX7_isForm ∈ jWG := jWG_in (List.mem_append_right _ (List.mem_of_getElem? (i := 882) (by decide +kernel))) rfl
theorem jw_im_X7_isForm : Cond.instanceMethod yX7_isForm ∈ jWG := jWG_in (List.mem_append_right _ (List.mem_of_getElem? (i := 884) (by decide +kernel))) rfl
theorem jw_co_X7_isForm : Cond.code yX7_isForm cX7_isForm 3 (some .boolean) ∈ jWG := jWG_in (List.mem_append_right _ (List.mem_of_getElem? (i := 885) (by decide +kernel))) rfl
theorem jw_ml_L_84 : Cond.methodLink RL 84 yX7_reach ∈ jWG := jWG_in (List.mem_append_right _ (List.mem_of_getElem? (i := 886) (by decide +kernel))) rfl
theorem jw_im_X7_reach : Cond.instanceMethod yX7_reach ∈ jWG := jWG_in (List.mem_append_right _ (List.mem_of_getElem? (i := 887) (by decide +kernel))) rfl
theorem jw_se_X7_reach : Cond.selects yX7_reach.cls yX7_reach yX7_reach ∈ jWG := jWG_in (List.mem_append_right _ (List.mem_of_getElem? (i := 888) (by decide +kernel))) rfl
theorem jw_co_X7_reach : Cond.code yX7_reach cX7_reach 5 (some .int) ∈ jWG := jWG_in (List.mem_append_right _ (List.mem_of_getElem? (i := 889) (by decide +kernel))) rfl
theorem jw_ml_X7_208 : Cond.methodLink RX7 208 yX7_meets ∈ jWG := jWG_in (List.mem_append_right _ (List.mem_of_getElem? (i := 890) (by decide +kernel))) rfl
theorem jw_im_X7_meets : Cond.instanceMethod yX7_meets ∈ jWG := jWG_in (List.mem_append_right _ (List.mem_of_getElem? (i := 892) (by decide +kernel))) rfl
theorem jw_co_X7_meets : Cond.code yX7_meets cX7_meets 2 none ∈ jWG := jWG_in (List.mem_append_right _ (List.mem_of_getElem? (i := 893) (by decide +kernel))) rfl
theorem jw_ml_X7_211 : Cond.methodLink RX7 211 yX7_turnsAll ∈ jWG := jWG_in (List.mem_append_right _ (List.mem_of_getElem? (i := 894) (by decide +kernel))) rfl
theorem jw_im_X7_turnsAll : Cond.instanceMethod yX7_turnsAll ∈ jWG := jWG_in (List.mem_append_right _ (List.mem_of_getElem? (i := 896) (by decide +kernel))) rfl
theorem jw_co_X7_turnsAll : Cond.code yX7_turnsAll cX7_turnsAll 8 none ∈ jWG := jWG_in (List.mem_append_right _ (List.mem_of_getElem? (i := 897) (by decide +kernel))) rfl
theorem jw_ml_L_88 : Cond.methodLink RL 88 yX7_board ∈ jWG := jWG_in (List.mem_append_right _ (List.mem_of_getElem? (i := 898) (by decide +kernel))) rfl
theorem jw_im_X7_board : Cond.instanceMethod yX7_board ∈ jWG := jWG_in (List.mem_append_right _ (List.mem_of_getElem? (i := 899) (by decide +kernel))) rfl
theorem jw_se_X7_board : Cond.selects yX7_board.cls yX7_board yX7_board ∈ jWG := jWG_in (List.mem_append_right _ (List.mem_of_getElem? (i := 900) (by decide +kernel))) rfl
theorem jw_co_X7_board : Cond.code yX7_board cX7_board 4 (some .int) ∈ jWG := jWG_in (List.mem_append_right _ (List.mem_of_getElem? (i := 901) (by decide +kernel))) rfl
theorem jw_ml_L_93 : Cond.methodLink RL 93 yX7_hole ∈ jWG := jWG_in (List.mem_append_right _ (List.mem_of_getElem? (i := 902) (by decide +kernel))) rfl
theorem jw_im_X7_hole : Cond.instanceMethod yX7_hole ∈ jWG := jWG_in (List.mem_append_right _ (List.mem_of_getElem? (i := 903) (by decide +kernel))) rfl
theorem jw_se_X7_hole : Cond.selects yX7_hole.cls yX7_hole yX7_hole ∈ jWG := jWG_in (List.mem_append_right _ (List.mem_of_getElem? (i := 904) (by decide +kernel))) rfl
theorem jw_co_X7_hole : Cond.code yX7_hole cX7_hole 5 (some .int) ∈ jWG := jWG_in (List.mem_append_right _ (List.mem_of_getElem? (i := 905) (by decide +kernel))) rfl
theorem jw_ml_L_98 : Cond.methodLink RL 98 yX7_ways ∈ jWG := jWG_in (List.mem_append_right _ (List.mem_of_getElem? (i := 906) (by decide +kernel))) rfl
theorem jw_im_X7_ways : Cond.instanceMethod yX7_ways ∈ jWG := jWG_in (List.mem_append_right _ (List.mem_of_getElem? (i := 907) (by decide +kernel))) rfl
theorem jw_se_X7_ways : Cond.selects yX7_ways.cls yX7_ways yX7_ways ∈ jWG := jWG_in (List.mem_append_right _ (List.mem_of_getElem? (i := 908) (by decide +kernel))) rfl
theorem jw_co_X7_ways : Cond.code yX7_ways cX7_ways 4 (some .int) ∈ jWG := jWG_in (List.mem_append_right _ (List.mem_of_getElem? (i := 909) (by decide +kernel))) rfl
theorem jw_ml_X7_230 : Cond.methodLink RX7 230 yX7_countWays ∈ jWG := jWG_in (List.mem_append_right _ (List.mem_of_getElem? (i := 910) (by decide +kernel))) rfl
theorem jw_im_X7_countWays : Cond.instanceMethod yX7_countWays ∈ jWG := jWG_in (List.mem_append_right _ (List.mem_of_getElem? (i := 912) (by decide +kernel))) rfl
theorem jw_co_X7_countWays : Cond.code yX7_countWays cX7_countWays 5 none ∈ jWG := jWG_in (List.mem_append_right _ (List.mem_of_getElem? (i := 913) (by decide +kernel))) rfl
theorem jw_ml_X7_224 : Cond.methodLink RX7 224 yX7_open ∈ jWG := jWG_in (List.mem_append_right _ (List.mem_of_getElem? (i := 914) (by decide +kernel))) rfl
theorem jw_im_X7_open : Cond.instanceMethod yX7_open ∈ jWG := jWG_in (List.mem_append_right _ (List.mem_of_getElem? (i := 916) (by decide +kernel))) rfl
theorem jw_co_X7_open : Cond.code yX7_open cX7_open 3 (some .int) ∈ jWG := jWG_in (List.mem_append_right _ (List.mem_of_getElem? (i := 917) (by decide +kernel))) rfl
theorem jw_ml_X7_227 : Cond.methodLink RX7 227 yX7_next ∈ jWG := jWG_in (List.mem_append_right _ (List.mem_of_getElem? (i := 918) (by decide +kernel))) rfl
theorem jw_im_X7_next : Cond.instanceMethod yX7_next ∈ jWG := jWG_in (List.mem_append_right _ (List.mem_of_getElem? (i := 920) (by decide +kernel))) rfl
theorem jw_co_X7_next : Cond.code yX7_next cX7_next 5 (some .int) ∈ jWG := jWG_in (List.mem_append_right _ (List.mem_of_getElem? (i := 921) (by decide +kernel))) rfl
theorem jw_ml_L_102 : Cond.methodLink RL 102 yX7_waysOf ∈ jWG := jWG_in (List.mem_append_right _ (List.mem_of_getElem? (i := 922) (by decide +kernel))) rfl
theorem jw_im_X7_waysOf : Cond.instanceMethod yX7_waysOf ∈ jWG := jWG_in (List.mem_append_right _ (List.mem_of_getElem? (i := 923) (by decide +kernel))) rfl
theorem jw_se_X7_waysOf : Cond.selects yX7_waysOf.cls yX7_waysOf yX7_waysOf ∈ jWG := jWG_in (List.mem_append_right _ (List.mem_of_getElem? (i := 924) (by decide +kernel))) rfl
theorem jw_co_X7_waysOf : Cond.code yX7_waysOf cX7_waysOf 2 (some .int) ∈ jWG := jWG_in (List.mem_append_right _ (List.mem_of_getElem? (i := 925) (by decide +kernel))) rfl
theorem jw_ml_L_107 : Cond.methodLink RL 107 yX7_shortest ∈ jWG := jWG_in (List.mem_append_right _ (List.mem_of_getElem? (i := 926) (by decide +kernel))) rfl
theorem jw_im_X7_shortest : Cond.instanceMethod yX7_shortest ∈ jWG := jWG_in (List.mem_append_right _ (List.mem_of_getElem? (i := 927) (by decide +kernel))) rfl
theorem jw_se_X7_shortest : Cond.selects yX7_shortest.cls yX7_shortest yX7_shortest ∈ jWG := jWG_in (List.mem_append_right _ (List.mem_of_getElem? (i := 928) (by decide +kernel))) rfl
theorem jw_co_X7_shortest : Cond.code yX7_shortest cX7_shortest 4 (some .int) ∈ jWG := jWG_in (List.mem_append_right _ (List.mem_of_getElem? (i := 929) (by decide +kernel))) rfl
theorem jw_ml_L_111 : Cond.methodLink RL 111 yX7_count ∈ jWG := jWG_in (List.mem_append_right _ (List.mem_of_getElem? (i := 930) (by decide +kernel))) rfl
theorem jw_im_X7_count : Cond.instanceMethod yX7_count ∈ jWG := jWG_in (List.mem_append_right _ (List.mem_of_getElem? (i := 931) (by decide +kernel))) rfl
theorem jw_se_X7_count : Cond.selects yX7_count.cls yX7_count yX7_count ∈ jWG := jWG_in (List.mem_append_right _ (List.mem_of_getElem? (i := 932) (by decide +kernel))) rfl
theorem jw_co_X7_count : Cond.code yX7_count cX7_count 2 (some .int) ∈ jWG := jWG_in (List.mem_append_right _ (List.mem_of_getElem? (i := 933) (by decide +kernel))) rfl
theorem jw_ml_L_116 : Cond.methodLink RL 116 yX7_digest ∈ jWG := jWG_in (List.mem_append_right _ (List.mem_of_getElem? (i := 934) (by decide +kernel))) rfl
theorem jw_im_X7_digest : Cond.instanceMethod yX7_digest ∈ jWG := jWG_in (List.mem_append_right _ (List.mem_of_getElem? (i := 935) (by decide +kernel))) rfl
theorem jw_se_X7_digest : Cond.selects yX7_digest.cls yX7_digest yX7_digest ∈ jWG := jWG_in (List.mem_append_right _ (List.mem_of_getElem? (i := 936) (by decide +kernel))) rfl
theorem jw_co_X7_digest : Cond.code yX7_digest cX7_digest 5 (some .long) ∈ jWG := jWG_in (List.mem_append_right _ (List.mem_of_getElem? (i := 937) (by decide +kernel))) rfl
theorem jw_k_X7_233 : Cond.constantLong RX7 233 (107 : Int64) ∈ jWG := jWG_in (List.mem_append_right _ (List.mem_of_getElem? (i := 938) (by decide +kernel))) rfl
theorem jw_k_X7_235 : Cond.constantLong RX7 235 (31 : Int64) ∈ jWG := jWG_in (List.mem_append_right _ (List.mem_of_getElem? (i := 939) (by decide +kernel))) rfl
theorem jw_ml_X7_237 : Cond.methodLink RX7 237 yX7_count ∈ jWG := jWG_in (List.mem_append_right _ (List.mem_of_getElem? (i := 940) (by decide +kernel))) rfl
theorem jw_se_X6_rowOf : Cond.selects yX6_rowOf.cls yX6_rowOf yX6_rowOf ∈ jWG := jWG_in (List.mem_append_left _ (List.mem_of_getElem? (i := 0) (by decide +kernel))) rfl
theorem jw_se_X3_hasCome : Cond.selects yX3_hasCome.cls yX3_hasCome yX3_hasCome ∈ jWG := jWG_in (List.mem_append_left _ (List.mem_of_getElem? (i := 1) (by decide +kernel))) rfl
theorem jw_se_X6_tallyFor : Cond.selects yX6_tallyFor.cls yX6_tallyFor yX6_tallyFor ∈ jWG := jWG_in (List.mem_append_left _ (List.mem_of_getElem? (i := 2) (by decide +kernel))) rfl
theorem jw_se_X4_countLevel : Cond.selects yX4_countLevel.cls yX4_countLevel yX4_countLevel ∈ jWG := jWG_in (List.mem_append_left _ (List.mem_of_getElem? (i := 3) (by decide +kernel))) rfl
theorem jw_se_X4_cellOf : Cond.selects yX4_cellOf.cls yX4_cellOf yX4_cellOf ∈ jWG := jWG_in (List.mem_append_left _ (List.mem_of_getElem? (i := 4) (by decide +kernel))) rfl
theorem jw_se_X4_setTaken : Cond.selects yX4_setTaken.cls yX4_setTaken yX4_setTaken ∈ jWG := jWG_in (List.mem_append_left _ (List.mem_of_getElem? (i := 5) (by decide +kernel))) rfl
theorem jw_se_X4_isTaken : Cond.selects yX4_isTaken.cls yX4_isTaken yX4_isTaken ∈ jWG := jWG_in (List.mem_append_left _ (List.mem_of_getElem? (i := 6) (by decide +kernel))) rfl
theorem jw_se_X4_score : Cond.selects yX4_score.cls yX4_score yX4_score ∈ jWG := jWG_in (List.mem_append_left _ (List.mem_of_getElem? (i := 7) (by decide +kernel))) rfl
theorem jw_se_X5_arriveAt : Cond.selects yX5_arriveAt.cls yX5_arriveAt yX5_arriveAt ∈ jWG := jWG_in (List.mem_append_left _ (List.mem_of_getElem? (i := 8) (by decide +kernel))) rfl
theorem jw_se_X5_takeApart : Cond.selects yX5_takeApart.cls yX5_takeApart yX5_takeApart ∈ jWG := jWG_in (List.mem_append_left _ (List.mem_of_getElem? (i := 9) (by decide +kernel))) rfl
theorem jw_se_X5_numberTurned : Cond.selects yX5_numberTurned.cls yX5_numberTurned yX5_numberTurned ∈ jWG := jWG_in (List.mem_append_left _ (List.mem_of_getElem? (i := 10) (by decide +kernel))) rfl
theorem jw_se_X2_countWays : Cond.selects yX2_countWays.cls yX2_countWays yX2_countWays ∈ jWG := jWG_in (List.mem_append_left _ (List.mem_of_getElem? (i := 11) (by decide +kernel))) rfl
theorem jw_se_X2_score : Cond.selects yX2_score.cls yX2_score yX2_score ∈ jWG := jWG_in (List.mem_append_left _ (List.mem_of_getElem? (i := 12) (by decide +kernel))) rfl
theorem jw_se_X7_isWalk : Cond.selects yX7_isWalk.cls yX7_isWalk yX7_isWalk ∈ jWG := jWG_in (List.mem_append_left _ (List.mem_of_getElem? (i := 13) (by decide +kernel))) rfl
theorem jw_se_X7_brings : Cond.selects yX7_brings.cls yX7_brings yX7_brings ∈ jWG := jWG_in (List.mem_append_left _ (List.mem_of_getElem? (i := 14) (by decide +kernel))) rfl
theorem jw_se_X7_becomes : Cond.selects yX7_becomes.cls yX7_becomes yX7_becomes ∈ jWG := jWG_in (List.mem_append_left _ (List.mem_of_getElem? (i := 15) (by decide +kernel))) rfl
theorem jw_se_X7_goes : Cond.selects yX7_goes.cls yX7_goes yX7_goes ∈ jWG := jWG_in (List.mem_append_left _ (List.mem_of_getElem? (i := 16) (by decide +kernel))) rfl
theorem jw_se_X7_keeps : Cond.selects yX7_keeps.cls yX7_keeps yX7_keeps ∈ jWG := jWG_in (List.mem_append_left _ (List.mem_of_getElem? (i := 17) (by decide +kernel))) rfl
theorem jw_se_X7_isRing : Cond.selects yX7_isRing.cls yX7_isRing yX7_isRing ∈ jWG := jWG_in (List.mem_append_left _ (List.mem_of_getElem? (i := 18) (by decide +kernel))) rfl
theorem jw_se_X7_area : Cond.selects yX7_area.cls yX7_area yX7_area ∈ jWG := jWG_in (List.mem_append_left _ (List.mem_of_getElem? (i := 19) (by decide +kernel))) rfl
theorem jw_se_X7_isBridge : Cond.selects yX7_isBridge.cls yX7_isBridge yX7_isBridge ∈ jWG := jWG_in (List.mem_append_left _ (List.mem_of_getElem? (i := 20) (by decide +kernel))) rfl
theorem jw_se_X7_leadingOn : Cond.selects yX7_leadingOn.cls yX7_leadingOn yX7_leadingOn ∈ jWG := jWG_in (List.mem_append_left _ (List.mem_of_getElem? (i := 21) (by decide +kernel))) rfl
theorem jw_se_X7_findForm : Cond.selects yX7_findForm.cls yX7_findForm yX7_findForm ∈ jWG := jWG_in (List.mem_append_left _ (List.mem_of_getElem? (i := 22) (by decide +kernel))) rfl
theorem jw_se_X7_tried : Cond.selects yX7_tried.cls yX7_tried yX7_tried ∈ jWG := jWG_in (List.mem_append_left _ (List.mem_of_getElem? (i := 23) (by decide +kernel))) rfl
theorem jw_se_X7_counts : Cond.selects yX7_counts.cls yX7_counts yX7_counts ∈ jWG := jWG_in (List.mem_append_left _ (List.mem_of_getElem? (i := 24) (by decide +kernel))) rfl
theorem jw_se_X7_forgets : Cond.selects yX7_forgets.cls yX7_forgets yX7_forgets ∈ jWG := jWG_in (List.mem_append_left _ (List.mem_of_getElem? (i := 25) (by decide +kernel))) rfl
theorem jw_se_X7_rowOf : Cond.selects yX7_rowOf.cls yX7_rowOf yX7_rowOf ∈ jWG := jWG_in (List.mem_append_left _ (List.mem_of_getElem? (i := 26) (by decide +kernel))) rfl
theorem jw_se_X7_isForm : Cond.selects yX7_isForm.cls yX7_isForm yX7_isForm ∈ jWG := jWG_in (List.mem_append_left _ (List.mem_of_getElem? (i := 27) (by decide +kernel))) rfl
theorem jw_se_X7_meets : Cond.selects yX7_meets.cls yX7_meets yX7_meets ∈ jWG := jWG_in (List.mem_append_left _ (List.mem_of_getElem? (i := 28) (by decide +kernel))) rfl
theorem jw_se_X7_turnsAll : Cond.selects yX7_turnsAll.cls yX7_turnsAll yX7_turnsAll ∈ jWG := jWG_in (List.mem_append_left _ (List.mem_of_getElem? (i := 29) (by decide +kernel))) rfl
theorem jw_se_X7_countWays : Cond.selects yX7_countWays.cls yX7_countWays yX7_countWays ∈ jWG := jWG_in (List.mem_append_left _ (List.mem_of_getElem? (i := 30) (by decide +kernel))) rfl
theorem jw_se_X7_open : Cond.selects yX7_open.cls yX7_open yX7_open ∈ jWG := jWG_in (List.mem_append_left _ (List.mem_of_getElem? (i := 31) (by decide +kernel))) rfl
theorem jw_se_X7_next : Cond.selects yX7_next.cls yX7_next yX7_next ∈ jWG := jWG_in (List.mem_append_left _ (List.mem_of_getElem? (i := 32) (by decide +kernel))) rfl
theorem jw_oi2 : Cond.instanceMethod Lib.objectInit ∈ jWG := jWG_in (List.mem_append_right _ (List.mem_of_getElem? (i := 17) (by decide +kernel))) rfl
theorem jw_oi3 : Cond.code Lib.objectInit ⟨#[0xb1]⟩ 1 none ∈ jWG := jWG_in (List.mem_append_right _ (List.mem_of_getElem? (i := 18) (by decide +kernel))) rfl
theorem jw_mini : Cond.initialized "java/lang/Math" ∈ jWG := jWG_in (List.mem_append_right _ (List.mem_of_getElem? (i := 3) (by decide +kernel))) rfl
theorem jw_mmax1 : Cond.static Lib.Math.max.name ∈ jWG := jWG_in (List.mem_append_right _ (List.mem_of_getElem? (i := 30) (by decide +kernel))) rfl
theorem jw_mmax2 : Cond.code Lib.Math.max.name Lib.Math.max.code 2 (some .int) ∈ jWG := jWG_in (List.mem_append_right _ (List.mem_of_getElem? (i := 31) (by decide +kernel))) rfl
theorem jw_mmin1 : Cond.static Lib.Math.min.name ∈ jWG := jWG_in (List.mem_append_right _ (List.mem_of_getElem? (i := 27) (by decide +kernel))) rfl
theorem jw_mmin2 : Cond.code Lib.Math.min.name Lib.Math.min.code 2 (some .int) ∈ jWG := jWG_in (List.mem_append_right _ (List.mem_of_getElem? (i := 28) (by decide +kernel))) rfl
theorem jw_mabs1 : Cond.static Lib.Math.abs.name ∈ jWG := jWG_in (List.mem_append_right _ (List.mem_of_getElem? (i := 287) (by decide +kernel))) rfl
theorem jw_mabs2 : Cond.code Lib.Math.abs.name Lib.Math.abs.code 1 (some .int) ∈ jWG := jWG_in (List.mem_append_right _ (List.mem_of_getElem? (i := 288) (by decide +kernel))) rfl
theorem jw_u_X2 : ∀ w ∈ u_ws RX2 TX2 9, w ∈ jWG := by
  intro w hw
  obtain ⟨k, hk, rfl⟩ := List.mem_map.mp hw
  have hk := List.mem_range.mp hk
  match k, hk with
  | 0, _ => exact jWG_in (List.mem_append_right _ (List.mem_of_getElem? (i := 96) (by decide +kernel))) rfl
  | 1, _ => exact jWG_in (List.mem_append_right _ (List.mem_of_getElem? (i := 98) (by decide +kernel))) rfl
  | 2, _ => exact jWG_in (List.mem_append_right _ (List.mem_of_getElem? (i := 100) (by decide +kernel))) rfl
  | 3, _ => exact jWG_in (List.mem_append_right _ (List.mem_of_getElem? (i := 102) (by decide +kernel))) rfl
  | 4, _ => exact jWG_in (List.mem_append_right _ (List.mem_of_getElem? (i := 104) (by decide +kernel))) rfl
  | 5, _ => exact jWG_in (List.mem_append_right _ (List.mem_of_getElem? (i := 106) (by decide +kernel))) rfl
  | 6, _ => exact jWG_in (List.mem_append_right _ (List.mem_of_getElem? (i := 108) (by decide +kernel))) rfl
  | 7, _ => exact jWG_in (List.mem_append_right _ (List.mem_of_getElem? (i := 110) (by decide +kernel))) rfl
  | 8, _ => exact jWG_in (List.mem_append_right _ (List.mem_of_getElem? (i := 112) (by decide +kernel))) rfl
  | k + 9, hk => omega
theorem jw_u_X3 : ∀ w ∈ u_ws RX3 TX3 7, w ∈ jWG := by
  intro w hw
  obtain ⟨k, hk, rfl⟩ := List.mem_map.mp hw
  have hk := List.mem_range.mp hk
  match k, hk with
  | 0, _ => exact jWG_in (List.mem_append_right _ (List.mem_of_getElem? (i := 47) (by decide +kernel))) rfl
  | 1, _ => exact jWG_in (List.mem_append_right _ (List.mem_of_getElem? (i := 49) (by decide +kernel))) rfl
  | 2, _ => exact jWG_in (List.mem_append_right _ (List.mem_of_getElem? (i := 51) (by decide +kernel))) rfl
  | 3, _ => exact jWG_in (List.mem_append_right _ (List.mem_of_getElem? (i := 53) (by decide +kernel))) rfl
  | 4, _ => exact jWG_in (List.mem_append_right _ (List.mem_of_getElem? (i := 55) (by decide +kernel))) rfl
  | 5, _ => exact jWG_in (List.mem_append_right _ (List.mem_of_getElem? (i := 57) (by decide +kernel))) rfl
  | 6, _ => exact jWG_in (List.mem_append_right _ (List.mem_of_getElem? (i := 59) (by decide +kernel))) rfl
  | k + 7, hk => omega
theorem jw_u_X4 : ∀ w ∈ u_ws RX4 TX4 14, w ∈ jWG := by
  intro w hw
  obtain ⟨k, hk, rfl⟩ := List.mem_map.mp hw
  have hk := List.mem_range.mp hk
  match k, hk with
  | 0, _ => exact jWG_in (List.mem_append_right _ (List.mem_of_getElem? (i := 362) (by decide +kernel))) rfl
  | 1, _ => exact jWG_in (List.mem_append_right _ (List.mem_of_getElem? (i := 364) (by decide +kernel))) rfl
  | 2, _ => exact jWG_in (List.mem_append_right _ (List.mem_of_getElem? (i := 366) (by decide +kernel))) rfl
  | 3, _ => exact jWG_in (List.mem_append_right _ (List.mem_of_getElem? (i := 368) (by decide +kernel))) rfl
  | 4, _ => exact jWG_in (List.mem_append_right _ (List.mem_of_getElem? (i := 370) (by decide +kernel))) rfl
  | 5, _ => exact jWG_in (List.mem_append_right _ (List.mem_of_getElem? (i := 372) (by decide +kernel))) rfl
  | 6, _ => exact jWG_in (List.mem_append_right _ (List.mem_of_getElem? (i := 374) (by decide +kernel))) rfl
  | 7, _ => exact jWG_in (List.mem_append_right _ (List.mem_of_getElem? (i := 376) (by decide +kernel))) rfl
  | 8, _ => exact jWG_in (List.mem_append_right _ (List.mem_of_getElem? (i := 378) (by decide +kernel))) rfl
  | 9, _ => exact jWG_in (List.mem_append_right _ (List.mem_of_getElem? (i := 380) (by decide +kernel))) rfl
  | 10, _ => exact jWG_in (List.mem_append_right _ (List.mem_of_getElem? (i := 382) (by decide +kernel))) rfl
  | 11, _ => exact jWG_in (List.mem_append_right _ (List.mem_of_getElem? (i := 384) (by decide +kernel))) rfl
  | 12, _ => exact jWG_in (List.mem_append_right _ (List.mem_of_getElem? (i := 386) (by decide +kernel))) rfl
  | 13, _ => exact jWG_in (List.mem_append_right _ (List.mem_of_getElem? (i := 388) (by decide +kernel))) rfl
  | k + 14, hk => omega
theorem jw_u_X5 : ∀ w ∈ u_ws RX5 TX5 7, w ∈ jWG := by
  intro w hw
  obtain ⟨k, hk, rfl⟩ := List.mem_map.mp hw
  have hk := List.mem_range.mp hk
  match k, hk with
  | 0, _ => exact jWG_in (List.mem_append_right _ (List.mem_of_getElem? (i := 482) (by decide +kernel))) rfl
  | 1, _ => exact jWG_in (List.mem_append_right _ (List.mem_of_getElem? (i := 484) (by decide +kernel))) rfl
  | 2, _ => exact jWG_in (List.mem_append_right _ (List.mem_of_getElem? (i := 486) (by decide +kernel))) rfl
  | 3, _ => exact jWG_in (List.mem_append_right _ (List.mem_of_getElem? (i := 488) (by decide +kernel))) rfl
  | 4, _ => exact jWG_in (List.mem_append_right _ (List.mem_of_getElem? (i := 490) (by decide +kernel))) rfl
  | 5, _ => exact jWG_in (List.mem_append_right _ (List.mem_of_getElem? (i := 492) (by decide +kernel))) rfl
  | 6, _ => exact jWG_in (List.mem_append_right _ (List.mem_of_getElem? (i := 494) (by decide +kernel))) rfl
  | k + 7, hk => omega
theorem jw_u_X6 : ∀ w ∈ u_ws RX6 TX6 7, w ∈ jWG := by
  intro w hw
  obtain ⟨k, hk, rfl⟩ := List.mem_map.mp hw
  have hk := List.mem_range.mp hk
  match k, hk with
  | 0, _ => exact jWG_in (List.mem_append_right _ (List.mem_of_getElem? (i := 122) (by decide +kernel))) rfl
  | 1, _ => exact jWG_in (List.mem_append_right _ (List.mem_of_getElem? (i := 124) (by decide +kernel))) rfl
  | 2, _ => exact jWG_in (List.mem_append_right _ (List.mem_of_getElem? (i := 126) (by decide +kernel))) rfl
  | 3, _ => exact jWG_in (List.mem_append_right _ (List.mem_of_getElem? (i := 128) (by decide +kernel))) rfl
  | 4, _ => exact jWG_in (List.mem_append_right _ (List.mem_of_getElem? (i := 130) (by decide +kernel))) rfl
  | 5, _ => exact jWG_in (List.mem_append_right _ (List.mem_of_getElem? (i := 132) (by decide +kernel))) rfl
  | 6, _ => exact jWG_in (List.mem_append_right _ (List.mem_of_getElem? (i := 134) (by decide +kernel))) rfl
  | k + 7, hk => omega
theorem jw_u_X7 : ∀ w ∈ u_ws RX7 TX7 34, w ∈ jWG := by
  intro w hw
  obtain ⟨k, hk, rfl⟩ := List.mem_map.mp hw
  have hk := List.mem_range.mp hk
  match k, hk with
  | 0, _ => exact jWG_in (List.mem_append_right _ (List.mem_of_getElem? (i := 651) (by decide +kernel))) rfl
  | 1, _ => exact jWG_in (List.mem_append_right _ (List.mem_of_getElem? (i := 653) (by decide +kernel))) rfl
  | 2, _ => exact jWG_in (List.mem_append_right _ (List.mem_of_getElem? (i := 655) (by decide +kernel))) rfl
  | 3, _ => exact jWG_in (List.mem_append_right _ (List.mem_of_getElem? (i := 657) (by decide +kernel))) rfl
  | 4, _ => exact jWG_in (List.mem_append_right _ (List.mem_of_getElem? (i := 659) (by decide +kernel))) rfl
  | 5, _ => exact jWG_in (List.mem_append_right _ (List.mem_of_getElem? (i := 661) (by decide +kernel))) rfl
  | 6, _ => exact jWG_in (List.mem_append_right _ (List.mem_of_getElem? (i := 663) (by decide +kernel))) rfl
  | 7, _ => exact jWG_in (List.mem_append_right _ (List.mem_of_getElem? (i := 665) (by decide +kernel))) rfl
  | 8, _ => exact jWG_in (List.mem_append_right _ (List.mem_of_getElem? (i := 667) (by decide +kernel))) rfl
  | 9, _ => exact jWG_in (List.mem_append_right _ (List.mem_of_getElem? (i := 669) (by decide +kernel))) rfl
  | 10, _ => exact jWG_in (List.mem_append_right _ (List.mem_of_getElem? (i := 671) (by decide +kernel))) rfl
  | 11, _ => exact jWG_in (List.mem_append_right _ (List.mem_of_getElem? (i := 673) (by decide +kernel))) rfl
  | 12, _ => exact jWG_in (List.mem_append_right _ (List.mem_of_getElem? (i := 675) (by decide +kernel))) rfl
  | 13, _ => exact jWG_in (List.mem_append_right _ (List.mem_of_getElem? (i := 677) (by decide +kernel))) rfl
  | 14, _ => exact jWG_in (List.mem_append_right _ (List.mem_of_getElem? (i := 679) (by decide +kernel))) rfl
  | 15, _ => exact jWG_in (List.mem_append_right _ (List.mem_of_getElem? (i := 681) (by decide +kernel))) rfl
  | 16, _ => exact jWG_in (List.mem_append_right _ (List.mem_of_getElem? (i := 683) (by decide +kernel))) rfl
  | 17, _ => exact jWG_in (List.mem_append_right _ (List.mem_of_getElem? (i := 685) (by decide +kernel))) rfl
  | 18, _ => exact jWG_in (List.mem_append_right _ (List.mem_of_getElem? (i := 687) (by decide +kernel))) rfl
  | 19, _ => exact jWG_in (List.mem_append_right _ (List.mem_of_getElem? (i := 689) (by decide +kernel))) rfl
  | 20, _ => exact jWG_in (List.mem_append_right _ (List.mem_of_getElem? (i := 691) (by decide +kernel))) rfl
  | 21, _ => exact jWG_in (List.mem_append_right _ (List.mem_of_getElem? (i := 693) (by decide +kernel))) rfl
  | 22, _ => exact jWG_in (List.mem_append_right _ (List.mem_of_getElem? (i := 695) (by decide +kernel))) rfl
  | 23, _ => exact jWG_in (List.mem_append_right _ (List.mem_of_getElem? (i := 697) (by decide +kernel))) rfl
  | 24, _ => exact jWG_in (List.mem_append_right _ (List.mem_of_getElem? (i := 699) (by decide +kernel))) rfl
  | 25, _ => exact jWG_in (List.mem_append_right _ (List.mem_of_getElem? (i := 701) (by decide +kernel))) rfl
  | 26, _ => exact jWG_in (List.mem_append_right _ (List.mem_of_getElem? (i := 703) (by decide +kernel))) rfl
  | 27, _ => exact jWG_in (List.mem_append_right _ (List.mem_of_getElem? (i := 705) (by decide +kernel))) rfl
  | 28, _ => exact jWG_in (List.mem_append_right _ (List.mem_of_getElem? (i := 707) (by decide +kernel))) rfl
  | 29, _ => exact jWG_in (List.mem_append_right _ (List.mem_of_getElem? (i := 709) (by decide +kernel))) rfl
  | 30, _ => exact jWG_in (List.mem_append_right _ (List.mem_of_getElem? (i := 711) (by decide +kernel))) rfl
  | 31, _ => exact jWG_in (List.mem_append_right _ (List.mem_of_getElem? (i := 713) (by decide +kernel))) rfl
  | 32, _ => exact jWG_in (List.mem_append_right _ (List.mem_of_getElem? (i := 715) (by decide +kernel))) rfl
  | 33, _ => exact jWG_in (List.mem_append_right _ (List.mem_of_getElem? (i := 717) (by decide +kernel))) rfl
  | k + 34, hk => omega
