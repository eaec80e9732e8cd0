/-! the tables' rows stand in lw_tbl -/
def pm_g : List Jvm.Cond := lw_tbl.filter goodWord
theorem pm_g_of {w : Jvm.Cond} {i : Nat} (h : lw_tbl[i]? = some w) (hg : goodWord w = true) : w ∈ pm_g := List.mem_filter.mpr ⟨List.mem_of_getElem? h, hg⟩
set_option maxRecDepth 100000 in
theorem pm_fld_ok : ∀ r ∈ pm_fldT, lw_tbl[r.2.2.2.2]? = some (Jvm.Cond.fieldLink (pm_R r.1) r.2.1 (pm_T r.2.2.1 r.2.2.2.1).1 (pm_T r.2.2.1 r.2.2.2.1).2.1 (pm_T r.2.2.1 r.2.2.2.1).2.2.1) ∧ r.2.2.2.1 < pm_N r.2.2.1 ∧ r.2.2.1 < 8 := by decide +kernel
def pm_cw (o i : Nat) (v : Value) : Jvm.Cond := match v with
  | .int x => .constant (pm_R o) i x
  | .long x => .constantLong (pm_R o) i x
  | _ => .tt
set_option maxRecDepth 100000 in
theorem pm_cst_ok : ∀ r ∈ pm_cstT, lw_tbl[r.2.2.2]? = some (pm_cw r.1 r.2.1 r.2.2.1) := by decide +kernel
set_option maxRecDepth 100000 in
theorem pm_cls_ok : ∀ r ∈ pm_clsT, lw_tbl[r.2.2.2.1]? = some (Jvm.Cond.classLink (pm_R r.1) r.2.1 (pm_R r.2.2.1)) ∧ lw_tbl[r.2.2.2.2.1]? = some (Jvm.Cond.instantiable (pm_R r.2.2.1) (pm_N r.2.2.1)) ∧ lw_tbl[r.2.2.2.2.2]? = some (Jvm.Cond.initialized (pm_R r.2.2.1)) ∧ r.2.2.1 < 8 := by decide +kernel
set_option maxRecDepth 100000 in
theorem pm_oi_ok : (∀ r ∈ pm_oiT, lw_tbl[r.2.2]? = some (Jvm.Cond.methodLink (pm_R r.1) r.2.1 Lib.objectInit)) ∧ lw_tbl[pm_oiP.1]? = some (Jvm.Cond.instanceMethod Lib.objectInit) := by decide +kernel
theorem pm_oi_code : lw_tbl[pm_oiP.2]? = some (Jvm.Cond.code Lib.objectInit ⟨#[0xb1]⟩ 1 none) := by decide +kernel
def pm_ml (o i kind : Nat) (z : pm_M) : Jvm.Cond := if kind ≤ 2 then .methodLink (pm_R o) i z.2.1 else .methodLinkNest (pm_R o) i z.2.1 "ClockPlanner"
def pm_w2 (kind : Nat) (z : pm_M) : Jvm.Cond := if kind = 1 ∨ kind = 3 then .static z.2.1 else .instanceMethod z.2.1
def pm_w3 (kind : Nat) (z : pm_M) : Jvm.Cond := if kind = 0 then .selects z.2.1.cls z.2.1 z.2.1 else pm_w2 kind z
/-- what a row of the calls says of its callee -/
def pm_row (r : Nat × Nat × Nat × Nat × pm_M × List Nat) : Bool :=
  match r with
  | (o, i, kind, n, z, ps) => decide (lw_tbl[ps.getD 0 0]? = some (pm_ml o i kind z)) && decide (lw_tbl[ps.getD 1 0]? = some (pm_w2 kind z)) && decide (lw_tbl[ps.getD 2 0]? = some (pm_w3 kind z)) && decide (lw_tbl[ps.getD 3 0]? = some (Jvm.Cond.initialized z.2.1.cls))
    && decide (z.2.1.cls = pm_R z.1) && plainName z.2.1.cls && decide (z.2.1.cls ≠ "java/lang/invoke/MethodHandle") && decide (z.2.1.cls ≠ "java/lang/invoke/VarHandle") && decide ((parseMethodDescriptor z.2.1.desc).map (fun d => d.parameters.length) = some n)
    && decide (kind < 5) && (decide (kind < 2 ∨ kind = 3) || (decide (z.2.1.name = "<init>") && decide (z.2.2.2.2 = none)))
set_option maxRecDepth 100000 in
theorem pm_row0 : pm_mthT0.all pm_row = true := by decide +kernel
set_option maxRecDepth 100000 in
theorem pm_row1 : pm_mthT1.all pm_row = true := by decide +kernel
set_option maxRecDepth 100000 in
theorem pm_row2 : pm_mthT2.all pm_row = true := by decide +kernel
set_option maxRecDepth 100000 in
theorem pm_row3 : pm_mthT3.all pm_row = true := by decide +kernel
set_option maxRecDepth 100000 in
theorem pm_row4 : pm_mthT4.all pm_row = true := by decide +kernel
set_option maxRecDepth 100000 in
theorem pm_row5 : pm_mthT5.all pm_row = true := by decide +kernel
def pm_mmN (b : Bool) : MethodName := if b then Lib.Math.max.name else Lib.Math.min.name
set_option maxRecDepth 100000 in
theorem pm_mm_ok : ∀ r ∈ pm_mmT, lw_tbl[r.2.2.2.getD 0 0]? = some (Jvm.Cond.methodLink (pm_R r.1) r.2.1 (pm_mmN r.2.2.1)) ∧ lw_tbl[r.2.2.2.getD 1 0]? = some (Jvm.Cond.static (pm_mmN r.2.2.1)) ∧ lw_tbl[r.2.2.2.getD 3 0]? = some (Jvm.Cond.initialized "java/lang/Math") ∧ lw_tbl[r.2.2.2.getD 4 0]? = some (if r.2.2.1 then Jvm.Cond.code Lib.Math.max.name Lib.Math.max.code 2 (some .int) else Jvm.Cond.code Lib.Math.min.name Lib.Math.min.code 2 (some .int)) := by decide +kernel
theorem pm_in1 {w : Jvm.Cond} (h : w ∈ tables_1_1) : w ∈ lw_tbl := List.mem_append_right _ (List.mem_append_left _ h)
theorem pm_in2 {w : Jvm.Cond} (h : w ∈ tables_1_2) : w ∈ lw_tbl := List.mem_append_right _ (List.mem_append_right _ (List.mem_append_left _ h))
theorem pm_in3 {w : Jvm.Cond} (h : w ∈ tables_1_3) : w ∈ lw_tbl := List.mem_append_right _ (List.mem_append_right _ (List.mem_append_right _ (List.mem_append_left _ h)))
theorem pm_in4 {w : Jvm.Cond} (h : w ∈ tables_1_4) : w ∈ lw_tbl := List.mem_append_right _ (List.mem_append_right _ (List.mem_append_right _ (List.mem_append_right _ (List.mem_append_left _ h))))
theorem pm_in5 {w : Jvm.Cond} (h : w ∈ tables_1_5) : w ∈ lw_tbl := List.mem_append_right _ (List.mem_append_right _ (List.mem_append_right _ (List.mem_append_right _ (List.mem_append_right _ h))))
def pm_cw2 (z : pm_M) : Jvm.Cond := Jvm.Cond.code z.2.1 z.2.2.1 z.2.2.2.1 z.2.2.2.2
theorem kJ13_compare_74951 : pm_cw2 mJ13_compare_74951 ∈ lw_tbl := pm_in3 (List.mem_of_getElem? (i := 179) rfl)
theorem kJ6_bitCount_0f7a4 : pm_cw2 mJ6_bitCount_0f7a4 ∈ lw_tbl := pm_in2 (List.mem_of_getElem? (i := 43) rfl)
theorem kJ9_max_7cf53 : pm_cw2 mJ9_max_7cf53 ∈ lw_tbl := pm_in3 (List.mem_of_getElem? (i := 1) rfl)
theorem kJ9_min_7cf53 : pm_cw2 mJ9_min_7cf53 ∈ lw_tbl := pm_in2 (List.mem_of_getElem? (i := 126) rfl)
theorem kX0_compareRates : pm_cw2 mX0_compareRates ∈ lw_tbl := pm_in3 (List.mem_of_getElem? (i := 176) rfl)
theorem kX0_drawOf : pm_cw2 mX0_drawOf ∈ lw_tbl := pm_in3 (List.mem_of_getElem? (i := 17) rfl)
theorem kX0_init : pm_cw2 mX0_init ∈ lw_tbl := pm_in1 (List.mem_of_getElem? (i := 100) rfl)
theorem kX0_isContent : pm_cw2 mX0_isContent ∈ lw_tbl := pm_in2 (List.mem_of_getElem? (i := 113) rfl)
theorem kX0_isOpenWithout : pm_cw2 mX0_isOpenWithout ∈ lw_tbl := pm_in2 (List.mem_of_getElem? (i := 40) rfl)
theorem kX0_read : pm_cw2 mX0_read ∈ lw_tbl := pm_in2 (List.mem_of_getElem? (i := 14) rfl)
theorem kX0_readBelow : pm_cw2 mX0_readBelow ∈ lw_tbl := pm_in2 (List.mem_of_getElem? (i := 32) rfl)
theorem kX0_readGates : pm_cw2 mX0_readGates ∈ lw_tbl := pm_in2 (List.mem_of_getElem? (i := 36) rfl)
theorem kX0_readPaths : pm_cw2 mX0_readPaths ∈ lw_tbl := pm_in2 (List.mem_of_getElem? (i := 28) rfl)
theorem kX0_readRates : pm_cw2 mX0_readRates ∈ lw_tbl := pm_in2 (List.mem_of_getElem? (i := 18) rfl)
theorem kX1_init : pm_cw2 mX1_init ∈ lw_tbl := pm_in1 (List.mem_of_getElem? (i := 149) rfl)
theorem kX1_pop : pm_cw2 mX1_pop ∈ lw_tbl := pm_in3 (List.mem_of_getElem? (i := 211) rfl)
theorem kX1_push : pm_cw2 mX1_push ∈ lw_tbl := pm_in2 (List.mem_of_getElem? (i := 122) rfl)
theorem kX2_cheapest : pm_cw2 mX2_cheapest ∈ lw_tbl := pm_in3 (List.mem_of_getElem? (i := 26) rfl)
theorem kX2_costOf : pm_cw2 mX2_costOf ∈ lw_tbl := pm_in3 (List.mem_of_getElem? (i := 30) rfl)
theorem kX2_find : pm_cw2 mX2_find ∈ lw_tbl := pm_in3 (List.mem_of_getElem? (i := 13) rfl)
theorem kX2_init : pm_cw2 mX2_init ∈ lw_tbl := pm_in1 (List.mem_of_getElem? (i := 219) rfl)
theorem kX2_powerWithout : pm_cw2 mX2_powerWithout ∈ lw_tbl := pm_in3 (List.mem_of_getElem? (i := 21) rfl)
theorem kX3_init : pm_cw2 mX3_init ∈ lw_tbl := pm_in1 (List.mem_of_getElem? (i := 169) rfl)
theorem kX3_parse : pm_cw2 mX3_parse ∈ lw_tbl := pm_in3 (List.mem_of_getElem? (i := 60) rfl)
theorem kX3_put : pm_cw2 mX3_put ∈ lw_tbl := pm_in3 (List.mem_of_getElem? (i := 52) rfl)
theorem kX3_readDigit : pm_cw2 mX3_readDigit ∈ lw_tbl := pm_in3 (List.mem_of_getElem? (i := 68) rfl)
theorem kX3_readKind : pm_cw2 mX3_readKind ∈ lw_tbl := pm_in3 (List.mem_of_getElem? (i := 84) rfl)
theorem kX3_readLeaf : pm_cw2 mX3_readLeaf ∈ lw_tbl := pm_in3 (List.mem_of_getElem? (i := 76) rfl)
theorem kX3_readNumber : pm_cw2 mX3_readNumber ∈ lw_tbl := pm_in3 (List.mem_of_getElem? (i := 64) rfl)
theorem kX3_readNumberOf : pm_cw2 mX3_readNumberOf ∈ lw_tbl := pm_in3 (List.mem_of_getElem? (i := 88) rfl)
theorem kX3_readSign : pm_cw2 mX3_readSign ∈ lw_tbl := pm_in3 (List.mem_of_getElem? (i := 72) rfl)
theorem kX3_readStep : pm_cw2 mX3_readStep ∈ lw_tbl := pm_in3 (List.mem_of_getElem? (i := 80) rfl)
theorem kX4_append : pm_cw2 mX4_append ∈ lw_tbl := pm_in2 (List.mem_of_getElem? (i := 149) rfl)
theorem kX4_appendLeaf : pm_cw2 mX4_appendLeaf ∈ lw_tbl := pm_in2 (List.mem_of_getElem? (i := 169) rfl)
theorem kX4_drop : pm_cw2 mX4_drop ∈ lw_tbl := pm_in2 (List.mem_of_getElem? (i := 222) rfl)
theorem kX4_init : pm_cw2 mX4_init ∈ lw_tbl := pm_in1 (List.mem_of_getElem? (i := 24) rfl)
theorem kX4_isOfGroup : pm_cw2 mX4_isOfGroup ∈ lw_tbl := pm_in2 (List.mem_of_getElem? (i := 210) rfl)
theorem kX4_take : pm_cw2 mX4_take ∈ lw_tbl := pm_in2 (List.mem_of_getElem? (i := 97) rfl)
theorem kX5_find : pm_cw2 mX5_find ∈ lw_tbl := pm_in3 (List.mem_of_getElem? (i := 147) rfl)
theorem kX5_findAt : pm_cw2 mX5_findAt ∈ lw_tbl := pm_in3 (List.mem_of_getElem? (i := 151) rfl)
theorem kX5_init : pm_cw2 mX5_init ∈ lw_tbl := pm_in1 (List.mem_of_getElem? (i := 232) rfl)
theorem kX5_lastStep : pm_cw2 mX5_lastStep ∈ lw_tbl := pm_in3 (List.mem_of_getElem? (i := 158) rfl)
theorem kX5_reaches : pm_cw2 mX5_reaches ∈ lw_tbl := pm_in3 (List.mem_of_getElem? (i := 155) rfl)
theorem kX5_reachesByTwo : pm_cw2 mX5_reachesByTwo ∈ lw_tbl := pm_in3 (List.mem_of_getElem? (i := 162) rfl)
theorem kX6_account : pm_cw2 mX6_account ∈ lw_tbl := pm_in3 (List.mem_of_getElem? (i := 183) rfl)
theorem kX6_add : pm_cw2 mX6_add ∈ lw_tbl := pm_in2 (List.mem_of_getElem? (i := 130) rfl)
theorem kX6_again : pm_cw2 mX6_again ∈ lw_tbl := pm_in3 (List.mem_of_getElem? (i := 112) rfl)
theorem kX6_back : pm_cw2 mX6_back ∈ lw_tbl := pm_in3 (List.mem_of_getElem? (i := 207) rfl)
theorem kX6_begin : pm_cw2 mX6_begin ∈ lw_tbl := pm_in2 (List.mem_of_getElem? (i := 93) rfl)
theorem kX6_contentLeaves : pm_cw2 mX6_contentLeaves ∈ lw_tbl := pm_in3 (List.mem_of_getElem? (i := 191) rfl)
theorem kX6_count : pm_cw2 mX6_count ∈ lw_tbl := pm_in3 (List.mem_of_getElem? (i := 223) rfl)
theorem kX6_earliestOf : pm_cw2 mX6_earliestOf ∈ lw_tbl := pm_in2 (List.mem_of_getElem? (i := 214) rfl)
theorem kX6_feed : pm_cw2 mX6_feed ∈ lw_tbl := pm_in3 (List.mem_of_getElem? (i := 45) rfl)
theorem kX6_finish : pm_cw2 mX6_finish ∈ lw_tbl := pm_in2 (List.mem_of_getElem? (i := 118) rfl)
theorem kX6_finishRates : pm_cw2 mX6_finishRates ∈ lw_tbl := pm_in2 (List.mem_of_getElem? (i := 101) rfl)
theorem kX6_giveUpLaying : pm_cw2 mX6_giveUpLaying ∈ lw_tbl := pm_in3 (List.mem_of_getElem? (i := 96) rfl)
theorem kX6_greatestCommon : pm_cw2 mX6_greatestCommon ∈ lw_tbl := pm_in2 (List.mem_of_getElem? (i := 21) rfl)
theorem kX6_greatestDepth : pm_cw2 mX6_greatestDepth ∈ lw_tbl := pm_in3 (List.mem_of_getElem? (i := 199) rfl)
theorem kX6_holds : pm_cw2 mX6_holds ∈ lw_tbl := pm_in3 (List.mem_of_getElem? (i := 33) rfl)
theorem kX6_image : pm_cw2 mX6_image ∈ lw_tbl := pm_in3 (List.mem_of_getElem? (i := 215) rfl)
theorem kX6_init : pm_cw2 mX6_init ∈ lw_tbl := pm_in1 (List.mem_of_getElem? (i := 16) rfl)
theorem kX6_isAbove : pm_cw2 mX6_isAbove ∈ lw_tbl := pm_in2 (List.mem_of_getElem? (i := 109) rfl)
theorem kX6_isBudget : pm_cw2 mX6_isBudget ∈ lw_tbl := pm_in3 (List.mem_of_getElem? (i := 8) rfl)
theorem kX6_isByte : pm_cw2 mX6_isByte ∈ lw_tbl := pm_in3 (List.mem_of_getElem? (i := 48) rfl)
theorem kX6_isGroup : pm_cw2 mX6_isGroup ∈ lw_tbl := pm_in2 (List.mem_of_getElem? (i := 156) rfl)
theorem kX6_isLeaf : pm_cw2 mX6_isLeaf ∈ lw_tbl := pm_in2 (List.mem_of_getElem? (i := 186) rfl)
theorem kX6_isNode : pm_cw2 mX6_isNode ∈ lw_tbl := pm_in2 (List.mem_of_getElem? (i := 142) rfl)
theorem kX6_isNumberOf : pm_cw2 mX6_isNumberOf ∈ lw_tbl := pm_in2 (List.mem_of_getElem? (i := 145) rfl)
theorem kX6_isPart : pm_cw2 mX6_isPart ∈ lw_tbl := pm_in3 (List.mem_of_getElem? (i := 107) rfl)
theorem kX6_lackOf : pm_cw2 mX6_lackOf ∈ lw_tbl := pm_in2 (List.mem_of_getElem? (i := 238) rfl)
theorem kX6_latestOf : pm_cw2 mX6_latestOf ∈ lw_tbl := pm_in2 (List.mem_of_getElem? (i := 202) rfl)
theorem kX6_lay : pm_cw2 mX6_lay ∈ lw_tbl := pm_in3 (List.mem_of_getElem? (i := 56) rfl)
theorem kX6_leaf : pm_cw2 mX6_leaf ∈ lw_tbl := pm_in2 (List.mem_of_getElem? (i := 153) rfl)
theorem kX6_leastAllowed : pm_cw2 mX6_leastAllowed ∈ lw_tbl := pm_in2 (List.mem_of_getElem? (i := 234) rfl)
theorem kX6_leavesOf : pm_cw2 mX6_leavesOf ∈ lw_tbl := pm_in3 (List.mem_of_getElem? (i := 130) rfl)
theorem kX6_limit : pm_cw2 mX6_limit ∈ lw_tbl := pm_in2 (List.mem_of_getElem? (i := 194) rfl)
theorem kX6_mend : pm_cw2 mX6_mend ∈ lw_tbl := pm_in2 (List.mem_of_getElem? (i := 226) rfl)
theorem kX6_mendingOf : pm_cw2 mX6_mendingOf ∈ lw_tbl := pm_in2 (List.mem_of_getElem? (i := 230) rfl)
theorem kX6_node : pm_cw2 mX6_node ∈ lw_tbl := pm_in3 (List.mem_of_getElem? (i := 118) rfl)
theorem kX6_nodesOf : pm_cw2 mX6_nodesOf ∈ lw_tbl := pm_in2 (List.mem_of_getElem? (i := 164) rfl)
theorem kX6_ofGroup : pm_cw2 mX6_ofGroup ∈ lw_tbl := pm_in3 (List.mem_of_getElem? (i := 126) rfl)
theorem kX6_ofLeaf : pm_cw2 mX6_ofLeaf ∈ lw_tbl := pm_in3 (List.mem_of_getElem? (i := 122) rfl)
theorem kX6_openGates : pm_cw2 mX6_openGates ∈ lw_tbl := pm_in2 (List.mem_of_getElem? (i := 190) rfl)
theorem kX6_placeOf : pm_cw2 mX6_placeOf ∈ lw_tbl := pm_in3 (List.mem_of_getElem? (i := 172) rfl)
theorem kX6_power : pm_cw2 mX6_power ∈ lw_tbl := pm_in3 (List.mem_of_getElem? (i := 134) rfl)
theorem kX6_powerOfAll : pm_cw2 mX6_powerOfAll ∈ lw_tbl := pm_in3 (List.mem_of_getElem? (i := 138) rfl)
theorem kX6_quotient : pm_cw2 mX6_quotient ∈ lw_tbl := pm_in2 (List.mem_of_getElem? (i := 24) rfl)
theorem kX6_ranked : pm_cw2 mX6_ranked ∈ lw_tbl := pm_in3 (List.mem_of_getElem? (i := 168) rfl)
theorem kX6_rate : pm_cw2 mX6_rate ∈ lw_tbl := pm_in3 (List.mem_of_getElem? (i := 104) rfl)
theorem kX6_reason : pm_cw2 mX6_reason ∈ lw_tbl := pm_in3 (List.mem_of_getElem? (i := 100) rfl)
theorem kX6_refusalOfLeaf : pm_cw2 mX6_refusalOfLeaf ∈ lw_tbl := pm_in2 (List.mem_of_getElem? (i := 160) rfl)
theorem kX6_refusalOfNode : pm_cw2 mX6_refusalOfNode ∈ lw_tbl := pm_in2 (List.mem_of_getElem? (i := 134) rfl)
theorem kX6_refusalOfPlace : pm_cw2 mX6_refusalOfPlace ∈ lw_tbl := pm_in2 (List.mem_of_getElem? (i := 138) rfl)
theorem kX6_refusalOfRates : pm_cw2 mX6_refusalOfRates ∈ lw_tbl := pm_in2 (List.mem_of_getElem? (i := 105) rfl)
theorem kX6_refuse : pm_cw2 mX6_refuse ∈ lw_tbl := pm_in2 (List.mem_of_getElem? (i := 89) rfl)
theorem kX6_remove : pm_cw2 mX6_remove ∈ lw_tbl := pm_in2 (List.mem_of_getElem? (i := 218) rfl)
theorem kX6_request : pm_cw2 mX6_request ∈ lw_tbl := pm_in2 (List.mem_of_getElem? (i := 182) rfl)
theorem kX6_runningNodes : pm_cw2 mX6_runningNodes ∈ lw_tbl := pm_in3 (List.mem_of_getElem? (i := 187) rfl)
theorem kX6_runsIn : pm_cw2 mX6_runsIn ∈ lw_tbl := pm_in2 (List.mem_of_getElem? (i := 206) rfl)
theorem kX6_set : pm_cw2 mX6_set ∈ lw_tbl := pm_in2 (List.mem_of_getElem? (i := 174) rfl)
theorem kX6_shed : pm_cw2 mX6_shed ∈ lw_tbl := pm_in3 (List.mem_of_getElem? (i := 5) rfl)
theorem kX6_skewOf : pm_cw2 mX6_skewOf ∈ lw_tbl := pm_in2 (List.mem_of_getElem? (i := 198) rfl)
theorem kX6_skewedGroups : pm_cw2 mX6_skewedGroups ∈ lw_tbl := pm_in3 (List.mem_of_getElem? (i := 203) rfl)
theorem kX6_source : pm_cw2 mX6_source ∈ lw_tbl := pm_in2 (List.mem_of_getElem? (i := 84) rfl)
theorem kX6_stepFrom : pm_cw2 mX6_stepFrom ∈ lw_tbl := pm_in3 (List.mem_of_getElem? (i := 92) rfl)
theorem kX6_sumOfPads : pm_cw2 mX6_sumOfPads ∈ lw_tbl := pm_in3 (List.mem_of_getElem? (i := 195) rfl)
theorem kX6_tune : pm_cw2 mX6_tune ∈ lw_tbl := pm_in2 (List.mem_of_getElem? (i := 178) rfl)
theorem kX6_undo : pm_cw2 mX6_undo ∈ lw_tbl := pm_in3 (List.mem_of_getElem? (i := 219) rfl)
theorem kX6_way : pm_cw2 mX6_way ∈ lw_tbl := pm_in3 (List.mem_of_getElem? (i := 143) rfl)
theorem kX6_wouldShed : pm_cw2 mX6_wouldShed ∈ lw_tbl := pm_in3 (List.mem_of_getElem? (i := 41) rfl)
theorem kX7_above : pm_cw2 mX7_above ∈ lw_tbl := pm_in4 (List.mem_of_getElem? (i := 108) rfl)
theorem kX7_aboveBehind : pm_cw2 mX7_aboveBehind ∈ lw_tbl := pm_in5 (List.mem_of_getElem? (i := 151) rfl)
theorem kX7_account : pm_cw2 mX7_account ∈ lw_tbl := pm_in5 (List.mem_of_getElem? (i := 172) rfl)
theorem kX7_add : pm_cw2 mX7_add ∈ lw_tbl := pm_in4 (List.mem_of_getElem? (i := 133) rfl)
theorem kX7_added : pm_cw2 mX7_added ∈ lw_tbl := pm_in4 (List.mem_of_getElem? (i := 171) rfl)
theorem kX7_again : pm_cw2 mX7_again ∈ lw_tbl := pm_in5 (List.mem_of_getElem? (i := 110) rfl)
theorem kX7_arrival : pm_cw2 mX7_arrival ∈ lw_tbl := pm_in4 (List.mem_of_getElem? (i := 233) rfl)
theorem kX7_back : pm_cw2 mX7_back ∈ lw_tbl := pm_in5 (List.mem_of_getElem? (i := 189) rfl)
theorem kX7_below : pm_cw2 mX7_below ∈ lw_tbl := pm_in4 (List.mem_of_getElem? (i := 97) rfl)
theorem kX7_belowBehind : pm_cw2 mX7_belowBehind ∈ lw_tbl := pm_in5 (List.mem_of_getElem? (i := 154) rfl)
theorem kX7_canShut : pm_cw2 mX7_canShut ∈ lw_tbl := pm_in5 (List.mem_of_getElem? (i := 45) rfl)
theorem kX7_childLike : pm_cw2 mX7_childLike ∈ lw_tbl := pm_in5 (List.mem_of_getElem? (i := 97) rfl)
theorem kX7_children : pm_cw2 mX7_children ∈ lw_tbl := pm_in5 (List.mem_of_getElem? (i := 1) rfl)
theorem kX7_comes : pm_cw2 mX7_comes ∈ lw_tbl := pm_in4 (List.mem_of_getElem? (i := 163) rfl)
theorem kX7_contentMany : pm_cw2 mX7_contentMany ∈ lw_tbl := pm_in5 (List.mem_of_getElem? (i := 177) rfl)
theorem kX7_contents : pm_cw2 mX7_contents ∈ lw_tbl := pm_in4 (List.mem_of_getElem? (i := 85) rfl)
theorem kX7_count : pm_cw2 mX7_count ∈ lw_tbl := pm_in5 (List.mem_of_getElem? (i := 201) rfl)
theorem kX7_depth : pm_cw2 mX7_depth ∈ lw_tbl := pm_in4 (List.mem_of_getElem? (i := 154) rfl)
theorem kX7_digit : pm_cw2 mX7_digit ∈ lw_tbl := pm_in5 (List.mem_of_getElem? (i := 78) rfl)
theorem kX7_divisor : pm_cw2 mX7_divisor ∈ lw_tbl := pm_in4 (List.mem_of_getElem? (i := 104) rfl)
theorem kX7_expects : pm_cw2 mX7_expects ∈ lw_tbl := pm_in5 (List.mem_of_getElem? (i := 93) rfl)
theorem kX7_feed : pm_cw2 mX7_feed ∈ lw_tbl := pm_in5 (List.mem_of_getElem? (i := 60) rfl)
theorem kX7_findsWays : pm_cw2 mX7_findsWays ∈ lw_tbl := pm_in5 (List.mem_of_getElem? (i := 140) rfl)
theorem kX7_goesBack : pm_cw2 mX7_goesBack ∈ lw_tbl := pm_in4 (List.mem_of_getElem? (i := 125) rfl)
theorem kX7_growth : pm_cw2 mX7_growth ∈ lw_tbl := pm_in5 (List.mem_of_getElem? (i := 13) rfl)
theorem kX7_has : pm_cw2 mX7_has ∈ lw_tbl := pm_in5 (List.mem_of_getElem? (i := 48) rfl)
theorem kX7_image : pm_cw2 mX7_image ∈ lw_tbl := pm_in5 (List.mem_of_getElem? (i := 193) rfl)
theorem kX7_init : pm_cw2 mX7_init ∈ lw_tbl := pm_in3 (List.mem_of_getElem? (i := 228) rfl)
theorem kX7_isAhead : pm_cw2 mX7_isAhead ∈ lw_tbl := pm_in5 (List.mem_of_getElem? (i := 168) rfl)
theorem kX7_isAnyTooFast : pm_cw2 mX7_isAnyTooFast ∈ lw_tbl := pm_in4 (List.mem_of_getElem? (i := 116) rfl)
theorem kX7_isAt : pm_cw2 mX7_isAt ∈ lw_tbl := pm_in5 (List.mem_of_getElem? (i := 82) rfl)
theorem kX7_isBelow : pm_cw2 mX7_isBelow ∈ lw_tbl := pm_in4 (List.mem_of_getElem? (i := 188) rfl)
theorem kX7_isBetter : pm_cw2 mX7_isBetter ∈ lw_tbl := pm_in5 (List.mem_of_getElem? (i := 148) rfl)
theorem kX7_isBudget : pm_cw2 mX7_isBudget ∈ lw_tbl := pm_in5 (List.mem_of_getElem? (i := 20) rfl)
theorem kX7_isContent : pm_cw2 mX7_isContent ∈ lw_tbl := pm_in4 (List.mem_of_getElem? (i := 93) rfl)
theorem kX7_isIn : pm_cw2 mX7_isIn ∈ lw_tbl := pm_in4 (List.mem_of_getElem? (i := 73) rfl)
theorem kX7_isLeaf : pm_cw2 mX7_isLeaf ∈ lw_tbl := pm_in4 (List.mem_of_getElem? (i := 150) rfl)
theorem kX7_isNode : pm_cw2 mX7_isNode ∈ lw_tbl := pm_in4 (List.mem_of_getElem? (i := 146) rfl)
theorem kX7_isNumber : pm_cw2 mX7_isNumber ∈ lw_tbl := pm_in4 (List.mem_of_getElem? (i := 157) rfl)
theorem kX7_isOf : pm_cw2 mX7_isOf ∈ lw_tbl := pm_in4 (List.mem_of_getElem? (i := 225) rfl)
theorem kX7_isOpen : pm_cw2 mX7_isOpen ∈ lw_tbl := pm_in4 (List.mem_of_getElem? (i := 208) rfl)
theorem kX7_isStep : pm_cw2 mX7_isStep ∈ lw_tbl := pm_in5 (List.mem_of_getElem? (i := 157) rfl)
theorem kX7_isTooFast : pm_cw2 mX7_isTooFast ∈ lw_tbl := pm_in4 (List.mem_of_getElem? (i := 120) rfl)
theorem kX7_keeps : pm_cw2 mX7_keeps ∈ lw_tbl := pm_in4 (List.mem_of_getElem? (i := 81) rfl)
theorem kX7_kindOf : pm_cw2 mX7_kindOf ∈ lw_tbl := pm_in5 (List.mem_of_getElem? (i := 89) rfl)
theorem kX7_latest : pm_cw2 mX7_latest ∈ lw_tbl := pm_in4 (List.mem_of_getElem? (i := 221) rfl)
theorem kX7_lay : pm_cw2 mX7_lay ∈ lw_tbl := pm_in5 (List.mem_of_getElem? (i := 66) rfl)
theorem kX7_leaf : pm_cw2 mX7_leaf ∈ lw_tbl := pm_in4 (List.mem_of_getElem? (i := 175) rfl)
theorem kX7_leaves : pm_cw2 mX7_leaves ∈ lw_tbl := pm_in4 (List.mem_of_getElem? (i := 184) rfl)
theorem kX7_leavesOf : pm_cw2 mX7_leavesOf ∈ lw_tbl := pm_in5 (List.mem_of_getElem? (i := 127) rfl)
theorem kX7_left : pm_cw2 mX7_left ∈ lw_tbl := pm_in5 (List.mem_of_getElem? (i := 41) rfl)
theorem kX7_limit : pm_cw2 mX7_limit ∈ lw_tbl := pm_in4 (List.mem_of_getElem? (i := 212) rfl)
theorem kX7_mend : pm_cw2 mX7_mend ∈ lw_tbl := pm_in5 (List.mem_of_getElem? (i := 5) rfl)
theorem kX7_mending : pm_cw2 mX7_mending ∈ lw_tbl := pm_in5 (List.mem_of_getElem? (i := 9) rfl)
theorem kX7_n : pm_cw2 mX7_n ∈ lw_tbl := pm_in4 (List.mem_of_getElem? (i := 89) rfl)
theorem kX7_node : pm_cw2 mX7_node ∈ lw_tbl := pm_in5 (List.mem_of_getElem? (i := 115) rfl)
theorem kX7_number : pm_cw2 mX7_number ∈ lw_tbl := pm_in5 (List.mem_of_getElem? (i := 74) rfl)
theorem kX7_ofGroup : pm_cw2 mX7_ofGroup ∈ lw_tbl := pm_in5 (List.mem_of_getElem? (i := 123) rfl)
theorem kX7_ofLeaf : pm_cw2 mX7_ofLeaf ∈ lw_tbl := pm_in5 (List.mem_of_getElem? (i := 119) rfl)
theorem kX7_offers : pm_cw2 mX7_offers ∈ lw_tbl := pm_in5 (List.mem_of_getElem? (i := 144) rfl)
theorem kX7_openGates : pm_cw2 mX7_openGates ∈ lw_tbl := pm_in4 (List.mem_of_getElem? (i := 204) rfl)
theorem kX7_part : pm_cw2 mX7_part ∈ lw_tbl := pm_in5 (List.mem_of_getElem? (i := 86) rfl)
theorem kX7_power : pm_cw2 mX7_power ∈ lw_tbl := pm_in5 (List.mem_of_getElem? (i := 131) rfl)
theorem kX7_powerOf : pm_cw2 mX7_powerOf ∈ lw_tbl := pm_in5 (List.mem_of_getElem? (i := 37) rfl)
theorem kX7_powerOfAll : pm_cw2 mX7_powerOfAll ∈ lw_tbl := pm_in5 (List.mem_of_getElem? (i := 33) rfl)
theorem kX7_product : pm_cw2 mX7_product ∈ lw_tbl := pm_in4 (List.mem_of_getElem? (i := 101) rfl)
theorem kX7_put : pm_cw2 mX7_put ∈ lw_tbl := pm_in4 (List.mem_of_getElem? (i := 167) rfl)
theorem kX7_ranked : pm_cw2 mX7_ranked ∈ lw_tbl := pm_in5 (List.mem_of_getElem? (i := 164) rfl)
theorem kX7_rate : pm_cw2 mX7_rate ∈ lw_tbl := pm_in5 (List.mem_of_getElem? (i := 105) rfl)
theorem kX7_readsPath : pm_cw2 mX7_readsPath ∈ lw_tbl := pm_in5 (List.mem_of_getElem? (i := 70) rfl)
theorem kX7_reason : pm_cw2 mX7_reason ∈ lw_tbl := pm_in5 (List.mem_of_getElem? (i := 101) rfl)
theorem kX7_refuse : pm_cw2 mX7_refuse ∈ lw_tbl := pm_in4 (List.mem_of_getElem? (i := 77) rfl)
theorem kX7_remember : pm_cw2 mX7_remember ∈ lw_tbl := pm_in4 (List.mem_of_getElem? (i := 129) rfl)
theorem kX7_remove : pm_cw2 mX7_remove ∈ lw_tbl := pm_in4 (List.mem_of_getElem? (i := 237) rfl)
theorem kX7_request : pm_cw2 mX7_request ∈ lw_tbl := pm_in4 (List.mem_of_getElem? (i := 200) rfl)
theorem kX7_requestAll : pm_cw2 mX7_requestAll ∈ lw_tbl := pm_in5 (List.mem_of_getElem? (i := 52) rfl)
theorem kX7_runs : pm_cw2 mX7_runs ∈ lw_tbl := pm_in4 (List.mem_of_getElem? (i := 229) rfl)
theorem kX7_set : pm_cw2 mX7_set ∈ lw_tbl := pm_in4 (List.mem_of_getElem? (i := 192) rfl)
theorem kX7_settles : pm_cw2 mX7_settles ∈ lw_tbl := pm_in4 (List.mem_of_getElem? (i := 112) rfl)
theorem kX7_shed : pm_cw2 mX7_shed ∈ lw_tbl := pm_in5 (List.mem_of_getElem? (i := 17) rfl)
theorem kX7_shedding : pm_cw2 mX7_shedding ∈ lw_tbl := pm_in5 (List.mem_of_getElem? (i := 25) rfl)
theorem kX7_sheds : pm_cw2 mX7_sheds ∈ lw_tbl := pm_in5 (List.mem_of_getElem? (i := 29) rfl)
theorem kX7_skew : pm_cw2 mX7_skew ∈ lw_tbl := pm_in4 (List.mem_of_getElem? (i := 217) rfl)
theorem kX7_skewed : pm_cw2 mX7_skewed ∈ lw_tbl := pm_in5 (List.mem_of_getElem? (i := 181) rfl)
theorem kX7_source : pm_cw2 mX7_source ∈ lw_tbl := pm_in4 (List.mem_of_getElem? (i := 69) rfl)
theorem kX7_sumOf : pm_cw2 mX7_sumOf ∈ lw_tbl := pm_in5 (List.mem_of_getElem? (i := 185) rfl)
theorem kX7_tryAdd : pm_cw2 mX7_tryAdd ∈ lw_tbl := pm_in4 (List.mem_of_getElem? (i := 138) rfl)
theorem kX7_tryLeaf : pm_cw2 mX7_tryLeaf ∈ lw_tbl := pm_in4 (List.mem_of_getElem? (i := 180) rfl)
theorem kX7_tune : pm_cw2 mX7_tune ∈ lw_tbl := pm_in4 (List.mem_of_getElem? (i := 196) rfl)
theorem kX7_undo : pm_cw2 mX7_undo ∈ lw_tbl := pm_in5 (List.mem_of_getElem? (i := 197) rfl)
theorem kX7_way : pm_cw2 mX7_way ∈ lw_tbl := pm_in5 (List.mem_of_getElem? (i := 135) rfl)
theorem kX7_whyNotBelow : pm_cw2 mX7_whyNotBelow ∈ lw_tbl := pm_in4 (List.mem_of_getElem? (i := 142) rfl)
theorem kX7_wouldShed : pm_cw2 mX7_wouldShed ∈ lw_tbl := pm_in5 (List.mem_of_getElem? (i := 56) rfl)
theorem pm_cd0 : ∀ r ∈ pm_mthT0, pm_cw2 r.2.2.2.2.1 ∈ lw_tbl := List.forall_mem_cons.mpr ⟨kX6_init, List.forall_mem_cons.mpr ⟨kX4_init, List.forall_mem_cons.mpr ⟨kX0_init, List.forall_mem_cons.mpr ⟨kX1_init, List.forall_mem_cons.mpr ⟨kX4_init, List.forall_mem_cons.mpr ⟨kX3_init, List.forall_mem_cons.mpr ⟨kX2_init, List.forall_mem_cons.mpr ⟨kX5_init, List.forall_mem_cons.mpr ⟨kX0_read, List.forall_mem_cons.mpr ⟨kX0_readRates, List.forall_mem_cons.mpr ⟨kX6_greatestCommon, List.forall_mem_cons.mpr ⟨kX6_quotient, List.forall_mem_cons.mpr ⟨kX0_readPaths, List.forall_mem_cons.mpr ⟨kX0_readBelow, List.forall_mem_cons.mpr ⟨kX0_readGates, List.forall_mem_cons.mpr ⟨kX0_isOpenWithout, List.forall_mem_cons.mpr ⟨kJ6_bitCount_0f7a4, List.forall_mem_cons.mpr ⟨kX6_source, List.forall_mem_cons.mpr ⟨kX6_refuse, List.forall_mem_cons.mpr ⟨kX6_begin, List.forall_mem_cons.mpr ⟨kX4_take, List.forall_mem_cons.mpr ⟨kX6_finishRates, List.forall_mem_cons.mpr ⟨kX6_refusalOfRates, List.forall_mem_cons.mpr ⟨kX6_isAbove, List.forall_mem_cons.mpr ⟨kX0_isContent, List.forall_mem_cons.mpr ⟨kX6_isAbove, List.forall_mem_cons.mpr ⟨kX6_finish, List.forall_mem_cons.mpr ⟨kX1_push, List.forall_mem_cons.mpr ⟨kX4_take, List.forall_mem_cons.mpr ⟨kX6_add, List.forall_mem_cons.mpr ⟨kX6_refusalOfNode, List.forall_mem_cons.mpr ⟨kX6_refusalOfPlace, List.forall_mem_cons.mpr ⟨kX6_isNode, List.forall_mem_cons.mpr ⟨kX6_isNumberOf, List.forall_mem_cons.mpr ⟨kX4_append, List.forall_mem_cons.mpr ⟨kX6_leaf, List.forall_mem_cons.mpr ⟨kX6_isGroup, List.forall_mem_cons.mpr ⟨kX6_refusalOfLeaf, List.forall_mem_cons.mpr ⟨kX6_nodesOf, List.forall_mem_cons.mpr ⟨kX4_appendLeaf, fun _ h => absurd h List.not_mem_nil⟩⟩⟩⟩⟩⟩⟩⟩⟩⟩⟩⟩⟩⟩⟩⟩⟩⟩⟩⟩⟩⟩⟩⟩⟩⟩⟩⟩⟩⟩⟩⟩⟩⟩⟩⟩⟩⟩⟩⟩
theorem pm_cd1 : ∀ r ∈ pm_mthT1, pm_cw2 r.2.2.2.2.1 ∈ lw_tbl := List.forall_mem_cons.mpr ⟨kX4_append, List.forall_mem_cons.mpr ⟨kX6_set, List.forall_mem_cons.mpr ⟨kX6_tune, List.forall_mem_cons.mpr ⟨kX6_request, List.forall_mem_cons.mpr ⟨kX6_isLeaf, List.forall_mem_cons.mpr ⟨kX6_openGates, List.forall_mem_cons.mpr ⟨kX6_limit, List.forall_mem_cons.mpr ⟨kX6_skewOf, List.forall_mem_cons.mpr ⟨kX6_latestOf, List.forall_mem_cons.mpr ⟨kX6_runsIn, List.forall_mem_cons.mpr ⟨kX4_isOfGroup, List.forall_mem_cons.mpr ⟨kX6_earliestOf, List.forall_mem_cons.mpr ⟨kX6_remove, List.forall_mem_cons.mpr ⟨kX4_drop, List.forall_mem_cons.mpr ⟨kX6_mend, List.forall_mem_cons.mpr ⟨kX6_mendingOf, List.forall_mem_cons.mpr ⟨kX6_leastAllowed, List.forall_mem_cons.mpr ⟨kX6_lackOf, List.forall_mem_cons.mpr ⟨kX6_shed, List.forall_mem_cons.mpr ⟨kX6_isBudget, List.forall_mem_cons.mpr ⟨kX2_find, List.forall_mem_cons.mpr ⟨kX0_drawOf, List.forall_mem_cons.mpr ⟨kX2_powerWithout, List.forall_mem_cons.mpr ⟨kX0_isOpenWithout, List.forall_mem_cons.mpr ⟨kX2_cheapest, List.forall_mem_cons.mpr ⟨kX2_costOf, List.forall_mem_cons.mpr ⟨kX6_holds, List.forall_mem_cons.mpr ⟨kJ6_bitCount_0f7a4, List.forall_mem_cons.mpr ⟨kX6_holds, List.forall_mem_cons.mpr ⟨kJ6_bitCount_0f7a4, List.forall_mem_cons.mpr ⟨kX6_wouldShed, List.forall_mem_cons.mpr ⟨kX6_feed, List.forall_mem_cons.mpr ⟨kX6_isByte, List.forall_mem_cons.mpr ⟨kX3_put, List.forall_mem_cons.mpr ⟨kX6_lay, List.forall_mem_cons.mpr ⟨kX3_parse, List.forall_mem_cons.mpr ⟨kX3_readNumber, List.forall_mem_cons.mpr ⟨kX3_readDigit, List.forall_mem_cons.mpr ⟨kX3_readSign, List.forall_mem_cons.mpr ⟨kX3_readLeaf, fun _ h => absurd h List.not_mem_nil⟩⟩⟩⟩⟩⟩⟩⟩⟩⟩⟩⟩⟩⟩⟩⟩⟩⟩⟩⟩⟩⟩⟩⟩⟩⟩⟩⟩⟩⟩⟩⟩⟩⟩⟩⟩⟩⟩⟩⟩
theorem pm_cd2 : ∀ r ∈ pm_mthT2, pm_cw2 r.2.2.2.2.1 ∈ lw_tbl := List.forall_mem_cons.mpr ⟨kX3_readStep, List.forall_mem_cons.mpr ⟨kX3_readKind, List.forall_mem_cons.mpr ⟨kX3_readNumberOf, List.forall_mem_cons.mpr ⟨kX6_stepFrom, List.forall_mem_cons.mpr ⟨kX6_giveUpLaying, List.forall_mem_cons.mpr ⟨kX6_reason, List.forall_mem_cons.mpr ⟨kX6_rate, List.forall_mem_cons.mpr ⟨kX6_isPart, List.forall_mem_cons.mpr ⟨kX6_again, List.forall_mem_cons.mpr ⟨kX6_greatestCommon, List.forall_mem_cons.mpr ⟨kX6_quotient, List.forall_mem_cons.mpr ⟨kX6_node, List.forall_mem_cons.mpr ⟨kX6_ofLeaf, List.forall_mem_cons.mpr ⟨kX6_ofGroup, List.forall_mem_cons.mpr ⟨kX6_leavesOf, List.forall_mem_cons.mpr ⟨kX6_power, List.forall_mem_cons.mpr ⟨kX6_powerOfAll, List.forall_mem_cons.mpr ⟨kX0_drawOf, List.forall_mem_cons.mpr ⟨kX6_way, List.forall_mem_cons.mpr ⟨kX5_find, List.forall_mem_cons.mpr ⟨kX5_findAt, List.forall_mem_cons.mpr ⟨kX5_reaches, List.forall_mem_cons.mpr ⟨kX5_lastStep, List.forall_mem_cons.mpr ⟨kX5_reachesByTwo, List.forall_mem_cons.mpr ⟨kX6_isAbove, List.forall_mem_cons.mpr ⟨kX6_ranked, List.forall_mem_cons.mpr ⟨kX6_placeOf, List.forall_mem_cons.mpr ⟨kX0_compareRates, List.forall_mem_cons.mpr ⟨kJ13_compare_74951, List.forall_mem_cons.mpr ⟨kX6_account, List.forall_mem_cons.mpr ⟨kX6_runningNodes, List.forall_mem_cons.mpr ⟨kX6_contentLeaves, List.forall_mem_cons.mpr ⟨kX6_sumOfPads, List.forall_mem_cons.mpr ⟨kX6_greatestDepth, List.forall_mem_cons.mpr ⟨kX6_skewedGroups, List.forall_mem_cons.mpr ⟨kX6_back, List.forall_mem_cons.mpr ⟨kX1_pop, List.forall_mem_cons.mpr ⟨kX6_image, List.forall_mem_cons.mpr ⟨kX6_undo, List.forall_mem_cons.mpr ⟨kX6_count, fun _ h => absurd h List.not_mem_nil⟩⟩⟩⟩⟩⟩⟩⟩⟩⟩⟩⟩⟩⟩⟩⟩⟩⟩⟩⟩⟩⟩⟩⟩⟩⟩⟩⟩⟩⟩⟩⟩⟩⟩⟩⟩⟩⟩⟩⟩
theorem pm_cd3 : ∀ r ∈ pm_mthT3, pm_cw2 r.2.2.2.2.1 ∈ lw_tbl := List.forall_mem_cons.mpr ⟨kX7_init, List.forall_mem_cons.mpr ⟨kX7_source, List.forall_mem_cons.mpr ⟨kX7_isIn, List.forall_mem_cons.mpr ⟨kX7_refuse, List.forall_mem_cons.mpr ⟨kX7_keeps, List.forall_mem_cons.mpr ⟨kX7_contents, List.forall_mem_cons.mpr ⟨kX7_n, List.forall_mem_cons.mpr ⟨kX7_isContent, List.forall_mem_cons.mpr ⟨kX7_below, List.forall_mem_cons.mpr ⟨kX7_product, List.forall_mem_cons.mpr ⟨kX7_divisor, List.forall_mem_cons.mpr ⟨kX7_above, List.forall_mem_cons.mpr ⟨kX7_settles, List.forall_mem_cons.mpr ⟨kX7_isAnyTooFast, List.forall_mem_cons.mpr ⟨kX7_isTooFast, List.forall_mem_cons.mpr ⟨kX7_goesBack, List.forall_mem_cons.mpr ⟨kX7_remember, List.forall_mem_cons.mpr ⟨kX7_add, List.forall_mem_cons.mpr ⟨kX7_tryAdd, List.forall_mem_cons.mpr ⟨kX7_whyNotBelow, List.forall_mem_cons.mpr ⟨kX7_isNode, List.forall_mem_cons.mpr ⟨kX7_isLeaf, List.forall_mem_cons.mpr ⟨kX7_depth, List.forall_mem_cons.mpr ⟨kX7_isNumber, List.forall_mem_cons.mpr ⟨kX7_comes, List.forall_mem_cons.mpr ⟨kX7_put, List.forall_mem_cons.mpr ⟨kX7_added, List.forall_mem_cons.mpr ⟨kX7_leaf, List.forall_mem_cons.mpr ⟨kX7_tryLeaf, List.forall_mem_cons.mpr ⟨kX7_leaves, List.forall_mem_cons.mpr ⟨kX7_isBelow, List.forall_mem_cons.mpr ⟨kX7_set, List.forall_mem_cons.mpr ⟨kX7_tune, List.forall_mem_cons.mpr ⟨kX7_request, List.forall_mem_cons.mpr ⟨kX7_openGates, List.forall_mem_cons.mpr ⟨kX7_isOpen, List.forall_mem_cons.mpr ⟨kX7_limit, List.forall_mem_cons.mpr ⟨kX7_skew, List.forall_mem_cons.mpr ⟨kX7_latest, List.forall_mem_cons.mpr ⟨kX7_isOf, fun _ h => absurd h List.not_mem_nil⟩⟩⟩⟩⟩⟩⟩⟩⟩⟩⟩⟩⟩⟩⟩⟩⟩⟩⟩⟩⟩⟩⟩⟩⟩⟩⟩⟩⟩⟩⟩⟩⟩⟩⟩⟩⟩⟩⟩⟩
theorem pm_cd4 : ∀ r ∈ pm_mthT4, pm_cw2 r.2.2.2.2.1 ∈ lw_tbl := List.forall_mem_cons.mpr ⟨kX7_runs, List.forall_mem_cons.mpr ⟨kX7_arrival, List.forall_mem_cons.mpr ⟨kX7_remove, List.forall_mem_cons.mpr ⟨kX7_children, List.forall_mem_cons.mpr ⟨kX7_mend, List.forall_mem_cons.mpr ⟨kX7_mending, List.forall_mem_cons.mpr ⟨kX7_growth, List.forall_mem_cons.mpr ⟨kX7_shed, List.forall_mem_cons.mpr ⟨kX7_isBudget, List.forall_mem_cons.mpr ⟨kX7_shedding, List.forall_mem_cons.mpr ⟨kX7_sheds, List.forall_mem_cons.mpr ⟨kX7_powerOfAll, List.forall_mem_cons.mpr ⟨kX7_powerOf, List.forall_mem_cons.mpr ⟨kX7_left, List.forall_mem_cons.mpr ⟨kX7_canShut, List.forall_mem_cons.mpr ⟨kX7_has, List.forall_mem_cons.mpr ⟨kX7_requestAll, List.forall_mem_cons.mpr ⟨kX7_wouldShed, List.forall_mem_cons.mpr ⟨kX7_feed, List.forall_mem_cons.mpr ⟨kX7_lay, List.forall_mem_cons.mpr ⟨kX7_readsPath, List.forall_mem_cons.mpr ⟨kX7_number, List.forall_mem_cons.mpr ⟨kX7_digit, List.forall_mem_cons.mpr ⟨kX7_isAt, List.forall_mem_cons.mpr ⟨kX7_part, List.forall_mem_cons.mpr ⟨kX7_kindOf, List.forall_mem_cons.mpr ⟨kX7_expects, List.forall_mem_cons.mpr ⟨kX7_childLike, List.forall_mem_cons.mpr ⟨kX7_reason, List.forall_mem_cons.mpr ⟨kX7_rate, List.forall_mem_cons.mpr ⟨kX7_again, List.forall_mem_cons.mpr ⟨kX7_rate, List.forall_mem_cons.mpr ⟨kX7_node, List.forall_mem_cons.mpr ⟨kX7_ofLeaf, List.forall_mem_cons.mpr ⟨kX7_ofGroup, List.forall_mem_cons.mpr ⟨kX7_leavesOf, List.forall_mem_cons.mpr ⟨kX7_power, List.forall_mem_cons.mpr ⟨kX7_way, List.forall_mem_cons.mpr ⟨kX7_findsWays, List.forall_mem_cons.mpr ⟨kX7_offers, fun _ h => absurd h List.not_mem_nil⟩⟩⟩⟩⟩⟩⟩⟩⟩⟩⟩⟩⟩⟩⟩⟩⟩⟩⟩⟩⟩⟩⟩⟩⟩⟩⟩⟩⟩⟩⟩⟩⟩⟩⟩⟩⟩⟩⟩⟩
theorem pm_cd5 : ∀ r ∈ pm_mthT5, pm_cw2 r.2.2.2.2.1 ∈ lw_tbl := List.forall_mem_cons.mpr ⟨kX7_isBetter, List.forall_mem_cons.mpr ⟨kX7_aboveBehind, List.forall_mem_cons.mpr ⟨kX7_belowBehind, List.forall_mem_cons.mpr ⟨kX7_isStep, List.forall_mem_cons.mpr ⟨kX7_ranked, List.forall_mem_cons.mpr ⟨kX7_isAhead, List.forall_mem_cons.mpr ⟨kX7_account, List.forall_mem_cons.mpr ⟨kX7_contentMany, List.forall_mem_cons.mpr ⟨kX7_skewed, List.forall_mem_cons.mpr ⟨kX7_sumOf, List.forall_mem_cons.mpr ⟨kX7_back, List.forall_mem_cons.mpr ⟨kX7_image, List.forall_mem_cons.mpr ⟨kX7_undo, List.forall_mem_cons.mpr ⟨kX7_count, fun _ h => absurd h List.not_mem_nil⟩⟩⟩⟩⟩⟩⟩⟩⟩⟩⟩⟩⟩⟩
theorem pm_mth_cd : ∀ r ∈ pm_mthT, pm_cw2 r.2.2.2.2.1 ∈ lw_tbl := by
  intro r h
  simp only [pm_mthT, List.mem_append] at h
  rcases h with ((((h | h) | h) | h) | h) | h
  · exact pm_cd0 r h
  · exact pm_cd1 r h
  · exact pm_cd2 r h
  · exact pm_cd3 r h
  · exact pm_cd4 r h
  · exact pm_cd5 r h
theorem pm_mth_row : ∀ r ∈ pm_mthT, pm_row r = true := by
  intro r h
  simp only [pm_mthT, List.mem_append] at h
  rcases h with ((((h | h) | h) | h) | h) | h
  · exact List.all_eq_true.mp pm_row0 r h
  · exact List.all_eq_true.mp pm_row1 r h
  · exact List.all_eq_true.mp pm_row2 r h
  · exact List.all_eq_true.mp pm_row3 r h
  · exact List.all_eq_true.mp pm_row4 r h
  · exact List.all_eq_true.mp pm_row5 r h
