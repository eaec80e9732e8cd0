/-! any whole number against small ones -/
theorem x_neg {x : Int32} (h : x < 0) {m : Nat} (hm : m < 2147483648) : (x < nI m) = True ∧ (nI m < x) = False ∧ (x = nI m) = False := by
  have h1 : x.toInt < 0 := by simpa [Int32.lt_iff_toInt_lt] using h
  refine ⟨eq_true ?_, eq_false ?_, eq_false ?_⟩
  · rw [Int32.lt_iff_toInt_lt, nI_toInt hm]; omega
  · rw [Int32.lt_iff_toInt_lt, nI_toInt hm]; omega
  · intro e; rw [e, nI_toInt hm] at h1; omega
theorem x_big {x : Int32} {n : Nat} (h : nI n ≤ x) (hn : n < 2147483648) : (x < 0) = False ∧ (x < nI n) = False ∧ ∀ m, m < n → (nI m < x) = True ∧ (x = nI m) = False ∧ (x < nI m) = False := by
  have h1 : (n : Int) ≤ x.toInt := by rw [← nI_toInt hn]; exact Int32.le_iff_toInt_le.mp h
  refine ⟨eq_false ?_, eq_false ?_, fun m hm => ⟨eq_true ?_, eq_false ?_, eq_false ?_⟩⟩
  · rw [Int32.lt_iff_toInt_lt]; show ¬ x.toInt < 0; omega
  · rw [Int32.lt_iff_toInt_lt, nI_toInt hn]; omega
  · rw [Int32.lt_iff_toInt_lt, nI_toInt (by omega)]; omega
  · intro e; rw [e, nI_toInt (by omega)] at h1; omega
  · rw [Int32.lt_iff_toInt_lt, nI_toInt (by omega)]; omega
section PLE
variable {X : pm_X} {d : Nat} {G : pm_H} {Q : Option Value → pm_H → Prop} {I A : Nat → Nat → Int32} {E : Nat → Nat → Int64} {J : Nat → Int32} {B : Nat → Nat → Int32} {T : Tr}
theorem t_isNode (hP : RelTP I A 1 T) (hw : wf T) {x : Int32} : pm_call X d mX6_isNode [.ref 0, .int x] (pm_w I A E J B) Q ↔ Q (some (.int (bz (inR x 0 (T 10 0 - 1))))) (pm_w I A E J B) := by
  have h1 := hw.1
  have h24 := hw.2.1
  rcases pk_ix x (n := T 10 0) (by omega) with h | h | ⟨k, hk, rfl⟩
  · rw [inR_neg h]
    simp only [i_X6_isNode_0, i_X6_isNode_1, i_X6_isNode_4, i_X6_isNode_5, i_X6_isNode_6, i_X6_isNode_9, i_X6_isNode_12, i_X6_isNode_15, i_X6_isNode_16, i_X6_isNode_20, i_X6_isNode_20b, i_X6_isNode_20c, i_X6_isNode_19, i_X6_isNode_0_e, Option.toList_some, Option.toList_none, List.cons_append, List.nil_append, List.append_nil, ↓reduceIte, h]
  · have hb := x_big h (by omega)
    rw [inR_big h (by omega) (by omega)]
    simp only [i_X6_isNode_0, i_X6_isNode_1, i_X6_isNode_4, i_X6_isNode_5, i_X6_isNode_6, i_X6_isNode_9, i_X6_isNode_12, i_X6_isNode_15, i_X6_isNode_16, i_X6_isNode_20, i_X6_isNode_20b, i_X6_isNode_20c, i_X6_isNode_19, i_X6_isNode_0_e, Option.toList_some, Option.toList_none, List.cons_append, List.nil_append, List.append_nil, ↓reduceIte, hP.2.1, hb.1, hb.2.1]
  · rw [inR_n (by omega)]
    simp (disch := omega) only [i_X6_isNode_0, i_X6_isNode_1, i_X6_isNode_4, i_X6_isNode_5, i_X6_isNode_6, i_X6_isNode_9, i_X6_isNode_12, i_X6_isNode_15, i_X6_isNode_16, i_X6_isNode_20, i_X6_isNode_20b, i_X6_isNode_20c, i_X6_isNode_19, i_X6_isNode_0_e, Option.toList_some, Option.toList_none, List.cons_append, List.nil_append, List.append_nil, ↓reduceIte, hP.2.1, q_neg, q_lt, hk]
    simp [show k ≤ T 10 0 - 1 by omega]
theorem t_isGroup {x : Int32} : pm_call X d mX6_isGroup [.int x] G Q ↔ Q (some (.int (bz (inR x 0 3)))) G := by
  rcases pk_ix x (n := 4) (by omega) with h | h | ⟨k, hk, rfl⟩
  · rw [inR_neg h]
    simp only [i_X6_isGroup_0, i_X6_isGroup_1, i_X6_isGroup_4, i_X6_isGroup_5, i_X6_isGroup_6, i_X6_isGroup_9, i_X6_isGroup_10, i_X6_isGroup_14, i_X6_isGroup_14b, i_X6_isGroup_14c, i_X6_isGroup_13, i_X6_isGroup_0_e, Option.toList_some, Option.toList_none, List.cons_append, List.nil_append, List.append_nil, ↓reduceIte, h]
  · have hb := x_big h (by omega)
    rw [inR_big h (by omega) (by omega)]
    simp only [i_X6_isGroup_0, i_X6_isGroup_1, i_X6_isGroup_4, i_X6_isGroup_5, i_X6_isGroup_6, i_X6_isGroup_9, i_X6_isGroup_10, i_X6_isGroup_14, i_X6_isGroup_14b, i_X6_isGroup_14c, i_X6_isGroup_13, i_X6_isGroup_0_e, Option.toList_some, Option.toList_none, List.cons_append, List.nil_append, List.append_nil, ↓reduceIte, hb.1, hb.2.1]
  · rw [inR_n (by omega)]
    simp (disch := omega) only [i_X6_isGroup_0, i_X6_isGroup_1, i_X6_isGroup_4, i_X6_isGroup_5, i_X6_isGroup_6, i_X6_isGroup_9, i_X6_isGroup_10, i_X6_isGroup_14, i_X6_isGroup_14b, i_X6_isGroup_14c, i_X6_isGroup_13, i_X6_isGroup_0_e, Option.toList_some, Option.toList_none, List.cons_append, List.nil_append, List.append_nil, ↓reduceIte, q_neg, q_lt, hk]
    simp [show k ≤ 3 by omega]
theorem t_isPart {x : Int32} : pm_call X d mX6_isPart [.int x] G Q ↔ Q (some (.int (bz (inR x 0 1)))) G := by
  rcases pk_ix x (n := 2) (by omega) with h | h | ⟨k, hk, rfl⟩
  · rw [inR_neg h]
    have h0 : (x = 0) = False := by rw [← nI_0]; exact (x_neg h (by decide)).2.2
    simp only [i_X6_isPart_0, i_X6_isPart_1, i_X6_isPart_4, i_X6_isPart_5, i_X6_isPart_6, i_X6_isPart_13, i_X6_isPart_14, i_X6_isPart_14b, i_X6_isPart_14c, i_X6_isPart_9, i_X6_isPart_10, i_X6_isPart_0_e, Option.toList_some, Option.toList_none, List.cons_append, List.nil_append, List.append_nil, ↓reduceIte, h0, (x_neg h (m := 1) (by decide)).2.2]
  · have hb := x_big h (by omega)
    have h0 : (x = 0) = False := by rw [← nI_0]; exact (hb.2.2 0 (by decide)).2.1
    rw [inR_big h (by omega) (by omega)]
    simp only [i_X6_isPart_0, i_X6_isPart_1, i_X6_isPart_4, i_X6_isPart_5, i_X6_isPart_6, i_X6_isPart_13, i_X6_isPart_14, i_X6_isPart_14b, i_X6_isPart_14c, i_X6_isPart_9, i_X6_isPart_10, i_X6_isPart_0_e, Option.toList_some, Option.toList_none, List.cons_append, List.nil_append, List.append_nil, ↓reduceIte, h0, (hb.2.2 1 (by decide)).2.1]
  · rw [inR_n (by omega)]
    rcases (by omega : k = 0 ∨ k = 1) with rfl | rfl
    · simp (disch := omega) only [i_X6_isPart_0, i_X6_isPart_1, i_X6_isPart_4, i_X6_isPart_5, i_X6_isPart_6, i_X6_isPart_13, i_X6_isPart_14, i_X6_isPart_14b, i_X6_isPart_14c, i_X6_isPart_9, i_X6_isPart_10, i_X6_isPart_0_e, Option.toList_some, Option.toList_none, List.cons_append, List.nil_append, List.append_nil, ↓reduceIte, q_e0, q_eq]; simp
    · simp (disch := omega) only [i_X6_isPart_0, i_X6_isPart_1, i_X6_isPart_4, i_X6_isPart_5, i_X6_isPart_6, i_X6_isPart_13, i_X6_isPart_14, i_X6_isPart_14b, i_X6_isPart_14c, i_X6_isPart_9, i_X6_isPart_10, i_X6_isPart_0_e, Option.toList_some, Option.toList_none, List.cons_append, List.nil_append, List.append_nil, ↓reduceIte, q_e0, q_eq]; simp
theorem t_isBudget {x : Int32} : pm_call X d mX6_isBudget [.int x] G Q ↔ Q (some (.int (bz (inR x 0 2000000000)))) G := by
  rcases pk_ix x (n := 2000000001) (by omega) with h | h | ⟨k, hk, rfl⟩
  · rw [inR_neg h]
    simp only [i_X6_isBudget_0, i_X6_isBudget_1, i_X6_isBudget_4, i_X6_isBudget_5, i_X6_isBudget_8, i_X6_isBudget_11, i_X6_isBudget_12, i_X6_isBudget_16, i_X6_isBudget_16b, i_X6_isBudget_16c, i_X6_isBudget_15, i_X6_isBudget_0_e, Option.toList_some, Option.toList_none, List.cons_append, List.nil_append, List.append_nil, ↓reduceIte, h]
  · have hb := x_big h (by omega)
    rw [inR_big h (by omega) (by omega)]
    simp only [i_X6_isBudget_0, i_X6_isBudget_1, i_X6_isBudget_4, i_X6_isBudget_5, i_X6_isBudget_8, i_X6_isBudget_11, i_X6_isBudget_12, i_X6_isBudget_16, i_X6_isBudget_16b, i_X6_isBudget_16c, i_X6_isBudget_15, i_X6_isBudget_0_e, Option.toList_some, Option.toList_none, List.cons_append, List.nil_append, List.append_nil, ↓reduceIte, hb.1, (hb.2.2 2000000000 (by omega)).1]
  · rw [inR_n (by omega)]
    simp (disch := omega) only [i_X6_isBudget_0, i_X6_isBudget_1, i_X6_isBudget_4, i_X6_isBudget_5, i_X6_isBudget_8, i_X6_isBudget_11, i_X6_isBudget_12, i_X6_isBudget_16, i_X6_isBudget_16b, i_X6_isBudget_16c, i_X6_isBudget_15, i_X6_isBudget_0_e, Option.toList_some, Option.toList_none, List.cons_append, List.nil_append, List.append_nil, ↓reduceIte, q_neg, q_lt, show ¬ 2000000000 < k by omega]
    simp [show k ≤ 2000000000 by omega]
theorem t_isByte {x : Int32} : pm_call X d mX6_isByte [.int x] G Q ↔ Q (some (.int (bz (inR x 0 127)))) G := by
  rcases pk_ix x (n := 128) (by omega) with h | h | ⟨k, hk, rfl⟩
  · rw [inR_neg h]
    simp only [i_X6_isByte_0, i_X6_isByte_1, i_X6_isByte_4, i_X6_isByte_5, i_X6_isByte_7, i_X6_isByte_10, i_X6_isByte_11, i_X6_isByte_15, i_X6_isByte_15b, i_X6_isByte_15c, i_X6_isByte_14, i_X6_isByte_0_e, Option.toList_some, Option.toList_none, List.cons_append, List.nil_append, List.append_nil, ↓reduceIte, h]
  · have hb := x_big h (by omega)
    rw [inR_big h (by omega) (by omega)]
    simp only [i_X6_isByte_0, i_X6_isByte_1, i_X6_isByte_4, i_X6_isByte_5, i_X6_isByte_7, i_X6_isByte_10, i_X6_isByte_11, i_X6_isByte_15, i_X6_isByte_15b, i_X6_isByte_15c, i_X6_isByte_14, i_X6_isByte_0_e, Option.toList_some, Option.toList_none, List.cons_append, List.nil_append, List.append_nil, ↓reduceIte, hb.1, (hb.2.2 127 (by omega)).1]
  · rw [inR_n (by omega)]
    simp (disch := omega) only [i_X6_isByte_0, i_X6_isByte_1, i_X6_isByte_4, i_X6_isByte_5, i_X6_isByte_7, i_X6_isByte_10, i_X6_isByte_11, i_X6_isByte_15, i_X6_isByte_15b, i_X6_isByte_15c, i_X6_isByte_14, i_X6_isByte_0_e, Option.toList_some, Option.toList_none, List.cons_append, List.nil_append, List.append_nil, ↓reduceIte, q_neg, q_lt, show ¬ 127 < k by omega]
    simp [show k ≤ 127 by omega]
theorem t_isOfGroup (hP : RelTP I A 1 T) (hT : okT T) {k g : Nat} (hk : k < T 10 0) (hg : g < 4) : pm_call X d mX4_isOfGroup [.ref 1, .int (nI k), .int (nI g)] (pm_w I A E J B) Q ↔ Q (some (.int (bz (ofg T g k)))) (pm_w I A E J B) := by
  have h24 := hT.wf.2.1
  have e0 : A 2 k = nI (T 0 k) := hP.2.2.2 0 k (by omega) hk (by omega)
  have e2 : A 4 k = nI (T 2 k) := hP.2.2.2 2 k (by omega) hk (by omega)
  have s0 := hT.small hk (w := 0) (by omega) (by omega)
  have s2 := hT.small hk (w := 2) (by omega) (by omega)
  unfold ofg
  by_cases h5 : T 0 k = 5
  · by_cases h2 : T 2 k = g
    · simp (disch := omega) only [i_X4_isOfGroup_0, i_X4_isOfGroup_1, i_X4_isOfGroup_4, i_X4_isOfGroup_5, i_X4_isOfGroup_6, i_X4_isOfGroup_7, i_X4_isOfGroup_10, i_X4_isOfGroup_11, i_X4_isOfGroup_14, i_X4_isOfGroup_15, i_X4_isOfGroup_16, i_X4_isOfGroup_17, i_X4_isOfGroup_20, i_X4_isOfGroup_21, i_X4_isOfGroup_25, i_X4_isOfGroup_25b, i_X4_isOfGroup_25c, i_X4_isOfGroup_24, i_X4_isOfGroup_0_e, Option.toList_some, Option.toList_none, List.cons_append, List.nil_append, List.append_nil, ↓reduceIte, q_eq, e0, e2, h5, h2]; simp
    · simp (disch := omega) only [i_X4_isOfGroup_0, i_X4_isOfGroup_1, i_X4_isOfGroup_4, i_X4_isOfGroup_5, i_X4_isOfGroup_6, i_X4_isOfGroup_7, i_X4_isOfGroup_10, i_X4_isOfGroup_11, i_X4_isOfGroup_14, i_X4_isOfGroup_15, i_X4_isOfGroup_16, i_X4_isOfGroup_17, i_X4_isOfGroup_20, i_X4_isOfGroup_21, i_X4_isOfGroup_25, i_X4_isOfGroup_25b, i_X4_isOfGroup_25c, i_X4_isOfGroup_24, i_X4_isOfGroup_0_e, Option.toList_some, Option.toList_none, List.cons_append, List.nil_append, List.append_nil, ↓reduceIte, q_eq, e0, e2, h5, h2]; simp
  · simp (disch := omega) only [i_X4_isOfGroup_0, i_X4_isOfGroup_1, i_X4_isOfGroup_4, i_X4_isOfGroup_5, i_X4_isOfGroup_6, i_X4_isOfGroup_7, i_X4_isOfGroup_10, i_X4_isOfGroup_11, i_X4_isOfGroup_14, i_X4_isOfGroup_15, i_X4_isOfGroup_16, i_X4_isOfGroup_17, i_X4_isOfGroup_20, i_X4_isOfGroup_21, i_X4_isOfGroup_25, i_X4_isOfGroup_25b, i_X4_isOfGroup_25c, i_X4_isOfGroup_24, i_X4_isOfGroup_0_e, Option.toList_some, Option.toList_none, List.cons_append, List.nil_append, List.append_nil, ↓reduceIte, q_eq, e0, h5]; simp
theorem t_runsIn (hP : RelTP I A 1 T) (hF : RelF A E 37 T) (hT : okT T) {k g : Nat} (hk : k < T 10 0) (hg : g < 4) : pm_call X (d + 1) mX6_runsIn [.ref 0, .int (nI k), .int (nI g)] (pm_w I A E J B) Q ↔ Q (some (.int (bz (og T g k)))) (pm_w I A E J B) := by
  have h24 := hT.wf.2.1
  have r := (hF.2.2.2 k hk).2
  unfold og
  cases h1 : ofg T g k with
  | false => simp (disch := omega) only [i_X6_runsIn_0, i_X6_runsIn_1, i_X6_runsIn_4, i_X6_runsIn_5, i_X6_runsIn_6, i_X6_runsIn_9, i_X6_runsIn_12, i_X6_runsIn_13, i_X6_runsIn_16, i_X6_runsIn_19, i_X6_runsIn_20, i_X6_runsIn_21, i_X6_runsIn_24, i_X6_runsIn_25, i_X6_runsIn_29, i_X6_runsIn_29b, i_X6_runsIn_29c, i_X6_runsIn_28, i_X6_runsIn_0_e, Option.toList_some, Option.toList_none, List.cons_append, List.nil_append, List.append_nil, ↓reduceIte, t_isOfGroup hP hT hk hg, h1, bz_e0]; simp
  | true =>
    cases h2 : rn T k with
    | false => rw [h2] at r; simp (disch := omega) only [i_X6_runsIn_0, i_X6_runsIn_1, i_X6_runsIn_4, i_X6_runsIn_5, i_X6_runsIn_6, i_X6_runsIn_9, i_X6_runsIn_12, i_X6_runsIn_13, i_X6_runsIn_16, i_X6_runsIn_19, i_X6_runsIn_20, i_X6_runsIn_21, i_X6_runsIn_24, i_X6_runsIn_25, i_X6_runsIn_29, i_X6_runsIn_29b, i_X6_runsIn_29c, i_X6_runsIn_28, i_X6_runsIn_0_e, Option.toList_some, Option.toList_none, List.cons_append, List.nil_append, List.append_nil, ↓reduceIte, t_isOfGroup hP hT hk hg, h1, bz_e0, r, reduceCtorEq]; simp
    | true => rw [h2] at r; simp (disch := omega) only [i_X6_runsIn_0, i_X6_runsIn_1, i_X6_runsIn_4, i_X6_runsIn_5, i_X6_runsIn_6, i_X6_runsIn_9, i_X6_runsIn_12, i_X6_runsIn_13, i_X6_runsIn_16, i_X6_runsIn_19, i_X6_runsIn_20, i_X6_runsIn_21, i_X6_runsIn_24, i_X6_runsIn_25, i_X6_runsIn_29, i_X6_runsIn_29b, i_X6_runsIn_29c, i_X6_runsIn_28, i_X6_runsIn_0_e, Option.toList_some, Option.toList_none, List.cons_append, List.nil_append, List.append_nil, ↓reduceIte, t_isOfGroup hP hT hk hg, h1, bz_e0, r, reduceCtorEq]; simp
theorem t_latestOf (hP : RelTP I A 1 T) (hF : RelF A E 37 T) (hT : okT T) {g : Nat} (hg : g < 4) : pm_call X (d + 2) mX6_latestOf [.ref 0, .int (nI g)] (pm_w I A E J B) Q ↔ Q (some (.int (oI (lat T g true (T 10 0))))) (pm_w I A E J B) := by
  have h24 := hT.wf.2.1
  have key : ∀ j, j ≤ T 10 0 → ∀ _ : Unit, pm_wp X (d + 2) mX6_latestOf 5 [.ref 0, .int (nI g), .int (oI (lat T g true j)), .int (nI j)] [] (pm_w I A E J B) Q ↔ Q (some (.int (oI (lat T g true (T 10 0))))) (pm_w I A E J B) := by
    refine loop_r (fun v => ?_) (fun j hj ih v => ?_)
    · rw [i_X6_latestOf_5]
      simp (disch := omega) only [i_X6_latestOf_0, i_X6_latestOf_2, i_X6_latestOf_3, i_X6_latestOf_4, i_X6_latestOf_6, i_X6_latestOf_7, i_X6_latestOf_10, i_X6_latestOf_13, i_X6_latestOf_16, i_X6_latestOf_17, i_X6_latestOf_18, i_X6_latestOf_19, i_X6_latestOf_22, i_X6_latestOf_25, i_X6_latestOf_26, i_X6_latestOf_29, i_X6_latestOf_30, i_X6_latestOf_33, i_X6_latestOf_36, i_X6_latestOf_37, i_X6_latestOf_38, i_X6_latestOf_39, i_X6_latestOf_42, i_X6_latestOf_45, i_X6_latestOf_46, i_X6_latestOf_47, i_X6_latestOf_50, i_X6_latestOf_51, i_X6_latestOf_52, i_X6_latestOf_55, i_X6_latestOf_58, i_X6_latestOf_59, i_X6_latestOf_0_e, Option.toList_some, Option.toList_none, List.cons_append, List.nil_append, List.append_nil, ↓reduceIte, q_lt, hP.2.1, Nat.lt_irrefl]
    · have ih := ih ()
      have e1 : lat T g true (j + 1) = if og T g j then (match lat T g true j with
        | none => some j
        | some f => if bet T true f j then some j else some f) else lat T g true j := rfl
      rw [e1] at ih
      rw [i_X6_latestOf_5]
      cases ho : og T g j with
      | false =>
        rw [ho] at ih
        simp (disch := omega) only [i_X6_latestOf_0, i_X6_latestOf_2, i_X6_latestOf_3, i_X6_latestOf_4, i_X6_latestOf_6, i_X6_latestOf_7, i_X6_latestOf_10, i_X6_latestOf_13, i_X6_latestOf_16, i_X6_latestOf_17, i_X6_latestOf_18, i_X6_latestOf_19, i_X6_latestOf_22, i_X6_latestOf_25, i_X6_latestOf_26, i_X6_latestOf_29, i_X6_latestOf_30, i_X6_latestOf_33, i_X6_latestOf_36, i_X6_latestOf_37, i_X6_latestOf_38, i_X6_latestOf_39, i_X6_latestOf_42, i_X6_latestOf_45, i_X6_latestOf_46, i_X6_latestOf_47, i_X6_latestOf_50, i_X6_latestOf_51, i_X6_latestOf_52, i_X6_latestOf_55, i_X6_latestOf_58, i_X6_latestOf_59, i_X6_latestOf_0_e, Option.toList_some, Option.toList_none, List.cons_append, List.nil_append, List.append_nil, ↓reduceIte, q_lt, nI_add, bz_e0, hP.2.1, hj, t_runsIn hP hF hT hj hg, ho, reduceCtorEq]
        exact ih
      | true =>
        rw [ho] at ih
        have aj := (hF.2.1 j hj).2
        have bj := arr_b hT hj
        cases hl : lat T g true j with
        | none =>
          rw [hl] at ih
          simp (disch := omega) only [i_X6_latestOf_0, i_X6_latestOf_2, i_X6_latestOf_3, i_X6_latestOf_4, i_X6_latestOf_6, i_X6_latestOf_7, i_X6_latestOf_10, i_X6_latestOf_13, i_X6_latestOf_16, i_X6_latestOf_17, i_X6_latestOf_18, i_X6_latestOf_19, i_X6_latestOf_22, i_X6_latestOf_25, i_X6_latestOf_26, i_X6_latestOf_29, i_X6_latestOf_30, i_X6_latestOf_33, i_X6_latestOf_36, i_X6_latestOf_37, i_X6_latestOf_38, i_X6_latestOf_39, i_X6_latestOf_42, i_X6_latestOf_45, i_X6_latestOf_46, i_X6_latestOf_47, i_X6_latestOf_50, i_X6_latestOf_51, i_X6_latestOf_52, i_X6_latestOf_55, i_X6_latestOf_58, i_X6_latestOf_59, i_X6_latestOf_0_e, Option.toList_some, Option.toList_none, List.cons_append, List.nil_append, List.append_nil, ↓reduceIte, q_lt, nI_add, bz_e0, hP.2.1, hj, t_runsIn hP hF hT hj hg, ho, reduceCtorEq, oI, show ((-5 : Int32) < 0) = True from by decide]
          exact ih
        | some f =>
          have hf := (lat_lt _ _ hl).1
          have af := (hF.2.1 f (by omega)).2
          have bf := arr_b hT (k := f) (by omega)
          rw [hl] at ih
          by_cases hb : arr T f < arr T j
          · simp only [bet, hb, decide_true, if_true] at ih
            simp (disch := omega) only [i_X6_latestOf_0, i_X6_latestOf_2, i_X6_latestOf_3, i_X6_latestOf_4, i_X6_latestOf_6, i_X6_latestOf_7, i_X6_latestOf_10, i_X6_latestOf_13, i_X6_latestOf_16, i_X6_latestOf_17, i_X6_latestOf_18, i_X6_latestOf_19, i_X6_latestOf_22, i_X6_latestOf_25, i_X6_latestOf_26, i_X6_latestOf_29, i_X6_latestOf_30, i_X6_latestOf_33, i_X6_latestOf_36, i_X6_latestOf_37, i_X6_latestOf_38, i_X6_latestOf_39, i_X6_latestOf_42, i_X6_latestOf_45, i_X6_latestOf_46, i_X6_latestOf_47, i_X6_latestOf_50, i_X6_latestOf_51, i_X6_latestOf_52, i_X6_latestOf_55, i_X6_latestOf_58, i_X6_latestOf_59, i_X6_latestOf_0_e, Option.toList_some, Option.toList_none, List.cons_append, List.nil_append, List.append_nil, ↓reduceIte, q_lt, q_neg, nI_add, bz_e0, hP.2.1, hj, t_runsIn hP hF hT hj hg, ho, reduceCtorEq, oI, aj, af, hb]
            exact ih
          · simp only [bet, hb, decide_false, if_true, if_false, Bool.false_eq_true] at ih
            simp (disch := omega) only [i_X6_latestOf_0, i_X6_latestOf_2, i_X6_latestOf_3, i_X6_latestOf_4, i_X6_latestOf_6, i_X6_latestOf_7, i_X6_latestOf_10, i_X6_latestOf_13, i_X6_latestOf_16, i_X6_latestOf_17, i_X6_latestOf_18, i_X6_latestOf_19, i_X6_latestOf_22, i_X6_latestOf_25, i_X6_latestOf_26, i_X6_latestOf_29, i_X6_latestOf_30, i_X6_latestOf_33, i_X6_latestOf_36, i_X6_latestOf_37, i_X6_latestOf_38, i_X6_latestOf_39, i_X6_latestOf_42, i_X6_latestOf_45, i_X6_latestOf_46, i_X6_latestOf_47, i_X6_latestOf_50, i_X6_latestOf_51, i_X6_latestOf_52, i_X6_latestOf_55, i_X6_latestOf_58, i_X6_latestOf_59, i_X6_latestOf_0_e, Option.toList_some, Option.toList_none, List.cons_append, List.nil_append, List.append_nil, ↓reduceIte, q_lt, q_neg, nI_add, bz_e0, hP.2.1, hj, t_runsIn hP hF hT hj hg, ho, reduceCtorEq, oI, aj, af, hb]
            exact ih
  simp only [i_X6_latestOf_0, i_X6_latestOf_2, i_X6_latestOf_3, i_X6_latestOf_4, i_X6_latestOf_6, i_X6_latestOf_7, i_X6_latestOf_10, i_X6_latestOf_13, i_X6_latestOf_16, i_X6_latestOf_17, i_X6_latestOf_18, i_X6_latestOf_19, i_X6_latestOf_22, i_X6_latestOf_25, i_X6_latestOf_26, i_X6_latestOf_29, i_X6_latestOf_30, i_X6_latestOf_33, i_X6_latestOf_36, i_X6_latestOf_37, i_X6_latestOf_38, i_X6_latestOf_39, i_X6_latestOf_42, i_X6_latestOf_45, i_X6_latestOf_46, i_X6_latestOf_47, i_X6_latestOf_50, i_X6_latestOf_51, i_X6_latestOf_52, i_X6_latestOf_55, i_X6_latestOf_58, i_X6_latestOf_59, i_X6_latestOf_0_e, Option.toList_some, Option.toList_none, List.cons_append, List.nil_append, List.append_nil, ↓reduceIte]
  exact key 0 (Nat.zero_le _) ()
theorem t_earliestOf (hP : RelTP I A 1 T) (hF : RelF A E 37 T) (hT : okT T) {g : Nat} (hg : g < 4) : pm_call X (d + 2) mX6_earliestOf [.ref 0, .int (nI g)] (pm_w I A E J B) Q ↔ Q (some (.int (oI (lat T g false (T 10 0))))) (pm_w I A E J B) := by
  have h24 := hT.wf.2.1
  have key : ∀ j, j ≤ T 10 0 → ∀ _ : Unit, pm_wp X (d + 2) mX6_earliestOf 5 [.ref 0, .int (nI g), .int (oI (lat T g false j)), .int (nI j)] [] (pm_w I A E J B) Q ↔ Q (some (.int (oI (lat T g false (T 10 0))))) (pm_w I A E J B) := by
    refine loop_r (fun v => ?_) (fun j hj ih v => ?_)
    · rw [i_X6_earliestOf_5]
      simp (disch := omega) only [i_X6_earliestOf_0, i_X6_earliestOf_2, i_X6_earliestOf_3, i_X6_earliestOf_4, i_X6_earliestOf_6, i_X6_earliestOf_7, i_X6_earliestOf_10, i_X6_earliestOf_13, i_X6_earliestOf_16, i_X6_earliestOf_17, i_X6_earliestOf_18, i_X6_earliestOf_19, i_X6_earliestOf_22, i_X6_earliestOf_25, i_X6_earliestOf_26, i_X6_earliestOf_29, i_X6_earliestOf_30, i_X6_earliestOf_33, i_X6_earliestOf_36, i_X6_earliestOf_37, i_X6_earliestOf_38, i_X6_earliestOf_39, i_X6_earliestOf_42, i_X6_earliestOf_45, i_X6_earliestOf_46, i_X6_earliestOf_47, i_X6_earliestOf_50, i_X6_earliestOf_51, i_X6_earliestOf_52, i_X6_earliestOf_55, i_X6_earliestOf_58, i_X6_earliestOf_59, i_X6_earliestOf_0_e, Option.toList_some, Option.toList_none, List.cons_append, List.nil_append, List.append_nil, ↓reduceIte, q_lt, hP.2.1, Nat.lt_irrefl]
    · have ih := ih ()
      have e1 : lat T g false (j + 1) = if og T g j then (match lat T g false j with
        | none => some j
        | some f => if bet T false f j then some j else some f) else lat T g false j := rfl
      rw [e1] at ih
      rw [i_X6_earliestOf_5]
      cases ho : og T g j with
      | false =>
        rw [ho] at ih
        simp (disch := omega) only [i_X6_earliestOf_0, i_X6_earliestOf_2, i_X6_earliestOf_3, i_X6_earliestOf_4, i_X6_earliestOf_6, i_X6_earliestOf_7, i_X6_earliestOf_10, i_X6_earliestOf_13, i_X6_earliestOf_16, i_X6_earliestOf_17, i_X6_earliestOf_18, i_X6_earliestOf_19, i_X6_earliestOf_22, i_X6_earliestOf_25, i_X6_earliestOf_26, i_X6_earliestOf_29, i_X6_earliestOf_30, i_X6_earliestOf_33, i_X6_earliestOf_36, i_X6_earliestOf_37, i_X6_earliestOf_38, i_X6_earliestOf_39, i_X6_earliestOf_42, i_X6_earliestOf_45, i_X6_earliestOf_46, i_X6_earliestOf_47, i_X6_earliestOf_50, i_X6_earliestOf_51, i_X6_earliestOf_52, i_X6_earliestOf_55, i_X6_earliestOf_58, i_X6_earliestOf_59, i_X6_earliestOf_0_e, Option.toList_some, Option.toList_none, List.cons_append, List.nil_append, List.append_nil, ↓reduceIte, q_lt, nI_add, bz_e0, hP.2.1, hj, t_runsIn hP hF hT hj hg, ho, reduceCtorEq]
        exact ih
      | true =>
        rw [ho] at ih
        have aj := (hF.2.1 j hj).2
        have bj := arr_b hT hj
        cases hl : lat T g false j with
        | none =>
          rw [hl] at ih
          simp (disch := omega) only [i_X6_earliestOf_0, i_X6_earliestOf_2, i_X6_earliestOf_3, i_X6_earliestOf_4, i_X6_earliestOf_6, i_X6_earliestOf_7, i_X6_earliestOf_10, i_X6_earliestOf_13, i_X6_earliestOf_16, i_X6_earliestOf_17, i_X6_earliestOf_18, i_X6_earliestOf_19, i_X6_earliestOf_22, i_X6_earliestOf_25, i_X6_earliestOf_26, i_X6_earliestOf_29, i_X6_earliestOf_30, i_X6_earliestOf_33, i_X6_earliestOf_36, i_X6_earliestOf_37, i_X6_earliestOf_38, i_X6_earliestOf_39, i_X6_earliestOf_42, i_X6_earliestOf_45, i_X6_earliestOf_46, i_X6_earliestOf_47, i_X6_earliestOf_50, i_X6_earliestOf_51, i_X6_earliestOf_52, i_X6_earliestOf_55, i_X6_earliestOf_58, i_X6_earliestOf_59, i_X6_earliestOf_0_e, Option.toList_some, Option.toList_none, List.cons_append, List.nil_append, List.append_nil, ↓reduceIte, q_lt, nI_add, bz_e0, hP.2.1, hj, t_runsIn hP hF hT hj hg, ho, reduceCtorEq, oI, show ((-5 : Int32) < 0) = True from by decide]
          exact ih
        | some f =>
          have hf := (lat_lt _ _ hl).1
          have af := (hF.2.1 f (by omega)).2
          have bf := arr_b hT (k := f) (by omega)
          rw [hl] at ih
          by_cases hb : arr T j < arr T f
          · simp only [bet, hb, decide_true, if_true, if_false, Bool.false_eq_true] at ih
            simp (disch := omega) only [i_X6_earliestOf_0, i_X6_earliestOf_2, i_X6_earliestOf_3, i_X6_earliestOf_4, i_X6_earliestOf_6, i_X6_earliestOf_7, i_X6_earliestOf_10, i_X6_earliestOf_13, i_X6_earliestOf_16, i_X6_earliestOf_17, i_X6_earliestOf_18, i_X6_earliestOf_19, i_X6_earliestOf_22, i_X6_earliestOf_25, i_X6_earliestOf_26, i_X6_earliestOf_29, i_X6_earliestOf_30, i_X6_earliestOf_33, i_X6_earliestOf_36, i_X6_earliestOf_37, i_X6_earliestOf_38, i_X6_earliestOf_39, i_X6_earliestOf_42, i_X6_earliestOf_45, i_X6_earliestOf_46, i_X6_earliestOf_47, i_X6_earliestOf_50, i_X6_earliestOf_51, i_X6_earliestOf_52, i_X6_earliestOf_55, i_X6_earliestOf_58, i_X6_earliestOf_59, i_X6_earliestOf_0_e, Option.toList_some, Option.toList_none, List.cons_append, List.nil_append, List.append_nil, ↓reduceIte, q_lt, q_neg, nI_add, bz_e0, hP.2.1, hj, t_runsIn hP hF hT hj hg, ho, reduceCtorEq, oI, aj, af, hb]
            exact ih
          · simp only [bet, hb, decide_false, if_true, if_false, Bool.false_eq_true] at ih
            simp (disch := omega) only [i_X6_earliestOf_0, i_X6_earliestOf_2, i_X6_earliestOf_3, i_X6_earliestOf_4, i_X6_earliestOf_6, i_X6_earliestOf_7, i_X6_earliestOf_10, i_X6_earliestOf_13, i_X6_earliestOf_16, i_X6_earliestOf_17, i_X6_earliestOf_18, i_X6_earliestOf_19, i_X6_earliestOf_22, i_X6_earliestOf_25, i_X6_earliestOf_26, i_X6_earliestOf_29, i_X6_earliestOf_30, i_X6_earliestOf_33, i_X6_earliestOf_36, i_X6_earliestOf_37, i_X6_earliestOf_38, i_X6_earliestOf_39, i_X6_earliestOf_42, i_X6_earliestOf_45, i_X6_earliestOf_46, i_X6_earliestOf_47, i_X6_earliestOf_50, i_X6_earliestOf_51, i_X6_earliestOf_52, i_X6_earliestOf_55, i_X6_earliestOf_58, i_X6_earliestOf_59, i_X6_earliestOf_0_e, Option.toList_some, Option.toList_none, List.cons_append, List.nil_append, List.append_nil, ↓reduceIte, q_lt, q_neg, nI_add, bz_e0, hP.2.1, hj, t_runsIn hP hF hT hj hg, ho, reduceCtorEq, oI, aj, af, hb]
            exact ih
  simp only [i_X6_earliestOf_0, i_X6_earliestOf_2, i_X6_earliestOf_3, i_X6_earliestOf_4, i_X6_earliestOf_6, i_X6_earliestOf_7, i_X6_earliestOf_10, i_X6_earliestOf_13, i_X6_earliestOf_16, i_X6_earliestOf_17, i_X6_earliestOf_18, i_X6_earliestOf_19, i_X6_earliestOf_22, i_X6_earliestOf_25, i_X6_earliestOf_26, i_X6_earliestOf_29, i_X6_earliestOf_30, i_X6_earliestOf_33, i_X6_earliestOf_36, i_X6_earliestOf_37, i_X6_earliestOf_38, i_X6_earliestOf_39, i_X6_earliestOf_42, i_X6_earliestOf_45, i_X6_earliestOf_46, i_X6_earliestOf_47, i_X6_earliestOf_50, i_X6_earliestOf_51, i_X6_earliestOf_52, i_X6_earliestOf_55, i_X6_earliestOf_58, i_X6_earliestOf_59, i_X6_earliestOf_0_e, Option.toList_some, Option.toList_none, List.cons_append, List.nil_append, List.append_nil, ↓reduceIte]
  exact key 0 (Nat.zero_le _) ()
theorem t_skewOf (hP : RelTP I A 1 T) (hF : RelF A E 37 T) (hT : okT T) {g : Nat} (hg : g < 4) : pm_call X (d + 3) mX6_skewOf [.ref 0, .int (nI g)] (pm_w I A E J B) Q ↔ Q (some (.int (skI T g))) (pm_w I A E J B) := by
  have h24 := hT.wf.2.1
  unfold skI
  cases h1 : lat T g true (T 10 0) with
  | none =>
    simp (disch := omega) only [i_X6_skewOf_0, i_X6_skewOf_1, i_X6_skewOf_2, i_X6_skewOf_5, i_X6_skewOf_6, i_X6_skewOf_7, i_X6_skewOf_8, i_X6_skewOf_11, i_X6_skewOf_12, i_X6_skewOf_13, i_X6_skewOf_16, i_X6_skewOf_17, i_X6_skewOf_24, i_X6_skewOf_25, i_X6_skewOf_28, i_X6_skewOf_31, i_X6_skewOf_32, i_X6_skewOf_33, i_X6_skewOf_34, i_X6_skewOf_37, i_X6_skewOf_40, i_X6_skewOf_41, i_X6_skewOf_42, i_X6_skewOf_43, i_X6_skewOf_20, i_X6_skewOf_21, i_X6_skewOf_0_e, Option.toList_some, Option.toList_none, List.cons_append, List.nil_append, List.append_nil, ↓reduceIte, t_latestOf hP hF hT hg, t_earliestOf hP hF hT hg, h1, oI, show ((-5 : Int32) < 0) = True from by decide]
  | some a =>
    have ha := (lat_lt _ _ h1).1
    cases h2 : lat T g false (T 10 0) with
    | none => rw [lat_both] at h2; rw [Bool.not_false, h1] at h2; cases h2
    | some b =>
      have hb := (lat_lt _ _ h2).1
      simp (disch := omega) only [i_X6_skewOf_0, i_X6_skewOf_1, i_X6_skewOf_2, i_X6_skewOf_5, i_X6_skewOf_6, i_X6_skewOf_7, i_X6_skewOf_8, i_X6_skewOf_11, i_X6_skewOf_12, i_X6_skewOf_13, i_X6_skewOf_16, i_X6_skewOf_17, i_X6_skewOf_24, i_X6_skewOf_25, i_X6_skewOf_28, i_X6_skewOf_31, i_X6_skewOf_32, i_X6_skewOf_33, i_X6_skewOf_34, i_X6_skewOf_37, i_X6_skewOf_40, i_X6_skewOf_41, i_X6_skewOf_42, i_X6_skewOf_43, i_X6_skewOf_20, i_X6_skewOf_21, i_X6_skewOf_0_e, Option.toList_some, Option.toList_none, List.cons_append, List.nil_append, List.append_nil, ↓reduceIte, t_latestOf hP hF hT hg, t_earliestOf hP hF hT hg, h1, h2, oI, q_neg, (hF.2.1 a ha).2, (hF.2.1 b hb).2]
def leI (T : Tr) (g : Nat) : Int32 := match lat T g true (T 10 0) with
  | some a => nI (arr T a) - nI (T 11 g)
  | none => nI 0
theorem t_leastAllowed (hP : RelTP I A 1 T) (hF : RelF A E 37 T) (hT : okT T) {g : Nat} (hg : g < 4) : pm_call X (d + 3) mX6_leastAllowed [.ref 0, .int (nI g)] (pm_w I A E J B) Q ↔ Q (some (.int (leI T g))) (pm_w I A E J B) := by
  have h24 := hT.wf.2.1
  have hl : A 12 g = nI (T 11 g) := hP.2.2.1 g hg
  unfold leI
  cases h1 : lat T g true (T 10 0) with
  | none => simp (disch := omega) only [i_X6_leastAllowed_0, i_X6_leastAllowed_1, i_X6_leastAllowed_2, i_X6_leastAllowed_5, i_X6_leastAllowed_6, i_X6_leastAllowed_7, i_X6_leastAllowed_10, i_X6_leastAllowed_11, i_X6_leastAllowed_33, i_X6_leastAllowed_14, i_X6_leastAllowed_15, i_X6_leastAllowed_18, i_X6_leastAllowed_21, i_X6_leastAllowed_22, i_X6_leastAllowed_23, i_X6_leastAllowed_24, i_X6_leastAllowed_27, i_X6_leastAllowed_30, i_X6_leastAllowed_31, i_X6_leastAllowed_32, i_X6_leastAllowed_0_e, Option.toList_some, Option.toList_none, List.cons_append, List.nil_append, List.append_nil, ↓reduceIte, t_latestOf hP hF hT hg, h1, oI, show ((-5 : Int32) < 0) = True from by decide]
  | some a =>
    have ha := (lat_lt _ _ h1).1
    simp (disch := omega) only [i_X6_leastAllowed_0, i_X6_leastAllowed_1, i_X6_leastAllowed_2, i_X6_leastAllowed_5, i_X6_leastAllowed_6, i_X6_leastAllowed_7, i_X6_leastAllowed_10, i_X6_leastAllowed_11, i_X6_leastAllowed_33, i_X6_leastAllowed_14, i_X6_leastAllowed_15, i_X6_leastAllowed_18, i_X6_leastAllowed_21, i_X6_leastAllowed_22, i_X6_leastAllowed_23, i_X6_leastAllowed_24, i_X6_leastAllowed_27, i_X6_leastAllowed_30, i_X6_leastAllowed_31, i_X6_leastAllowed_32, i_X6_leastAllowed_0_e, Option.toList_some, Option.toList_none, List.cons_append, List.nil_append, List.append_nil, ↓reduceIte, t_latestOf hP hF hT hg, h1, oI, q_neg, (hF.2.1 a ha).2, hl]
theorem t_lackOf (hP : RelTP I A 1 T) (hF : RelF A E 37 T) (hT : okT T) {k g : Nat} (hk : k < T 10 0) (hg : g < 4) : pm_call X (d + 2) mX6_lackOf [.ref 0, .int (nI k), .int (nI g), .int (leI T g)] (pm_w I A E J B) Q ↔ Q (some (.int (nI (grN T g k)))) (pm_w I A E J B) := by
  have h24 := hT.wf.2.1
  unfold grN
  cases ho : og T g k with
  | false => simp (disch := omega) only [i_X6_lackOf_0, i_X6_lackOf_1, i_X6_lackOf_2, i_X6_lackOf_3, i_X6_lackOf_6, i_X6_lackOf_9, i_X6_lackOf_10, i_X6_lackOf_11, i_X6_lackOf_12, i_X6_lackOf_15, i_X6_lackOf_18, i_X6_lackOf_19, i_X6_lackOf_20, i_X6_lackOf_21, i_X6_lackOf_24, i_X6_lackOf_28, i_X6_lackOf_27, i_X6_lackOf_0_e, Option.toList_some, Option.toList_none, List.cons_append, List.nil_append, List.append_nil, ↓reduceIte, t_runsIn hP hF hT hk hg, ho, bz_e0]; simp
  | true =>
    cases h1 : lat T g true (T 10 0) with
    | none => rw [lat_none _ h1 k hk] at ho; cases ho
    | some a =>
      have ha := (lat_lt _ _ h1).1
      have hl := hT.2.2.2.1 g hg
      have aa := arr_b hT ha
      have ak := arr_b hT hk
      obtain ⟨e1, e2⟩ := q_gr (a := arr T a) (l := T 11 g) (b := arr T k) (by omega) (by omega) (by omega)
      have e3 : (if nI 0 < nI (arr T a) - nI (T 11 g) - nI (arr T k) then nI (arr T a) - nI (T 11 g) - nI (arr T k) else nI 0) = nI (arr T a - (T 11 g + arr T k)) := by
        by_cases hc : arr T a < T 11 g + arr T k
        · have hn : nI (arr T a) - nI (T 11 g) - nI (arr T k) < 0 := by rw [e1]; exact hc
          rw [if_neg (fun q => by rw [(x_neg hn (by decide)).2.1] at q; exact q), Nat.sub_eq_zero_of_le (by omega)]
        · rw [e2 (by omega)]
          simp only [q_lt (show 0 < 2147483648 by decide) (show arr T a - (T 11 g + arr T k) < 2147483648 by omega)]
          split
          · rfl
          · next h => rw [show arr T a - (T 11 g + arr T k) = 0 by omega]
      simp (disch := omega) only [i_X6_lackOf_0, i_X6_lackOf_1, i_X6_lackOf_2, i_X6_lackOf_3, i_X6_lackOf_6, i_X6_lackOf_9, i_X6_lackOf_10, i_X6_lackOf_11, i_X6_lackOf_12, i_X6_lackOf_15, i_X6_lackOf_18, i_X6_lackOf_19, i_X6_lackOf_20, i_X6_lackOf_21, i_X6_lackOf_24, i_X6_lackOf_28, i_X6_lackOf_27, i_X6_lackOf_0_e, Option.toList_some, Option.toList_none, List.cons_append, List.nil_append, List.append_nil, ↓reduceIte, t_runsIn hP hF hT hk hg, ho, bz_e0, reduceCtorEq, leI, h1, (hF.2.1 k hk).2, e3]
theorem t_mendingOf (hP : RelTP I A 1 T) (hF : RelF A E 37 T) (hT : okT T) {g : Nat} (hg : g < 4) : pm_call X (d + 4) mX6_mendingOf [.ref 0, .int (nI g)] (pm_w I A E J B) Q ↔ Q (some (.int (monI T g))) (pm_w I A E J B) := by
  have h24 := hT.wf.2.1
  have key : ∀ j, j ≤ T 10 0 → ∀ v, allN (mndB T g) j = true → (pm_wp X (d + 4) mX6_mendingOf 11 [.ref 0, .int (nI g), .int (leI T g), .int (nI (sumN (grN T g) j)), .int (nI j), v] [] (pm_w I A E J B) Q ↔ Q (some (.int (monI T g))) (pm_w I A E J B)) := by
    have key2 : ∀ j, j ≤ T 10 0 → ∀ v, (allN (mndB T g) j = true → (pm_wp X (d + 4) mX6_mendingOf 11 [.ref 0, .int (nI g), .int (leI T g), .int (nI (sumN (grN T g) j)), .int (nI j), v] [] (pm_w I A E J B) Q ↔ Q (some (.int (monI T g))) (pm_w I A E J B))) ↔ True := by
      refine loop_r (fun v => ?_) (fun j hj ih v => ?_)
      · simp only [iff_true]
        intro ha
        rw [i_X6_mendingOf_11]
        unfold monI mnd
        rw [ha]
        simp (disch := omega) only [i_X6_mendingOf_0, i_X6_mendingOf_1, i_X6_mendingOf_2, i_X6_mendingOf_5, i_X6_mendingOf_6, i_X6_mendingOf_7, i_X6_mendingOf_8, i_X6_mendingOf_9, i_X6_mendingOf_13, i_X6_mendingOf_14, i_X6_mendingOf_17, i_X6_mendingOf_20, i_X6_mendingOf_23, i_X6_mendingOf_24, i_X6_mendingOf_26, i_X6_mendingOf_27, i_X6_mendingOf_28, i_X6_mendingOf_31, i_X6_mendingOf_33, i_X6_mendingOf_34, i_X6_mendingOf_37, i_X6_mendingOf_40, i_X6_mendingOf_42, i_X6_mendingOf_43, i_X6_mendingOf_45, i_X6_mendingOf_46, i_X6_mendingOf_48, i_X6_mendingOf_51, i_X6_mendingOf_53, i_X6_mendingOf_54, i_X6_mendingOf_55, i_X6_mendingOf_57, i_X6_mendingOf_58, i_X6_mendingOf_59, i_X6_mendingOf_62, i_X6_mendingOf_65, i_X6_mendingOf_66, i_X6_mendingOf_0_e, Option.toList_some, Option.toList_none, List.cons_append, List.nil_append, List.append_nil, ↓reduceIte, q_lt, hP.2.1, Nat.lt_irrefl, oI]
      · simp only [iff_true] at ih ⊢
        intro ha
        have hg8 := grN_b hT (g := g) (k := j)
        have p9 := (hT.2.2.2.2.2.1 j hj).2.2.2.2.2.2.1
        have e9 : A 11 j = nI (T 9 j) := hP.2.2.2 9 j (by omega) hj (by omega)
        rw [show sumN (grN T g) (j + 1) = sumN (grN T g) j + grN T g j from rfl, show allN (mndB T g) (j + 1) = (allN (mndB T g) j && mndB T g j) from rfl, ha, Bool.true_and, mndB] at ih
        rw [i_X6_mendingOf_11]
        by_cases h9 : 99 < T 9 j + grN T g j
        · simp (disch := omega) only [i_X6_mendingOf_0, i_X6_mendingOf_1, i_X6_mendingOf_2, i_X6_mendingOf_5, i_X6_mendingOf_6, i_X6_mendingOf_7, i_X6_mendingOf_8, i_X6_mendingOf_9, i_X6_mendingOf_13, i_X6_mendingOf_14, i_X6_mendingOf_17, i_X6_mendingOf_20, i_X6_mendingOf_23, i_X6_mendingOf_24, i_X6_mendingOf_26, i_X6_mendingOf_27, i_X6_mendingOf_28, i_X6_mendingOf_31, i_X6_mendingOf_33, i_X6_mendingOf_34, i_X6_mendingOf_37, i_X6_mendingOf_40, i_X6_mendingOf_42, i_X6_mendingOf_43, i_X6_mendingOf_45, i_X6_mendingOf_46, i_X6_mendingOf_48, i_X6_mendingOf_51, i_X6_mendingOf_53, i_X6_mendingOf_54, i_X6_mendingOf_55, i_X6_mendingOf_57, i_X6_mendingOf_58, i_X6_mendingOf_59, i_X6_mendingOf_62, i_X6_mendingOf_65, i_X6_mendingOf_66, i_X6_mendingOf_0_e, Option.toList_some, Option.toList_none, List.cons_append, List.nil_append, List.append_nil, ↓reduceIte, q_lt, nI_add, hP.2.1, hj, t_lackOf hP hF hT hj hg, e9, h9]
          have hf : allN (mndB T g) (T 10 0) = false := by
            cases hx : allN (mndB T g) (T 10 0) with
            | false => rfl
            | true =>
              have := (allN_iff _).mp hx j hj
              unfold mndB at this
              simp at this
              omega
          unfold monI mnd
          rw [hf]
          rfl
        · simp (disch := omega) only [i_X6_mendingOf_0, i_X6_mendingOf_1, i_X6_mendingOf_2, i_X6_mendingOf_5, i_X6_mendingOf_6, i_X6_mendingOf_7, i_X6_mendingOf_8, i_X6_mendingOf_9, i_X6_mendingOf_13, i_X6_mendingOf_14, i_X6_mendingOf_17, i_X6_mendingOf_20, i_X6_mendingOf_23, i_X6_mendingOf_24, i_X6_mendingOf_26, i_X6_mendingOf_27, i_X6_mendingOf_28, i_X6_mendingOf_31, i_X6_mendingOf_33, i_X6_mendingOf_34, i_X6_mendingOf_37, i_X6_mendingOf_40, i_X6_mendingOf_42, i_X6_mendingOf_43, i_X6_mendingOf_45, i_X6_mendingOf_46, i_X6_mendingOf_48, i_X6_mendingOf_51, i_X6_mendingOf_53, i_X6_mendingOf_54, i_X6_mendingOf_55, i_X6_mendingOf_57, i_X6_mendingOf_58, i_X6_mendingOf_59, i_X6_mendingOf_62, i_X6_mendingOf_65, i_X6_mendingOf_66, i_X6_mendingOf_0_e, Option.toList_some, Option.toList_none, List.cons_append, List.nil_append, List.append_nil, ↓reduceIte, q_lt, nI_add, hP.2.1, hj, t_lackOf hP hF hT hj hg, e9, h9]
          exact ih _ (by simp; omega)
    intro j hj v ha
    exact (key2 j hj v).mpr trivial ha
  simp only [i_X6_mendingOf_0, i_X6_mendingOf_1, i_X6_mendingOf_2, i_X6_mendingOf_5, i_X6_mendingOf_6, i_X6_mendingOf_7, i_X6_mendingOf_8, i_X6_mendingOf_9, i_X6_mendingOf_13, i_X6_mendingOf_14, i_X6_mendingOf_17, i_X6_mendingOf_20, i_X6_mendingOf_23, i_X6_mendingOf_24, i_X6_mendingOf_26, i_X6_mendingOf_27, i_X6_mendingOf_28, i_X6_mendingOf_31, i_X6_mendingOf_33, i_X6_mendingOf_34, i_X6_mendingOf_37, i_X6_mendingOf_40, i_X6_mendingOf_42, i_X6_mendingOf_43, i_X6_mendingOf_45, i_X6_mendingOf_46, i_X6_mendingOf_48, i_X6_mendingOf_51, i_X6_mendingOf_53, i_X6_mendingOf_54, i_X6_mendingOf_55, i_X6_mendingOf_57, i_X6_mendingOf_58, i_X6_mendingOf_59, i_X6_mendingOf_62, i_X6_mendingOf_65, i_X6_mendingOf_66, i_X6_mendingOf_0_e, Option.toList_some, Option.toList_none, List.cons_append, List.nil_append, List.append_nil, ↓reduceIte, t_leastAllowed hP hF hT hg]
  exact key 0 (Nat.zero_le _) _ rfl
theorem t_leavesOf (hP : RelTP I A 1 T) (hF : RelF A E 37 T) (hT : okT T) {g : Nat} (hg : g < 4) {ra : Bool} : pm_call X (d + 1) mX6_leavesOf [.ref 0, .int (nI g), .int (bz ra)] (pm_w I A E J B) Q ↔ Q (some (.int (nI (cnt (ogr T ra g) (T 10 0))))) (pm_w I A E J B) := by
  have h24 := hT.wf.2.1
  have key : ∀ j, j ≤ T 10 0 → ∀ _ : Unit, pm_wp X (d + 1) mX6_leavesOf 5 [.ref 0, .int (nI g), .int (bz ra), .int (nI (cnt (ogr T ra g) j)), .int (nI j)] [] (pm_w I A E J B) Q ↔ Q (some (.int (nI (cnt (ogr T ra g) (T 10 0))))) (pm_w I A E J B) := by
    refine loop_r (fun _ => ?_) (fun j hj ih _ => ?_)
    · rw [i_X6_leavesOf_5]
      simp (disch := omega) only [i_X6_leavesOf_0, i_X6_leavesOf_1, i_X6_leavesOf_2, i_X6_leavesOf_3, i_X6_leavesOf_7, i_X6_leavesOf_8, i_X6_leavesOf_11, i_X6_leavesOf_14, i_X6_leavesOf_17, i_X6_leavesOf_18, i_X6_leavesOf_21, i_X6_leavesOf_23, i_X6_leavesOf_24, i_X6_leavesOf_27, i_X6_leavesOf_30, i_X6_leavesOf_31, i_X6_leavesOf_34, i_X6_leavesOf_37, i_X6_leavesOf_39, i_X6_leavesOf_40, i_X6_leavesOf_43, i_X6_leavesOf_44, i_X6_leavesOf_47, i_X6_leavesOf_50, i_X6_leavesOf_53, i_X6_leavesOf_56, i_X6_leavesOf_57, i_X6_leavesOf_0_e, Option.toList_some, Option.toList_none, List.cons_append, List.nil_append, List.append_nil, ↓reduceIte, q_lt, hP.2.1, Nat.lt_irrefl]
    · have ih := ih ()
      rw [show cnt (ogr T ra g) (j + 1) = cnt (ogr T ra g) j + (if ogr T ra g j then 1 else 0) from rfl, ogr] at ih
      have r := (hF.2.2.2 j hj).2
      rw [i_X6_leavesOf_5]
      cases ho : ofg T g j with
      | false =>
        rw [ho] at ih
        simp (disch := omega) only [i_X6_leavesOf_0, i_X6_leavesOf_1, i_X6_leavesOf_2, i_X6_leavesOf_3, i_X6_leavesOf_7, i_X6_leavesOf_8, i_X6_leavesOf_11, i_X6_leavesOf_14, i_X6_leavesOf_17, i_X6_leavesOf_18, i_X6_leavesOf_21, i_X6_leavesOf_23, i_X6_leavesOf_24, i_X6_leavesOf_27, i_X6_leavesOf_30, i_X6_leavesOf_31, i_X6_leavesOf_34, i_X6_leavesOf_37, i_X6_leavesOf_39, i_X6_leavesOf_40, i_X6_leavesOf_43, i_X6_leavesOf_44, i_X6_leavesOf_47, i_X6_leavesOf_50, i_X6_leavesOf_53, i_X6_leavesOf_56, i_X6_leavesOf_57, i_X6_leavesOf_0_e, Option.toList_some, Option.toList_none, List.cons_append, List.nil_append, List.append_nil, ↓reduceIte, q_lt, nI_add, bz_e0, hP.2.1, hj, t_isOfGroup hP hT hj hg, ho]
        exact ih
      | true =>
        cases hr : rn T j with
        | true =>
          rw [hr] at r
          rw [ho, hr, Bool.or_true] at ih
          simp (disch := omega) only [i_X6_leavesOf_0, i_X6_leavesOf_1, i_X6_leavesOf_2, i_X6_leavesOf_3, i_X6_leavesOf_7, i_X6_leavesOf_8, i_X6_leavesOf_11, i_X6_leavesOf_14, i_X6_leavesOf_17, i_X6_leavesOf_18, i_X6_leavesOf_21, i_X6_leavesOf_23, i_X6_leavesOf_24, i_X6_leavesOf_27, i_X6_leavesOf_30, i_X6_leavesOf_31, i_X6_leavesOf_34, i_X6_leavesOf_37, i_X6_leavesOf_39, i_X6_leavesOf_40, i_X6_leavesOf_43, i_X6_leavesOf_44, i_X6_leavesOf_47, i_X6_leavesOf_50, i_X6_leavesOf_53, i_X6_leavesOf_56, i_X6_leavesOf_57, i_X6_leavesOf_0_e, Option.toList_some, Option.toList_none, List.cons_append, List.nil_append, List.append_nil, ↓reduceIte, q_lt, nI_add, bz_e0, hP.2.1, hj, t_isOfGroup hP hT hj hg, ho, r, reduceCtorEq]
          exact ih
        | false =>
          rw [hr] at r
          cases ra with
          | true =>
            rw [ho, hr] at ih
            simp (disch := omega) only [i_X6_leavesOf_0, i_X6_leavesOf_1, i_X6_leavesOf_2, i_X6_leavesOf_3, i_X6_leavesOf_7, i_X6_leavesOf_8, i_X6_leavesOf_11, i_X6_leavesOf_14, i_X6_leavesOf_17, i_X6_leavesOf_18, i_X6_leavesOf_21, i_X6_leavesOf_23, i_X6_leavesOf_24, i_X6_leavesOf_27, i_X6_leavesOf_30, i_X6_leavesOf_31, i_X6_leavesOf_34, i_X6_leavesOf_37, i_X6_leavesOf_39, i_X6_leavesOf_40, i_X6_leavesOf_43, i_X6_leavesOf_44, i_X6_leavesOf_47, i_X6_leavesOf_50, i_X6_leavesOf_53, i_X6_leavesOf_56, i_X6_leavesOf_57, i_X6_leavesOf_0_e, Option.toList_some, Option.toList_none, List.cons_append, List.nil_append, List.append_nil, ↓reduceIte, q_lt, nI_add, bz_e0, hP.2.1, hj, t_isOfGroup hP hT hj hg, ho, r, reduceCtorEq]
            exact ih
          | false =>
            rw [ho, hr] at ih
            simp (disch := omega) only [i_X6_leavesOf_0, i_X6_leavesOf_1, i_X6_leavesOf_2, i_X6_leavesOf_3, i_X6_leavesOf_7, i_X6_leavesOf_8, i_X6_leavesOf_11, i_X6_leavesOf_14, i_X6_leavesOf_17, i_X6_leavesOf_18, i_X6_leavesOf_21, i_X6_leavesOf_23, i_X6_leavesOf_24, i_X6_leavesOf_27, i_X6_leavesOf_30, i_X6_leavesOf_31, i_X6_leavesOf_34, i_X6_leavesOf_37, i_X6_leavesOf_39, i_X6_leavesOf_40, i_X6_leavesOf_43, i_X6_leavesOf_44, i_X6_leavesOf_47, i_X6_leavesOf_50, i_X6_leavesOf_53, i_X6_leavesOf_56, i_X6_leavesOf_57, i_X6_leavesOf_0_e, Option.toList_some, Option.toList_none, List.cons_append, List.nil_append, List.append_nil, ↓reduceIte, q_lt, nI_add, bz_e0, hP.2.1, hj, t_isOfGroup hP hT hj hg, ho, r, reduceCtorEq]
            exact ih
  simp only [i_X6_leavesOf_0, i_X6_leavesOf_1, i_X6_leavesOf_2, i_X6_leavesOf_3, i_X6_leavesOf_7, i_X6_leavesOf_8, i_X6_leavesOf_11, i_X6_leavesOf_14, i_X6_leavesOf_17, i_X6_leavesOf_18, i_X6_leavesOf_21, i_X6_leavesOf_23, i_X6_leavesOf_24, i_X6_leavesOf_27, i_X6_leavesOf_30, i_X6_leavesOf_31, i_X6_leavesOf_34, i_X6_leavesOf_37, i_X6_leavesOf_39, i_X6_leavesOf_40, i_X6_leavesOf_43, i_X6_leavesOf_44, i_X6_leavesOf_47, i_X6_leavesOf_50, i_X6_leavesOf_53, i_X6_leavesOf_56, i_X6_leavesOf_57, i_X6_leavesOf_0_e, Option.toList_some, Option.toList_none, List.cons_append, List.nil_append, List.append_nil, ↓reduceIte]
  exact key 0 (Nat.zero_le _) ()
theorem t_nodesOf (hP : RelTP I A 1 T) (hT : okT T) {w : Nat} (hw : w < 6) : pm_call X d mX6_nodesOf [.ref 0, .int (nI w)] (pm_w I A E J B) Q ↔ Q (some (.int (nI (cnt (fun k => decide (T 0 k = w)) (T 10 0))))) (pm_w I A E J B) := by
  have h24 := hT.wf.2.1
  have key : ∀ j, j ≤ T 10 0 → ∀ _ : Unit, pm_wp X d mX6_nodesOf 4 [.ref 0, .int (nI w), .int (nI (cnt (fun k => decide (T 0 k = w)) j)), .int (nI j)] [] (pm_w I A E J B) Q ↔ Q (some (.int (nI (cnt (fun k => decide (T 0 k = w)) (T 10 0))))) (pm_w I A E J B) := by
    refine loop_r (fun _ => ?_) (fun j hj ih _ => ?_)
    · rw [i_X6_nodesOf_4]
      simp (disch := omega) only [i_X6_nodesOf_0, i_X6_nodesOf_1, i_X6_nodesOf_2, i_X6_nodesOf_3, i_X6_nodesOf_5, i_X6_nodesOf_6, i_X6_nodesOf_9, i_X6_nodesOf_12, i_X6_nodesOf_15, i_X6_nodesOf_16, i_X6_nodesOf_19, i_X6_nodesOf_22, i_X6_nodesOf_23, i_X6_nodesOf_24, i_X6_nodesOf_25, i_X6_nodesOf_28, i_X6_nodesOf_31, i_X6_nodesOf_34, i_X6_nodesOf_37, i_X6_nodesOf_38, i_X6_nodesOf_0_e, Option.toList_some, Option.toList_none, List.cons_append, List.nil_append, List.append_nil, ↓reduceIte, q_lt, hP.2.1, Nat.lt_irrefl]
    · have ih := ih ()
      have s0 := hT.small hj (w := 0) (by omega) (by omega)
      have e0 : A 2 j = nI (T 0 j) := hP.2.2.2 0 j (by omega) hj (by omega)
      rw [show cnt (fun k => decide (T 0 k = w)) (j + 1) = cnt (fun k => decide (T 0 k = w)) j + (if decide (T 0 j = w) then 1 else 0) from rfl] at ih
      rw [i_X6_nodesOf_4]
      by_cases hc : T 0 j = w
      · rw [show decide (T 0 j = w) = true from by simp [hc]] at ih
        simp (disch := omega) only [i_X6_nodesOf_0, i_X6_nodesOf_1, i_X6_nodesOf_2, i_X6_nodesOf_3, i_X6_nodesOf_5, i_X6_nodesOf_6, i_X6_nodesOf_9, i_X6_nodesOf_12, i_X6_nodesOf_15, i_X6_nodesOf_16, i_X6_nodesOf_19, i_X6_nodesOf_22, i_X6_nodesOf_23, i_X6_nodesOf_24, i_X6_nodesOf_25, i_X6_nodesOf_28, i_X6_nodesOf_31, i_X6_nodesOf_34, i_X6_nodesOf_37, i_X6_nodesOf_38, i_X6_nodesOf_0_e, Option.toList_some, Option.toList_none, List.cons_append, List.nil_append, List.append_nil, ↓reduceIte, q_lt, q_eq, nI_add, hP.2.1, hj, e0, hc]
        exact ih
      · rw [show decide (T 0 j = w) = false from by simp [hc]] at ih
        simp (disch := omega) only [i_X6_nodesOf_0, i_X6_nodesOf_1, i_X6_nodesOf_2, i_X6_nodesOf_3, i_X6_nodesOf_5, i_X6_nodesOf_6, i_X6_nodesOf_9, i_X6_nodesOf_12, i_X6_nodesOf_15, i_X6_nodesOf_16, i_X6_nodesOf_19, i_X6_nodesOf_22, i_X6_nodesOf_23, i_X6_nodesOf_24, i_X6_nodesOf_25, i_X6_nodesOf_28, i_X6_nodesOf_31, i_X6_nodesOf_34, i_X6_nodesOf_37, i_X6_nodesOf_38, i_X6_nodesOf_0_e, Option.toList_some, Option.toList_none, List.cons_append, List.nil_append, List.append_nil, ↓reduceIte, q_lt, q_eq, nI_add, hP.2.1, hj, e0, hc]
        exact ih
  simp only [i_X6_nodesOf_0, i_X6_nodesOf_1, i_X6_nodesOf_2, i_X6_nodesOf_3, i_X6_nodesOf_5, i_X6_nodesOf_6, i_X6_nodesOf_9, i_X6_nodesOf_12, i_X6_nodesOf_15, i_X6_nodesOf_16, i_X6_nodesOf_19, i_X6_nodesOf_22, i_X6_nodesOf_23, i_X6_nodesOf_24, i_X6_nodesOf_25, i_X6_nodesOf_28, i_X6_nodesOf_31, i_X6_nodesOf_34, i_X6_nodesOf_37, i_X6_nodesOf_38, i_X6_nodesOf_0_e, Option.toList_some, Option.toList_none, List.cons_append, List.nil_append, List.append_nil, ↓reduceIte]
  exact key 0 (Nat.zero_le _) ()
theorem t_runningNodes (hP : RelTP I A 1 T) (hF : RelF A E 37 T) (hT : okT T) : pm_call X d mX6_runningNodes [.ref 0] (pm_w I A E J B) Q ↔ Q (some (.int (nI (cnt (rn T) (T 10 0))))) (pm_w I A E J B) := by
  have h24 := hT.wf.2.1
  have key : ∀ j, j ≤ T 10 0 → ∀ _ : Unit, pm_wp X d mX6_runningNodes 4 [.ref 0, .int (nI (cnt (rn T) j)), .int (nI j)] [] (pm_w I A E J B) Q ↔ Q (some (.int (nI (cnt (rn T) (T 10 0))))) (pm_w I A E J B) := by
    refine loop_r (fun _ => ?_) (fun j hj ih _ => ?_)
    · rw [i_X6_runningNodes_4]
      simp (disch := omega) only [i_X6_runningNodes_0, i_X6_runningNodes_1, i_X6_runningNodes_2, i_X6_runningNodes_3, i_X6_runningNodes_5, i_X6_runningNodes_6, i_X6_runningNodes_9, i_X6_runningNodes_12, i_X6_runningNodes_15, i_X6_runningNodes_16, i_X6_runningNodes_19, i_X6_runningNodes_22, i_X6_runningNodes_23, i_X6_runningNodes_24, i_X6_runningNodes_27, i_X6_runningNodes_30, i_X6_runningNodes_33, i_X6_runningNodes_36, i_X6_runningNodes_37, i_X6_runningNodes_0_e, Option.toList_some, Option.toList_none, List.cons_append, List.nil_append, List.append_nil, ↓reduceIte, q_lt, hP.2.1, Nat.lt_irrefl]
    · have ih := ih ()
      have r := (hF.2.2.2 j hj).2
      rw [show cnt (rn T) (j + 1) = cnt (rn T) j + (if rn T j then 1 else 0) from rfl] at ih
      rw [i_X6_runningNodes_4]
      cases hc : rn T j with
      | true =>
        rw [hc] at ih r
        simp (disch := omega) only [i_X6_runningNodes_0, i_X6_runningNodes_1, i_X6_runningNodes_2, i_X6_runningNodes_3, i_X6_runningNodes_5, i_X6_runningNodes_6, i_X6_runningNodes_9, i_X6_runningNodes_12, i_X6_runningNodes_15, i_X6_runningNodes_16, i_X6_runningNodes_19, i_X6_runningNodes_22, i_X6_runningNodes_23, i_X6_runningNodes_24, i_X6_runningNodes_27, i_X6_runningNodes_30, i_X6_runningNodes_33, i_X6_runningNodes_36, i_X6_runningNodes_37, i_X6_runningNodes_0_e, Option.toList_some, Option.toList_none, List.cons_append, List.nil_append, List.append_nil, ↓reduceIte, q_lt, nI_add, hP.2.1, hj, r, bz_e0, reduceCtorEq]
        exact ih
      | false =>
        rw [hc] at ih r
        simp (disch := omega) only [i_X6_runningNodes_0, i_X6_runningNodes_1, i_X6_runningNodes_2, i_X6_runningNodes_3, i_X6_runningNodes_5, i_X6_runningNodes_6, i_X6_runningNodes_9, i_X6_runningNodes_12, i_X6_runningNodes_15, i_X6_runningNodes_16, i_X6_runningNodes_19, i_X6_runningNodes_22, i_X6_runningNodes_23, i_X6_runningNodes_24, i_X6_runningNodes_27, i_X6_runningNodes_30, i_X6_runningNodes_33, i_X6_runningNodes_36, i_X6_runningNodes_37, i_X6_runningNodes_0_e, Option.toList_some, Option.toList_none, List.cons_append, List.nil_append, List.append_nil, ↓reduceIte, q_lt, nI_add, hP.2.1, hj, r, bz_e0, reduceCtorEq]
        exact ih
  simp only [i_X6_runningNodes_0, i_X6_runningNodes_1, i_X6_runningNodes_2, i_X6_runningNodes_3, i_X6_runningNodes_5, i_X6_runningNodes_6, i_X6_runningNodes_9, i_X6_runningNodes_12, i_X6_runningNodes_15, i_X6_runningNodes_16, i_X6_runningNodes_19, i_X6_runningNodes_22, i_X6_runningNodes_23, i_X6_runningNodes_24, i_X6_runningNodes_27, i_X6_runningNodes_30, i_X6_runningNodes_33, i_X6_runningNodes_36, i_X6_runningNodes_37, i_X6_runningNodes_0_e, Option.toList_some, Option.toList_none, List.cons_append, List.nil_append, List.append_nil, ↓reduceIte]
  exact key 0 (Nat.zero_le _) ()
theorem t_contentLeaves (hP : RelTP I A 1 T) (hF : RelF A E 37 T) (hT : okT T) : pm_call X (d + 2) mX6_contentLeaves [.ref 0] (pm_w I A E J B) Q ↔ Q (some (.int (nI (cnt (cnB T) (T 10 0))))) (pm_w I A E J B) := by
  have h24 := hT.wf.2.1
  have key : ∀ j, j ≤ T 10 0 → ∀ _ : Unit, pm_wp X (d + 2) mX6_contentLeaves 4 [.ref 0, .int (nI (cnt (cnB T) j)), .int (nI j)] [] (pm_w I A E J B) Q ↔ Q (some (.int (nI (cnt (cnB T) (T 10 0))))) (pm_w I A E J B) := by
    refine loop_r (fun _ => ?_) (fun j hj ih _ => ?_)
    · rw [i_X6_contentLeaves_4]
      simp (disch := omega) only [i_X6_contentLeaves_0, i_X6_contentLeaves_1, i_X6_contentLeaves_2, i_X6_contentLeaves_3, i_X6_contentLeaves_5, i_X6_contentLeaves_6, i_X6_contentLeaves_9, i_X6_contentLeaves_12, i_X6_contentLeaves_15, i_X6_contentLeaves_16, i_X6_contentLeaves_19, i_X6_contentLeaves_22, i_X6_contentLeaves_23, i_X6_contentLeaves_24, i_X6_contentLeaves_25, i_X6_contentLeaves_28, i_X6_contentLeaves_29, i_X6_contentLeaves_32, i_X6_contentLeaves_33, i_X6_contentLeaves_36, i_X6_contentLeaves_37, i_X6_contentLeaves_40, i_X6_contentLeaves_43, i_X6_contentLeaves_46, i_X6_contentLeaves_49, i_X6_contentLeaves_52, i_X6_contentLeaves_53, i_X6_contentLeaves_0_e, Option.toList_some, Option.toList_none, List.cons_append, List.nil_append, List.append_nil, ↓reduceIte, q_lt, hP.2.1, Nat.lt_irrefl]
    · have ih := ih ()
      have s0 := hT.small hj (w := 0) (by omega) (by omega)
      have e0 : A 2 j = nI (T 0 j) := hP.2.2.2 0 j (by omega) hj (by omega)
      rw [show cnt (cnB T) (j + 1) = cnt (cnB T) j + (if cnB T j then 1 else 0) from rfl, cnB] at ih
      rw [i_X6_contentLeaves_4]
      by_cases h5 : T 0 j = 5
      · cases hc : cnn T j with
        | true =>
          simp only [h5, hc, decide_true, Bool.and_true, if_true] at ih
          simp (disch := omega) only [i_X6_contentLeaves_0, i_X6_contentLeaves_1, i_X6_contentLeaves_2, i_X6_contentLeaves_3, i_X6_contentLeaves_5, i_X6_contentLeaves_6, i_X6_contentLeaves_9, i_X6_contentLeaves_12, i_X6_contentLeaves_15, i_X6_contentLeaves_16, i_X6_contentLeaves_19, i_X6_contentLeaves_22, i_X6_contentLeaves_23, i_X6_contentLeaves_24, i_X6_contentLeaves_25, i_X6_contentLeaves_28, i_X6_contentLeaves_29, i_X6_contentLeaves_32, i_X6_contentLeaves_33, i_X6_contentLeaves_36, i_X6_contentLeaves_37, i_X6_contentLeaves_40, i_X6_contentLeaves_43, i_X6_contentLeaves_46, i_X6_contentLeaves_49, i_X6_contentLeaves_52, i_X6_contentLeaves_53, i_X6_contentLeaves_0_e, Option.toList_some, Option.toList_none, List.cons_append, List.nil_append, List.append_nil, ↓reduceIte, q_lt, q_eq, nI_add, hP.2.1, hj, e0, h5, t_isContenta hP hT hF.1 hj, hc, bz_e0, reduceCtorEq]
          exact ih
        | false =>
          simp only [h5, hc, decide_true, Bool.and_false, if_false, Bool.false_eq_true] at ih
          simp (disch := omega) only [i_X6_contentLeaves_0, i_X6_contentLeaves_1, i_X6_contentLeaves_2, i_X6_contentLeaves_3, i_X6_contentLeaves_5, i_X6_contentLeaves_6, i_X6_contentLeaves_9, i_X6_contentLeaves_12, i_X6_contentLeaves_15, i_X6_contentLeaves_16, i_X6_contentLeaves_19, i_X6_contentLeaves_22, i_X6_contentLeaves_23, i_X6_contentLeaves_24, i_X6_contentLeaves_25, i_X6_contentLeaves_28, i_X6_contentLeaves_29, i_X6_contentLeaves_32, i_X6_contentLeaves_33, i_X6_contentLeaves_36, i_X6_contentLeaves_37, i_X6_contentLeaves_40, i_X6_contentLeaves_43, i_X6_contentLeaves_46, i_X6_contentLeaves_49, i_X6_contentLeaves_52, i_X6_contentLeaves_53, i_X6_contentLeaves_0_e, Option.toList_some, Option.toList_none, List.cons_append, List.nil_append, List.append_nil, ↓reduceIte, q_lt, q_eq, nI_add, hP.2.1, hj, e0, h5, t_isContenta hP hT hF.1 hj, hc, bz_e0, reduceCtorEq]
          exact ih
      · simp only [h5, decide_false, Bool.false_and, if_false, Bool.false_eq_true] at ih
        simp (disch := omega) only [i_X6_contentLeaves_0, i_X6_contentLeaves_1, i_X6_contentLeaves_2, i_X6_contentLeaves_3, i_X6_contentLeaves_5, i_X6_contentLeaves_6, i_X6_contentLeaves_9, i_X6_contentLeaves_12, i_X6_contentLeaves_15, i_X6_contentLeaves_16, i_X6_contentLeaves_19, i_X6_contentLeaves_22, i_X6_contentLeaves_23, i_X6_contentLeaves_24, i_X6_contentLeaves_25, i_X6_contentLeaves_28, i_X6_contentLeaves_29, i_X6_contentLeaves_32, i_X6_contentLeaves_33, i_X6_contentLeaves_36, i_X6_contentLeaves_37, i_X6_contentLeaves_40, i_X6_contentLeaves_43, i_X6_contentLeaves_46, i_X6_contentLeaves_49, i_X6_contentLeaves_52, i_X6_contentLeaves_53, i_X6_contentLeaves_0_e, Option.toList_some, Option.toList_none, List.cons_append, List.nil_append, List.append_nil, ↓reduceIte, q_lt, q_eq, nI_add, hP.2.1, hj, e0, h5]
        exact ih
  simp only [i_X6_contentLeaves_0, i_X6_contentLeaves_1, i_X6_contentLeaves_2, i_X6_contentLeaves_3, i_X6_contentLeaves_5, i_X6_contentLeaves_6, i_X6_contentLeaves_9, i_X6_contentLeaves_12, i_X6_contentLeaves_15, i_X6_contentLeaves_16, i_X6_contentLeaves_19, i_X6_contentLeaves_22, i_X6_contentLeaves_23, i_X6_contentLeaves_24, i_X6_contentLeaves_25, i_X6_contentLeaves_28, i_X6_contentLeaves_29, i_X6_contentLeaves_32, i_X6_contentLeaves_33, i_X6_contentLeaves_36, i_X6_contentLeaves_37, i_X6_contentLeaves_40, i_X6_contentLeaves_43, i_X6_contentLeaves_46, i_X6_contentLeaves_49, i_X6_contentLeaves_52, i_X6_contentLeaves_53, i_X6_contentLeaves_0_e, Option.toList_some, Option.toList_none, List.cons_append, List.nil_append, List.append_nil, ↓reduceIte]
  exact key 0 (Nat.zero_le _) ()
theorem t_openGates (hP : RelTP I A 1 T) (hF : RelF A E 37 T) (hT : okT T) : pm_call X d mX6_openGates [.ref 0] (pm_w I A E J B) Q ↔ Q (some (.int (nI (cnt (ogB T) (T 10 0))))) (pm_w I A E J B) := by
  have h24 := hT.wf.2.1
  have key : ∀ j, j ≤ T 10 0 → ∀ _ : Unit, pm_wp X d mX6_openGates 4 [.ref 0, .int (nI (cnt (ogB T) j)), .int (nI j)] [] (pm_w I A E J B) Q ↔ Q (some (.int (nI (cnt (ogB T) (T 10 0))))) (pm_w I A E J B) := by
    refine loop_r (fun _ => ?_) (fun j hj ih _ => ?_)
    · rw [i_X6_openGates_4]
      simp (disch := omega) only [i_X6_openGates_0, i_X6_openGates_1, i_X6_openGates_2, i_X6_openGates_3, i_X6_openGates_5, i_X6_openGates_6, i_X6_openGates_9, i_X6_openGates_12, i_X6_openGates_15, i_X6_openGates_16, i_X6_openGates_19, i_X6_openGates_22, i_X6_openGates_23, i_X6_openGates_24, i_X6_openGates_25, i_X6_openGates_28, i_X6_openGates_29, i_X6_openGates_32, i_X6_openGates_35, i_X6_openGates_36, i_X6_openGates_37, i_X6_openGates_40, i_X6_openGates_43, i_X6_openGates_46, i_X6_openGates_49, i_X6_openGates_50, i_X6_openGates_0_e, Option.toList_some, Option.toList_none, List.cons_append, List.nil_append, List.append_nil, ↓reduceIte, q_lt, hP.2.1, Nat.lt_irrefl]
    · have ih := ih ()
      have s0 := hT.small hj (w := 0) (by omega) (by omega)
      have e0 : A 2 j = nI (T 0 j) := hP.2.2.2 0 j (by omega) hj (by omega)
      have r := (hF.2.2.2 j hj).1
      rw [show cnt (ogB T) (j + 1) = cnt (ogB T) j + (if ogB T j then 1 else 0) from rfl, ogB] at ih
      rw [i_X6_openGates_4]
      by_cases h3 : T 0 j = 3
      · rw [show opc T j = opn T j from by unfold opc; simp [h3]] at r
        cases hc : opn T j with
        | true =>
          rw [hc] at r
          simp only [h3, hc, decide_true, Bool.and_true, if_true] at ih
          simp (disch := omega) only [i_X6_openGates_0, i_X6_openGates_1, i_X6_openGates_2, i_X6_openGates_3, i_X6_openGates_5, i_X6_openGates_6, i_X6_openGates_9, i_X6_openGates_12, i_X6_openGates_15, i_X6_openGates_16, i_X6_openGates_19, i_X6_openGates_22, i_X6_openGates_23, i_X6_openGates_24, i_X6_openGates_25, i_X6_openGates_28, i_X6_openGates_29, i_X6_openGates_32, i_X6_openGates_35, i_X6_openGates_36, i_X6_openGates_37, i_X6_openGates_40, i_X6_openGates_43, i_X6_openGates_46, i_X6_openGates_49, i_X6_openGates_50, i_X6_openGates_0_e, Option.toList_some, Option.toList_none, List.cons_append, List.nil_append, List.append_nil, ↓reduceIte, q_lt, q_eq, nI_add, hP.2.1, hj, e0, h3, r, bz_e0, reduceCtorEq]
          exact ih
        | false =>
          rw [hc] at r
          simp only [h3, hc, decide_true, Bool.and_false, if_false, Bool.false_eq_true] at ih
          simp (disch := omega) only [i_X6_openGates_0, i_X6_openGates_1, i_X6_openGates_2, i_X6_openGates_3, i_X6_openGates_5, i_X6_openGates_6, i_X6_openGates_9, i_X6_openGates_12, i_X6_openGates_15, i_X6_openGates_16, i_X6_openGates_19, i_X6_openGates_22, i_X6_openGates_23, i_X6_openGates_24, i_X6_openGates_25, i_X6_openGates_28, i_X6_openGates_29, i_X6_openGates_32, i_X6_openGates_35, i_X6_openGates_36, i_X6_openGates_37, i_X6_openGates_40, i_X6_openGates_43, i_X6_openGates_46, i_X6_openGates_49, i_X6_openGates_50, i_X6_openGates_0_e, Option.toList_some, Option.toList_none, List.cons_append, List.nil_append, List.append_nil, ↓reduceIte, q_lt, q_eq, nI_add, hP.2.1, hj, e0, h3, r, bz_e0, reduceCtorEq]
          exact ih
      · simp only [h3, decide_false, Bool.false_and, if_false, Bool.false_eq_true] at ih
        simp (disch := omega) only [i_X6_openGates_0, i_X6_openGates_1, i_X6_openGates_2, i_X6_openGates_3, i_X6_openGates_5, i_X6_openGates_6, i_X6_openGates_9, i_X6_openGates_12, i_X6_openGates_15, i_X6_openGates_16, i_X6_openGates_19, i_X6_openGates_22, i_X6_openGates_23, i_X6_openGates_24, i_X6_openGates_25, i_X6_openGates_28, i_X6_openGates_29, i_X6_openGates_32, i_X6_openGates_35, i_X6_openGates_36, i_X6_openGates_37, i_X6_openGates_40, i_X6_openGates_43, i_X6_openGates_46, i_X6_openGates_49, i_X6_openGates_50, i_X6_openGates_0_e, Option.toList_some, Option.toList_none, List.cons_append, List.nil_append, List.append_nil, ↓reduceIte, q_lt, q_eq, nI_add, hP.2.1, hj, e0, h3]
        exact ih
  simp only [i_X6_openGates_0, i_X6_openGates_1, i_X6_openGates_2, i_X6_openGates_3, i_X6_openGates_5, i_X6_openGates_6, i_X6_openGates_9, i_X6_openGates_12, i_X6_openGates_15, i_X6_openGates_16, i_X6_openGates_19, i_X6_openGates_22, i_X6_openGates_23, i_X6_openGates_24, i_X6_openGates_25, i_X6_openGates_28, i_X6_openGates_29, i_X6_openGates_32, i_X6_openGates_35, i_X6_openGates_36, i_X6_openGates_37, i_X6_openGates_40, i_X6_openGates_43, i_X6_openGates_46, i_X6_openGates_49, i_X6_openGates_50, i_X6_openGates_0_e, Option.toList_some, Option.toList_none, List.cons_append, List.nil_append, List.append_nil, ↓reduceIte]
  exact key 0 (Nat.zero_le _) ()
theorem t_sumOfPads (hP : RelTP I A 1 T) (hT : okT T) : pm_call X d mX6_sumOfPads [.ref 0] (pm_w I A E J B) Q ↔ Q (some (.int (nI (sumN (T 9) (T 10 0))))) (pm_w I A E J B) := by
  have h24 := hT.wf.2.1
  have key : ∀ j, j ≤ T 10 0 → ∀ _ : Unit, pm_wp X d mX6_sumOfPads 4 [.ref 0, .int (nI (sumN (T 9) j)), .int (nI j)] [] (pm_w I A E J B) Q ↔ Q (some (.int (nI (sumN (T 9) (T 10 0))))) (pm_w I A E J B) := by
    refine loop_r (fun _ => ?_) (fun j hj ih _ => ?_)
    · rw [i_X6_sumOfPads_4]
      simp (disch := omega) only [i_X6_sumOfPads_0, i_X6_sumOfPads_1, i_X6_sumOfPads_2, i_X6_sumOfPads_3, i_X6_sumOfPads_5, i_X6_sumOfPads_6, i_X6_sumOfPads_9, i_X6_sumOfPads_12, i_X6_sumOfPads_15, i_X6_sumOfPads_16, i_X6_sumOfPads_17, i_X6_sumOfPads_20, i_X6_sumOfPads_23, i_X6_sumOfPads_24, i_X6_sumOfPads_25, i_X6_sumOfPads_26, i_X6_sumOfPads_27, i_X6_sumOfPads_30, i_X6_sumOfPads_33, i_X6_sumOfPads_34, i_X6_sumOfPads_0_e, Option.toList_some, Option.toList_none, List.cons_append, List.nil_append, List.append_nil, ↓reduceIte, q_lt, hP.2.1, Nat.lt_irrefl]
    · have ih := ih ()
      have e9 : A 11 j = nI (T 9 j) := hP.2.2.2 9 j (by omega) hj (by omega)
      rw [show sumN (T 9) (j + 1) = sumN (T 9) j + T 9 j from rfl] at ih
      rw [i_X6_sumOfPads_4]
      simp (disch := omega) only [i_X6_sumOfPads_0, i_X6_sumOfPads_1, i_X6_sumOfPads_2, i_X6_sumOfPads_3, i_X6_sumOfPads_5, i_X6_sumOfPads_6, i_X6_sumOfPads_9, i_X6_sumOfPads_12, i_X6_sumOfPads_15, i_X6_sumOfPads_16, i_X6_sumOfPads_17, i_X6_sumOfPads_20, i_X6_sumOfPads_23, i_X6_sumOfPads_24, i_X6_sumOfPads_25, i_X6_sumOfPads_26, i_X6_sumOfPads_27, i_X6_sumOfPads_30, i_X6_sumOfPads_33, i_X6_sumOfPads_34, i_X6_sumOfPads_0_e, Option.toList_some, Option.toList_none, List.cons_append, List.nil_append, List.append_nil, ↓reduceIte, q_lt, nI_add, hP.2.1, hj, e9]
      exact ih
  simp only [i_X6_sumOfPads_0, i_X6_sumOfPads_1, i_X6_sumOfPads_2, i_X6_sumOfPads_3, i_X6_sumOfPads_5, i_X6_sumOfPads_6, i_X6_sumOfPads_9, i_X6_sumOfPads_12, i_X6_sumOfPads_15, i_X6_sumOfPads_16, i_X6_sumOfPads_17, i_X6_sumOfPads_20, i_X6_sumOfPads_23, i_X6_sumOfPads_24, i_X6_sumOfPads_25, i_X6_sumOfPads_26, i_X6_sumOfPads_27, i_X6_sumOfPads_30, i_X6_sumOfPads_33, i_X6_sumOfPads_34, i_X6_sumOfPads_0_e, Option.toList_some, Option.toList_none, List.cons_append, List.nil_append, List.append_nil, ↓reduceIte]
  exact key 0 (Nat.zero_le _) ()
theorem t_greatestDepth (hP : RelTP I A 1 T) (hF : RelF A E 37 T) (hT : okT T) : pm_call X d mX6_greatestDepth [.ref 0] (pm_w I A E J B) Q ↔ Q (some (.int (nI (mxN (dep T) (T 10 0))))) (pm_w I A E J B) := by
  have h24 := hT.wf.2.1
  have hmx : ∀ n, n ≤ T 10 0 → mxN (dep T) n ≤ 6 := by
    intro n
    induction n with
    | zero => intro _; exact Nat.zero_le _
    | succ n ih => intro hn; unfold mxN; have := ih (by omega); have := hT.dep (k := n) (by omega); split <;> omega
  have key : ∀ j, j ≤ T 10 0 → ∀ _ : Unit, pm_wp X d mX6_greatestDepth 4 [.ref 0, .int (nI (mxN (dep T) j)), .int (nI j)] [] (pm_w I A E J B) Q ↔ Q (some (.int (nI (mxN (dep T) (T 10 0))))) (pm_w I A E J B) := by
    refine loop_r (fun _ => ?_) (fun j hj ih _ => ?_)
    · rw [i_X6_greatestDepth_4]
      simp (disch := omega) only [i_X6_greatestDepth_0, i_X6_greatestDepth_1, i_X6_greatestDepth_2, i_X6_greatestDepth_3, i_X6_greatestDepth_5, i_X6_greatestDepth_6, i_X6_greatestDepth_9, i_X6_greatestDepth_12, i_X6_greatestDepth_15, i_X6_greatestDepth_16, i_X6_greatestDepth_17, i_X6_greatestDepth_20, i_X6_greatestDepth_23, i_X6_greatestDepth_24, i_X6_greatestDepth_25, i_X6_greatestDepth_28, i_X6_greatestDepth_29, i_X6_greatestDepth_32, i_X6_greatestDepth_35, i_X6_greatestDepth_36, i_X6_greatestDepth_0_e, Option.toList_some, Option.toList_none, List.cons_append, List.nil_append, List.append_nil, ↓reduceIte, q_lt, hP.2.1, Nat.lt_irrefl]
    · have ih := ih ()
      have hd := hT.dep hj
      have hm := hmx j (by omega)
      have e := (hF.2.1 j hj).1
      rw [show mxN (dep T) (j + 1) = if mxN (dep T) j < dep T j then dep T j else mxN (dep T) j from rfl] at ih
      rw [i_X6_greatestDepth_4]
      by_cases hc : mxN (dep T) j < dep T j
      · rw [if_pos hc] at ih
        simp (disch := omega) only [i_X6_greatestDepth_0, i_X6_greatestDepth_1, i_X6_greatestDepth_2, i_X6_greatestDepth_3, i_X6_greatestDepth_5, i_X6_greatestDepth_6, i_X6_greatestDepth_9, i_X6_greatestDepth_12, i_X6_greatestDepth_15, i_X6_greatestDepth_16, i_X6_greatestDepth_17, i_X6_greatestDepth_20, i_X6_greatestDepth_23, i_X6_greatestDepth_24, i_X6_greatestDepth_25, i_X6_greatestDepth_28, i_X6_greatestDepth_29, i_X6_greatestDepth_32, i_X6_greatestDepth_35, i_X6_greatestDepth_36, i_X6_greatestDepth_0_e, Option.toList_some, Option.toList_none, List.cons_append, List.nil_append, List.append_nil, ↓reduceIte, q_lt, nI_add, hP.2.1, hj, e, hc]
        exact ih
      · rw [if_neg hc] at ih
        simp (disch := omega) only [i_X6_greatestDepth_0, i_X6_greatestDepth_1, i_X6_greatestDepth_2, i_X6_greatestDepth_3, i_X6_greatestDepth_5, i_X6_greatestDepth_6, i_X6_greatestDepth_9, i_X6_greatestDepth_12, i_X6_greatestDepth_15, i_X6_greatestDepth_16, i_X6_greatestDepth_17, i_X6_greatestDepth_20, i_X6_greatestDepth_23, i_X6_greatestDepth_24, i_X6_greatestDepth_25, i_X6_greatestDepth_28, i_X6_greatestDepth_29, i_X6_greatestDepth_32, i_X6_greatestDepth_35, i_X6_greatestDepth_36, i_X6_greatestDepth_0_e, Option.toList_some, Option.toList_none, List.cons_append, List.nil_append, List.append_nil, ↓reduceIte, q_lt, nI_add, hP.2.1, hj, e, hc]
        exact ih
  simp only [i_X6_greatestDepth_0, i_X6_greatestDepth_1, i_X6_greatestDepth_2, i_X6_greatestDepth_3, i_X6_greatestDepth_5, i_X6_greatestDepth_6, i_X6_greatestDepth_9, i_X6_greatestDepth_12, i_X6_greatestDepth_15, i_X6_greatestDepth_16, i_X6_greatestDepth_17, i_X6_greatestDepth_20, i_X6_greatestDepth_23, i_X6_greatestDepth_24, i_X6_greatestDepth_25, i_X6_greatestDepth_28, i_X6_greatestDepth_29, i_X6_greatestDepth_32, i_X6_greatestDepth_35, i_X6_greatestDepth_36, i_X6_greatestDepth_0_e, Option.toList_some, Option.toList_none, List.cons_append, List.nil_append, List.append_nil, ↓reduceIte]
  exact key 0 (Nat.zero_le _) ()
theorem t_skewedGroups (hP : RelTP I A 1 T) (hF : RelF A E 37 T) (hT : okT T) : pm_call X (d + 4) mX6_skewedGroups [.ref 0] (pm_w I A E J B) Q ↔ Q (some (.int (skd T 4))) (pm_w I A E J B) := by
  have h24 := hT.wf.2.1
  have key : ∀ j, j ≤ 4 → ∀ _ : Unit, pm_wp X (d + 4) mX6_skewedGroups 4 [.ref 0, .int (skd T j), .int (nI j)] [] (pm_w I A E J B) Q ↔ Q (some (.int (skd T 4))) (pm_w I A E J B) := by
    refine loop_r (fun _ => ?_) (fun j hj ih _ => ?_)
    · rw [i_X6_skewedGroups_4]
      simp (disch := omega) only [i_X6_skewedGroups_0, i_X6_skewedGroups_1, i_X6_skewedGroups_2, i_X6_skewedGroups_3, i_X6_skewedGroups_5, i_X6_skewedGroups_6, i_X6_skewedGroups_9, i_X6_skewedGroups_10, i_X6_skewedGroups_11, i_X6_skewedGroups_14, i_X6_skewedGroups_15, i_X6_skewedGroups_18, i_X6_skewedGroups_21, i_X6_skewedGroups_22, i_X6_skewedGroups_23, i_X6_skewedGroups_26, i_X6_skewedGroups_27, i_X6_skewedGroups_28, i_X6_skewedGroups_29, i_X6_skewedGroups_30, i_X6_skewedGroups_31, i_X6_skewedGroups_32, i_X6_skewedGroups_35, i_X6_skewedGroups_38, i_X6_skewedGroups_39, i_X6_skewedGroups_0_e, Option.toList_some, Option.toList_none, List.cons_append, List.nil_append, List.append_nil, ↓reduceIte, q_lt, Nat.lt_irrefl]
    · have ih := ih ()
      have hl : A 12 j = nI (T 11 j) := hP.2.2.1 j hj
      rw [show skd T (j + 1) = if nI (T 11 j) < skI T j then skd T j ||| nI 1 <<< (nI j &&& 31) else skd T j from rfl] at ih
      rw [i_X6_skewedGroups_4]
      by_cases hc : nI (T 11 j) < skI T j
      · rw [if_pos hc] at ih
        simp (disch := omega) only [i_X6_skewedGroups_0, i_X6_skewedGroups_1, i_X6_skewedGroups_2, i_X6_skewedGroups_3, i_X6_skewedGroups_5, i_X6_skewedGroups_6, i_X6_skewedGroups_9, i_X6_skewedGroups_10, i_X6_skewedGroups_11, i_X6_skewedGroups_14, i_X6_skewedGroups_15, i_X6_skewedGroups_18, i_X6_skewedGroups_21, i_X6_skewedGroups_22, i_X6_skewedGroups_23, i_X6_skewedGroups_26, i_X6_skewedGroups_27, i_X6_skewedGroups_28, i_X6_skewedGroups_29, i_X6_skewedGroups_30, i_X6_skewedGroups_31, i_X6_skewedGroups_32, i_X6_skewedGroups_35, i_X6_skewedGroups_38, i_X6_skewedGroups_39, i_X6_skewedGroups_0_e, Option.toList_some, Option.toList_none, List.cons_append, List.nil_append, List.append_nil, ↓reduceIte, q_lt, nI_add, hj, t_skewOf hP hF hT hj, hl, hc]
        exact ih
      · rw [if_neg hc] at ih
        simp (disch := omega) only [i_X6_skewedGroups_0, i_X6_skewedGroups_1, i_X6_skewedGroups_2, i_X6_skewedGroups_3, i_X6_skewedGroups_5, i_X6_skewedGroups_6, i_X6_skewedGroups_9, i_X6_skewedGroups_10, i_X6_skewedGroups_11, i_X6_skewedGroups_14, i_X6_skewedGroups_15, i_X6_skewedGroups_18, i_X6_skewedGroups_21, i_X6_skewedGroups_22, i_X6_skewedGroups_23, i_X6_skewedGroups_26, i_X6_skewedGroups_27, i_X6_skewedGroups_28, i_X6_skewedGroups_29, i_X6_skewedGroups_30, i_X6_skewedGroups_31, i_X6_skewedGroups_32, i_X6_skewedGroups_35, i_X6_skewedGroups_38, i_X6_skewedGroups_39, i_X6_skewedGroups_0_e, Option.toList_some, Option.toList_none, List.cons_append, List.nil_append, List.append_nil, ↓reduceIte, q_lt, nI_add, hj, t_skewOf hP hF hT hj, hl, hc]
        exact ih
  simp only [i_X6_skewedGroups_0, i_X6_skewedGroups_1, i_X6_skewedGroups_2, i_X6_skewedGroups_3, i_X6_skewedGroups_5, i_X6_skewedGroups_6, i_X6_skewedGroups_9, i_X6_skewedGroups_10, i_X6_skewedGroups_11, i_X6_skewedGroups_14, i_X6_skewedGroups_15, i_X6_skewedGroups_18, i_X6_skewedGroups_21, i_X6_skewedGroups_22, i_X6_skewedGroups_23, i_X6_skewedGroups_26, i_X6_skewedGroups_27, i_X6_skewedGroups_28, i_X6_skewedGroups_29, i_X6_skewedGroups_30, i_X6_skewedGroups_31, i_X6_skewedGroups_32, i_X6_skewedGroups_35, i_X6_skewedGroups_38, i_X6_skewedGroups_39, i_X6_skewedGroups_0_e, Option.toList_some, Option.toList_none, List.cons_append, List.nil_append, List.append_nil, ↓reduceIte]
  exact key 0 (Nat.zero_le _) ()
theorem t_powerOfAll (hP : RelTP I A 1 T) (hF : RelF A E 37 T) (hT : okT T) : pm_call X (d + 2) mX6_powerOfAll [.ref 0] (pm_w I A E J B) Q ↔ Q (some (.long (lN (sumN (pw T) (T 10 0))))) (pm_w I A E J B) := by
  have h24 := hT.wf.2.1
  have key : ∀ j, j ≤ T 10 0 → ∀ _ : Unit, pm_wp X (d + 2) mX6_powerOfAll 4 [.ref 0, .long (lN (sumN (pw T) j)), pm_U, .int (nI j)] [] (pm_w I A E J B) Q ↔ Q (some (.long (lN (sumN (pw T) (T 10 0))))) (pm_w I A E J B) := by
    refine loop_r (fun _ => ?_) (fun j hj ih _ => ?_)
    · rw [i_X6_powerOfAll_4]
      simp (disch := omega) only [i_X6_powerOfAll_0, i_X6_powerOfAll_1, i_X6_powerOfAll_2, i_X6_powerOfAll_3, i_X6_powerOfAll_5, i_X6_powerOfAll_6, i_X6_powerOfAll_9, i_X6_powerOfAll_12, i_X6_powerOfAll_15, i_X6_powerOfAll_16, i_X6_powerOfAll_19, i_X6_powerOfAll_22, i_X6_powerOfAll_23, i_X6_powerOfAll_24, i_X6_powerOfAll_27, i_X6_powerOfAll_28, i_X6_powerOfAll_29, i_X6_powerOfAll_32, i_X6_powerOfAll_33, i_X6_powerOfAll_36, i_X6_powerOfAll_37, i_X6_powerOfAll_40, i_X6_powerOfAll_41, i_X6_powerOfAll_42, i_X6_powerOfAll_45, i_X6_powerOfAll_48, i_X6_powerOfAll_49, i_X6_powerOfAll_0_e, Option.toList_some, Option.toList_none, List.cons_append, List.nil_append, List.append_nil, ↓reduceIte, q_lt, hP.2.1, Nat.lt_irrefl]
    · have ih := ih ()
      have r := (hF.2.2.2 j hj).2
      rw [show sumN (pw T) (j + 1) = sumN (pw T) j + pw T j from rfl, pw] at ih
      rw [i_X6_powerOfAll_4]
      cases hc : rn T j with
      | true =>
        rw [hc] at ih r
        simp (disch := omega) only [i_X6_powerOfAll_0, i_X6_powerOfAll_1, i_X6_powerOfAll_2, i_X6_powerOfAll_3, i_X6_powerOfAll_5, i_X6_powerOfAll_6, i_X6_powerOfAll_9, i_X6_powerOfAll_12, i_X6_powerOfAll_15, i_X6_powerOfAll_16, i_X6_powerOfAll_19, i_X6_powerOfAll_22, i_X6_powerOfAll_23, i_X6_powerOfAll_24, i_X6_powerOfAll_27, i_X6_powerOfAll_28, i_X6_powerOfAll_29, i_X6_powerOfAll_32, i_X6_powerOfAll_33, i_X6_powerOfAll_36, i_X6_powerOfAll_37, i_X6_powerOfAll_40, i_X6_powerOfAll_41, i_X6_powerOfAll_42, i_X6_powerOfAll_45, i_X6_powerOfAll_48, i_X6_powerOfAll_49, i_X6_powerOfAll_0_e, Option.toList_some, Option.toList_none, List.cons_append, List.nil_append, List.append_nil, ↓reduceIte, q_lt, nI_add, lN_add, hP.2.1, hj, r, bz_e0, t_drawOf hP hT hF.1 hj, reduceCtorEq]
        exact ih
      | false =>
        rw [hc] at ih r
        simp (disch := omega) only [i_X6_powerOfAll_0, i_X6_powerOfAll_1, i_X6_powerOfAll_2, i_X6_powerOfAll_3, i_X6_powerOfAll_5, i_X6_powerOfAll_6, i_X6_powerOfAll_9, i_X6_powerOfAll_12, i_X6_powerOfAll_15, i_X6_powerOfAll_16, i_X6_powerOfAll_19, i_X6_powerOfAll_22, i_X6_powerOfAll_23, i_X6_powerOfAll_24, i_X6_powerOfAll_27, i_X6_powerOfAll_28, i_X6_powerOfAll_29, i_X6_powerOfAll_32, i_X6_powerOfAll_33, i_X6_powerOfAll_36, i_X6_powerOfAll_37, i_X6_powerOfAll_40, i_X6_powerOfAll_41, i_X6_powerOfAll_42, i_X6_powerOfAll_45, i_X6_powerOfAll_48, i_X6_powerOfAll_49, i_X6_powerOfAll_0_e, Option.toList_some, Option.toList_none, List.cons_append, List.nil_append, List.append_nil, ↓reduceIte, q_lt, nI_add, hP.2.1, hj, r, bz_e0, reduceCtorEq]
        exact ih
  simp only [i_X6_powerOfAll_0, i_X6_powerOfAll_1, i_X6_powerOfAll_2, i_X6_powerOfAll_3, i_X6_powerOfAll_5, i_X6_powerOfAll_6, i_X6_powerOfAll_9, i_X6_powerOfAll_12, i_X6_powerOfAll_15, i_X6_powerOfAll_16, i_X6_powerOfAll_19, i_X6_powerOfAll_22, i_X6_powerOfAll_23, i_X6_powerOfAll_24, i_X6_powerOfAll_27, i_X6_powerOfAll_28, i_X6_powerOfAll_29, i_X6_powerOfAll_32, i_X6_powerOfAll_33, i_X6_powerOfAll_36, i_X6_powerOfAll_37, i_X6_powerOfAll_40, i_X6_powerOfAll_41, i_X6_powerOfAll_42, i_X6_powerOfAll_45, i_X6_powerOfAll_48, i_X6_powerOfAll_49, i_X6_powerOfAll_0_e, Option.toList_some, Option.toList_none, List.cons_append, List.nil_append, List.append_nil, ↓reduceIte]
  exact key 0 (Nat.zero_le _) ()
theorem t_placeOf (hP : RelTP I A 1 T) (hF : RelF A E 37 T) (hT : okT T) {n : Nat} (hn : n < T 10 0) : pm_call X (d + 2) mX6_placeOf [.ref 0, .int (nI n)] (pm_w I A E J B) Q ↔ Q (some (.int (nI (rk T n)))) (pm_w I A E J B) := by
  have h24 := hT.wf.2.1
  have key : ∀ j, j ≤ T 10 0 → ∀ v, pm_wp X (d + 2) mX6_placeOf 4 [.ref 0, .int (nI n), .int (nI (cnt (fun o => ahd T o n) j)), .int (nI j), v] [] (pm_w I A E J B) Q ↔ Q (some (.int (nI (rk T n)))) (pm_w I A E J B) := by
    refine loop_r (fun _ => ?_) (fun j hj ih _ => ?_)
    · rw [i_X6_placeOf_4]
      simp (disch := omega) only [i_X6_placeOf_0, i_X6_placeOf_1, i_X6_placeOf_2, i_X6_placeOf_3, i_X6_placeOf_5, i_X6_placeOf_6, i_X6_placeOf_9, i_X6_placeOf_12, i_X6_placeOf_15, i_X6_placeOf_16, i_X6_placeOf_19, i_X6_placeOf_20, i_X6_placeOf_21, i_X6_placeOf_24, i_X6_placeOf_26, i_X6_placeOf_28, i_X6_placeOf_31, i_X6_placeOf_33, i_X6_placeOf_36, i_X6_placeOf_37, i_X6_placeOf_38, i_X6_placeOf_44, i_X6_placeOf_47, i_X6_placeOf_41, i_X6_placeOf_50, i_X6_placeOf_51, i_X6_placeOf_0_e, Option.toList_some, Option.toList_none, List.cons_append, List.nil_append, List.append_nil, ↓reduceIte, q_lt, hP.2.1, Nat.lt_irrefl, rk]
    · rw [show cnt (fun o => ahd T o n) (j + 1) = cnt (fun o => ahd T o n) j + (if ahd T j n then 1 else 0) from rfl, ahd] at ih
      rw [i_X6_placeOf_4]
      by_cases h1 : nm T j * dn T n < nm T n * dn T j
      · have h2 : ¬ nm T n * dn T j < nm T j * dn T n := by omega
        have h3 : ¬ nm T j * dn T n = nm T n * dn T j := by omega
        simp only [h2, h3, decide_false, Bool.false_and, Bool.or_false, Bool.false_eq_true, if_false] at ih
        simp (disch := omega) only [i_X6_placeOf_0, i_X6_placeOf_1, i_X6_placeOf_2, i_X6_placeOf_3, i_X6_placeOf_5, i_X6_placeOf_6, i_X6_placeOf_9, i_X6_placeOf_12, i_X6_placeOf_15, i_X6_placeOf_16, i_X6_placeOf_19, i_X6_placeOf_20, i_X6_placeOf_21, i_X6_placeOf_24, i_X6_placeOf_26, i_X6_placeOf_28, i_X6_placeOf_31, i_X6_placeOf_33, i_X6_placeOf_36, i_X6_placeOf_37, i_X6_placeOf_38, i_X6_placeOf_44, i_X6_placeOf_47, i_X6_placeOf_41, i_X6_placeOf_50, i_X6_placeOf_51, i_X6_placeOf_0_e, Option.toList_some, Option.toList_none, List.cons_append, List.nil_append, List.append_nil, ↓reduceIte, q_lt, nI_add, hP.2.1, hj, t_compareRates hT hF.1 hj hn, h1, show (0 < (-1 : Int32)) = False from by decide, show ((-1 : Int32) = 0) = False from by decide]
        exact ih _
      · by_cases h3 : nm T j * dn T n = nm T n * dn T j
        · have h2 : ¬ nm T n * dn T j < nm T j * dn T n := by omega
          by_cases h4 : j < n
          · simp only [h2, h3, h4, decide_false, decide_true, Bool.true_and, Bool.false_or, if_true, Nat.lt_irrefl] at ih
            simp (disch := omega) only [i_X6_placeOf_0, i_X6_placeOf_1, i_X6_placeOf_2, i_X6_placeOf_3, i_X6_placeOf_5, i_X6_placeOf_6, i_X6_placeOf_9, i_X6_placeOf_12, i_X6_placeOf_15, i_X6_placeOf_16, i_X6_placeOf_19, i_X6_placeOf_20, i_X6_placeOf_21, i_X6_placeOf_24, i_X6_placeOf_26, i_X6_placeOf_28, i_X6_placeOf_31, i_X6_placeOf_33, i_X6_placeOf_36, i_X6_placeOf_37, i_X6_placeOf_38, i_X6_placeOf_44, i_X6_placeOf_47, i_X6_placeOf_41, i_X6_placeOf_50, i_X6_placeOf_51, i_X6_placeOf_0_e, Option.toList_some, Option.toList_none, List.cons_append, List.nil_append, List.append_nil, ↓reduceIte, q_lt, q_pos, q_e0, nI_add, hP.2.1, hj, t_compareRates hT hF.1 hj hn, h1, h3, h4, Nat.lt_irrefl]
            exact ih _
          · simp only [h2, h3, h4, decide_false, decide_true, Bool.true_and, Bool.false_or, Bool.false_eq_true, if_false, Nat.lt_irrefl] at ih
            simp (disch := omega) only [i_X6_placeOf_0, i_X6_placeOf_1, i_X6_placeOf_2, i_X6_placeOf_3, i_X6_placeOf_5, i_X6_placeOf_6, i_X6_placeOf_9, i_X6_placeOf_12, i_X6_placeOf_15, i_X6_placeOf_16, i_X6_placeOf_19, i_X6_placeOf_20, i_X6_placeOf_21, i_X6_placeOf_24, i_X6_placeOf_26, i_X6_placeOf_28, i_X6_placeOf_31, i_X6_placeOf_33, i_X6_placeOf_36, i_X6_placeOf_37, i_X6_placeOf_38, i_X6_placeOf_44, i_X6_placeOf_47, i_X6_placeOf_41, i_X6_placeOf_50, i_X6_placeOf_51, i_X6_placeOf_0_e, Option.toList_some, Option.toList_none, List.cons_append, List.nil_append, List.append_nil, ↓reduceIte, q_lt, q_pos, q_e0, nI_add, hP.2.1, hj, t_compareRates hT hF.1 hj hn, h1, h3, h4, Nat.lt_irrefl]
            exact ih _
        · have h2 : nm T n * dn T j < nm T j * dn T n := by omega
          simp only [h2, decide_true, Bool.true_or, if_true] at ih
          simp (disch := omega) only [i_X6_placeOf_0, i_X6_placeOf_1, i_X6_placeOf_2, i_X6_placeOf_3, i_X6_placeOf_5, i_X6_placeOf_6, i_X6_placeOf_9, i_X6_placeOf_12, i_X6_placeOf_15, i_X6_placeOf_16, i_X6_placeOf_19, i_X6_placeOf_20, i_X6_placeOf_21, i_X6_placeOf_24, i_X6_placeOf_26, i_X6_placeOf_28, i_X6_placeOf_31, i_X6_placeOf_33, i_X6_placeOf_36, i_X6_placeOf_37, i_X6_placeOf_38, i_X6_placeOf_44, i_X6_placeOf_47, i_X6_placeOf_41, i_X6_placeOf_50, i_X6_placeOf_51, i_X6_placeOf_0_e, Option.toList_some, Option.toList_none, List.cons_append, List.nil_append, List.append_nil, ↓reduceIte, q_lt, q_pos, nI_add, hP.2.1, hj, t_compareRates hT hF.1 hj hn, h1, h3, show (0 < 1) = True from by decide]
          exact ih _
  simp only [i_X6_placeOf_0, i_X6_placeOf_1, i_X6_placeOf_2, i_X6_placeOf_3, i_X6_placeOf_5, i_X6_placeOf_6, i_X6_placeOf_9, i_X6_placeOf_12, i_X6_placeOf_15, i_X6_placeOf_16, i_X6_placeOf_19, i_X6_placeOf_20, i_X6_placeOf_21, i_X6_placeOf_24, i_X6_placeOf_26, i_X6_placeOf_28, i_X6_placeOf_31, i_X6_placeOf_33, i_X6_placeOf_36, i_X6_placeOf_37, i_X6_placeOf_38, i_X6_placeOf_44, i_X6_placeOf_47, i_X6_placeOf_41, i_X6_placeOf_50, i_X6_placeOf_51, i_X6_placeOf_0_e, Option.toList_some, Option.toList_none, List.cons_append, List.nil_append, List.append_nil, ↓reduceIte]
  exact key 0 (Nat.zero_le _) _
end PLE
