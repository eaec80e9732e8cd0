section MOA
variable {X : pm_X} {d : Nat} {G : pm_H} {Q : Option Value → pm_H → Prop} {I A : Nat → Nat → Int32} {E : Nat → Nat → Int64} {J : Nat → Int32} {B : Nat → Nat → Int32}
theorem s_isIn {v a b : Int64} : pm_call X d mX7_isIn [.long v, .long a, .long b] G Q ↔ Q (some (.int (bz (decide (a ≤ v) && decide (v ≤ b))))) G := by
  simp only [i_X7_isIn_0, i_X7_isIn_1, i_X7_isIn_2, i_X7_isIn_3, i_X7_isIn_6, i_X7_isIn_7, i_X7_isIn_9, i_X7_isIn_10, i_X7_isIn_13, i_X7_isIn_14, i_X7_isIn_18, i_X7_isIn_18b, i_X7_isIn_18c, i_X7_isIn_17, i_X7_isIn_0_e, Option.toList_some, Option.toList_none, List.cons_append, List.nil_append, List.append_nil, ↓reduceIte, lg_lt, lg_gt]
  by_cases h1 : v < a
  · simp [h1, Int64.not_le.mpr h1]
  · by_cases h2 : b < v
    · simp [h1, h2, Int64.not_le.mpr h2]
    · simp [h1, h2, Int64.not_lt.mp h1, Int64.not_lt.mp h2]
theorem s_isInR {x : Int32} {a b : Nat} (ha : a < 2147483648) (hb : b < 2147483648) : pm_call X d mX7_isIn [.long x.toInt64, .long (lN a), .long (lN b)] G Q ↔ Q (some (.int (bz (inR x a b)))) G := by
  rw [s_isIn, inR_long ha hb]
theorem s_n {k w : Nat} (h : 6 + 10 * k + w < 246) : pm_call X d mX7_n [.ref 139, .int (nI k), .int (nI w)] (pm_w I A E J B) Q ↔ Q (some (.int (B 140 (6 + 10 * k + w)))) (pm_w I A E J B) := by
  simp (disch := omega) only [i_X7_n_0, i_X7_n_1, i_X7_n_4, i_X7_n_6, i_X7_n_8, i_X7_n_9, i_X7_n_10, i_X7_n_11, i_X7_n_12, i_X7_n_13, i_X7_n_14, i_X7_n_0_e, Option.toList_some, Option.toList_none, List.cons_append, List.nil_append, List.append_nil, ↓reduceIte, q_lt, q_eq, q_neg, q_pos, q_e0, nI_add, pk_mul, pk_sub, q_add1, l_of, l_toI, l_lt, l_eq, lN_mul, lN_add, lg_lt, lg_gt, lg_e0, bz_e0, bz_t, bz_f]
theorem s_put {k w : Nat} {v : Int64} (h : 6 + 10 * k + w < 246) : pm_call X d mX7_put [.ref 139, .int (nI k), .int (nI w), .long v] (pm_w I A E J B) Q ↔ Q none (pm_w I A E J (up2 B 140 (6 + 10 * k + w) v.toInt32)) := by
  simp (disch := omega) only [i_X7_put_0, i_X7_put_1, i_X7_put_4, i_X7_put_6, i_X7_put_8, i_X7_put_9, i_X7_put_10, i_X7_put_11, i_X7_put_12, i_X7_put_13, i_X7_put_14, i_X7_put_15, i_X7_put_16, i_X7_put_0_e, Option.toList_some, Option.toList_none, List.cons_append, List.nil_append, List.append_nil, ↓reduceIte, q_lt, q_eq, q_neg, q_pos, q_e0, nI_add, pk_mul, pk_sub, q_add1, l_of, l_toI, l_lt, l_eq, lN_mul, lN_add, lg_lt, lg_gt, lg_e0, bz_e0, bz_t, bz_f]
theorem s_refuse {x : Int32} : pm_call X d mX7_refuse [.ref 139, .int x] (pm_w I A E J B) Q ↔ Q (some (.int (-3))) (pm_w I A E (upd J 8 x) B) := by
  simp (disch := omega) only [i_X7_refuse_0, i_X7_refuse_1, i_X7_refuse_2, i_X7_refuse_5, i_X7_refuse_7, i_X7_refuse_0_e, Option.toList_some, Option.toList_none, List.cons_append, List.nil_append, List.append_nil, ↓reduceIte]
end MOA
