section MOB
variable {X : pm_X} {d : Nat} {G : pm_H} {Q : Option Value → pm_H → Prop} {I A : Nat → Nat → Int32} {E : Nat → Nat → Int64} {J : Nat → Int32} {B : Nat → Nat → Int32} {T : Tr}
theorem s_nT (hR : RelT (B 140) T) (h24 : T 10 0 ≤ 24) {k w : Nat} (hk : k < T 10 0) (hw : w < 10) (hne : w ≠ 1 ∨ 0 < k) : pm_call X d mX7_n [.ref 139, .int (nI k), .int (nI w)] (pm_w I A E J B) Q ↔ Q (some (.int (nI (T w k)))) (pm_w I A E J B) := by
  rw [s_n (by omega), hR.2.2.2.2 k w hk hw hne]
theorem s_n01 (hR : RelT (B 140) T) : pm_call X d mX7_n [.ref 139, .int (nI 0), .int (nI 1)] (pm_w I A E J B) Q ↔ Q (some (.int (-1))) (pm_w I A E J B) := by
  rw [s_n (by omega), show 6 + 10 * 0 + 1 = 7 from rfl, hR.2.2.2.1]
theorem s_isNode (hR : RelT (B 140) T) (hw : wf T) {x : Int32} : pm_call X (d + 1) mX7_isNode [.ref 139, .int x] (pm_w I A E J B) Q ↔ Q (some (.int (bz (inR x 0 (T 10 0 - 1))))) (pm_w I A E J B) := by
  obtain ⟨h1, h24, -⟩ := hw
  simp (disch := omega) only [i_X7_isNode_0, i_X7_isNode_1, i_X7_isNode_2, i_X7_isNode_3, i_X7_isNode_4, i_X7_isNode_7, i_X7_isNode_8, i_X7_isNode_9, i_X7_isNode_10, i_X7_isNode_11, i_X7_isNode_12, i_X7_isNode_15, i_X7_isNode_15b, i_X7_isNode_15c, i_X7_isNode_0_e, Option.toList_some, Option.toList_none, List.cons_append, List.nil_append, List.append_nil, ↓reduceIte, q_lt, q_eq, q_neg, q_pos, q_e0, nI_add, pk_mul, pk_sub, q_add1, l_of, l_toI, l_lt, l_eq, lN_mul, lN_add, lg_lt, lg_gt, lg_e0, bz_e0, bz_t, bz_f, hR.2.1, s_isInR]
theorem s_depth_l (hR : RelT (B 140) T) (hw : wf T) : ∀ k, k < T 10 0 → ∀ (c : Nat) (v : Value), pm_wp X (d + 1) mX7_depth 4 [.ref 139, v, .int (nI c), .int (nI k)] [] (pm_w I A E J B) Q ↔ Q (some (.int (nI (c + dep T k)))) (pm_w I A E J B) := by
  have h24 := hw.2.1
  intro k
  induction k using Nat.strongRecOn with
  | ind k ih =>
    intro hk c v
    rw [i_X7_depth_4]
    rcases Nat.eq_zero_or_pos k with rfl | h0
    · simp (disch := omega) only [i_X7_depth_0, i_X7_depth_1, i_X7_depth_2, i_X7_depth_3, i_X7_depth_5, i_X7_depth_8, i_X7_depth_11, i_X7_depth_12, i_X7_depth_13, i_X7_depth_14, i_X7_depth_17, i_X7_depth_18, i_X7_depth_21, i_X7_depth_22, i_X7_depth_0_e, Option.toList_some, Option.toList_none, List.cons_append, List.nil_append, List.append_nil, ↓reduceIte, q_lt, q_eq, q_neg, q_pos, q_e0, nI_add, pk_mul, pk_sub, q_add1, l_of, l_toI, l_lt, l_eq, lN_mul, lN_add, lg_lt, lg_gt, lg_e0, bz_e0, bz_t, bz_f, Nat.lt_irrefl, dep, ph_0, Nat.add_zero]
    · have hp := hw.2.2 k h0 hk
      simp (disch := omega) only [i_X7_depth_0, i_X7_depth_1, i_X7_depth_2, i_X7_depth_3, i_X7_depth_5, i_X7_depth_8, i_X7_depth_11, i_X7_depth_12, i_X7_depth_13, i_X7_depth_14, i_X7_depth_17, i_X7_depth_18, i_X7_depth_21, i_X7_depth_22, i_X7_depth_0_e, Option.toList_some, Option.toList_none, List.cons_append, List.nil_append, List.append_nil, ↓reduceIte, q_lt, q_eq, q_neg, q_pos, q_e0, nI_add, pk_mul, pk_sub, q_add1, l_of, l_toI, l_lt, l_eq, lN_mul, lN_add, lg_lt, lg_gt, lg_e0, bz_e0, bz_t, bz_f, s_nT hR h24, h0]
      rw [ih _ hp (by omega), show dep T k = dep T (T 1 k) + 1 from ph_s hw h0 hk, Nat.add_assoc, Nat.add_comm 1]
theorem s_depth (hR : RelT (B 140) T) (hw : wf T) {k : Nat} (hk : k < T 10 0) : pm_call X (d + 1) mX7_depth [.ref 139, .int (nI k)] (pm_w I A E J B) Q ↔ Q (some (.int (nI (dep T k)))) (pm_w I A E J B) := by
  simp only [i_X7_depth_0, i_X7_depth_1, i_X7_depth_2, i_X7_depth_3, i_X7_depth_5, i_X7_depth_8, i_X7_depth_11, i_X7_depth_12, i_X7_depth_13, i_X7_depth_14, i_X7_depth_17, i_X7_depth_18, i_X7_depth_21, i_X7_depth_22, i_X7_depth_0_e, Option.toList_some, Option.toList_none, List.cons_append, List.nil_append, List.append_nil, ↓reduceIte]
  rw [s_depth_l hR hw k hk, Nat.zero_add]
end MOB
