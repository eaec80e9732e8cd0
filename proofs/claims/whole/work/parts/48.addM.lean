/-! the reference takes a node more -/
section ADM
variable {X : pm_X} {d : Nat} {G : pm_H} {Q : Option Value → pm_H → Prop} {I A : Nat → Nat → Int32} {E : Nat → Nat → Int64} {J : Nat → Int32} {B : Nat → Nat → Int32} {T T' : Tr} {S : St}
theorem s_comes {p kd nu : Nat} (hR : RelT (B 140) T) (h1 : 1 ≤ T 10 0) (h24 : T 10 0 < 24) (hk : kd < 6) (hp : p < 24) (hn : nu ≤ 99) (hQ : ∀ B', RelT (B' 140) (addT T p kd nu 0 0 0 0) → (∀ k, k ≠ 1 → k < 6 + 10 * T 10 0 → B' 140 k = B 140 k) → (∀ a, a ≠ 140 → B' a = B a) → Q (some (.int (nI (T 10 0)))) (pm_w I A E J B')) : pm_call X (d + 1) mX7_comes [.ref 139, .int (nI p), .int (nI kd), .int (nI nu)] (pm_w I A E J B) Q := by
  have key : ∀ m j, j + m = 10 → ∀ B1 : Nat → Nat → Int32, (∀ k, k < 6 + 10 * T 10 0 → B1 140 k = B 140 k) → (∀ w, w < j → B1 140 (6 + 10 * T 10 0 + w) = nI 0) → (∀ a, a ≠ 140 → B1 a = B a) → pm_wp X (d + 1) mX7_comes 11 [.ref 139, .int (nI p), .int (nI kd), .int (nI nu), .int (nI (T 10 0)), .int (nI j)] [] (pm_w I A E J B1) Q := by
    intro m
    induction m with
    | zero =>
      intro j hj B1 g1 g2 g3
      have : j = 10 := by omega
      subst this
      rw [i_X7_comes_11]
      have fin : ∀ dl, dl = (if kd = 4 then nu else 0) → Q (some (.int (nI (T 10 0)))) (pm_w I A E J (up2 (up2 (up2 (up2 (up2 B1 140 (6 + 10 * T 10 0 + 0) (nI kd)) 140 (6 + 10 * T 10 0 + 1) (nI p)) 140 (6 + 10 * T 10 0 + 2) (nI nu)) 140 (6 + 10 * T 10 0 + 3) (nI dl)) 140 1 (nI (T 10 0 + 1)))) := by
        intro dl hdl
        refine hQ _ ⟨?_, ?_, fun g hg => ?_, ?_, fun k w hk2 hw hne => ?_⟩ (fun k h1 h2 => ?_) (fun a ha => ?_)
        · simp (disch := omega) only [up2_n]; rw [g1 _ (by omega), addT_b]; exact hR.1
        · rw [up2_s, addT_N]
        · simp (disch := omega) only [up2_n]; rw [g1 _ (by omega), addT_l]; exact hR.2.2.1 g hg
        · simp (disch := omega) only [up2_n]; rw [g1 _ (by omega)]; exact hR.2.2.2.1
        · rw [addT_N] at hk2
          by_cases hkn : k = T 10 0
          · subst hkn
            match w, hw with
            | 0, _ => simp (disch := omega) only [up2_n]; rw [up2_s, addT_0]
            | 1, _ => simp (disch := omega) only [up2_n]; rw [up2_s, addT_1]
            | 2, _ => simp (disch := omega) only [up2_n]; rw [up2_s, addT_2]
            | 3, _ => rw [up2_n _ _ (by omega), up2_s]; simp [addT, hdl]
            | 4, _ | 5, _ | 6, _ | 7, _ | 8, _ | 9, _ => simp (disch := omega) only [up2_n]; rw [g2 _ (by omega)]; simp [addT]
          · simp (disch := omega) only [up2_n]
            rw [g1 _ (by omega), addT_o hw hkn]
            exact hR.2.2.2.2 k w (by omega) hw hne
        · simp (disch := omega) only [up2_n]; exact g1 k h2
        · simp (disch := omega) only [up2_na]; exact g3 a ha
      have e1 : ∀ dl, up2 (up2 (up2 (up2 B1 140 (6 + 10 * T 10 0 + 0) (nI kd)) 140 (6 + 10 * T 10 0 + 1) (nI p)) 140 (6 + 10 * T 10 0 + 2) (nI nu)) 140 (6 + 10 * T 10 0 + 3) (nI dl) 140 1 = nI (T 10 0) := fun dl => by
        simp (disch := omega) only [up2_n]; rw [g1 _ (by omega)]; exact hR.2.1
      by_cases h4 : kd = 4
      · have e := e1 nu
        have f := fin nu (by rw [if_pos h4])
        subst h4
        simp (disch := omega) only [i_X7_comes_0, i_X7_comes_1, i_X7_comes_4, i_X7_comes_5, i_X7_comes_6, i_X7_comes_8, i_X7_comes_9, i_X7_comes_13, i_X7_comes_15, i_X7_comes_18, i_X7_comes_19, i_X7_comes_21, i_X7_comes_23, i_X7_comes_24, i_X7_comes_27, i_X7_comes_30, i_X7_comes_33, i_X7_comes_34, i_X7_comes_36, i_X7_comes_37, i_X7_comes_38, i_X7_comes_39, i_X7_comes_42, i_X7_comes_43, i_X7_comes_45, i_X7_comes_46, i_X7_comes_47, i_X7_comes_48, i_X7_comes_51, i_X7_comes_52, i_X7_comes_54, i_X7_comes_55, i_X7_comes_56, i_X7_comes_57, i_X7_comes_60, i_X7_comes_61, i_X7_comes_63, i_X7_comes_64, i_X7_comes_65, i_X7_comes_66, i_X7_comes_69, i_X7_comes_70, i_X7_comes_71, i_X7_comes_75, i_X7_comes_78, i_X7_comes_79, i_X7_comes_82, i_X7_comes_83, i_X7_comes_84, i_X7_comes_85, i_X7_comes_86, i_X7_comes_87, i_X7_comes_88, i_X7_comes_90, i_X7_comes_74, i_X7_comes_0_e, Option.toList_some, Option.toList_none, List.cons_append, List.nil_append, List.append_nil, ↓reduceIte, q_lt, Nat.lt_irrefl, s_put, l_of, l_toI, q_eq, e, nI_add]
        exact f
      · have e := e1 0
        have f := fin 0 (by rw [if_neg h4])
        simp (disch := omega) only [i_X7_comes_0, i_X7_comes_1, i_X7_comes_4, i_X7_comes_5, i_X7_comes_6, i_X7_comes_8, i_X7_comes_9, i_X7_comes_13, i_X7_comes_15, i_X7_comes_18, i_X7_comes_19, i_X7_comes_21, i_X7_comes_23, i_X7_comes_24, i_X7_comes_27, i_X7_comes_30, i_X7_comes_33, i_X7_comes_34, i_X7_comes_36, i_X7_comes_37, i_X7_comes_38, i_X7_comes_39, i_X7_comes_42, i_X7_comes_43, i_X7_comes_45, i_X7_comes_46, i_X7_comes_47, i_X7_comes_48, i_X7_comes_51, i_X7_comes_52, i_X7_comes_54, i_X7_comes_55, i_X7_comes_56, i_X7_comes_57, i_X7_comes_60, i_X7_comes_61, i_X7_comes_63, i_X7_comes_64, i_X7_comes_65, i_X7_comes_66, i_X7_comes_69, i_X7_comes_70, i_X7_comes_71, i_X7_comes_75, i_X7_comes_78, i_X7_comes_79, i_X7_comes_82, i_X7_comes_83, i_X7_comes_84, i_X7_comes_85, i_X7_comes_86, i_X7_comes_87, i_X7_comes_88, i_X7_comes_90, i_X7_comes_74, i_X7_comes_0_e, Option.toList_some, Option.toList_none, List.cons_append, List.nil_append, List.append_nil, ↓reduceIte, q_lt, Nat.lt_irrefl, s_put, l_of, l_toI, q_eq, h4, e, nI_add, l_0]
        exact f
    | succ m ih =>
      intro j hj B1 g1 g2 g3
      have hj2 : j < 10 := by omega
      rw [i_X7_comes_11]
      simp (disch := omega) only [i_X7_comes_0, i_X7_comes_1, i_X7_comes_4, i_X7_comes_5, i_X7_comes_6, i_X7_comes_8, i_X7_comes_9, i_X7_comes_13, i_X7_comes_15, i_X7_comes_18, i_X7_comes_19, i_X7_comes_21, i_X7_comes_23, i_X7_comes_24, i_X7_comes_27, i_X7_comes_30, i_X7_comes_33, i_X7_comes_34, i_X7_comes_36, i_X7_comes_37, i_X7_comes_38, i_X7_comes_39, i_X7_comes_42, i_X7_comes_43, i_X7_comes_45, i_X7_comes_46, i_X7_comes_47, i_X7_comes_48, i_X7_comes_51, i_X7_comes_52, i_X7_comes_54, i_X7_comes_55, i_X7_comes_56, i_X7_comes_57, i_X7_comes_60, i_X7_comes_61, i_X7_comes_63, i_X7_comes_64, i_X7_comes_65, i_X7_comes_66, i_X7_comes_69, i_X7_comes_70, i_X7_comes_71, i_X7_comes_75, i_X7_comes_78, i_X7_comes_79, i_X7_comes_82, i_X7_comes_83, i_X7_comes_84, i_X7_comes_85, i_X7_comes_86, i_X7_comes_87, i_X7_comes_88, i_X7_comes_90, i_X7_comes_74, i_X7_comes_0_e, Option.toList_some, Option.toList_none, List.cons_append, List.nil_append, List.append_nil, ↓reduceIte, q_lt, hj2, s_put, l_0, l_toI, nI_add]
      refine ih (j + 1) (by omega) _ (fun k hk => ?_) (fun w hw => ?_) (fun a ha => ?_)
      · rw [up2_n _ _ (by omega)]; exact g1 k hk
      · by_cases hwj : w = j
        · subst hwj; exact up2_s _ _ _ _
        · rw [up2_n _ _ (by omega)]; exact g2 w (by omega)
      · rw [up2_na _ _ ha]; exact g3 a ha
  simp (disch := omega) only [i_X7_comes_0, i_X7_comes_1, i_X7_comes_4, i_X7_comes_5, i_X7_comes_6, i_X7_comes_8, i_X7_comes_9, i_X7_comes_13, i_X7_comes_15, i_X7_comes_18, i_X7_comes_19, i_X7_comes_21, i_X7_comes_23, i_X7_comes_24, i_X7_comes_27, i_X7_comes_30, i_X7_comes_33, i_X7_comes_34, i_X7_comes_36, i_X7_comes_37, i_X7_comes_38, i_X7_comes_39, i_X7_comes_42, i_X7_comes_43, i_X7_comes_45, i_X7_comes_46, i_X7_comes_47, i_X7_comes_48, i_X7_comes_51, i_X7_comes_52, i_X7_comes_54, i_X7_comes_55, i_X7_comes_56, i_X7_comes_57, i_X7_comes_60, i_X7_comes_61, i_X7_comes_63, i_X7_comes_64, i_X7_comes_65, i_X7_comes_66, i_X7_comes_69, i_X7_comes_70, i_X7_comes_71, i_X7_comes_75, i_X7_comes_78, i_X7_comes_79, i_X7_comes_82, i_X7_comes_83, i_X7_comes_84, i_X7_comes_85, i_X7_comes_86, i_X7_comes_87, i_X7_comes_88, i_X7_comes_90, i_X7_comes_74, i_X7_comes_0_e, Option.toList_some, Option.toList_none, List.cons_append, List.nil_append, List.append_nil, ↓reduceIte, hR.2.1]
  exact key 10 0 (by omega) B (fun _ _ => rfl) (fun w hw => by omega) (fun _ _ => rfl)
theorem s_whyP (hR : RelT (B 140) T) (hT : okT T) {x : Int32} : pm_call X (d + 3) mX7_whyNotBelow [.ref 139, .int x] (pm_w I A E J B) Q ↔ Q (some (.int (nI (whyP T x)))) (pm_w I A E J B) := by
  have h24 := hT.wf.2.1
  unfold whyP
  cases hx : isN T x with
  | false => simp (disch := omega) only [i_X7_whyNotBelow_0, i_X7_whyNotBelow_1, i_X7_whyNotBelow_2, i_X7_whyNotBelow_5, i_X7_whyNotBelow_8, i_X7_whyNotBelow_9, i_X7_whyNotBelow_10, i_X7_whyNotBelow_13, i_X7_whyNotBelow_18, i_X7_whyNotBelow_19, i_X7_whyNotBelow_20, i_X7_whyNotBelow_23, i_X7_whyNotBelow_24, i_X7_whyNotBelow_25, i_X7_whyNotBelow_27, i_X7_whyNotBelow_30, i_X7_whyNotBelow_31, i_X7_whyNotBelow_50, i_X7_whyNotBelow_34, i_X7_whyNotBelow_35, i_X7_whyNotBelow_38, i_X7_whyNotBelow_39, i_X7_whyNotBelow_40, i_X7_whyNotBelow_42, i_X7_whyNotBelow_45, i_X7_whyNotBelow_46, i_X7_whyNotBelow_49, i_X7_whyNotBelow_16, i_X7_whyNotBelow_17, i_X7_whyNotBelow_0_e, Option.toList_some, Option.toList_none, List.cons_append, List.nil_append, List.append_nil, ↓reduceIte, s_isN hR hT.wf, hx, bz_e0, Bool.false_and, reduceCtorEq]
  | true =>
    have hx2 := hx
    obtain ⟨k, hk, rfl⟩ := isN_t hT.wf hx2
    have hd := hT.dep hk
    have hl : isL T (nI k) = decide (T 0 k = 5) := by unfold isL; rw [hx, xN_n (by omega)]; rfl
    rw [xN_n (by omega)]
    by_cases h5 : T 0 k = 5
    · simp (disch := omega) only [i_X7_whyNotBelow_0, i_X7_whyNotBelow_1, i_X7_whyNotBelow_2, i_X7_whyNotBelow_5, i_X7_whyNotBelow_8, i_X7_whyNotBelow_9, i_X7_whyNotBelow_10, i_X7_whyNotBelow_13, i_X7_whyNotBelow_18, i_X7_whyNotBelow_19, i_X7_whyNotBelow_20, i_X7_whyNotBelow_23, i_X7_whyNotBelow_24, i_X7_whyNotBelow_25, i_X7_whyNotBelow_27, i_X7_whyNotBelow_30, i_X7_whyNotBelow_31, i_X7_whyNotBelow_50, i_X7_whyNotBelow_34, i_X7_whyNotBelow_35, i_X7_whyNotBelow_38, i_X7_whyNotBelow_39, i_X7_whyNotBelow_40, i_X7_whyNotBelow_42, i_X7_whyNotBelow_45, i_X7_whyNotBelow_46, i_X7_whyNotBelow_49, i_X7_whyNotBelow_16, i_X7_whyNotBelow_17, i_X7_whyNotBelow_0_e, Option.toList_some, Option.toList_none, List.cons_append, List.nil_append, List.append_nil, ↓reduceIte, s_isN hR hT.wf, hx, bz_e0, s_isLeaf hR hT, hl, h5, decide_true, Bool.not_true, Bool.and_false, reduceCtorEq]
    · by_cases h6 : 6 ≤ dep T k
      · have : 6 < dep T k + 1 := by omega
        simp (disch := omega) only [i_X7_whyNotBelow_0, i_X7_whyNotBelow_1, i_X7_whyNotBelow_2, i_X7_whyNotBelow_5, i_X7_whyNotBelow_8, i_X7_whyNotBelow_9, i_X7_whyNotBelow_10, i_X7_whyNotBelow_13, i_X7_whyNotBelow_18, i_X7_whyNotBelow_19, i_X7_whyNotBelow_20, i_X7_whyNotBelow_23, i_X7_whyNotBelow_24, i_X7_whyNotBelow_25, i_X7_whyNotBelow_27, i_X7_whyNotBelow_30, i_X7_whyNotBelow_31, i_X7_whyNotBelow_50, i_X7_whyNotBelow_34, i_X7_whyNotBelow_35, i_X7_whyNotBelow_38, i_X7_whyNotBelow_39, i_X7_whyNotBelow_40, i_X7_whyNotBelow_42, i_X7_whyNotBelow_45, i_X7_whyNotBelow_46, i_X7_whyNotBelow_49, i_X7_whyNotBelow_16, i_X7_whyNotBelow_17, i_X7_whyNotBelow_0_e, Option.toList_some, Option.toList_none, List.cons_append, List.nil_append, List.append_nil, ↓reduceIte, s_isN hR hT.wf, hx, bz_e0, s_isLeaf hR hT, hl, h5, decide_false, Bool.not_false, Bool.and_true, reduceCtorEq, s_depth hR hT.wf hk, nI_add, q_lt, this, h6]
      · have : ¬ 6 < dep T k + 1 := by omega
        by_cases hN : T 10 0 = 24
        · simp (disch := omega) only [i_X7_whyNotBelow_0, i_X7_whyNotBelow_1, i_X7_whyNotBelow_2, i_X7_whyNotBelow_5, i_X7_whyNotBelow_8, i_X7_whyNotBelow_9, i_X7_whyNotBelow_10, i_X7_whyNotBelow_13, i_X7_whyNotBelow_18, i_X7_whyNotBelow_19, i_X7_whyNotBelow_20, i_X7_whyNotBelow_23, i_X7_whyNotBelow_24, i_X7_whyNotBelow_25, i_X7_whyNotBelow_27, i_X7_whyNotBelow_30, i_X7_whyNotBelow_31, i_X7_whyNotBelow_50, i_X7_whyNotBelow_34, i_X7_whyNotBelow_35, i_X7_whyNotBelow_38, i_X7_whyNotBelow_39, i_X7_whyNotBelow_40, i_X7_whyNotBelow_42, i_X7_whyNotBelow_45, i_X7_whyNotBelow_46, i_X7_whyNotBelow_49, i_X7_whyNotBelow_16, i_X7_whyNotBelow_17, i_X7_whyNotBelow_0_e, Option.toList_some, Option.toList_none, List.cons_append, List.nil_append, List.append_nil, ↓reduceIte, s_isN hR hT.wf, hx, bz_e0, s_isLeaf hR hT, hl, h5, decide_false, Bool.not_false, Bool.and_true, reduceCtorEq, s_depth hR hT.wf hk, nI_add, q_lt, this, h6, hR.2.1, q_eq, hN]
        · simp (disch := omega) only [i_X7_whyNotBelow_0, i_X7_whyNotBelow_1, i_X7_whyNotBelow_2, i_X7_whyNotBelow_5, i_X7_whyNotBelow_8, i_X7_whyNotBelow_9, i_X7_whyNotBelow_10, i_X7_whyNotBelow_13, i_X7_whyNotBelow_18, i_X7_whyNotBelow_19, i_X7_whyNotBelow_20, i_X7_whyNotBelow_23, i_X7_whyNotBelow_24, i_X7_whyNotBelow_25, i_X7_whyNotBelow_27, i_X7_whyNotBelow_30, i_X7_whyNotBelow_31, i_X7_whyNotBelow_50, i_X7_whyNotBelow_34, i_X7_whyNotBelow_35, i_X7_whyNotBelow_38, i_X7_whyNotBelow_39, i_X7_whyNotBelow_40, i_X7_whyNotBelow_42, i_X7_whyNotBelow_45, i_X7_whyNotBelow_46, i_X7_whyNotBelow_49, i_X7_whyNotBelow_16, i_X7_whyNotBelow_17, i_X7_whyNotBelow_0_e, Option.toList_some, Option.toList_none, List.cons_append, List.nil_append, List.append_nil, ↓reduceIte, s_isN hR hT.wf, hx, bz_e0, s_isLeaf hR hT, hl, h5, decide_false, Bool.not_false, Bool.and_true, reduceCtorEq, s_depth hR hT.wf hk, nI_add, q_lt, this, h6, hR.2.1, q_eq, hN]
/-- what a try of a node comes to -/
theorem s_tryAdd {x v : Int32} {kd : Nat} (hR : RelT (B 140) T) (hT : okT T) (hk : 1 ≤ kd ∧ kd ≤ 4)
    (hQ0 : whyN T x kd v = 0 → ∀ B', RelT (B' 140) (addT T (xN x) kd (xN v) 0 0 0 0) → (∀ a, a ≠ 140 → B' a = B a) → Q (some (.int (nI (T 10 0)))) (pm_w I A E J B'))
    (hQ1 : whyN T x kd v ≠ 0 → ∀ B', RelT (B' 140) T → (∀ a, a ≠ 140 → B' a = B a) → Q (some (.int (nI (whyN T x kd v) - nI 100))) (pm_w I A E J B')) : pm_call X (d + 4) mX7_tryAdd [.ref 139, .int x, .int (nI kd), .int v] (pm_w I A E J B) Q := by
  have h24 := hT.wf.2.1
  have hN1 := hT.wf.1
  unfold whyN at hQ0 hQ1
  have c3 := whyP_c T x
  by_cases hp : whyP T x = 0
  · rw [if_pos hp] at hQ0 hQ1
    cases hv : isNum kd v with
    | false =>
      rw [hv] at hQ1
      simp (disch := omega) only [i_X7_tryAdd_0, i_X7_tryAdd_1, i_X7_tryAdd_2, i_X7_tryAdd_5, i_X7_tryAdd_7, i_X7_tryAdd_9, i_X7_tryAdd_12, i_X7_tryAdd_13, i_X7_tryAdd_14, i_X7_tryAdd_17, i_X7_tryAdd_20, i_X7_tryAdd_21, i_X7_tryAdd_23, i_X7_tryAdd_25, i_X7_tryAdd_28, i_X7_tryAdd_30, i_X7_tryAdd_32, i_X7_tryAdd_33, i_X7_tryAdd_34, i_X7_tryAdd_35, i_X7_tryAdd_36, i_X7_tryAdd_37, i_X7_tryAdd_38, i_X7_tryAdd_41, i_X7_tryAdd_43, i_X7_tryAdd_44, i_X7_tryAdd_46, i_X7_tryAdd_49, i_X7_tryAdd_52, i_X7_tryAdd_53, i_X7_tryAdd_56, i_X7_tryAdd_57, i_X7_tryAdd_58, i_X7_tryAdd_59, i_X7_tryAdd_60, i_X7_tryAdd_61, i_X7_tryAdd_62, i_X7_tryAdd_64, i_X7_tryAdd_65, i_X7_tryAdd_67, i_X7_tryAdd_0_e, Option.toList_some, Option.toList_none, List.cons_append, List.nil_append, List.append_nil, ↓reduceIte, s_whyP hR hT, hp, n0_e0, s_isNumber, hv, bz_e0, q_e0, Nat.reduceEqDiff]
      exact hQ1 (by simp) B hR (fun _ _ => rfl)
    | true =>
      rw [hv] at hQ0 hQ1
      obtain ⟨p, u, rfl, rfl, hu, hpN, ha⟩ := okA_n hT hk hp hv
      rw [xN_n (by omega), xN_n (by omega)] at hQ0 hQ1
      have hA := okT_add hT ha
      simp (disch := omega) only [i_X7_tryAdd_0, i_X7_tryAdd_1, i_X7_tryAdd_2, i_X7_tryAdd_5, i_X7_tryAdd_7, i_X7_tryAdd_9, i_X7_tryAdd_12, i_X7_tryAdd_13, i_X7_tryAdd_14, i_X7_tryAdd_17, i_X7_tryAdd_20, i_X7_tryAdd_21, i_X7_tryAdd_23, i_X7_tryAdd_25, i_X7_tryAdd_28, i_X7_tryAdd_30, i_X7_tryAdd_32, i_X7_tryAdd_33, i_X7_tryAdd_34, i_X7_tryAdd_35, i_X7_tryAdd_36, i_X7_tryAdd_37, i_X7_tryAdd_38, i_X7_tryAdd_41, i_X7_tryAdd_43, i_X7_tryAdd_44, i_X7_tryAdd_46, i_X7_tryAdd_49, i_X7_tryAdd_52, i_X7_tryAdd_53, i_X7_tryAdd_56, i_X7_tryAdd_57, i_X7_tryAdd_58, i_X7_tryAdd_59, i_X7_tryAdd_60, i_X7_tryAdd_61, i_X7_tryAdd_62, i_X7_tryAdd_64, i_X7_tryAdd_65, i_X7_tryAdd_67, i_X7_tryAdd_0_e, Option.toList_some, Option.toList_none, List.cons_append, List.nil_append, List.append_nil, ↓reduceIte, s_whyP hR hT, hp, n0_e0, s_isNumber, hv, bz_e0, reduceCtorEq]
      refine s_comes (d := d + 2) (p := p) (kd := kd) (nu := u) hR hN1 ha.2.2.2.1 (by omega) (by omega) hu (fun B1 r1 r2 r3 => ?_)
      have hlt : T 10 0 < addT T p kd u 0 0 0 0 10 0 := by rw [addT_N]; omega
      have hs := r1.2.1
      rw [addT_N] at hs
      cases hf : fst (addT T p kd u 0 0 0 0) (T 10 0) with
      | false =>
        rw [hf] at hQ0
        simp (disch := omega) only [i_X7_tryAdd_0, i_X7_tryAdd_1, i_X7_tryAdd_2, i_X7_tryAdd_5, i_X7_tryAdd_7, i_X7_tryAdd_9, i_X7_tryAdd_12, i_X7_tryAdd_13, i_X7_tryAdd_14, i_X7_tryAdd_17, i_X7_tryAdd_20, i_X7_tryAdd_21, i_X7_tryAdd_23, i_X7_tryAdd_25, i_X7_tryAdd_28, i_X7_tryAdd_30, i_X7_tryAdd_32, i_X7_tryAdd_33, i_X7_tryAdd_34, i_X7_tryAdd_35, i_X7_tryAdd_36, i_X7_tryAdd_37, i_X7_tryAdd_38, i_X7_tryAdd_41, i_X7_tryAdd_43, i_X7_tryAdd_44, i_X7_tryAdd_46, i_X7_tryAdd_49, i_X7_tryAdd_52, i_X7_tryAdd_53, i_X7_tryAdd_56, i_X7_tryAdd_57, i_X7_tryAdd_58, i_X7_tryAdd_59, i_X7_tryAdd_60, i_X7_tryAdd_61, i_X7_tryAdd_62, i_X7_tryAdd_64, i_X7_tryAdd_65, i_X7_tryAdd_67, i_X7_tryAdd_0_e, Option.toList_some, Option.toList_none, List.cons_append, List.nil_append, List.append_nil, ↓reduceIte, s_isTooFast r1 hA hlt, hf, bz_e0]
        exact hQ0 rfl B1 r1 r3
      | true =>
        rw [hf] at hQ1
        simp (disch := omega) only [i_X7_tryAdd_0, i_X7_tryAdd_1, i_X7_tryAdd_2, i_X7_tryAdd_5, i_X7_tryAdd_7, i_X7_tryAdd_9, i_X7_tryAdd_12, i_X7_tryAdd_13, i_X7_tryAdd_14, i_X7_tryAdd_17, i_X7_tryAdd_20, i_X7_tryAdd_21, i_X7_tryAdd_23, i_X7_tryAdd_25, i_X7_tryAdd_28, i_X7_tryAdd_30, i_X7_tryAdd_32, i_X7_tryAdd_33, i_X7_tryAdd_34, i_X7_tryAdd_35, i_X7_tryAdd_36, i_X7_tryAdd_37, i_X7_tryAdd_38, i_X7_tryAdd_41, i_X7_tryAdd_43, i_X7_tryAdd_44, i_X7_tryAdd_46, i_X7_tryAdd_49, i_X7_tryAdd_52, i_X7_tryAdd_53, i_X7_tryAdd_56, i_X7_tryAdd_57, i_X7_tryAdd_58, i_X7_tryAdd_59, i_X7_tryAdd_60, i_X7_tryAdd_61, i_X7_tryAdd_62, i_X7_tryAdd_64, i_X7_tryAdd_65, i_X7_tryAdd_67, i_X7_tryAdd_0_e, Option.toList_some, Option.toList_none, List.cons_append, List.nil_append, List.append_nil, ↓reduceIte, s_isTooFast r1 hA hlt, hf, bz_e0, reduceCtorEq, hs, pk_sub]
        have e95 : (-95 : Int32) = nI 5 - nI 100 := by decide +kernel
        rw [e95]
        refine hQ1 (by simp) _ ⟨?_, ?_, fun g hg => ?_, ?_, fun k w hk2 hw hne => ?_⟩ (fun a h => by rw [up2_na _ _ h]; exact r3 a h)
        · rw [up2_n _ _ (by omega), r2 _ (by omega) (by omega)]; exact hR.1
        · rw [up2_s]; rfl
        · rw [up2_n _ _ (by omega), r2 _ (by omega) (by omega)]; exact hR.2.2.1 g hg
        · rw [up2_n _ _ (by omega), r2 _ (by omega) (by omega)]; exact hR.2.2.2.1
        · rw [up2_n _ _ (by omega), r2 _ (by omega) (by omega)]; exact hR.2.2.2.2 k w hk2 hw hne
  · rw [if_neg hp] at hQ1
    simp (disch := omega) only [i_X7_tryAdd_0, i_X7_tryAdd_1, i_X7_tryAdd_2, i_X7_tryAdd_5, i_X7_tryAdd_7, i_X7_tryAdd_9, i_X7_tryAdd_12, i_X7_tryAdd_13, i_X7_tryAdd_14, i_X7_tryAdd_17, i_X7_tryAdd_20, i_X7_tryAdd_21, i_X7_tryAdd_23, i_X7_tryAdd_25, i_X7_tryAdd_28, i_X7_tryAdd_30, i_X7_tryAdd_32, i_X7_tryAdd_33, i_X7_tryAdd_34, i_X7_tryAdd_35, i_X7_tryAdd_36, i_X7_tryAdd_37, i_X7_tryAdd_38, i_X7_tryAdd_41, i_X7_tryAdd_43, i_X7_tryAdd_44, i_X7_tryAdd_46, i_X7_tryAdd_49, i_X7_tryAdd_52, i_X7_tryAdd_53, i_X7_tryAdd_56, i_X7_tryAdd_57, i_X7_tryAdd_58, i_X7_tryAdd_59, i_X7_tryAdd_60, i_X7_tryAdd_61, i_X7_tryAdd_62, i_X7_tryAdd_64, i_X7_tryAdd_65, i_X7_tryAdd_67, i_X7_tryAdd_0_e, Option.toList_some, Option.toList_none, List.cons_append, List.nil_append, List.append_nil, ↓reduceIte, s_whyP hR hT, q_e0, hp]
    exact hQ1 hp B hR (fun _ _ => rfl)
theorem q_why {c : Nat} (hc : c < 100) : (nI c - nI 100 < 0) = True ∧ nI c - nI 100 + nI 100 = nI c := by
  constructor
  · refine eq_true ?_
    rw [Int32.lt_iff_toInt_lt, Int32.toInt_sub, nI_toInt (by omega), nI_toInt (by decide)]
    have : ((c : Int) - 100).bmod (2 ^ 32) = (c : Int) - 100 := by
      rw [Int.bmod_eq_of_le] <;> omega
    have z : ((100 : Nat) : Int) = 100 := rfl
    rw [z, this]
    show (c : Int) - 100 < 0
    omega
  · rw [Int32.sub_add_cancel]
end ADM
