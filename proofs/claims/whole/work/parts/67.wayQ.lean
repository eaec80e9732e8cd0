/-! the class's search for a way -/
section WAQ
variable {X : pm_X} {d : Nat} {G : pm_H} {Q : Option Value → pm_H → Prop} {I A : Nat → Nat → Int32} {E : Nat → Nat → Int64} {J : Nat → Int32} {B : Nat → Nat → Int32} {T T' : Tr} {S : St}
theorem t_findAt (hP : RelTP I A 1 T) (hF : RelF A E 37 T) (hT : okT T) {a b m e : Nat} (hm : m ≤ 2) (hd : e + m ≤ 6) (ha : 1 ≤ a ∧ a ≤ 4000000) (hb : 1 ≤ b ∧ b ≤ 9999) (h0 : I 138 0 = nI m) (hQ : ∀ I' o, FF T a b m e o → (∀ c k, (c ≠ 138 ∨ k = 0) → I' c k = I c k) → (∀ t, o = some t → I' 138 1 = nI (t / 400) ∧ I' 138 2 = cv (t / 20 % 20) ∧ I' 138 3 = cv (t % 20)) → Q (some (.int (bz o.isSome))) (pm_w I' A E J B)) : pm_call X (d + 3) mX5_findAt [.ref 138, .ref 1, .ref 37, .int (nI e), .long (lN a), .long (lN b)] (pm_w I A E J B) Q := by
  have h24 := hT.wf.2.1
  have key : ∀ r n, n + r = T 10 0 → ∀ I1 : Nat → Nat → Int32, (∀ c k, (c ≠ 138 ∨ k = 0) → I1 c k = I c k) → (∀ t, vl T a b t = true → mm t = m → dep T (t / 400) = e → n ≤ t / 400) → ∀ v9, pm_wp X (d + 3) mX5_findAt 3 [.ref 138, .ref 1, .ref 37, .int (nI e), .long (lN a), pm_U, .long (lN b), pm_U, .int (nI n), v9] [] (pm_w I1 A E J B) Q := by
    intro r
    induction r with
    | zero =>
      intro n hn I1 hI hno v9
      have : n = T 10 0 := by omega
      subst this
      have hsz : I1 1 12 = nI (T 10 0) := by rw [hI 1 12 (by omega)]; exact hP.2.1
      rw [i_X5_findAt_3]
      simp (disch := omega) only [i_X5_findAt_0, i_X5_findAt_1, i_X5_findAt_5, i_X5_findAt_6, i_X5_findAt_9, i_X5_findAt_12, i_X5_findAt_13, i_X5_findAt_16, i_X5_findAt_18, i_X5_findAt_19, i_X5_findAt_20, i_X5_findAt_23, i_X5_findAt_24, i_X5_findAt_27, i_X5_findAt_29, i_X5_findAt_30, i_X5_findAt_31, i_X5_findAt_34, i_X5_findAt_35, i_X5_findAt_39, i_X5_findAt_41, i_X5_findAt_43, i_X5_findAt_46, i_X5_findAt_47, i_X5_findAt_48, i_X5_findAt_51, i_X5_findAt_53, i_X5_findAt_54, i_X5_findAt_55, i_X5_findAt_58, i_X5_findAt_60, i_X5_findAt_61, i_X5_findAt_63, i_X5_findAt_65, i_X5_findAt_68, i_X5_findAt_71, i_X5_findAt_72, i_X5_findAt_74, i_X5_findAt_77, i_X5_findAt_78, i_X5_findAt_78b, i_X5_findAt_78c, i_X5_findAt_79, i_X5_findAt_82, i_X5_findAt_38, i_X5_findAt_85, i_X5_findAt_86, i_X5_findAt_86b, i_X5_findAt_86c, i_X5_findAt_0_e, Option.toList_some, Option.toList_none, List.cons_append, List.nil_append, List.append_nil, ↓reduceIte, q_lt, hsz, Nat.lt_irrefl]
      refine hQ I1 none (fun t h1 h2 h3 => ?_) hI (fun t h => by cases h)
      have := hno t h1 h2 h3
      have := (vl_lt h1).1
      omega
    | succ r ih =>
      intro n hn I1 hI hno v9
      have hn2 : n < T 10 0 := by omega
      have hsz : I1 1 12 = nI (T 10 0) := by rw [hI 1 12 (by omega)]; exact hP.2.1
      have f5 : A 40 n = nI (dep T n) := (hF.2.1 n hn2).1
      have f1 : E 38 n = lN (nm T n) := (hF.1 n hn2).1
      have f2 : E 39 n = lN (dn T n) := (hF.1 n hn2).2
      have e0 : A 2 n = nI (T 0 n) := hP.2.2.2 0 n (by decide) hn2 (by omega)
      have d6 := hT.dep hn2
      have k5 := hT.kind hn2
      rw [i_X5_findAt_3]
      by_cases hde : dep T n = e
      · have hde' := eq_true hde
        by_cases h5 : T 0 n = 5
        · have h5' := eq_true h5
          simp (disch := omega) only [i_X5_findAt_0, i_X5_findAt_1, i_X5_findAt_5, i_X5_findAt_6, i_X5_findAt_9, i_X5_findAt_12, i_X5_findAt_13, i_X5_findAt_16, i_X5_findAt_18, i_X5_findAt_19, i_X5_findAt_20, i_X5_findAt_23, i_X5_findAt_24, i_X5_findAt_27, i_X5_findAt_29, i_X5_findAt_30, i_X5_findAt_31, i_X5_findAt_34, i_X5_findAt_35, i_X5_findAt_39, i_X5_findAt_41, i_X5_findAt_43, i_X5_findAt_46, i_X5_findAt_47, i_X5_findAt_48, i_X5_findAt_51, i_X5_findAt_53, i_X5_findAt_54, i_X5_findAt_55, i_X5_findAt_58, i_X5_findAt_60, i_X5_findAt_61, i_X5_findAt_63, i_X5_findAt_65, i_X5_findAt_68, i_X5_findAt_71, i_X5_findAt_72, i_X5_findAt_74, i_X5_findAt_77, i_X5_findAt_78, i_X5_findAt_78b, i_X5_findAt_78c, i_X5_findAt_79, i_X5_findAt_82, i_X5_findAt_38, i_X5_findAt_85, i_X5_findAt_86, i_X5_findAt_86b, i_X5_findAt_86c, i_X5_findAt_0_e, Option.toList_some, Option.toList_none, List.cons_append, List.nil_append, List.append_nil, ↓reduceIte, q_lt, q_eq, hsz, hn2, f5, e0, hde', h5', n0_e0, nI_add]
          refine ih (n + 1) (by omega) I1 hI (fun t h1 h2 h3 => ?_) _
          have := hno t h1 h2 h3
          have h4 := (vl_lt h1).2
          by_cases q : t / 400 = n
          · rw [q] at h4; exact absurd h5 h4
          · omega
        · simp (disch := omega) only [i_X5_findAt_0, i_X5_findAt_1, i_X5_findAt_5, i_X5_findAt_6, i_X5_findAt_9, i_X5_findAt_12, i_X5_findAt_13, i_X5_findAt_16, i_X5_findAt_18, i_X5_findAt_19, i_X5_findAt_20, i_X5_findAt_23, i_X5_findAt_24, i_X5_findAt_27, i_X5_findAt_29, i_X5_findAt_30, i_X5_findAt_31, i_X5_findAt_34, i_X5_findAt_35, i_X5_findAt_39, i_X5_findAt_41, i_X5_findAt_43, i_X5_findAt_46, i_X5_findAt_47, i_X5_findAt_48, i_X5_findAt_51, i_X5_findAt_53, i_X5_findAt_54, i_X5_findAt_55, i_X5_findAt_58, i_X5_findAt_60, i_X5_findAt_61, i_X5_findAt_63, i_X5_findAt_65, i_X5_findAt_68, i_X5_findAt_71, i_X5_findAt_72, i_X5_findAt_74, i_X5_findAt_77, i_X5_findAt_78, i_X5_findAt_78b, i_X5_findAt_78c, i_X5_findAt_79, i_X5_findAt_82, i_X5_findAt_38, i_X5_findAt_85, i_X5_findAt_86, i_X5_findAt_86b, i_X5_findAt_86c, i_X5_findAt_0_e, Option.toList_some, Option.toList_none, List.cons_append, List.nil_append, List.append_nil, ↓reduceIte, q_lt, q_eq, hsz, hn2, f5, e0, hde', h5, n1_e0, f1, f2]
          refine t_reaches hT hn2 h5 hm (by omega) ha hb (by rw [hI 138 0 (by omega)]; exact h0) (fun I2 o h1 h2 h3 => ?_)
          cases o with
          | none =>
            simp (disch := omega) only [i_X5_findAt_0, i_X5_findAt_1, i_X5_findAt_5, i_X5_findAt_6, i_X5_findAt_9, i_X5_findAt_12, i_X5_findAt_13, i_X5_findAt_16, i_X5_findAt_18, i_X5_findAt_19, i_X5_findAt_20, i_X5_findAt_23, i_X5_findAt_24, i_X5_findAt_27, i_X5_findAt_29, i_X5_findAt_30, i_X5_findAt_31, i_X5_findAt_34, i_X5_findAt_35, i_X5_findAt_39, i_X5_findAt_41, i_X5_findAt_43, i_X5_findAt_46, i_X5_findAt_47, i_X5_findAt_48, i_X5_findAt_51, i_X5_findAt_53, i_X5_findAt_54, i_X5_findAt_55, i_X5_findAt_58, i_X5_findAt_60, i_X5_findAt_61, i_X5_findAt_63, i_X5_findAt_65, i_X5_findAt_68, i_X5_findAt_71, i_X5_findAt_72, i_X5_findAt_74, i_X5_findAt_77, i_X5_findAt_78, i_X5_findAt_78b, i_X5_findAt_78c, i_X5_findAt_79, i_X5_findAt_82, i_X5_findAt_38, i_X5_findAt_85, i_X5_findAt_86, i_X5_findAt_86b, i_X5_findAt_86c, i_X5_findAt_0_e, Option.toList_some, Option.toList_none, List.cons_append, List.nil_append, List.append_nil, ↓reduceIte, Option.isSome_none, bz_e0, nI_add]
            refine ih (n + 1) (by omega) I2 (fun c k h => by rw [h2 c k (by omega)]; exact hI c k h) (fun t g1 g2 g3 => ?_) _
            have := hno t g1 g2 g3
            by_cases q : t / 400 = n
            · have := h1 t q g2; rw [g1] at this; cases this
            · omega
          | some t =>
            obtain ⟨g1, g2, g3, g4⟩ := h1
            simp (disch := omega) only [i_X5_findAt_0, i_X5_findAt_1, i_X5_findAt_5, i_X5_findAt_6, i_X5_findAt_9, i_X5_findAt_12, i_X5_findAt_13, i_X5_findAt_16, i_X5_findAt_18, i_X5_findAt_19, i_X5_findAt_20, i_X5_findAt_23, i_X5_findAt_24, i_X5_findAt_27, i_X5_findAt_29, i_X5_findAt_30, i_X5_findAt_31, i_X5_findAt_34, i_X5_findAt_35, i_X5_findAt_39, i_X5_findAt_41, i_X5_findAt_43, i_X5_findAt_46, i_X5_findAt_47, i_X5_findAt_48, i_X5_findAt_51, i_X5_findAt_53, i_X5_findAt_54, i_X5_findAt_55, i_X5_findAt_58, i_X5_findAt_60, i_X5_findAt_61, i_X5_findAt_63, i_X5_findAt_65, i_X5_findAt_68, i_X5_findAt_71, i_X5_findAt_72, i_X5_findAt_74, i_X5_findAt_77, i_X5_findAt_78, i_X5_findAt_78b, i_X5_findAt_78c, i_X5_findAt_79, i_X5_findAt_82, i_X5_findAt_38, i_X5_findAt_85, i_X5_findAt_86, i_X5_findAt_86b, i_X5_findAt_86c, i_X5_findAt_0_e, Option.toList_some, Option.toList_none, List.cons_append, List.nil_append, List.append_nil, ↓reduceIte, Option.isSome_some, bz_e0, reduceCtorEq]
            refine hQ _ (some t) ⟨g2, by rw [g1]; exact hde, g3, fun t' q1 q2 q3 => ?_⟩ (fun c k h => by rw [up2_n _ _ (by omega), h2 c k (by omega)]; exact hI c k h) (fun u h => ?_)
            · have := hno t' q1 q2 q3
              by_cases q : t' / 400 = n
              · exact g4 t' q q2 q1
              · omega
            · cases h
              obtain ⟨q1, q2⟩ := h3 t rfl
              rw [g1]
              exact ⟨up2_s _ _ _ _, by rw [up2_n _ _ (by simp)]; exact q1, by rw [up2_n _ _ (by simp)]; exact q2⟩
      · simp (disch := omega) only [i_X5_findAt_0, i_X5_findAt_1, i_X5_findAt_5, i_X5_findAt_6, i_X5_findAt_9, i_X5_findAt_12, i_X5_findAt_13, i_X5_findAt_16, i_X5_findAt_18, i_X5_findAt_19, i_X5_findAt_20, i_X5_findAt_23, i_X5_findAt_24, i_X5_findAt_27, i_X5_findAt_29, i_X5_findAt_30, i_X5_findAt_31, i_X5_findAt_34, i_X5_findAt_35, i_X5_findAt_39, i_X5_findAt_41, i_X5_findAt_43, i_X5_findAt_46, i_X5_findAt_47, i_X5_findAt_48, i_X5_findAt_51, i_X5_findAt_53, i_X5_findAt_54, i_X5_findAt_55, i_X5_findAt_58, i_X5_findAt_60, i_X5_findAt_61, i_X5_findAt_63, i_X5_findAt_65, i_X5_findAt_68, i_X5_findAt_71, i_X5_findAt_72, i_X5_findAt_74, i_X5_findAt_77, i_X5_findAt_78, i_X5_findAt_78b, i_X5_findAt_78c, i_X5_findAt_79, i_X5_findAt_82, i_X5_findAt_38, i_X5_findAt_85, i_X5_findAt_86, i_X5_findAt_86b, i_X5_findAt_86c, i_X5_findAt_0_e, Option.toList_some, Option.toList_none, List.cons_append, List.nil_append, List.append_nil, ↓reduceIte, q_lt, q_eq, hsz, hn2, f5, hde, n0_e0, nI_add]
        refine ih (n + 1) (by omega) I1 hI (fun t h1 h2 h3 => ?_) _
        have := hno t h1 h2 h3
        by_cases q : t / 400 = n
        · rw [q] at h3; exact absurd h3 hde
        · omega
  simp only [i_X5_findAt_0, i_X5_findAt_1, i_X5_findAt_5, i_X5_findAt_6, i_X5_findAt_9, i_X5_findAt_12, i_X5_findAt_13, i_X5_findAt_16, i_X5_findAt_18, i_X5_findAt_19, i_X5_findAt_20, i_X5_findAt_23, i_X5_findAt_24, i_X5_findAt_27, i_X5_findAt_29, i_X5_findAt_30, i_X5_findAt_31, i_X5_findAt_34, i_X5_findAt_35, i_X5_findAt_39, i_X5_findAt_41, i_X5_findAt_43, i_X5_findAt_46, i_X5_findAt_47, i_X5_findAt_48, i_X5_findAt_51, i_X5_findAt_53, i_X5_findAt_54, i_X5_findAt_55, i_X5_findAt_58, i_X5_findAt_60, i_X5_findAt_61, i_X5_findAt_63, i_X5_findAt_65, i_X5_findAt_68, i_X5_findAt_71, i_X5_findAt_72, i_X5_findAt_74, i_X5_findAt_77, i_X5_findAt_78, i_X5_findAt_78b, i_X5_findAt_78c, i_X5_findAt_79, i_X5_findAt_82, i_X5_findAt_38, i_X5_findAt_85, i_X5_findAt_86, i_X5_findAt_86b, i_X5_findAt_86c, i_X5_findAt_0_e, Option.toList_some, Option.toList_none, List.cons_append, List.nil_append, List.append_nil, ↓reduceIte]
  exact key (T 10 0) 0 (by omega) I (fun _ _ _ => rfl) (fun _ _ _ _ => Nat.zero_le _) _
theorem t_findW (hP : RelTP I A 1 T) (hF : RelF A E 37 T) (hT : okT T) {a b : Nat} (ha : 1 ≤ a ∧ a ≤ 4000000) (hb : 1 ≤ b ∧ b ≤ 9999) (hQ : ∀ I' o, WW T a b o → (∀ c k, c ≠ 138 → I' c k = I c k) → (∀ t, o = some t → I' 138 0 = nI (mm t) ∧ I' 138 1 = nI (t / 400) ∧ I' 138 2 = cv (t / 20 % 20) ∧ I' 138 3 = cv (t % 20)) → Q (some (.int (bz o.isSome))) (pm_w I' A E J B)) : pm_call X (d + 4) mX5_find [.ref 138, .ref 1, .ref 37, .long (lN a), .long (lN b)] (pm_w I A E J B) Q := by
  have key : ∀ r m, m + r = 3 → ∀ I1 : Nat → Nat → Int32, (∀ c k, c ≠ 138 → I1 c k = I c k) → (∀ t, vl T a b t = true → m ≤ mm t) → ∀ v8, pm_wp X (d + 4) mX5_find 3 [.ref 138, .ref 1, .ref 37, .long (lN a), pm_U, .long (lN b), pm_U, .int (nI m), v8] [] (pm_w I1 A E J B) Q := by
    intro r
    induction r with
    | zero =>
      intro m hm I1 hI hno v8
      have : m = 3 := by omega
      subst this
      rw [i_X5_find_3]
      simp (disch := omega) only [i_X5_find_0, i_X5_find_1, i_X5_find_5, i_X5_find_6, i_X5_find_9, i_X5_find_10, i_X5_find_12, i_X5_find_15, i_X5_find_16, i_X5_find_20, i_X5_find_22, i_X5_find_23, i_X5_find_25, i_X5_find_28, i_X5_find_29, i_X5_find_30, i_X5_find_31, i_X5_find_33, i_X5_find_34, i_X5_find_36, i_X5_find_39, i_X5_find_42, i_X5_find_43, i_X5_find_43b, i_X5_find_43c, i_X5_find_44, i_X5_find_47, i_X5_find_50, i_X5_find_53, i_X5_find_56, i_X5_find_57, i_X5_find_57b, i_X5_find_57c, i_X5_find_0_e, Option.toList_some, Option.toList_none, List.cons_append, List.nil_append, List.append_nil, ↓reduceIte, q_lt, show (2 < 3) = True from by decide]
      refine hQ I1 none (fun t => ?_) hI (fun t h => by cases h)
      cases hv : vl T a b t with
      | false => rfl
      | true => have := hno t hv; have := mm_le t; omega
    | succ r ih =>
      intro m hm I1 hI hno v8
      have hm2 : ¬ 2 < m := by omega
      have inner : ∀ q e, e + q = 7 - m → ∀ I2 : Nat → Nat → Int32, (∀ c k, c ≠ 138 → I2 c k = I c k) → I2 138 0 = nI m → (∀ t, vl T a b t = true → mm t = m → e ≤ dep T (t / 400)) → pm_wp X (d + 4) mX5_find 18 [.ref 138, .ref 1, .ref 37, .long (lN a), pm_U, .long (lN b), pm_U, .int (nI m), .int (nI e)] [] (pm_w I2 A E J B) Q := by
        intro q
        induction q with
        | zero =>
          intro e he I2 hI2 h0 hno2
          have h6 : 6 < e + m := by omega
          rw [i_X5_find_18]
          simp (disch := omega) only [i_X5_find_0, i_X5_find_1, i_X5_find_5, i_X5_find_6, i_X5_find_9, i_X5_find_10, i_X5_find_12, i_X5_find_15, i_X5_find_16, i_X5_find_20, i_X5_find_22, i_X5_find_23, i_X5_find_25, i_X5_find_28, i_X5_find_29, i_X5_find_30, i_X5_find_31, i_X5_find_33, i_X5_find_34, i_X5_find_36, i_X5_find_39, i_X5_find_42, i_X5_find_43, i_X5_find_43b, i_X5_find_43c, i_X5_find_44, i_X5_find_47, i_X5_find_50, i_X5_find_53, i_X5_find_56, i_X5_find_57, i_X5_find_57b, i_X5_find_57c, i_X5_find_0_e, Option.toList_some, Option.toList_none, List.cons_append, List.nil_append, List.append_nil, ↓reduceIte, nI_add, q_lt, h6]
          refine ih (m + 1) (by omega) I2 hI2 (fun t hv => ?_) _
          have h1 := hno t hv
          have h2 := vl_dep hT hv
          by_cases h3 : mm t = m
          · have := hno2 t hv h3; omega
          · omega
        | succ q ihq =>
          intro e he I2 hI2 h0 hno2
          have h6 : ¬ 6 < e + m := by omega
          rw [i_X5_find_18]
          simp (disch := omega) only [i_X5_find_0, i_X5_find_1, i_X5_find_5, i_X5_find_6, i_X5_find_9, i_X5_find_10, i_X5_find_12, i_X5_find_15, i_X5_find_16, i_X5_find_20, i_X5_find_22, i_X5_find_23, i_X5_find_25, i_X5_find_28, i_X5_find_29, i_X5_find_30, i_X5_find_31, i_X5_find_33, i_X5_find_34, i_X5_find_36, i_X5_find_39, i_X5_find_42, i_X5_find_43, i_X5_find_43b, i_X5_find_43c, i_X5_find_44, i_X5_find_47, i_X5_find_50, i_X5_find_53, i_X5_find_56, i_X5_find_57, i_X5_find_57b, i_X5_find_57c, i_X5_find_0_e, Option.toList_some, Option.toList_none, List.cons_append, List.nil_append, List.append_nil, ↓reduceIte, nI_add, q_lt, h6]
          refine t_findAt (hP.fr ⟨hI2 1 11 (by decide), hI2 1 12 (by decide)⟩ (fun _ _ _ => rfl)) hF hT (by omega) (by omega) ha hb h0 (fun I3 o g1 g2 g3 => ?_)
          cases o with
          | none =>
            simp (disch := omega) only [i_X5_find_0, i_X5_find_1, i_X5_find_5, i_X5_find_6, i_X5_find_9, i_X5_find_10, i_X5_find_12, i_X5_find_15, i_X5_find_16, i_X5_find_20, i_X5_find_22, i_X5_find_23, i_X5_find_25, i_X5_find_28, i_X5_find_29, i_X5_find_30, i_X5_find_31, i_X5_find_33, i_X5_find_34, i_X5_find_36, i_X5_find_39, i_X5_find_42, i_X5_find_43, i_X5_find_43b, i_X5_find_43c, i_X5_find_44, i_X5_find_47, i_X5_find_50, i_X5_find_53, i_X5_find_56, i_X5_find_57, i_X5_find_57b, i_X5_find_57c, i_X5_find_0_e, Option.toList_some, Option.toList_none, List.cons_append, List.nil_append, List.append_nil, ↓reduceIte, Option.isSome_none, bz_e0, nI_add]
            refine ihq (e + 1) (by omega) I3 (fun c k h => by rw [g2 c k (by omega)]; exact hI2 c k h) (by rw [g2 138 0 (by omega)]; exact h0) (fun t hv h3 => ?_)
            have h1 := hno2 t hv h3
            have h2 := g1 t hv h3
            omega
          | some t =>
            simp (disch := omega) only [i_X5_find_0, i_X5_find_1, i_X5_find_5, i_X5_find_6, i_X5_find_9, i_X5_find_10, i_X5_find_12, i_X5_find_15, i_X5_find_16, i_X5_find_20, i_X5_find_22, i_X5_find_23, i_X5_find_25, i_X5_find_28, i_X5_find_29, i_X5_find_30, i_X5_find_31, i_X5_find_33, i_X5_find_34, i_X5_find_36, i_X5_find_39, i_X5_find_42, i_X5_find_43, i_X5_find_43b, i_X5_find_43c, i_X5_find_44, i_X5_find_47, i_X5_find_50, i_X5_find_53, i_X5_find_56, i_X5_find_57, i_X5_find_57b, i_X5_find_57c, i_X5_find_0_e, Option.toList_some, Option.toList_none, List.cons_append, List.nil_append, List.append_nil, ↓reduceIte, Option.isSome_some, bz_e0, reduceCtorEq]
            obtain ⟨k1, k2, k3, k4⟩ := g1
            refine hQ I3 (some t) ⟨k3, fun t' hv => ?_⟩ (fun c k h => by rw [g2 c k (by omega)]; exact hI2 c k h) (fun u h => ?_)
            · have h1 := hno t' hv
              have h2 := hno2 t' hv
              have h3 := (vl_lt hv).1
              have h4 := (vl_lt k3).1
              have h5 := hT.wf.2.1
              have h6 := hT.dep h3
              have h7 := k4 t' hv
              unfold ky
              by_cases e1 : mm t' = m
              · by_cases e2 : dep T (t' / 400) = e
                · have := h7 e1 e2; omega
                · have := h2 e1; omega
              · omega
            · cases h
              obtain ⟨q1, q2, q3⟩ := g3 t rfl
              exact ⟨by rw [k1, g2 138 0 (by omega)]; exact h0, q1, q2, q3⟩
      rw [i_X5_find_3]
      simp (disch := omega) only [i_X5_find_0, i_X5_find_1, i_X5_find_5, i_X5_find_6, i_X5_find_9, i_X5_find_10, i_X5_find_12, i_X5_find_15, i_X5_find_16, i_X5_find_20, i_X5_find_22, i_X5_find_23, i_X5_find_25, i_X5_find_28, i_X5_find_29, i_X5_find_30, i_X5_find_31, i_X5_find_33, i_X5_find_34, i_X5_find_36, i_X5_find_39, i_X5_find_42, i_X5_find_43, i_X5_find_43b, i_X5_find_43c, i_X5_find_44, i_X5_find_47, i_X5_find_50, i_X5_find_53, i_X5_find_56, i_X5_find_57, i_X5_find_57b, i_X5_find_57c, i_X5_find_0_e, Option.toList_some, Option.toList_none, List.cons_append, List.nil_append, List.append_nil, ↓reduceIte, q_lt, hm2]
      exact inner (7 - m) 0 (by omega) _ (fun c k h => by rw [up2_na _ _ h]; exact hI c k h) (up2_s _ _ _ _) (fun _ _ _ => Nat.zero_le _)
  simp only [i_X5_find_0, i_X5_find_1, i_X5_find_5, i_X5_find_6, i_X5_find_9, i_X5_find_10, i_X5_find_12, i_X5_find_15, i_X5_find_16, i_X5_find_20, i_X5_find_22, i_X5_find_23, i_X5_find_25, i_X5_find_28, i_X5_find_29, i_X5_find_30, i_X5_find_31, i_X5_find_33, i_X5_find_34, i_X5_find_36, i_X5_find_39, i_X5_find_42, i_X5_find_43, i_X5_find_43b, i_X5_find_43c, i_X5_find_44, i_X5_find_47, i_X5_find_50, i_X5_find_53, i_X5_find_56, i_X5_find_57, i_X5_find_57b, i_X5_find_57c, i_X5_find_0_e, Option.toList_some, Option.toList_none, List.cons_append, List.nil_append, List.append_nil, ↓reduceIte]
  exact key 3 0 rfl I (fun _ _ _ => rfl) (fun _ _ => Nat.zero_le _) _
theorem RelP.fr3 {I' : Nat → Nat → Int32} (h : RelP I A E S) (hI : ∀ c k, c ≠ 138 → I' c k = I c k) : RelP I' A E S :=
  ⟨h.1.fr ⟨hI _ _ (by decide), hI _ _ (by decide)⟩ (fun _ _ _ => rfl), h.2.1, h.2.2.1.fr (fun c k a b => hI c k (by omega)) (fun _ _ _ => rfl), h.2.2.2.1.fr (fun k => hI _ _ (by decide)) (fun k => hI _ _ (by decide)) (fun _ _ _ => rfl), h.2.2.2.2.1.fr (hI _ _ (by decide)) rfl, by rw [hI _ _ (by decide)]; exact h.2.2.2.2.2⟩
theorem p_way (hM : RelP I A E S) (hS : OkS S) {x y w : Int32} (hQ : ∀ I', RelP I' A E S → Q (some (.int (o_way S.1 x y w))) (pm_w I' A E J B)) : pm_call X (d + 5) mX6_way [.ref 0, .int x, .int y, .int w] (pm_w I A E J B) Q := by
  have hT := hS.1.1
  unfold o_way at hQ
  by_cases w1 : w < 0
  · rw [inR_neg w1] at hQ
    simp (disch := omega) only [i_X6_way_0, i_X6_way_1, i_X6_way_4, i_X6_way_5, i_X6_way_6, i_X6_way_11, i_X6_way_12, i_X6_way_13, i_X6_way_16, i_X6_way_17, i_X6_way_20, i_X6_way_23, i_X6_way_24, i_X6_way_25, i_X6_way_28, i_X6_way_29, i_X6_way_32, i_X6_way_38, i_X6_way_39, i_X6_way_42, i_X6_way_43, i_X6_way_46, i_X6_way_47, i_X6_way_50, i_X6_way_51, i_X6_way_52, i_X6_way_53, i_X6_way_54, i_X6_way_57, i_X6_way_60, i_X6_way_62, i_X6_way_63, i_X6_way_64_v0, i_X6_way_64_v1, i_X6_way_64_v2, i_X6_way_64_o, i_X6_way_116, i_X6_way_117, i_X6_way_120, i_X6_way_123, i_X6_way_108, i_X6_way_109, i_X6_way_112, i_X6_way_115, i_X6_way_100, i_X6_way_101, i_X6_way_104, i_X6_way_107, i_X6_way_92, i_X6_way_93, i_X6_way_96, i_X6_way_99, i_X6_way_35, i_X6_way_37, i_X6_way_9, i_X6_way_10, i_X6_way_0_e, Option.toList_some, Option.toList_none, List.cons_append, List.nil_append, List.append_nil, ↓reduceIte, w1]
    exact hQ I hM
  · by_cases w2 : nI 3 < w
    · rw [inR_hi (by decide) w2] at hQ
      simp (disch := omega) only [i_X6_way_0, i_X6_way_1, i_X6_way_4, i_X6_way_5, i_X6_way_6, i_X6_way_11, i_X6_way_12, i_X6_way_13, i_X6_way_16, i_X6_way_17, i_X6_way_20, i_X6_way_23, i_X6_way_24, i_X6_way_25, i_X6_way_28, i_X6_way_29, i_X6_way_32, i_X6_way_38, i_X6_way_39, i_X6_way_42, i_X6_way_43, i_X6_way_46, i_X6_way_47, i_X6_way_50, i_X6_way_51, i_X6_way_52, i_X6_way_53, i_X6_way_54, i_X6_way_57, i_X6_way_60, i_X6_way_62, i_X6_way_63, i_X6_way_64_v0, i_X6_way_64_v1, i_X6_way_64_v2, i_X6_way_64_o, i_X6_way_116, i_X6_way_117, i_X6_way_120, i_X6_way_123, i_X6_way_108, i_X6_way_109, i_X6_way_112, i_X6_way_115, i_X6_way_100, i_X6_way_101, i_X6_way_104, i_X6_way_107, i_X6_way_92, i_X6_way_93, i_X6_way_96, i_X6_way_99, i_X6_way_35, i_X6_way_37, i_X6_way_9, i_X6_way_10, i_X6_way_0_e, Option.toList_some, Option.toList_none, List.cons_append, List.nil_append, List.append_nil, ↓reduceIte, w1, w2]
      exact hQ I hM
    · have hw := inR_mid0 (hi := 3) (by decide) w1 w2
      rw [hw] at hQ
      by_cases x1 : x < nI 1
      · rw [inR_lo (by decide) x1] at hQ
        simp (disch := omega) only [i_X6_way_0, i_X6_way_1, i_X6_way_4, i_X6_way_5, i_X6_way_6, i_X6_way_11, i_X6_way_12, i_X6_way_13, i_X6_way_16, i_X6_way_17, i_X6_way_20, i_X6_way_23, i_X6_way_24, i_X6_way_25, i_X6_way_28, i_X6_way_29, i_X6_way_32, i_X6_way_38, i_X6_way_39, i_X6_way_42, i_X6_way_43, i_X6_way_46, i_X6_way_47, i_X6_way_50, i_X6_way_51, i_X6_way_52, i_X6_way_53, i_X6_way_54, i_X6_way_57, i_X6_way_60, i_X6_way_62, i_X6_way_63, i_X6_way_64_v0, i_X6_way_64_v1, i_X6_way_64_v2, i_X6_way_64_o, i_X6_way_116, i_X6_way_117, i_X6_way_120, i_X6_way_123, i_X6_way_108, i_X6_way_109, i_X6_way_112, i_X6_way_115, i_X6_way_100, i_X6_way_101, i_X6_way_104, i_X6_way_107, i_X6_way_92, i_X6_way_93, i_X6_way_96, i_X6_way_99, i_X6_way_35, i_X6_way_37, i_X6_way_9, i_X6_way_10, i_X6_way_0_e, Option.toList_some, Option.toList_none, List.cons_append, List.nil_append, List.append_nil, ↓reduceIte, w1, w2, x1]
        exact hQ I hM
      · by_cases x2 : nI 4000000 < x
        · rw [inR_hi (by decide) x2] at hQ
          simp (disch := omega) only [i_X6_way_0, i_X6_way_1, i_X6_way_4, i_X6_way_5, i_X6_way_6, i_X6_way_11, i_X6_way_12, i_X6_way_13, i_X6_way_16, i_X6_way_17, i_X6_way_20, i_X6_way_23, i_X6_way_24, i_X6_way_25, i_X6_way_28, i_X6_way_29, i_X6_way_32, i_X6_way_38, i_X6_way_39, i_X6_way_42, i_X6_way_43, i_X6_way_46, i_X6_way_47, i_X6_way_50, i_X6_way_51, i_X6_way_52, i_X6_way_53, i_X6_way_54, i_X6_way_57, i_X6_way_60, i_X6_way_62, i_X6_way_63, i_X6_way_64_v0, i_X6_way_64_v1, i_X6_way_64_v2, i_X6_way_64_o, i_X6_way_116, i_X6_way_117, i_X6_way_120, i_X6_way_123, i_X6_way_108, i_X6_way_109, i_X6_way_112, i_X6_way_115, i_X6_way_100, i_X6_way_101, i_X6_way_104, i_X6_way_107, i_X6_way_92, i_X6_way_93, i_X6_way_96, i_X6_way_99, i_X6_way_35, i_X6_way_37, i_X6_way_9, i_X6_way_10, i_X6_way_0_e, Option.toList_some, Option.toList_none, List.cons_append, List.nil_append, List.append_nil, ↓reduceIte, w1, w2, x1, x2]
          exact hQ I hM
        · have hx := inR_mid (lo := 1) (hi := 4000000) (by decide) (by decide) x1 x2
          rw [hx] at hQ
          by_cases y1 : y < nI 1
          · rw [inR_lo (by decide) y1] at hQ
            simp (disch := omega) only [i_X6_way_0, i_X6_way_1, i_X6_way_4, i_X6_way_5, i_X6_way_6, i_X6_way_11, i_X6_way_12, i_X6_way_13, i_X6_way_16, i_X6_way_17, i_X6_way_20, i_X6_way_23, i_X6_way_24, i_X6_way_25, i_X6_way_28, i_X6_way_29, i_X6_way_32, i_X6_way_38, i_X6_way_39, i_X6_way_42, i_X6_way_43, i_X6_way_46, i_X6_way_47, i_X6_way_50, i_X6_way_51, i_X6_way_52, i_X6_way_53, i_X6_way_54, i_X6_way_57, i_X6_way_60, i_X6_way_62, i_X6_way_63, i_X6_way_64_v0, i_X6_way_64_v1, i_X6_way_64_v2, i_X6_way_64_o, i_X6_way_116, i_X6_way_117, i_X6_way_120, i_X6_way_123, i_X6_way_108, i_X6_way_109, i_X6_way_112, i_X6_way_115, i_X6_way_100, i_X6_way_101, i_X6_way_104, i_X6_way_107, i_X6_way_92, i_X6_way_93, i_X6_way_96, i_X6_way_99, i_X6_way_35, i_X6_way_37, i_X6_way_9, i_X6_way_10, i_X6_way_0_e, Option.toList_some, Option.toList_none, List.cons_append, List.nil_append, List.append_nil, ↓reduceIte, w1, w2, x1, x2, y1]
            exact hQ I hM
          · by_cases y2 : nI 9999 < y
            · rw [inR_hi (by decide) y2] at hQ
              simp (disch := omega) only [i_X6_way_0, i_X6_way_1, i_X6_way_4, i_X6_way_5, i_X6_way_6, i_X6_way_11, i_X6_way_12, i_X6_way_13, i_X6_way_16, i_X6_way_17, i_X6_way_20, i_X6_way_23, i_X6_way_24, i_X6_way_25, i_X6_way_28, i_X6_way_29, i_X6_way_32, i_X6_way_38, i_X6_way_39, i_X6_way_42, i_X6_way_43, i_X6_way_46, i_X6_way_47, i_X6_way_50, i_X6_way_51, i_X6_way_52, i_X6_way_53, i_X6_way_54, i_X6_way_57, i_X6_way_60, i_X6_way_62, i_X6_way_63, i_X6_way_64_v0, i_X6_way_64_v1, i_X6_way_64_v2, i_X6_way_64_o, i_X6_way_116, i_X6_way_117, i_X6_way_120, i_X6_way_123, i_X6_way_108, i_X6_way_109, i_X6_way_112, i_X6_way_115, i_X6_way_100, i_X6_way_101, i_X6_way_104, i_X6_way_107, i_X6_way_92, i_X6_way_93, i_X6_way_96, i_X6_way_99, i_X6_way_35, i_X6_way_37, i_X6_way_9, i_X6_way_10, i_X6_way_0_e, Option.toList_some, Option.toList_none, List.cons_append, List.nil_append, List.append_nil, ↓reduceIte, w1, w2, x1, x2, y1, y2]
              exact hQ I hM
            · have hy := inR_mid (lo := 1) (hi := 9999) (by decide) (by decide) y1 y2
              rw [hy] at hQ
              obtain ⟨a, a1, a2, rfl⟩ := inR_t (by decide) hx
              obtain ⟨b, b1, b2, rfl⟩ := inR_t (by decide) hy
              obtain ⟨v, _, v2, rfl⟩ := inR_t (by decide) hw
              rw [xN_n (k := a) (by omega), xN_n (k := b) (by omega), xN_n (k := v) (by omega)] at hQ
              simp (disch := omega) only [i_X6_way_0, i_X6_way_1, i_X6_way_4, i_X6_way_5, i_X6_way_6, i_X6_way_11, i_X6_way_12, i_X6_way_13, i_X6_way_16, i_X6_way_17, i_X6_way_20, i_X6_way_23, i_X6_way_24, i_X6_way_25, i_X6_way_28, i_X6_way_29, i_X6_way_32, i_X6_way_38, i_X6_way_39, i_X6_way_42, i_X6_way_43, i_X6_way_46, i_X6_way_47, i_X6_way_50, i_X6_way_51, i_X6_way_52, i_X6_way_53, i_X6_way_54, i_X6_way_57, i_X6_way_60, i_X6_way_62, i_X6_way_64_v0, i_X6_way_64_v1, i_X6_way_64_v2, i_X6_way_64_o, i_X6_way_116, i_X6_way_117, i_X6_way_120, i_X6_way_123, i_X6_way_108, i_X6_way_109, i_X6_way_112, i_X6_way_115, i_X6_way_100, i_X6_way_101, i_X6_way_104, i_X6_way_107, i_X6_way_92, i_X6_way_93, i_X6_way_96, i_X6_way_99, i_X6_way_35, i_X6_way_37, i_X6_way_9, i_X6_way_10, i_X6_way_0_e, Option.toList_some, Option.toList_none, List.cons_append, List.nil_append, List.append_nil, ↓reduceIte, w1, w2, x1, x2, y1, y2, l_of]
              refine t_findW hM.1 hM.2.1 hT ⟨a1, a2⟩ ⟨b1, b2⟩ (fun I1 o g1 g2 g3 => ?_)
              have hM1 := hM.fr3 g2
              have ho := WW_bw hT g1
              rw [← ho] at hQ
              cases o with
              | none =>
                simp (disch := omega) only [i_X6_way_0, i_X6_way_1, i_X6_way_4, i_X6_way_5, i_X6_way_6, i_X6_way_11, i_X6_way_12, i_X6_way_13, i_X6_way_16, i_X6_way_17, i_X6_way_20, i_X6_way_23, i_X6_way_24, i_X6_way_25, i_X6_way_28, i_X6_way_29, i_X6_way_32, i_X6_way_38, i_X6_way_39, i_X6_way_42, i_X6_way_43, i_X6_way_46, i_X6_way_47, i_X6_way_50, i_X6_way_51, i_X6_way_52, i_X6_way_53, i_X6_way_54, i_X6_way_57, i_X6_way_60, i_X6_way_62, i_X6_way_64_v0, i_X6_way_64_v1, i_X6_way_64_v2, i_X6_way_64_o, i_X6_way_116, i_X6_way_117, i_X6_way_120, i_X6_way_123, i_X6_way_108, i_X6_way_109, i_X6_way_112, i_X6_way_115, i_X6_way_100, i_X6_way_101, i_X6_way_104, i_X6_way_107, i_X6_way_92, i_X6_way_93, i_X6_way_96, i_X6_way_99, i_X6_way_35, i_X6_way_37, i_X6_way_9, i_X6_way_10, i_X6_way_0_e, Option.toList_some, Option.toList_none, List.cons_append, List.nil_append, List.append_nil, ↓reduceIte, Option.isSome_none, bz_e0]
                exact hQ I1 hM1
              | some t =>
                obtain ⟨q0, q1, q2, q3⟩ := g3 t rfl
                simp (disch := omega) only [i_X6_way_0, i_X6_way_1, i_X6_way_4, i_X6_way_5, i_X6_way_6, i_X6_way_11, i_X6_way_12, i_X6_way_13, i_X6_way_16, i_X6_way_17, i_X6_way_20, i_X6_way_23, i_X6_way_24, i_X6_way_25, i_X6_way_28, i_X6_way_29, i_X6_way_32, i_X6_way_38, i_X6_way_39, i_X6_way_42, i_X6_way_43, i_X6_way_46, i_X6_way_47, i_X6_way_50, i_X6_way_51, i_X6_way_52, i_X6_way_53, i_X6_way_54, i_X6_way_57, i_X6_way_60, i_X6_way_62, i_X6_way_64_v0, i_X6_way_64_v1, i_X6_way_64_v2, i_X6_way_64_o, i_X6_way_116, i_X6_way_117, i_X6_way_120, i_X6_way_123, i_X6_way_108, i_X6_way_109, i_X6_way_112, i_X6_way_115, i_X6_way_100, i_X6_way_101, i_X6_way_104, i_X6_way_107, i_X6_way_92, i_X6_way_93, i_X6_way_96, i_X6_way_99, i_X6_way_35, i_X6_way_37, i_X6_way_9, i_X6_way_10, i_X6_way_0_e, Option.toList_some, Option.toList_none, List.cons_append, List.nil_append, List.append_nil, ↓reduceIte, Option.isSome_some, bz_e0, reduceCtorEq]
                match v, v2 with
                | 0, _ => simp (disch := omega) only [i_X6_way_0, i_X6_way_1, i_X6_way_4, i_X6_way_5, i_X6_way_6, i_X6_way_11, i_X6_way_12, i_X6_way_13, i_X6_way_16, i_X6_way_17, i_X6_way_20, i_X6_way_23, i_X6_way_24, i_X6_way_25, i_X6_way_28, i_X6_way_29, i_X6_way_32, i_X6_way_38, i_X6_way_39, i_X6_way_42, i_X6_way_43, i_X6_way_46, i_X6_way_47, i_X6_way_50, i_X6_way_51, i_X6_way_52, i_X6_way_53, i_X6_way_54, i_X6_way_57, i_X6_way_60, i_X6_way_62, i_X6_way_63, i_X6_way_64_v0, i_X6_way_64_v1, i_X6_way_64_v2, i_X6_way_64_o, i_X6_way_116, i_X6_way_117, i_X6_way_120, i_X6_way_123, i_X6_way_108, i_X6_way_109, i_X6_way_112, i_X6_way_115, i_X6_way_100, i_X6_way_101, i_X6_way_104, i_X6_way_107, i_X6_way_92, i_X6_way_93, i_X6_way_96, i_X6_way_99, i_X6_way_35, i_X6_way_37, i_X6_way_9, i_X6_way_10, i_X6_way_0_e, Option.toList_some, Option.toList_none, List.cons_append, List.nil_append, List.append_nil, ↓reduceIte, q0]; exact hQ I1 hM1
                | 1, _ => simp (disch := omega) only [i_X6_way_0, i_X6_way_1, i_X6_way_4, i_X6_way_5, i_X6_way_6, i_X6_way_11, i_X6_way_12, i_X6_way_13, i_X6_way_16, i_X6_way_17, i_X6_way_20, i_X6_way_23, i_X6_way_24, i_X6_way_25, i_X6_way_28, i_X6_way_29, i_X6_way_32, i_X6_way_38, i_X6_way_39, i_X6_way_42, i_X6_way_43, i_X6_way_46, i_X6_way_47, i_X6_way_50, i_X6_way_51, i_X6_way_52, i_X6_way_53, i_X6_way_54, i_X6_way_57, i_X6_way_60, i_X6_way_62, i_X6_way_63, i_X6_way_64_v0, i_X6_way_64_v1, i_X6_way_64_v2, i_X6_way_64_o, i_X6_way_116, i_X6_way_117, i_X6_way_120, i_X6_way_123, i_X6_way_108, i_X6_way_109, i_X6_way_112, i_X6_way_115, i_X6_way_100, i_X6_way_101, i_X6_way_104, i_X6_way_107, i_X6_way_92, i_X6_way_93, i_X6_way_96, i_X6_way_99, i_X6_way_35, i_X6_way_37, i_X6_way_9, i_X6_way_10, i_X6_way_0_e, Option.toList_some, Option.toList_none, List.cons_append, List.nil_append, List.append_nil, ↓reduceIte, q1]; exact hQ I1 hM1
                | 2, _ => simp (disch := omega) only [i_X6_way_0, i_X6_way_1, i_X6_way_4, i_X6_way_5, i_X6_way_6, i_X6_way_11, i_X6_way_12, i_X6_way_13, i_X6_way_16, i_X6_way_17, i_X6_way_20, i_X6_way_23, i_X6_way_24, i_X6_way_25, i_X6_way_28, i_X6_way_29, i_X6_way_32, i_X6_way_38, i_X6_way_39, i_X6_way_42, i_X6_way_43, i_X6_way_46, i_X6_way_47, i_X6_way_50, i_X6_way_51, i_X6_way_52, i_X6_way_53, i_X6_way_54, i_X6_way_57, i_X6_way_60, i_X6_way_62, i_X6_way_63, i_X6_way_64_v0, i_X6_way_64_v1, i_X6_way_64_v2, i_X6_way_64_o, i_X6_way_116, i_X6_way_117, i_X6_way_120, i_X6_way_123, i_X6_way_108, i_X6_way_109, i_X6_way_112, i_X6_way_115, i_X6_way_100, i_X6_way_101, i_X6_way_104, i_X6_way_107, i_X6_way_92, i_X6_way_93, i_X6_way_96, i_X6_way_99, i_X6_way_35, i_X6_way_37, i_X6_way_9, i_X6_way_10, i_X6_way_0_e, Option.toList_some, Option.toList_none, List.cons_append, List.nil_append, List.append_nil, ↓reduceIte, q2]; exact hQ I1 hM1
                | 3, _ =>
                  simp (disch := omega) only [i_X6_way_63, i_X6_way_64_o (x := nI 3) (Or.inr (by rw [nI_toInt (by decide)]; decide))]
                  simp (disch := omega) only [i_X6_way_0, i_X6_way_1, i_X6_way_4, i_X6_way_5, i_X6_way_6, i_X6_way_11, i_X6_way_12, i_X6_way_13, i_X6_way_16, i_X6_way_17, i_X6_way_20, i_X6_way_23, i_X6_way_24, i_X6_way_25, i_X6_way_28, i_X6_way_29, i_X6_way_32, i_X6_way_38, i_X6_way_39, i_X6_way_42, i_X6_way_43, i_X6_way_46, i_X6_way_47, i_X6_way_50, i_X6_way_51, i_X6_way_52, i_X6_way_53, i_X6_way_54, i_X6_way_57, i_X6_way_60, i_X6_way_62, i_X6_way_63, i_X6_way_64_v0, i_X6_way_64_v1, i_X6_way_64_v2, i_X6_way_64_o, i_X6_way_116, i_X6_way_117, i_X6_way_120, i_X6_way_123, i_X6_way_108, i_X6_way_109, i_X6_way_112, i_X6_way_115, i_X6_way_100, i_X6_way_101, i_X6_way_104, i_X6_way_107, i_X6_way_92, i_X6_way_93, i_X6_way_96, i_X6_way_99, i_X6_way_35, i_X6_way_37, i_X6_way_9, i_X6_way_10, i_X6_way_0_e, Option.toList_some, Option.toList_none, List.cons_append, List.nil_append, List.append_nil, ↓reduceIte, q3]
                  exact hQ I1 hM1
end WAQ
