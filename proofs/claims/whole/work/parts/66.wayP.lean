/-! the class looks for a way -/
def RR (T : Tr) (a b m n : Nat) (o : Option Nat) : Prop := match o with
  | none => ∀ t, t / 400 = n → mm t = m → vl T a b t = false
  | some t => t / 400 = n ∧ mm t = m ∧ vl T a b t = true ∧ ∀ t', t' / 400 = n → mm t' = m → vl T a b t' = true → t ≤ t'
def FF (T : Tr) (a b m e : Nat) (o : Option Nat) : Prop := match o with
  | none => ∀ t, vl T a b t = true → mm t = m → dep T (t / 400) ≠ e
  | some t => mm t = m ∧ dep T (t / 400) = e ∧ vl T a b t = true ∧ ∀ t', vl T a b t' = true → mm t' = m → dep T (t' / 400) = e → t ≤ t'
theorem vl_x {T : Tr} {a b t : Nat} (h : vl T a b t = true) : (t / 20 % 20 = 0 ∧ t % 20 = 0 ∧ nm T (t / 400) * b = a * dn T (t / 400)) ∨ (t / 20 % 20 ≠ 0 ∧ gd1 T (t / 400) (t / 20 % 20) = true ∧ ((t % 20 = 0 ∧ aB (nm T (t / 400)) (t / 20 % 20) * b = a * bB (dn T (t / 400)) (t / 20 % 20)) ∨ (t % 20 ≠ 0 ∧ gd2 T a b (t / 400) (t / 20 % 20) (t % 20) = true))) := by
  unfold vl vlx at h
  simp only [Bool.and_eq_true] at h
  have h2 := h.2
  by_cases f0 : t / 20 % 20 = 0
  · rw [if_pos f0] at h2
    simp only [Bool.and_eq_true, decide_eq_true_eq] at h2
    exact Or.inl ⟨f0, h2.1, h2.2⟩
  · rw [if_neg f0] at h2
    simp only [Bool.and_eq_true] at h2
    right
    refine ⟨f0, h2.1, ?_⟩
    have h3 := h2.2
    by_cases s0 : t % 20 = 0
    · rw [if_pos s0] at h3
      simp only [decide_eq_true_eq] at h3
      exact Or.inl ⟨s0, h3⟩
    · rw [if_neg s0] at h3
      exact Or.inr ⟨s0, h3⟩
theorem mm_0 {t : Nat} : mm t = 0 ↔ t / 20 % 20 = 0 := by unfold mm; split <;> (try split) <;> omega
theorem mm_1 {t : Nat} : mm t = 1 ↔ t / 20 % 20 ≠ 0 ∧ t % 20 = 0 := by unfold mm; split <;> (try split) <;> omega
theorem mm_2 {t : Nat} : mm t = 2 ↔ t / 20 % 20 ≠ 0 ∧ t % 20 ≠ 0 := by unfold mm; split <;> (try split) <;> omega
section WAP
variable {X : pm_X} {d : Nat} {G : pm_H} {Q : Option Value → pm_H → Prop} {I A : Nat → Nat → Int32} {E : Nat → Nat → Int64} {J : Nat → Int32} {B : Nat → Nat → Int32} {T T' : Tr} {S : St}
theorem t_lastStep {x y a b : Nat} (h1 : x * b * 9 < 9223372036854775808) (h2 : a * y * 9 < 9223372036854775808) : pm_call X d mX5_lastStep [.long (lN x), .long (lN y), .long (lN a), .long (lN b)] G Q ↔ Q (some (.int (cv (lsG (x * b) (a * y) 2 8)))) G := by
  have key : ∀ m j, j + m = 10 → 2 ≤ j → (pm_wp X d mX5_lastStep 15 [.long (lN x), pm_U, .long (lN y), pm_U, .long (lN a), pm_U, .long (lN b), pm_U, .long (lN (x * b)), pm_U, .long (lN (a * y)), pm_U, .int (nI j)] [] G Q ↔ Q (some (.int (cv (lsG (x * b) (a * y) j m)))) G) := by
    intro m
    induction m with
    | zero =>
      intro j hj _
      have : j = 10 := by omega
      subst this
      rw [i_X5_lastStep_15]
      simp (disch := omega) only [i_X5_lastStep_0, i_X5_lastStep_1, i_X5_lastStep_3, i_X5_lastStep_4, i_X5_lastStep_6, i_X5_lastStep_8, i_X5_lastStep_9, i_X5_lastStep_10, i_X5_lastStep_12, i_X5_lastStep_13, i_X5_lastStep_17, i_X5_lastStep_19, i_X5_lastStep_22, i_X5_lastStep_24, i_X5_lastStep_26, i_X5_lastStep_28, i_X5_lastStep_29, i_X5_lastStep_30, i_X5_lastStep_31, i_X5_lastStep_34, i_X5_lastStep_36, i_X5_lastStep_37, i_X5_lastStep_39, i_X5_lastStep_41, i_X5_lastStep_42, i_X5_lastStep_43, i_X5_lastStep_45, i_X5_lastStep_46, i_X5_lastStep_49, i_X5_lastStep_51, i_X5_lastStep_53, i_X5_lastStep_54, i_X5_lastStep_55, i_X5_lastStep_58, i_X5_lastStep_61, i_X5_lastStep_63, i_X5_lastStep_0_e, Option.toList_some, Option.toList_none, List.cons_append, List.nil_append, List.append_nil, ↓reduceIte, q_lt, show (9 < 10) = True from by decide, lsG, cv]
    | succ m ih =>
      intro j hj h2j
      have hj9 : ¬ 9 < j := by omega
      have b1 : a * y * j ≤ a * y * 9 := Nat.mul_le_mul_left _ (by omega)
      have b2 : x * b * j ≤ x * b * 9 := Nat.mul_le_mul_left _ (by omega)
      rw [i_X5_lastStep_15]
      unfold lsG
      by_cases c1 : x * b = a * y * j
      · have c1' := eq_true c1
        rw [if_pos c1, cv_n (by omega)]
        simp (disch := omega) only [i_X5_lastStep_0, i_X5_lastStep_1, i_X5_lastStep_3, i_X5_lastStep_4, i_X5_lastStep_6, i_X5_lastStep_8, i_X5_lastStep_9, i_X5_lastStep_10, i_X5_lastStep_12, i_X5_lastStep_13, i_X5_lastStep_17, i_X5_lastStep_19, i_X5_lastStep_22, i_X5_lastStep_24, i_X5_lastStep_26, i_X5_lastStep_28, i_X5_lastStep_29, i_X5_lastStep_30, i_X5_lastStep_31, i_X5_lastStep_34, i_X5_lastStep_36, i_X5_lastStep_37, i_X5_lastStep_39, i_X5_lastStep_41, i_X5_lastStep_42, i_X5_lastStep_43, i_X5_lastStep_45, i_X5_lastStep_46, i_X5_lastStep_49, i_X5_lastStep_51, i_X5_lastStep_53, i_X5_lastStep_54, i_X5_lastStep_55, i_X5_lastStep_58, i_X5_lastStep_61, i_X5_lastStep_63, i_X5_lastStep_0_e, Option.toList_some, Option.toList_none, List.cons_append, List.nil_append, List.append_nil, ↓reduceIte, q_lt, hj9, l_of, lN_mul, lg_e0, l_eq, c1']
      · rw [if_neg c1]
        by_cases c2 : x * b * j = a * y
        · have c2' := eq_true c2
          rw [if_pos c2, cv_n (by omega)]
          simp (disch := omega) only [i_X5_lastStep_0, i_X5_lastStep_1, i_X5_lastStep_3, i_X5_lastStep_4, i_X5_lastStep_6, i_X5_lastStep_8, i_X5_lastStep_9, i_X5_lastStep_10, i_X5_lastStep_12, i_X5_lastStep_13, i_X5_lastStep_17, i_X5_lastStep_19, i_X5_lastStep_22, i_X5_lastStep_24, i_X5_lastStep_26, i_X5_lastStep_28, i_X5_lastStep_29, i_X5_lastStep_30, i_X5_lastStep_31, i_X5_lastStep_34, i_X5_lastStep_36, i_X5_lastStep_37, i_X5_lastStep_39, i_X5_lastStep_41, i_X5_lastStep_42, i_X5_lastStep_43, i_X5_lastStep_45, i_X5_lastStep_46, i_X5_lastStep_49, i_X5_lastStep_51, i_X5_lastStep_53, i_X5_lastStep_54, i_X5_lastStep_55, i_X5_lastStep_58, i_X5_lastStep_61, i_X5_lastStep_63, i_X5_lastStep_0_e, Option.toList_some, Option.toList_none, List.cons_append, List.nil_append, List.append_nil, ↓reduceIte, q_lt, hj9, l_of, lN_mul, lg_e0, l_eq, c1, c2', nI_add]
        · rw [if_neg c2]
          simp (disch := omega) only [i_X5_lastStep_0, i_X5_lastStep_1, i_X5_lastStep_3, i_X5_lastStep_4, i_X5_lastStep_6, i_X5_lastStep_8, i_X5_lastStep_9, i_X5_lastStep_10, i_X5_lastStep_12, i_X5_lastStep_13, i_X5_lastStep_17, i_X5_lastStep_19, i_X5_lastStep_22, i_X5_lastStep_24, i_X5_lastStep_26, i_X5_lastStep_28, i_X5_lastStep_29, i_X5_lastStep_30, i_X5_lastStep_31, i_X5_lastStep_34, i_X5_lastStep_36, i_X5_lastStep_37, i_X5_lastStep_39, i_X5_lastStep_41, i_X5_lastStep_42, i_X5_lastStep_43, i_X5_lastStep_45, i_X5_lastStep_46, i_X5_lastStep_49, i_X5_lastStep_51, i_X5_lastStep_53, i_X5_lastStep_54, i_X5_lastStep_55, i_X5_lastStep_58, i_X5_lastStep_61, i_X5_lastStep_63, i_X5_lastStep_0_e, Option.toList_some, Option.toList_none, List.cons_append, List.nil_append, List.append_nil, ↓reduceIte, q_lt, hj9, l_of, lN_mul, lg_e0, l_eq, c1, c2, nI_add]
          exact ih (j + 1) (by omega) (by omega)
  simp only [i_X5_lastStep_0, i_X5_lastStep_1, i_X5_lastStep_3, i_X5_lastStep_4, i_X5_lastStep_6, i_X5_lastStep_8, i_X5_lastStep_9, i_X5_lastStep_10, i_X5_lastStep_12, i_X5_lastStep_13, i_X5_lastStep_17, i_X5_lastStep_19, i_X5_lastStep_22, i_X5_lastStep_24, i_X5_lastStep_26, i_X5_lastStep_28, i_X5_lastStep_29, i_X5_lastStep_30, i_X5_lastStep_31, i_X5_lastStep_34, i_X5_lastStep_36, i_X5_lastStep_37, i_X5_lastStep_39, i_X5_lastStep_41, i_X5_lastStep_42, i_X5_lastStep_43, i_X5_lastStep_45, i_X5_lastStep_46, i_X5_lastStep_49, i_X5_lastStep_51, i_X5_lastStep_53, i_X5_lastStep_54, i_X5_lastStep_55, i_X5_lastStep_58, i_X5_lastStep_61, i_X5_lastStep_63, i_X5_lastStep_0_e, Option.toList_some, Option.toList_none, List.cons_append, List.nil_append, List.append_nil, ↓reduceIte, lN_mul]
  exact key 8 2 rfl (by omega)
theorem aB_b {x f : Nat} (hf : f < 20) : aB x f ≤ x * 9 := by
  unfold aB
  split
  · exact Nat.mul_le_mul_left _ (by omega)
  · omega
theorem bB_b {x f : Nat} (hf : f < 20) : bB x f ≤ x * 10 := by
  unfold bB
  split
  · omega
  · exact Nat.mul_le_mul_left _ (by omega)
theorem aB_0 {x f : Nat} (hs : stp f = true) (hx : 1 ≤ x) : 1 ≤ aB x f := by
  rw [stp_c] at hs
  unfold aB
  split
  · exact Nat.mul_pos hx (by omega)
  · exact hx
theorem bB_0 {x f : Nat} (hs : stp f = true) (hx : 1 ≤ x) : 1 ≤ bB x f := by
  rw [stp_c] at hs
  unfold bB
  split
  · exact hx
  · exact Nat.mul_pos hx (by omega)
theorem t_byTwo (hT : okT T) {n a b : Nat} (hn : n < T 10 0) (h5 : T 0 n ≠ 5) (hd : dep T n + 2 ≤ 6) (ha : 1 ≤ a ∧ a ≤ 4000000) (hb : 1 ≤ b ∧ b ≤ 9999) (hQ : ∀ I' o, RR T a b 2 n o → (∀ c k, (c ≠ 138 ∨ (k ≠ 2 ∧ k ≠ 3)) → I' c k = I c k) → (∀ t, o = some t → I' 138 2 = cv (t / 20 % 20) ∧ I' 138 3 = cv (t % 20)) → Q (some (.int (bz o.isSome))) (pm_w I' A E J B)) : pm_call X (d + 1) mX5_reachesByTwo [.ref 138, .long (lN (nm T n)), .long (lN (dn T n)), .long (lN a), .long (lN b)] (pm_w I A E J B) Q := by
  have b1 := nm_b hT hn
  have b2 := dn_b hT hn
  have key : ∀ m j, j + m = 20 → 2 ≤ j → ∀ I1 : Nat → Nat → Int32, (∀ c k, (c ≠ 138 ∨ (k ≠ 2 ∧ k ≠ 3)) → I1 c k = I c k) → (∀ t, t / 400 = n → mm t = 2 → t / 20 % 20 < j → vl T a b t = false) → ∀ v10 v11 v12 v13, pm_wp X (d + 1) mX5_reachesByTwo 3 [.ref 138, .long (lN (nm T n)), pm_U, .long (lN (dn T n)), pm_U, .long (lN a), pm_U, .long (lN b), pm_U, .int (nI j), v10, v11, v12, v13] [] (pm_w I1 A E J B) Q := by
    intro m
    induction m with
    | zero =>
      intro j hj _ I1 hI hno v10 v11 v12 v13
      have : j = 20 := by omega
      subst this
      rw [i_X5_reachesByTwo_3]
      simp (disch := omega) only [i_X5_reachesByTwo_0, i_X5_reachesByTwo_1, i_X5_reachesByTwo_5, i_X5_reachesByTwo_7, i_X5_reachesByTwo_10, i_X5_reachesByTwo_12, i_X5_reachesByTwo_14, i_X5_reachesByTwo_17, i_X5_reachesByTwo_19, i_X5_reachesByTwo_21, i_X5_reachesByTwo_24, i_X5_reachesByTwo_27, i_X5_reachesByTwo_29, i_X5_reachesByTwo_31, i_X5_reachesByTwo_34, i_X5_reachesByTwo_36, i_X5_reachesByTwo_38, i_X5_reachesByTwo_39, i_X5_reachesByTwo_40, i_X5_reachesByTwo_44, i_X5_reachesByTwo_46, i_X5_reachesByTwo_48, i_X5_reachesByTwo_50, i_X5_reachesByTwo_53, i_X5_reachesByTwo_54, i_X5_reachesByTwo_60, i_X5_reachesByTwo_62, i_X5_reachesByTwo_63, i_X5_reachesByTwo_65, i_X5_reachesByTwo_66, i_X5_reachesByTwo_67, i_X5_reachesByTwo_69, i_X5_reachesByTwo_70, i_X5_reachesByTwo_73, i_X5_reachesByTwo_76, i_X5_reachesByTwo_79, i_X5_reachesByTwo_80, i_X5_reachesByTwo_81, i_X5_reachesByTwo_83, i_X5_reachesByTwo_84, i_X5_reachesByTwo_85, i_X5_reachesByTwo_87, i_X5_reachesByTwo_88, i_X5_reachesByTwo_90, i_X5_reachesByTwo_92, i_X5_reachesByTwo_95, i_X5_reachesByTwo_98, i_X5_reachesByTwo_99, i_X5_reachesByTwo_102, i_X5_reachesByTwo_104, i_X5_reachesByTwo_107, i_X5_reachesByTwo_108, i_X5_reachesByTwo_110, i_X5_reachesByTwo_113, i_X5_reachesByTwo_114, i_X5_reachesByTwo_114b, i_X5_reachesByTwo_114c, i_X5_reachesByTwo_57, i_X5_reachesByTwo_59, i_X5_reachesByTwo_43, i_X5_reachesByTwo_115, i_X5_reachesByTwo_118, i_X5_reachesByTwo_121, i_X5_reachesByTwo_122, i_X5_reachesByTwo_122b, i_X5_reachesByTwo_122c, i_X5_reachesByTwo_0_e, Option.toList_some, Option.toList_none, List.cons_append, List.nil_append, List.append_nil, ↓reduceIte, q_lt, show (19 < 20) = True from by decide]
      exact hQ I1 none (fun t h1 h2 => hno t h1 h2 (by omega)) hI (fun t h => by cases h)
    | succ m ih =>
      intro j hj h2 I1 hI hno v10 v11 v12 v13
      have hj19 : ¬ 19 < j := by omega
      have hjf : j < 20 := by omega
      rw [i_X5_reachesByTwo_3]
      have skip : (∀ t, t / 400 = n → mm t = 2 → t / 20 % 20 = j → vl T a b t = false) → ∀ I2 : Nat → Nat → Int32, (∀ c k, (c ≠ 138 ∨ (k ≠ 2 ∧ k ≠ 3)) → I2 c k = I c k) → ∀ v10 v11 v12 v13, pm_wp X (d + 1) mX5_reachesByTwo 3 [.ref 138, .long (lN (nm T n)), pm_U, .long (lN (dn T n)), pm_U, .long (lN a), pm_U, .long (lN b), pm_U, .int (nI (j + 1)), v10, v11, v12, v13] [] (pm_w I2 A E J B) Q := fun hs I2 hI2 => ih (j + 1) (by omega) (by omega) I2 hI2 (fun t g1 g2 g3 => by
        by_cases e : t / 20 % 20 = j
        · exact hs t g1 g2 e
        · exact hno t g1 g2 (by omega))
      have isf : ∀ t, vl T a b t = true → t / 400 = n → t / 20 % 20 = j → gd1 T n j = true := fun t hv g1 g3 => by
        rcases vl_x hv with ⟨q, _⟩ | ⟨_, q, _⟩
        · omega
        · rw [g1, g3] at q; exact q
      have nstp : stp j = false → ∀ t, t / 400 = n → mm t = 2 → t / 20 % 20 = j → vl T a b t = false := fun hs t g1 _ g3 => by
        cases hv : vl T a b t with
        | false => rfl
        | true =>
          have := isf t hv g1 g3
          unfold gd1 at this
          rw [hs] at this
          simp at this
      by_cases e10 : j = 10
      · subst e10
        simp (disch := omega) only [i_X5_reachesByTwo_0, i_X5_reachesByTwo_1, i_X5_reachesByTwo_5, i_X5_reachesByTwo_7, i_X5_reachesByTwo_10, i_X5_reachesByTwo_12, i_X5_reachesByTwo_14, i_X5_reachesByTwo_17, i_X5_reachesByTwo_19, i_X5_reachesByTwo_21, i_X5_reachesByTwo_24, i_X5_reachesByTwo_27, i_X5_reachesByTwo_29, i_X5_reachesByTwo_31, i_X5_reachesByTwo_34, i_X5_reachesByTwo_36, i_X5_reachesByTwo_38, i_X5_reachesByTwo_39, i_X5_reachesByTwo_40, i_X5_reachesByTwo_44, i_X5_reachesByTwo_46, i_X5_reachesByTwo_48, i_X5_reachesByTwo_50, i_X5_reachesByTwo_53, i_X5_reachesByTwo_54, i_X5_reachesByTwo_60, i_X5_reachesByTwo_62, i_X5_reachesByTwo_63, i_X5_reachesByTwo_65, i_X5_reachesByTwo_66, i_X5_reachesByTwo_67, i_X5_reachesByTwo_69, i_X5_reachesByTwo_70, i_X5_reachesByTwo_73, i_X5_reachesByTwo_76, i_X5_reachesByTwo_79, i_X5_reachesByTwo_80, i_X5_reachesByTwo_81, i_X5_reachesByTwo_83, i_X5_reachesByTwo_84, i_X5_reachesByTwo_85, i_X5_reachesByTwo_87, i_X5_reachesByTwo_88, i_X5_reachesByTwo_90, i_X5_reachesByTwo_92, i_X5_reachesByTwo_95, i_X5_reachesByTwo_98, i_X5_reachesByTwo_99, i_X5_reachesByTwo_102, i_X5_reachesByTwo_104, i_X5_reachesByTwo_107, i_X5_reachesByTwo_108, i_X5_reachesByTwo_110, i_X5_reachesByTwo_113, i_X5_reachesByTwo_114, i_X5_reachesByTwo_114b, i_X5_reachesByTwo_114c, i_X5_reachesByTwo_57, i_X5_reachesByTwo_59, i_X5_reachesByTwo_43, i_X5_reachesByTwo_115, i_X5_reachesByTwo_118, i_X5_reachesByTwo_121, i_X5_reachesByTwo_122, i_X5_reachesByTwo_122b, i_X5_reachesByTwo_122c, i_X5_reachesByTwo_0_e, Option.toList_some, Option.toList_none, List.cons_append, List.nil_append, List.append_nil, ↓reduceIte, q_lt, hj19, nI_add]
        exact skip (nstp rfl) I1 hI _ _ _ _
      · by_cases e11 : j = 11
        · subst e11
          simp (disch := omega) only [i_X5_reachesByTwo_0, i_X5_reachesByTwo_1, i_X5_reachesByTwo_5, i_X5_reachesByTwo_7, i_X5_reachesByTwo_10, i_X5_reachesByTwo_12, i_X5_reachesByTwo_14, i_X5_reachesByTwo_17, i_X5_reachesByTwo_19, i_X5_reachesByTwo_21, i_X5_reachesByTwo_24, i_X5_reachesByTwo_27, i_X5_reachesByTwo_29, i_X5_reachesByTwo_31, i_X5_reachesByTwo_34, i_X5_reachesByTwo_36, i_X5_reachesByTwo_38, i_X5_reachesByTwo_39, i_X5_reachesByTwo_40, i_X5_reachesByTwo_44, i_X5_reachesByTwo_46, i_X5_reachesByTwo_48, i_X5_reachesByTwo_50, i_X5_reachesByTwo_53, i_X5_reachesByTwo_54, i_X5_reachesByTwo_60, i_X5_reachesByTwo_62, i_X5_reachesByTwo_63, i_X5_reachesByTwo_65, i_X5_reachesByTwo_66, i_X5_reachesByTwo_67, i_X5_reachesByTwo_69, i_X5_reachesByTwo_70, i_X5_reachesByTwo_73, i_X5_reachesByTwo_76, i_X5_reachesByTwo_79, i_X5_reachesByTwo_80, i_X5_reachesByTwo_81, i_X5_reachesByTwo_83, i_X5_reachesByTwo_84, i_X5_reachesByTwo_85, i_X5_reachesByTwo_87, i_X5_reachesByTwo_88, i_X5_reachesByTwo_90, i_X5_reachesByTwo_92, i_X5_reachesByTwo_95, i_X5_reachesByTwo_98, i_X5_reachesByTwo_99, i_X5_reachesByTwo_102, i_X5_reachesByTwo_104, i_X5_reachesByTwo_107, i_X5_reachesByTwo_108, i_X5_reachesByTwo_110, i_X5_reachesByTwo_113, i_X5_reachesByTwo_114, i_X5_reachesByTwo_114b, i_X5_reachesByTwo_114c, i_X5_reachesByTwo_57, i_X5_reachesByTwo_59, i_X5_reachesByTwo_43, i_X5_reachesByTwo_115, i_X5_reachesByTwo_118, i_X5_reachesByTwo_121, i_X5_reachesByTwo_122, i_X5_reachesByTwo_122b, i_X5_reachesByTwo_122c, i_X5_reachesByTwo_0_e, Option.toList_some, Option.toList_none, List.cons_append, List.nil_append, List.append_nil, ↓reduceIte, q_lt, q_eq, hj19, e10, nI_add]
          exact skip (nstp rfl) I1 hI _ _ _ _
        · have hst : stp j = true := stp_c.mpr (by omega)
          have x1 := aB_b (x := nm T n) hjf
          have x2 := bB_b (x := dn T n) hjf
          have x3 := aB_0 hst b1.1
          have x4 := bB_0 hst b2.1
          have y1 : aB (nm T n) j * b ≤ 531441000000 * 9 * 9999 := Nat.mul_le_mul (by omega) hb.2
          have y2 : a * bB (dn T n) j ≤ 4000000 * 5314410 := Nat.mul_le_mul ha.2 (by omega)
          have p1 : 0 < aB (nm T n) j * b := Nat.mul_pos x3 hb.1
          have p2 : 0 < a * bB (dn T n) j := Nat.mul_pos ha.1 x4
          have hfin : ∀ tm by' : Nat, nm T n * tm = aB (nm T n) j → dn T n * by' = bB (dn T n) j → pm_wp X (d + 1) mX5_reachesByTwo 62 [.ref 138, .long (lN (nm T n)), pm_U, .long (lN (dn T n)), pm_U, .long (lN a), pm_U, .long (lN b), pm_U, .int (nI j), .long (lN tm), pm_U, .long (lN by'), pm_U] [] (pm_w I1 A E J B) Q := by
            intro tm by' q1 q2
            by_cases cf : 4000000 * bB (dn T n) j < aB (nm T n) j
            · simp (disch := omega) only [i_X5_reachesByTwo_0, i_X5_reachesByTwo_1, i_X5_reachesByTwo_5, i_X5_reachesByTwo_7, i_X5_reachesByTwo_10, i_X5_reachesByTwo_12, i_X5_reachesByTwo_14, i_X5_reachesByTwo_17, i_X5_reachesByTwo_19, i_X5_reachesByTwo_21, i_X5_reachesByTwo_24, i_X5_reachesByTwo_27, i_X5_reachesByTwo_29, i_X5_reachesByTwo_31, i_X5_reachesByTwo_34, i_X5_reachesByTwo_36, i_X5_reachesByTwo_38, i_X5_reachesByTwo_39, i_X5_reachesByTwo_40, i_X5_reachesByTwo_44, i_X5_reachesByTwo_46, i_X5_reachesByTwo_48, i_X5_reachesByTwo_50, i_X5_reachesByTwo_53, i_X5_reachesByTwo_54, i_X5_reachesByTwo_60, i_X5_reachesByTwo_62, i_X5_reachesByTwo_63, i_X5_reachesByTwo_65, i_X5_reachesByTwo_66, i_X5_reachesByTwo_67, i_X5_reachesByTwo_69, i_X5_reachesByTwo_70, i_X5_reachesByTwo_73, i_X5_reachesByTwo_76, i_X5_reachesByTwo_79, i_X5_reachesByTwo_80, i_X5_reachesByTwo_81, i_X5_reachesByTwo_83, i_X5_reachesByTwo_84, i_X5_reachesByTwo_85, i_X5_reachesByTwo_87, i_X5_reachesByTwo_88, i_X5_reachesByTwo_90, i_X5_reachesByTwo_92, i_X5_reachesByTwo_95, i_X5_reachesByTwo_98, i_X5_reachesByTwo_99, i_X5_reachesByTwo_102, i_X5_reachesByTwo_104, i_X5_reachesByTwo_107, i_X5_reachesByTwo_108, i_X5_reachesByTwo_110, i_X5_reachesByTwo_113, i_X5_reachesByTwo_114, i_X5_reachesByTwo_114b, i_X5_reachesByTwo_114c, i_X5_reachesByTwo_57, i_X5_reachesByTwo_59, i_X5_reachesByTwo_43, i_X5_reachesByTwo_115, i_X5_reachesByTwo_118, i_X5_reachesByTwo_121, i_X5_reachesByTwo_122, i_X5_reachesByTwo_122b, i_X5_reachesByTwo_122c, i_X5_reachesByTwo_0_e, Option.toList_some, Option.toList_none, List.cons_append, List.nil_append, List.append_nil, ↓reduceIte, lN_mul, q1, q2, t_isAbove, cf, decide_true, bz_e0, reduceCtorEq, nI_add]
              refine skip (fun t g1 g2 g3 => ?_) I1 hI _ _ _ _
              cases hv : vl T a b t with
              | false => rfl
              | true =>
                have := isf t hv g1 g3
                unfold gd1 at this
                simp only [Bool.and_eq_true, decide_eq_true_eq] at this
                omega
            · simp (disch := omega) only [i_X5_reachesByTwo_0, i_X5_reachesByTwo_1, i_X5_reachesByTwo_5, i_X5_reachesByTwo_7, i_X5_reachesByTwo_10, i_X5_reachesByTwo_12, i_X5_reachesByTwo_14, i_X5_reachesByTwo_17, i_X5_reachesByTwo_19, i_X5_reachesByTwo_21, i_X5_reachesByTwo_24, i_X5_reachesByTwo_27, i_X5_reachesByTwo_29, i_X5_reachesByTwo_31, i_X5_reachesByTwo_34, i_X5_reachesByTwo_36, i_X5_reachesByTwo_38, i_X5_reachesByTwo_39, i_X5_reachesByTwo_40, i_X5_reachesByTwo_44, i_X5_reachesByTwo_46, i_X5_reachesByTwo_48, i_X5_reachesByTwo_50, i_X5_reachesByTwo_53, i_X5_reachesByTwo_54, i_X5_reachesByTwo_60, i_X5_reachesByTwo_62, i_X5_reachesByTwo_63, i_X5_reachesByTwo_65, i_X5_reachesByTwo_66, i_X5_reachesByTwo_67, i_X5_reachesByTwo_69, i_X5_reachesByTwo_70, i_X5_reachesByTwo_73, i_X5_reachesByTwo_76, i_X5_reachesByTwo_79, i_X5_reachesByTwo_80, i_X5_reachesByTwo_81, i_X5_reachesByTwo_83, i_X5_reachesByTwo_84, i_X5_reachesByTwo_85, i_X5_reachesByTwo_87, i_X5_reachesByTwo_88, i_X5_reachesByTwo_90, i_X5_reachesByTwo_92, i_X5_reachesByTwo_95, i_X5_reachesByTwo_98, i_X5_reachesByTwo_99, i_X5_reachesByTwo_102, i_X5_reachesByTwo_104, i_X5_reachesByTwo_107, i_X5_reachesByTwo_108, i_X5_reachesByTwo_110, i_X5_reachesByTwo_113, i_X5_reachesByTwo_114, i_X5_reachesByTwo_114b, i_X5_reachesByTwo_114c, i_X5_reachesByTwo_57, i_X5_reachesByTwo_59, i_X5_reachesByTwo_43, i_X5_reachesByTwo_115, i_X5_reachesByTwo_118, i_X5_reachesByTwo_121, i_X5_reachesByTwo_122, i_X5_reachesByTwo_122b, i_X5_reachesByTwo_122c, i_X5_reachesByTwo_0_e, Option.toList_some, Option.toList_none, List.cons_append, List.nil_append, List.append_nil, ↓reduceIte, lN_mul, q1, q2, t_isAbove, cf, decide_false, bz_e0, t_lastStep]
              have hI2 : ∀ z, ∀ c k, (c ≠ 138 ∨ (k ≠ 2 ∧ k ≠ 3)) → up2 I1 138 3 z c k = I c k := fun z c k h => by rw [up2_n _ _ (by omega)]; exact hI c k h
              have hsat : ∀ t, vl T a b t = true → t / 400 = n → mm t = 2 → t / 20 % 20 = j → stp (t % 20) = true ∧ sat (aB (nm T n) j * b) (a * bB (dn T n) j) (t % 20) := fun t hv g1 g2 g3 => by
                rw [mm_2] at g2
                rcases vl_x hv with ⟨q, _⟩ | ⟨_, _, ⟨q, _⟩ | ⟨_, q⟩⟩
                · omega
                · omega
                · rw [g1, g3] at q
                  unfold gd2 at q
                  simp only [Bool.and_eq_true, decide_eq_true_eq] at q
                  exact ⟨q.1.1.1, sat_iff.mp q.2⟩
              generalize hc : lsG (aB (nm T n) j * b) (a * bB (dn T n) j) 2 8 = c
              by_cases c0 : c = 0
              · subst c0
                rw [show cv 0 = -5 from rfl]
                simp (disch := omega) only [i_X5_reachesByTwo_0, i_X5_reachesByTwo_1, i_X5_reachesByTwo_5, i_X5_reachesByTwo_7, i_X5_reachesByTwo_10, i_X5_reachesByTwo_12, i_X5_reachesByTwo_14, i_X5_reachesByTwo_17, i_X5_reachesByTwo_19, i_X5_reachesByTwo_21, i_X5_reachesByTwo_24, i_X5_reachesByTwo_27, i_X5_reachesByTwo_29, i_X5_reachesByTwo_31, i_X5_reachesByTwo_34, i_X5_reachesByTwo_36, i_X5_reachesByTwo_38, i_X5_reachesByTwo_39, i_X5_reachesByTwo_40, i_X5_reachesByTwo_44, i_X5_reachesByTwo_46, i_X5_reachesByTwo_48, i_X5_reachesByTwo_50, i_X5_reachesByTwo_53, i_X5_reachesByTwo_54, i_X5_reachesByTwo_60, i_X5_reachesByTwo_62, i_X5_reachesByTwo_63, i_X5_reachesByTwo_65, i_X5_reachesByTwo_66, i_X5_reachesByTwo_67, i_X5_reachesByTwo_69, i_X5_reachesByTwo_70, i_X5_reachesByTwo_73, i_X5_reachesByTwo_76, i_X5_reachesByTwo_79, i_X5_reachesByTwo_80, i_X5_reachesByTwo_81, i_X5_reachesByTwo_83, i_X5_reachesByTwo_84, i_X5_reachesByTwo_85, i_X5_reachesByTwo_87, i_X5_reachesByTwo_88, i_X5_reachesByTwo_90, i_X5_reachesByTwo_92, i_X5_reachesByTwo_95, i_X5_reachesByTwo_98, i_X5_reachesByTwo_99, i_X5_reachesByTwo_102, i_X5_reachesByTwo_104, i_X5_reachesByTwo_107, i_X5_reachesByTwo_108, i_X5_reachesByTwo_110, i_X5_reachesByTwo_113, i_X5_reachesByTwo_114, i_X5_reachesByTwo_114b, i_X5_reachesByTwo_114c, i_X5_reachesByTwo_57, i_X5_reachesByTwo_59, i_X5_reachesByTwo_43, i_X5_reachesByTwo_115, i_X5_reachesByTwo_118, i_X5_reachesByTwo_121, i_X5_reachesByTwo_122, i_X5_reachesByTwo_122b, i_X5_reachesByTwo_122c, i_X5_reachesByTwo_0_e, Option.toList_some, Option.toList_none, List.cons_append, List.nil_append, List.append_nil, ↓reduceIte, up2_s, nI_add]
                refine skip (fun t g1 g2 g3 => ?_) _ (hI2 _) _ _ _ _
                cases hv : vl T a b t with
                | false => rfl
                | true =>
                  have := hsat t hv g1 g2 g3
                  exact absurd this.2 (ls_none hc this.1)
              · have hs := ls_some (h := aB (nm T n) j * b) (t := a * bB (dn T n) j) (by rw [hc]; exact c0)
                rw [hc] at hs
                have cb := stp_b hs.1
                have c5 : (nI c = -5) = False := q_em (by omega) (by decide)
                rw [cv_n c0]
                simp (disch := omega) only [i_X5_reachesByTwo_0, i_X5_reachesByTwo_1, i_X5_reachesByTwo_5, i_X5_reachesByTwo_7, i_X5_reachesByTwo_10, i_X5_reachesByTwo_12, i_X5_reachesByTwo_14, i_X5_reachesByTwo_17, i_X5_reachesByTwo_19, i_X5_reachesByTwo_21, i_X5_reachesByTwo_24, i_X5_reachesByTwo_27, i_X5_reachesByTwo_29, i_X5_reachesByTwo_31, i_X5_reachesByTwo_34, i_X5_reachesByTwo_36, i_X5_reachesByTwo_38, i_X5_reachesByTwo_39, i_X5_reachesByTwo_40, i_X5_reachesByTwo_44, i_X5_reachesByTwo_46, i_X5_reachesByTwo_48, i_X5_reachesByTwo_50, i_X5_reachesByTwo_53, i_X5_reachesByTwo_54, i_X5_reachesByTwo_60, i_X5_reachesByTwo_62, i_X5_reachesByTwo_63, i_X5_reachesByTwo_65, i_X5_reachesByTwo_66, i_X5_reachesByTwo_67, i_X5_reachesByTwo_69, i_X5_reachesByTwo_70, i_X5_reachesByTwo_73, i_X5_reachesByTwo_76, i_X5_reachesByTwo_79, i_X5_reachesByTwo_80, i_X5_reachesByTwo_81, i_X5_reachesByTwo_83, i_X5_reachesByTwo_84, i_X5_reachesByTwo_85, i_X5_reachesByTwo_87, i_X5_reachesByTwo_88, i_X5_reachesByTwo_90, i_X5_reachesByTwo_92, i_X5_reachesByTwo_95, i_X5_reachesByTwo_98, i_X5_reachesByTwo_99, i_X5_reachesByTwo_102, i_X5_reachesByTwo_104, i_X5_reachesByTwo_107, i_X5_reachesByTwo_108, i_X5_reachesByTwo_110, i_X5_reachesByTwo_113, i_X5_reachesByTwo_114, i_X5_reachesByTwo_114b, i_X5_reachesByTwo_114c, i_X5_reachesByTwo_57, i_X5_reachesByTwo_59, i_X5_reachesByTwo_43, i_X5_reachesByTwo_115, i_X5_reachesByTwo_118, i_X5_reachesByTwo_121, i_X5_reachesByTwo_122, i_X5_reachesByTwo_122b, i_X5_reachesByTwo_122c, i_X5_reachesByTwo_0_e, Option.toList_some, Option.toList_none, List.cons_append, List.nil_append, List.append_nil, ↓reduceIte, up2_s, c5]
                have k1 : (400 * n + 20 * j + c) / 400 = n := by omega
                have k2 : (400 * n + 20 * j + c) / 20 % 20 = j := by omega
                have k3 : (400 * n + 20 * j + c) % 20 = c := by omega
                refine hQ _ (some (400 * n + 20 * j + c)) ⟨k1, mm_2.mpr ⟨by omega, by omega⟩, ?_, fun t' g1 g2 g3 => ?_⟩ (fun c' k h => by rw [up2_n _ _ (by omega)]; exact hI2 _ c' k h) (fun t h => ?_)
                · rw [vl_at hjf cb.2]
                  have e2 := sat_iff.mpr hs.2
                  have e3 := slow hb.1 ha.2 e2
                  unfold vlx
                  rw [if_neg (by omega), if_neg c0]
                  unfold gd1 gd2
                  simp [hn, h5, hst, hs.1, e2, e3]
                  omega
                · by_cases e : t' / 20 % 20 < j
                  · rw [hno t' g1 g2 e] at g3; cases g3
                  · by_cases e' : t' / 20 % 20 = j
                    · have q := hsat t' g3 g1 g2 e'
                      have := sat_one p1 p2 hs.1 q.1 hs.2 q.2
                      omega
                    · omega
                · cases h
                  rw [k2, k3, cv_n (by omega), cv_n c0]
                  exact ⟨up2_s _ _ _ _, by rw [up2_n _ _ (by simp)]; exact up2_s _ _ _ _⟩
          by_cases c10 : 10 < j
          · simp (disch := omega) only [i_X5_reachesByTwo_0, i_X5_reachesByTwo_1, i_X5_reachesByTwo_5, i_X5_reachesByTwo_7, i_X5_reachesByTwo_10, i_X5_reachesByTwo_12, i_X5_reachesByTwo_14, i_X5_reachesByTwo_17, i_X5_reachesByTwo_19, i_X5_reachesByTwo_21, i_X5_reachesByTwo_24, i_X5_reachesByTwo_27, i_X5_reachesByTwo_29, i_X5_reachesByTwo_31, i_X5_reachesByTwo_34, i_X5_reachesByTwo_36, i_X5_reachesByTwo_38, i_X5_reachesByTwo_39, i_X5_reachesByTwo_40, i_X5_reachesByTwo_44, i_X5_reachesByTwo_46, i_X5_reachesByTwo_48, i_X5_reachesByTwo_50, i_X5_reachesByTwo_53, i_X5_reachesByTwo_54, i_X5_reachesByTwo_60, i_X5_reachesByTwo_63, i_X5_reachesByTwo_65, i_X5_reachesByTwo_66, i_X5_reachesByTwo_67, i_X5_reachesByTwo_69, i_X5_reachesByTwo_70, i_X5_reachesByTwo_73, i_X5_reachesByTwo_76, i_X5_reachesByTwo_79, i_X5_reachesByTwo_80, i_X5_reachesByTwo_81, i_X5_reachesByTwo_83, i_X5_reachesByTwo_84, i_X5_reachesByTwo_85, i_X5_reachesByTwo_87, i_X5_reachesByTwo_88, i_X5_reachesByTwo_90, i_X5_reachesByTwo_92, i_X5_reachesByTwo_95, i_X5_reachesByTwo_98, i_X5_reachesByTwo_99, i_X5_reachesByTwo_102, i_X5_reachesByTwo_104, i_X5_reachesByTwo_107, i_X5_reachesByTwo_108, i_X5_reachesByTwo_110, i_X5_reachesByTwo_113, i_X5_reachesByTwo_114, i_X5_reachesByTwo_114b, i_X5_reachesByTwo_114c, i_X5_reachesByTwo_57, i_X5_reachesByTwo_59, i_X5_reachesByTwo_43, i_X5_reachesByTwo_115, i_X5_reachesByTwo_118, i_X5_reachesByTwo_121, i_X5_reachesByTwo_122, i_X5_reachesByTwo_122b, i_X5_reachesByTwo_122c, i_X5_reachesByTwo_0_e, Option.toList_some, Option.toList_none, List.cons_append, List.nil_append, List.append_nil, ↓reduceIte, q_lt, q_eq, hj19, e10, e11, c10, pk_sub, l_of]
            exact hfin _ _ (by unfold aB; rw [if_pos c10]) (by unfold bB; rw [if_pos c10, Nat.mul_one])
          · simp (disch := omega) only [i_X5_reachesByTwo_0, i_X5_reachesByTwo_1, i_X5_reachesByTwo_5, i_X5_reachesByTwo_7, i_X5_reachesByTwo_10, i_X5_reachesByTwo_12, i_X5_reachesByTwo_14, i_X5_reachesByTwo_17, i_X5_reachesByTwo_19, i_X5_reachesByTwo_21, i_X5_reachesByTwo_24, i_X5_reachesByTwo_27, i_X5_reachesByTwo_29, i_X5_reachesByTwo_31, i_X5_reachesByTwo_34, i_X5_reachesByTwo_36, i_X5_reachesByTwo_38, i_X5_reachesByTwo_39, i_X5_reachesByTwo_40, i_X5_reachesByTwo_44, i_X5_reachesByTwo_46, i_X5_reachesByTwo_48, i_X5_reachesByTwo_50, i_X5_reachesByTwo_53, i_X5_reachesByTwo_54, i_X5_reachesByTwo_60, i_X5_reachesByTwo_63, i_X5_reachesByTwo_65, i_X5_reachesByTwo_66, i_X5_reachesByTwo_67, i_X5_reachesByTwo_69, i_X5_reachesByTwo_70, i_X5_reachesByTwo_73, i_X5_reachesByTwo_76, i_X5_reachesByTwo_79, i_X5_reachesByTwo_80, i_X5_reachesByTwo_81, i_X5_reachesByTwo_83, i_X5_reachesByTwo_84, i_X5_reachesByTwo_85, i_X5_reachesByTwo_87, i_X5_reachesByTwo_88, i_X5_reachesByTwo_90, i_X5_reachesByTwo_92, i_X5_reachesByTwo_95, i_X5_reachesByTwo_98, i_X5_reachesByTwo_99, i_X5_reachesByTwo_102, i_X5_reachesByTwo_104, i_X5_reachesByTwo_107, i_X5_reachesByTwo_108, i_X5_reachesByTwo_110, i_X5_reachesByTwo_113, i_X5_reachesByTwo_114, i_X5_reachesByTwo_114b, i_X5_reachesByTwo_114c, i_X5_reachesByTwo_57, i_X5_reachesByTwo_59, i_X5_reachesByTwo_43, i_X5_reachesByTwo_115, i_X5_reachesByTwo_118, i_X5_reachesByTwo_121, i_X5_reachesByTwo_122, i_X5_reachesByTwo_122b, i_X5_reachesByTwo_122c, i_X5_reachesByTwo_0_e, Option.toList_some, Option.toList_none, List.cons_append, List.nil_append, List.append_nil, ↓reduceIte, q_lt, q_eq, hj19, e10, e11, c10, l_of]
            exact hfin _ _ (by unfold aB; rw [if_neg c10, Nat.mul_one]) (by unfold bB; rw [if_neg c10])
  simp only [i_X5_reachesByTwo_0, i_X5_reachesByTwo_1, i_X5_reachesByTwo_5, i_X5_reachesByTwo_7, i_X5_reachesByTwo_10, i_X5_reachesByTwo_12, i_X5_reachesByTwo_14, i_X5_reachesByTwo_17, i_X5_reachesByTwo_19, i_X5_reachesByTwo_21, i_X5_reachesByTwo_24, i_X5_reachesByTwo_27, i_X5_reachesByTwo_29, i_X5_reachesByTwo_31, i_X5_reachesByTwo_34, i_X5_reachesByTwo_36, i_X5_reachesByTwo_38, i_X5_reachesByTwo_39, i_X5_reachesByTwo_40, i_X5_reachesByTwo_44, i_X5_reachesByTwo_46, i_X5_reachesByTwo_48, i_X5_reachesByTwo_50, i_X5_reachesByTwo_53, i_X5_reachesByTwo_54, i_X5_reachesByTwo_60, i_X5_reachesByTwo_62, i_X5_reachesByTwo_63, i_X5_reachesByTwo_65, i_X5_reachesByTwo_66, i_X5_reachesByTwo_67, i_X5_reachesByTwo_69, i_X5_reachesByTwo_70, i_X5_reachesByTwo_73, i_X5_reachesByTwo_76, i_X5_reachesByTwo_79, i_X5_reachesByTwo_80, i_X5_reachesByTwo_81, i_X5_reachesByTwo_83, i_X5_reachesByTwo_84, i_X5_reachesByTwo_85, i_X5_reachesByTwo_87, i_X5_reachesByTwo_88, i_X5_reachesByTwo_90, i_X5_reachesByTwo_92, i_X5_reachesByTwo_95, i_X5_reachesByTwo_98, i_X5_reachesByTwo_99, i_X5_reachesByTwo_102, i_X5_reachesByTwo_104, i_X5_reachesByTwo_107, i_X5_reachesByTwo_108, i_X5_reachesByTwo_110, i_X5_reachesByTwo_113, i_X5_reachesByTwo_114, i_X5_reachesByTwo_114b, i_X5_reachesByTwo_114c, i_X5_reachesByTwo_57, i_X5_reachesByTwo_59, i_X5_reachesByTwo_43, i_X5_reachesByTwo_115, i_X5_reachesByTwo_118, i_X5_reachesByTwo_121, i_X5_reachesByTwo_122, i_X5_reachesByTwo_122b, i_X5_reachesByTwo_122c, i_X5_reachesByTwo_0_e, Option.toList_some, Option.toList_none, List.cons_append, List.nil_append, List.append_nil, ↓reduceIte]
  exact key 18 2 rfl (by omega) I (fun _ _ _ => rfl) (fun t h1 h2 h3 => by
    cases hv : vl T a b t with
    | false => rfl
    | true =>
      rw [mm_2] at h2
      rcases vl_x hv with ⟨q, _⟩ | ⟨_, q, _⟩
      · omega
      · have : t / 20 % 20 = 1 := by omega
        rw [this] at q
        unfold gd1 at q
        simp [show stp 1 = false from rfl] at q) _ _ _ _
theorem t_reaches (hT : okT T) {n a b m : Nat} (hn : n < T 10 0) (h5 : T 0 n ≠ 5) (hm : m ≤ 2) (hd : dep T n + m ≤ 6) (ha : 1 ≤ a ∧ a ≤ 4000000) (hb : 1 ≤ b ∧ b ≤ 9999) (h0 : I 138 0 = nI m) (hQ : ∀ I' o, RR T a b m n o → (∀ c k, (c ≠ 138 ∨ (k ≠ 2 ∧ k ≠ 3)) → I' c k = I c k) → (∀ t, o = some t → I' 138 2 = cv (t / 20 % 20) ∧ I' 138 3 = cv (t % 20)) → Q (some (.int (bz o.isSome))) (pm_w I' A E J B)) : pm_call X (d + 2) mX5_reaches [.ref 138, .long (lN (nm T n)), .long (lN (dn T n)), .long (lN a), .long (lN b)] (pm_w I A E J B) Q := by
  have b1 := nm_b hT hn
  have b2 := dn_b hT hn
  have m1 : nm T n * b ≤ 531441000000 * 9999 := Nat.mul_le_mul b1.2 hb.2
  have m2 : a * dn T n ≤ 4000000 * 531441 := Nat.mul_le_mul ha.2 b2.2
  have p1 : 0 < nm T n * b := Nat.mul_pos b1.1 hb.1
  have p2 : 0 < a * dn T n := Nat.mul_pos ha.1 b2.1
  have hI2 : ∀ c k, (c ≠ 138 ∨ (k ≠ 2 ∧ k ≠ 3)) → up2 (up2 I 138 2 (-5)) 138 3 (-5) c k = I c k := fun c k h => by rw [up2_n _ _ (by omega), up2_n _ _ (by omega)]
  have e0 : up2 (up2 I 138 2 (-5)) 138 3 (-5) 138 0 = nI m := by rw [hI2 _ _ (by omega)]; exact h0
  rcases (by omega : m = 0 ∨ m = 1 ∨ m = 2) with rfl | rfl | rfl
  · by_cases ce : nm T n * b = a * dn T n
    · have ce' := eq_true ce
      simp (disch := omega) only [i_X5_reaches_0, i_X5_reaches_1, i_X5_reaches_3, i_X5_reaches_6, i_X5_reaches_7, i_X5_reaches_9, i_X5_reaches_12, i_X5_reaches_13, i_X5_reaches_16, i_X5_reaches_19, i_X5_reaches_20, i_X5_reaches_22, i_X5_reaches_23, i_X5_reaches_25, i_X5_reaches_26, i_X5_reaches_27, i_X5_reaches_28, i_X5_reaches_31, i_X5_reaches_32, i_X5_reaches_36, i_X5_reaches_36b, i_X5_reaches_36c, i_X5_reaches_35, i_X5_reaches_37, i_X5_reaches_38, i_X5_reaches_41, i_X5_reaches_42, i_X5_reaches_45, i_X5_reaches_46, i_X5_reaches_47, i_X5_reaches_48, i_X5_reaches_50, i_X5_reaches_52, i_X5_reaches_55, i_X5_reaches_58, i_X5_reaches_59, i_X5_reaches_62, i_X5_reaches_64, i_X5_reaches_67, i_X5_reaches_68, i_X5_reaches_72, i_X5_reaches_72b, i_X5_reaches_72c, i_X5_reaches_71, i_X5_reaches_73, i_X5_reaches_74, i_X5_reaches_75, i_X5_reaches_76, i_X5_reaches_78, i_X5_reaches_80, i_X5_reaches_83, i_X5_reaches_83b, i_X5_reaches_83c, i_X5_reaches_0_e, Option.toList_some, Option.toList_none, List.cons_append, List.nil_append, List.append_nil, ↓reduceIte, e0, n0_e0, lN_mul, lg_e0, l_eq, ce']
      refine hQ _ (some (400 * n + 20 * 0 + 0)) ⟨by omega, mm_0.mpr (by omega), ?_, fun t' g1 _ _ => by omega⟩ hI2 (fun t h => ?_)
      · rw [vl_at (by decide) (by decide)]
        unfold vlx
        simp [hn, h5, ce]
      · cases h
        rw [show (400 * n + 20 * 0 + 0) / 20 % 20 = 0 by omega, show (400 * n + 20 * 0 + 0) % 20 = 0 by omega]
        exact ⟨by rw [up2_n _ _ (by simp)]; exact up2_s _ _ _ _, up2_s _ _ _ _⟩
    · simp (disch := omega) only [i_X5_reaches_0, i_X5_reaches_1, i_X5_reaches_3, i_X5_reaches_6, i_X5_reaches_7, i_X5_reaches_9, i_X5_reaches_12, i_X5_reaches_13, i_X5_reaches_16, i_X5_reaches_19, i_X5_reaches_20, i_X5_reaches_22, i_X5_reaches_23, i_X5_reaches_25, i_X5_reaches_26, i_X5_reaches_27, i_X5_reaches_28, i_X5_reaches_31, i_X5_reaches_32, i_X5_reaches_36, i_X5_reaches_36b, i_X5_reaches_36c, i_X5_reaches_35, i_X5_reaches_37, i_X5_reaches_38, i_X5_reaches_41, i_X5_reaches_42, i_X5_reaches_45, i_X5_reaches_46, i_X5_reaches_47, i_X5_reaches_48, i_X5_reaches_50, i_X5_reaches_52, i_X5_reaches_55, i_X5_reaches_58, i_X5_reaches_59, i_X5_reaches_62, i_X5_reaches_64, i_X5_reaches_67, i_X5_reaches_68, i_X5_reaches_72, i_X5_reaches_72b, i_X5_reaches_72c, i_X5_reaches_71, i_X5_reaches_73, i_X5_reaches_74, i_X5_reaches_75, i_X5_reaches_76, i_X5_reaches_78, i_X5_reaches_80, i_X5_reaches_83, i_X5_reaches_83b, i_X5_reaches_83c, i_X5_reaches_0_e, Option.toList_some, Option.toList_none, List.cons_append, List.nil_append, List.append_nil, ↓reduceIte, e0, n0_e0, lN_mul, lg_e0, l_eq, ce]
      refine hQ _ none (fun t g1 g2 => ?_) hI2 (fun t h => by cases h)
      rw [mm_0] at g2
      cases hv : vl T a b t with
      | false => rfl
      | true =>
        rcases vl_x hv with ⟨_, _, q⟩ | ⟨q, _⟩
        · rw [g1] at q; exact absurd q ce
        · exact absurd g2 q
  · have hsat : ∀ t, vl T a b t = true → t / 400 = n → mm t = 1 → stp (t / 20 % 20) = true ∧ sat (nm T n * b) (a * dn T n) (t / 20 % 20) := fun t hv g1 g2 => by
      rw [mm_1] at g2
      rcases vl_x hv with ⟨q, _⟩ | ⟨_, q1, ⟨_, q⟩ | ⟨q, _⟩⟩
      · omega
      · rw [g1] at q q1
        unfold gd1 at q1
        simp only [Bool.and_eq_true] at q1
        exact ⟨q1.1.1, sat_iff.mp q⟩
      · omega
    have hI3 : ∀ z, ∀ c k, (c ≠ 138 ∨ (k ≠ 2 ∧ k ≠ 3)) → up2 (up2 (up2 I 138 2 (-5)) 138 3 (-5)) 138 2 z c k = I c k := fun z c k h => by rw [up2_n _ _ (by omega)]; exact hI2 c k h
    simp (disch := omega) only [i_X5_reaches_0, i_X5_reaches_1, i_X5_reaches_3, i_X5_reaches_6, i_X5_reaches_7, i_X5_reaches_9, i_X5_reaches_12, i_X5_reaches_13, i_X5_reaches_16, i_X5_reaches_19, i_X5_reaches_20, i_X5_reaches_22, i_X5_reaches_23, i_X5_reaches_25, i_X5_reaches_26, i_X5_reaches_27, i_X5_reaches_28, i_X5_reaches_31, i_X5_reaches_32, i_X5_reaches_36, i_X5_reaches_36b, i_X5_reaches_36c, i_X5_reaches_35, i_X5_reaches_37, i_X5_reaches_38, i_X5_reaches_41, i_X5_reaches_42, i_X5_reaches_45, i_X5_reaches_46, i_X5_reaches_47, i_X5_reaches_48, i_X5_reaches_50, i_X5_reaches_52, i_X5_reaches_55, i_X5_reaches_58, i_X5_reaches_59, i_X5_reaches_62, i_X5_reaches_64, i_X5_reaches_67, i_X5_reaches_68, i_X5_reaches_72, i_X5_reaches_72b, i_X5_reaches_72c, i_X5_reaches_71, i_X5_reaches_73, i_X5_reaches_74, i_X5_reaches_75, i_X5_reaches_76, i_X5_reaches_78, i_X5_reaches_80, i_X5_reaches_83, i_X5_reaches_83b, i_X5_reaches_83c, i_X5_reaches_0_e, Option.toList_some, Option.toList_none, List.cons_append, List.nil_append, List.append_nil, ↓reduceIte, e0, n1_e0, t_lastStep]
    generalize hc : lsG (nm T n * b) (a * dn T n) 2 8 = c
    by_cases c0 : c = 0
    · subst c0
      rw [show cv 0 = -5 from rfl]
      simp (disch := omega) only [i_X5_reaches_0, i_X5_reaches_1, i_X5_reaches_3, i_X5_reaches_6, i_X5_reaches_7, i_X5_reaches_9, i_X5_reaches_12, i_X5_reaches_13, i_X5_reaches_16, i_X5_reaches_19, i_X5_reaches_20, i_X5_reaches_22, i_X5_reaches_23, i_X5_reaches_25, i_X5_reaches_26, i_X5_reaches_27, i_X5_reaches_28, i_X5_reaches_31, i_X5_reaches_32, i_X5_reaches_36, i_X5_reaches_36b, i_X5_reaches_36c, i_X5_reaches_35, i_X5_reaches_37, i_X5_reaches_38, i_X5_reaches_41, i_X5_reaches_42, i_X5_reaches_45, i_X5_reaches_46, i_X5_reaches_47, i_X5_reaches_48, i_X5_reaches_50, i_X5_reaches_52, i_X5_reaches_55, i_X5_reaches_58, i_X5_reaches_59, i_X5_reaches_62, i_X5_reaches_64, i_X5_reaches_67, i_X5_reaches_68, i_X5_reaches_72, i_X5_reaches_72b, i_X5_reaches_72c, i_X5_reaches_71, i_X5_reaches_73, i_X5_reaches_74, i_X5_reaches_75, i_X5_reaches_76, i_X5_reaches_78, i_X5_reaches_80, i_X5_reaches_83, i_X5_reaches_83b, i_X5_reaches_83c, i_X5_reaches_0_e, Option.toList_some, Option.toList_none, List.cons_append, List.nil_append, List.append_nil, ↓reduceIte, up2_s]
      refine hQ _ none (fun t g1 g2 => ?_) (hI3 _) (fun t h => by cases h)
      cases hv : vl T a b t with
      | false => rfl
      | true =>
        have := hsat t hv g1 g2
        exact absurd this.2 (ls_none hc this.1)
    · have hs := ls_some (h := nm T n * b) (t := a * dn T n) (by rw [hc]; exact c0)
      rw [hc] at hs
      have cb := stp_b hs.1
      have c5 : (nI c = -5) = False := q_em (by omega) (by decide)
      rw [cv_n c0]
      simp (disch := omega) only [i_X5_reaches_0, i_X5_reaches_1, i_X5_reaches_3, i_X5_reaches_6, i_X5_reaches_7, i_X5_reaches_9, i_X5_reaches_12, i_X5_reaches_13, i_X5_reaches_16, i_X5_reaches_19, i_X5_reaches_20, i_X5_reaches_22, i_X5_reaches_23, i_X5_reaches_25, i_X5_reaches_26, i_X5_reaches_27, i_X5_reaches_28, i_X5_reaches_31, i_X5_reaches_32, i_X5_reaches_36, i_X5_reaches_36b, i_X5_reaches_36c, i_X5_reaches_35, i_X5_reaches_37, i_X5_reaches_38, i_X5_reaches_41, i_X5_reaches_42, i_X5_reaches_45, i_X5_reaches_46, i_X5_reaches_47, i_X5_reaches_48, i_X5_reaches_50, i_X5_reaches_52, i_X5_reaches_55, i_X5_reaches_58, i_X5_reaches_59, i_X5_reaches_62, i_X5_reaches_64, i_X5_reaches_67, i_X5_reaches_68, i_X5_reaches_72, i_X5_reaches_72b, i_X5_reaches_72c, i_X5_reaches_71, i_X5_reaches_73, i_X5_reaches_74, i_X5_reaches_75, i_X5_reaches_76, i_X5_reaches_78, i_X5_reaches_80, i_X5_reaches_83, i_X5_reaches_83b, i_X5_reaches_83c, i_X5_reaches_0_e, Option.toList_some, Option.toList_none, List.cons_append, List.nil_append, List.append_nil, ↓reduceIte, up2_s, c5]
      have k1 : (400 * n + 20 * c + 0) / 400 = n := by omega
      have k2 : (400 * n + 20 * c + 0) / 20 % 20 = c := by omega
      have k3 : (400 * n + 20 * c + 0) % 20 = 0 := by omega
      refine hQ _ (some (400 * n + 20 * c + 0)) ⟨k1, mm_1.mpr ⟨by omega, by omega⟩, ?_, fun t' g1 g2 g3 => ?_⟩ (hI3 _) (fun t h => ?_)
      · rw [vl_at cb.2 (by decide)]
        have e2 := sat_iff.mpr hs.2
        have e3 := slow hb.1 ha.2 e2
        unfold vlx
        rw [if_neg c0, if_pos rfl]
        unfold gd1
        simp [hn, h5, hs.1, e2, e3]
        omega
      · have q := hsat t' g3 g1 g2
        have := sat_one p1 p2 hs.1 q.1 hs.2 q.2
        omega
      · cases h
        rw [k2, k3, cv_n c0]
        exact ⟨up2_s _ _ _ _, by rw [up2_n _ _ (by simp)]; exact up2_s _ _ _ _⟩
  · simp (disch := omega) only [i_X5_reaches_0, i_X5_reaches_1, i_X5_reaches_3, i_X5_reaches_6, i_X5_reaches_7, i_X5_reaches_9, i_X5_reaches_12, i_X5_reaches_13, i_X5_reaches_16, i_X5_reaches_19, i_X5_reaches_20, i_X5_reaches_22, i_X5_reaches_23, i_X5_reaches_25, i_X5_reaches_26, i_X5_reaches_27, i_X5_reaches_28, i_X5_reaches_31, i_X5_reaches_32, i_X5_reaches_36, i_X5_reaches_36b, i_X5_reaches_36c, i_X5_reaches_35, i_X5_reaches_37, i_X5_reaches_38, i_X5_reaches_41, i_X5_reaches_42, i_X5_reaches_45, i_X5_reaches_46, i_X5_reaches_47, i_X5_reaches_48, i_X5_reaches_50, i_X5_reaches_52, i_X5_reaches_55, i_X5_reaches_58, i_X5_reaches_59, i_X5_reaches_62, i_X5_reaches_64, i_X5_reaches_67, i_X5_reaches_68, i_X5_reaches_72, i_X5_reaches_72b, i_X5_reaches_72c, i_X5_reaches_71, i_X5_reaches_73, i_X5_reaches_74, i_X5_reaches_75, i_X5_reaches_76, i_X5_reaches_78, i_X5_reaches_80, i_X5_reaches_83, i_X5_reaches_83b, i_X5_reaches_83c, i_X5_reaches_0_e, Option.toList_some, Option.toList_none, List.cons_append, List.nil_append, List.append_nil, ↓reduceIte, e0, q_e0, q_eq, show (2 = 0) = False from by decide, show (2 = 1) = False from by decide]
    refine t_byTwo hT hn h5 hd ha hb (fun I' o h1 h2 h3 => ?_)
    simp (disch := omega) only [i_X5_reaches_0, i_X5_reaches_1, i_X5_reaches_3, i_X5_reaches_6, i_X5_reaches_7, i_X5_reaches_9, i_X5_reaches_12, i_X5_reaches_13, i_X5_reaches_16, i_X5_reaches_19, i_X5_reaches_20, i_X5_reaches_22, i_X5_reaches_23, i_X5_reaches_25, i_X5_reaches_26, i_X5_reaches_27, i_X5_reaches_28, i_X5_reaches_31, i_X5_reaches_32, i_X5_reaches_36, i_X5_reaches_36b, i_X5_reaches_36c, i_X5_reaches_35, i_X5_reaches_37, i_X5_reaches_38, i_X5_reaches_41, i_X5_reaches_42, i_X5_reaches_45, i_X5_reaches_46, i_X5_reaches_47, i_X5_reaches_48, i_X5_reaches_50, i_X5_reaches_52, i_X5_reaches_55, i_X5_reaches_58, i_X5_reaches_59, i_X5_reaches_62, i_X5_reaches_64, i_X5_reaches_67, i_X5_reaches_68, i_X5_reaches_72, i_X5_reaches_72b, i_X5_reaches_72c, i_X5_reaches_71, i_X5_reaches_73, i_X5_reaches_74, i_X5_reaches_75, i_X5_reaches_76, i_X5_reaches_78, i_X5_reaches_80, i_X5_reaches_83, i_X5_reaches_83b, i_X5_reaches_83c, i_X5_reaches_0_e, Option.toList_some, Option.toList_none, List.cons_append, List.nil_append, List.append_nil, ↓reduceIte]
    exact hQ I' o h1 (fun c k h => by rw [h2 c k h]; exact hI2 c k h) h3
end WAP
