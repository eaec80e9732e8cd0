/-! the class's whole reading -/
theorem ap_at {α : Type} {l : List α} {b q : α} {i : Nat} (h : (l ++ [b])[i]? = some q) : (i < l.length ∧ l[i]? = some q) ∨ (i = l.length ∧ q = b) := by
  have hi := (List.getElem?_eq_some_iff.mp h).1
  simp at hi
  by_cases hl : i < l.length
  · left; rw [List.getElem?_append_left hl] at h; exact ⟨hl, h⟩
  · right
    have : i = l.length := by omega
    subst this
    rw [List.getElem?_append_right (Nat.le_refl _)] at h
    simp at h
    exact ⟨rfl, h.symm⟩
section PAQ
variable {X : pm_X} {d : Nat} {G : pm_H} {Q : Option Value → pm_H → Prop} {I A : Nat → Nat → Int32} {E : Nat → Nat → Int64} {J : Nat → Int32} {B : Nat → Nat → Int32} {T T' : Tr} {S : St} {tp : List Nat}
theorem t_parse (hY : RelY I A tp) (hQ : ∀ I' A', PRel I' A' (prs tp) → (∀ c k, c ≠ 131 ∨ k = 1 → I' c k = I c k) → (∀ a, a ≠ 133 → a ≠ 134 → A' a = A a) → Q (some (.int (bz (isR (prs tp))))) (pm_w I' A' E J B)) : pm_call X (d + 4) mX3_parse [.ref 131] (pm_w I A E J B) Q := by
  have h40 := hY.2.1
  have key : ∀ m (acc : List (Nat × Nat)) (p st : Nat) (I1 A1 : Nat → Nat → Int32), acc.length + m = 40 → p ≤ tp.length → tp.length ≤ p + m → I1 131 2 = nI p → I1 131 3 = nI st → I1 131 4 = nI acc.length → I1 131 7 = bz false → HL A1 acc → (∀ c k, c ≠ 131 ∨ k = 1 → I1 c k = I c k) → (∀ a, a ≠ 133 → a ≠ 134 → A1 a = A a) → prs tp = prs2 tp st (acc ++ (stps tp m p).1) (stps tp m p).2.1 (stps tp m p).2.2 → pm_wp X (d + 4) mX3_parse 34 [.ref 131, .int (nI acc.length)] [] (pm_w I1 A1 E J B) Q := by
    intro m
    induction m with
    | zero =>
      intro acc p st I1 A1 hm hp hlen e2 e3 e4 e7 hH hI hA hpr
      have hl : p = tp.length := by omega
      have e1 : I1 131 1 = nI tp.length := by rw [hI 131 1 (by omega)]; exact hY.1
      have h4 : ¬ acc.length < 40 := by omega
      have hr : prs tp = .inr (st, acc ++ [], none) := by
        rw [hpr]
        show prs2 tp st (acc ++ []) p false = _
        unfold prs2
        rw [if_neg (by decide), if_neg (by omega)]
      rw [hr] at hQ
      rw [i_X3_parse_34]
      simp (disch := omega) only [i_X3_parse_0, i_X3_parse_1, i_X3_parse_2, i_X3_parse_5, i_X3_parse_6, i_X3_parse_7, i_X3_parse_10, i_X3_parse_11, i_X3_parse_12, i_X3_parse_12b, i_X3_parse_12c, i_X3_parse_15, i_X3_parse_16, i_X3_parse_17, i_X3_parse_20, i_X3_parse_23, i_X3_parse_24, i_X3_parse_27, i_X3_parse_30, i_X3_parse_31, i_X3_parse_31b, i_X3_parse_31c, i_X3_parse_32, i_X3_parse_33, i_X3_parse_35, i_X3_parse_37, i_X3_parse_40, i_X3_parse_41, i_X3_parse_44, i_X3_parse_45, i_X3_parse_48, i_X3_parse_51, i_X3_parse_52, i_X3_parse_54, i_X3_parse_57, i_X3_parse_60, i_X3_parse_61, i_X3_parse_64, i_X3_parse_67, i_X3_parse_68, i_X3_parse_71, i_X3_parse_72, i_X3_parse_75, i_X3_parse_78, i_X3_parse_79, i_X3_parse_83, i_X3_parse_83b, i_X3_parse_83c, i_X3_parse_82, i_X3_parse_84, i_X3_parse_85, i_X3_parse_88, i_X3_parse_91, i_X3_parse_92, i_X3_parse_92b, i_X3_parse_92c, i_X3_parse_93, i_X3_parse_96, i_X3_parse_99, i_X3_parse_100, i_X3_parse_103, i_X3_parse_104, i_X3_parse_107, i_X3_parse_110, i_X3_parse_111, i_X3_parse_115, i_X3_parse_115b, i_X3_parse_115c, i_X3_parse_114, i_X3_parse_0_e, Option.toList_some, Option.toList_none, List.cons_append, List.nil_append, List.append_nil, ↓reduceIte, q_lt, h4, e2, e1, hl]
      exact hQ I1 A1 ⟨e3, by simp; exact e4, by simpa using hH, e7⟩ hI hA
    | succ m ih =>
      intro acc p st I1 A1 hm hp hlen e2 e3 e4 e7 hH hI hA hpr
      have e1 : I1 131 1 = nI tp.length := by rw [hI 131 1 (by omega)]; exact hY.1
      have h4 : acc.length < 40 := by omega
      have hY1 : RelY I1 A1 tp := hY.fr (hI 131 1 (by omega)) (hA 132 (by decide) (by decide))
      have est : stps tp (m + 1) p = if kdA tp p = 0 then ([], p, false) else (match nof tp (kdA tp p) (p + 1) with
        | none => ([], p + 1, true)
        | some vq => ((kdA tp p, vq.1) :: (stps tp m vq.2).1, (stps tp m vq.2).2)) := rfl
      rw [i_X3_parse_34]
      by_cases hl : p < tp.length
      · simp (disch := omega) only [i_X3_parse_0, i_X3_parse_1, i_X3_parse_2, i_X3_parse_5, i_X3_parse_6, i_X3_parse_7, i_X3_parse_10, i_X3_parse_11, i_X3_parse_12, i_X3_parse_12b, i_X3_parse_12c, i_X3_parse_15, i_X3_parse_16, i_X3_parse_17, i_X3_parse_20, i_X3_parse_23, i_X3_parse_24, i_X3_parse_27, i_X3_parse_30, i_X3_parse_31, i_X3_parse_31b, i_X3_parse_31c, i_X3_parse_32, i_X3_parse_33, i_X3_parse_35, i_X3_parse_37, i_X3_parse_40, i_X3_parse_41, i_X3_parse_44, i_X3_parse_45, i_X3_parse_48, i_X3_parse_51, i_X3_parse_52, i_X3_parse_54, i_X3_parse_57, i_X3_parse_60, i_X3_parse_61, i_X3_parse_64, i_X3_parse_67, i_X3_parse_68, i_X3_parse_71, i_X3_parse_72, i_X3_parse_75, i_X3_parse_78, i_X3_parse_79, i_X3_parse_83, i_X3_parse_83b, i_X3_parse_83c, i_X3_parse_82, i_X3_parse_84, i_X3_parse_85, i_X3_parse_88, i_X3_parse_91, i_X3_parse_92, i_X3_parse_92b, i_X3_parse_92c, i_X3_parse_93, i_X3_parse_96, i_X3_parse_99, i_X3_parse_100, i_X3_parse_103, i_X3_parse_104, i_X3_parse_107, i_X3_parse_110, i_X3_parse_111, i_X3_parse_115, i_X3_parse_115b, i_X3_parse_115c, i_X3_parse_114, i_X3_parse_0_e, Option.toList_some, Option.toList_none, List.cons_append, List.nil_append, List.append_nil, ↓reduceIte, q_lt, h4, e2, e1, hl]
        rw [t_readSign hY1 e2 hp (by decide)]
        by_cases c46 : bt tp p = 46
        · have hs : sg tp p 46 = true := by unfold sg; simp [hl, c46]
          have hk : kdA tp p = 0 := by unfold kdA; rw [if_pos hl, c46]; rfl
          rw [est, if_pos hk] at hpr
          have hr : prs tp = (match lfP tp (p + 1) with
            | .inl e => .inl e
            | .inr q => if q.2.2.2 < tp.length then .inl q.2.2.2 else .inr (st, acc ++ [], some (q.1, q.2.1, q.2.2.1))) := by
            rw [hpr]
            show prs2 tp st (acc ++ []) p false = _
            unfold prs2
            rw [if_neg (by decide), if_pos hl, if_pos c46]
            cases lfP tp (p + 1) <;> rfl
          rw [hr] at hQ
          rw [hs, if_pos rfl]
          simp (disch := omega) only [i_X3_parse_0, i_X3_parse_1, i_X3_parse_2, i_X3_parse_5, i_X3_parse_6, i_X3_parse_7, i_X3_parse_10, i_X3_parse_11, i_X3_parse_12, i_X3_parse_12b, i_X3_parse_12c, i_X3_parse_15, i_X3_parse_16, i_X3_parse_17, i_X3_parse_20, i_X3_parse_23, i_X3_parse_24, i_X3_parse_27, i_X3_parse_30, i_X3_parse_31, i_X3_parse_31b, i_X3_parse_31c, i_X3_parse_32, i_X3_parse_33, i_X3_parse_35, i_X3_parse_37, i_X3_parse_40, i_X3_parse_41, i_X3_parse_44, i_X3_parse_45, i_X3_parse_48, i_X3_parse_51, i_X3_parse_52, i_X3_parse_54, i_X3_parse_57, i_X3_parse_60, i_X3_parse_61, i_X3_parse_64, i_X3_parse_67, i_X3_parse_68, i_X3_parse_71, i_X3_parse_72, i_X3_parse_75, i_X3_parse_78, i_X3_parse_79, i_X3_parse_83, i_X3_parse_83b, i_X3_parse_83c, i_X3_parse_82, i_X3_parse_84, i_X3_parse_85, i_X3_parse_88, i_X3_parse_91, i_X3_parse_92, i_X3_parse_92b, i_X3_parse_92c, i_X3_parse_93, i_X3_parse_96, i_X3_parse_99, i_X3_parse_100, i_X3_parse_103, i_X3_parse_104, i_X3_parse_107, i_X3_parse_110, i_X3_parse_111, i_X3_parse_115, i_X3_parse_115b, i_X3_parse_115c, i_X3_parse_114, i_X3_parse_0_e, Option.toList_some, Option.toList_none, List.cons_append, List.nil_append, List.append_nil, ↓reduceIte, bz_e0, reduceCtorEq]
          refine t_readLeaf hY1.mv (p := p + 1) (up2_s _ _ _ _) (by omega) (fun I2 g1 g2 g3 => ?_)
          have hI2 : ∀ c k, c ≠ 131 ∨ k = 1 → I2 c k = I c k := fun c k h => by rw [g1 c k (by omega), up2_n _ _ (by omega)]; exact hI c k h
          have e12 : I2 131 1 = nI tp.length := by rw [hI2 131 1 (by omega)]; exact hY.1
          have lb := lfP_b (tp := tp) (p := p + 1) (by omega)
          cases hf : lfP tp (p + 1) with
          | inl e =>
            rw [hf] at hQ
            simp (disch := omega) only [i_X3_parse_0, i_X3_parse_1, i_X3_parse_2, i_X3_parse_5, i_X3_parse_6, i_X3_parse_7, i_X3_parse_10, i_X3_parse_11, i_X3_parse_12, i_X3_parse_12b, i_X3_parse_12c, i_X3_parse_15, i_X3_parse_16, i_X3_parse_17, i_X3_parse_20, i_X3_parse_23, i_X3_parse_24, i_X3_parse_27, i_X3_parse_30, i_X3_parse_31, i_X3_parse_31b, i_X3_parse_31c, i_X3_parse_32, i_X3_parse_33, i_X3_parse_35, i_X3_parse_37, i_X3_parse_40, i_X3_parse_41, i_X3_parse_44, i_X3_parse_45, i_X3_parse_48, i_X3_parse_51, i_X3_parse_52, i_X3_parse_54, i_X3_parse_57, i_X3_parse_60, i_X3_parse_61, i_X3_parse_64, i_X3_parse_67, i_X3_parse_68, i_X3_parse_71, i_X3_parse_72, i_X3_parse_75, i_X3_parse_78, i_X3_parse_79, i_X3_parse_83, i_X3_parse_83b, i_X3_parse_83c, i_X3_parse_82, i_X3_parse_84, i_X3_parse_85, i_X3_parse_88, i_X3_parse_91, i_X3_parse_92, i_X3_parse_92b, i_X3_parse_92c, i_X3_parse_93, i_X3_parse_96, i_X3_parse_99, i_X3_parse_100, i_X3_parse_103, i_X3_parse_104, i_X3_parse_107, i_X3_parse_110, i_X3_parse_111, i_X3_parse_115, i_X3_parse_115b, i_X3_parse_115c, i_X3_parse_114, i_X3_parse_0_e, Option.toList_some, Option.toList_none, List.cons_append, List.nil_append, List.append_nil, ↓reduceIte, bz_e0]
            exact hQ I2 A1 (g2 e hf) hI2 hA
          | inr q =>
            rw [hf] at hQ
            have b5 := (lb.2 q hf).2.2.2
            obtain ⟨k2, k7, k8, k9, k10⟩ := g3 q hf
            simp (disch := omega) only [i_X3_parse_0, i_X3_parse_1, i_X3_parse_2, i_X3_parse_5, i_X3_parse_6, i_X3_parse_7, i_X3_parse_10, i_X3_parse_11, i_X3_parse_12, i_X3_parse_12b, i_X3_parse_12c, i_X3_parse_15, i_X3_parse_16, i_X3_parse_17, i_X3_parse_20, i_X3_parse_23, i_X3_parse_24, i_X3_parse_27, i_X3_parse_30, i_X3_parse_31, i_X3_parse_31b, i_X3_parse_31c, i_X3_parse_32, i_X3_parse_33, i_X3_parse_35, i_X3_parse_37, i_X3_parse_40, i_X3_parse_41, i_X3_parse_44, i_X3_parse_45, i_X3_parse_48, i_X3_parse_51, i_X3_parse_52, i_X3_parse_54, i_X3_parse_57, i_X3_parse_60, i_X3_parse_61, i_X3_parse_64, i_X3_parse_67, i_X3_parse_68, i_X3_parse_71, i_X3_parse_72, i_X3_parse_75, i_X3_parse_78, i_X3_parse_79, i_X3_parse_83, i_X3_parse_83b, i_X3_parse_83c, i_X3_parse_82, i_X3_parse_84, i_X3_parse_85, i_X3_parse_88, i_X3_parse_91, i_X3_parse_92, i_X3_parse_92b, i_X3_parse_92c, i_X3_parse_93, i_X3_parse_96, i_X3_parse_99, i_X3_parse_100, i_X3_parse_103, i_X3_parse_104, i_X3_parse_107, i_X3_parse_110, i_X3_parse_111, i_X3_parse_115, i_X3_parse_115b, i_X3_parse_115c, i_X3_parse_114, i_X3_parse_0_e, Option.toList_some, Option.toList_none, List.cons_append, List.nil_append, List.append_nil, ↓reduceIte, bz_e0, reduceCtorEq, k2, e12]
            by_cases hq : q.2.2.2 = tp.length
            · have hq' := eq_true hq
              simp only [if_neg (show ¬ q.2.2.2 < tp.length by omega)] at hQ
              simp (disch := omega) only [i_X3_parse_0, i_X3_parse_1, i_X3_parse_2, i_X3_parse_5, i_X3_parse_6, i_X3_parse_7, i_X3_parse_10, i_X3_parse_11, i_X3_parse_12, i_X3_parse_12b, i_X3_parse_12c, i_X3_parse_15, i_X3_parse_16, i_X3_parse_17, i_X3_parse_20, i_X3_parse_23, i_X3_parse_24, i_X3_parse_27, i_X3_parse_30, i_X3_parse_31, i_X3_parse_31b, i_X3_parse_31c, i_X3_parse_32, i_X3_parse_33, i_X3_parse_35, i_X3_parse_37, i_X3_parse_40, i_X3_parse_41, i_X3_parse_44, i_X3_parse_45, i_X3_parse_48, i_X3_parse_51, i_X3_parse_52, i_X3_parse_54, i_X3_parse_57, i_X3_parse_60, i_X3_parse_61, i_X3_parse_64, i_X3_parse_67, i_X3_parse_68, i_X3_parse_71, i_X3_parse_72, i_X3_parse_75, i_X3_parse_78, i_X3_parse_79, i_X3_parse_83, i_X3_parse_83b, i_X3_parse_83c, i_X3_parse_82, i_X3_parse_84, i_X3_parse_85, i_X3_parse_88, i_X3_parse_91, i_X3_parse_92, i_X3_parse_92b, i_X3_parse_92c, i_X3_parse_93, i_X3_parse_96, i_X3_parse_99, i_X3_parse_100, i_X3_parse_103, i_X3_parse_104, i_X3_parse_107, i_X3_parse_110, i_X3_parse_111, i_X3_parse_115, i_X3_parse_115b, i_X3_parse_115c, i_X3_parse_114, i_X3_parse_0_e, Option.toList_some, Option.toList_none, List.cons_append, List.nil_append, List.append_nil, ↓reduceIte, q_eq, hq']
              refine hQ I2 A1 ⟨by rw [g1 131 3 (by omega), up2_n _ _ (by simp)]; exact e3, by rw [g1 131 4 (by omega), up2_n _ _ (by simp)]; simp; exact e4, by simpa using hH, k7, k8, k9, k10⟩ hI2 hA
            · simp only [if_pos (show q.2.2.2 < tp.length by omega)] at hQ
              simp (disch := omega) only [i_X3_parse_0, i_X3_parse_1, i_X3_parse_2, i_X3_parse_5, i_X3_parse_6, i_X3_parse_7, i_X3_parse_10, i_X3_parse_11, i_X3_parse_12, i_X3_parse_12b, i_X3_parse_12c, i_X3_parse_15, i_X3_parse_16, i_X3_parse_17, i_X3_parse_20, i_X3_parse_23, i_X3_parse_24, i_X3_parse_27, i_X3_parse_30, i_X3_parse_31, i_X3_parse_31b, i_X3_parse_31c, i_X3_parse_32, i_X3_parse_33, i_X3_parse_35, i_X3_parse_37, i_X3_parse_40, i_X3_parse_41, i_X3_parse_44, i_X3_parse_45, i_X3_parse_48, i_X3_parse_51, i_X3_parse_52, i_X3_parse_54, i_X3_parse_57, i_X3_parse_60, i_X3_parse_61, i_X3_parse_64, i_X3_parse_67, i_X3_parse_68, i_X3_parse_71, i_X3_parse_72, i_X3_parse_75, i_X3_parse_78, i_X3_parse_79, i_X3_parse_83, i_X3_parse_83b, i_X3_parse_83c, i_X3_parse_82, i_X3_parse_84, i_X3_parse_85, i_X3_parse_88, i_X3_parse_91, i_X3_parse_92, i_X3_parse_92b, i_X3_parse_92c, i_X3_parse_93, i_X3_parse_96, i_X3_parse_99, i_X3_parse_100, i_X3_parse_103, i_X3_parse_104, i_X3_parse_107, i_X3_parse_110, i_X3_parse_111, i_X3_parse_115, i_X3_parse_115b, i_X3_parse_115c, i_X3_parse_114, i_X3_parse_0_e, Option.toList_some, Option.toList_none, List.cons_append, List.nil_append, List.append_nil, ↓reduceIte, q_eq, hq]
              exact hQ I2 A1 k2 hI2 hA
        · have hs : sg tp p 46 = false := by unfold sg; simp [c46]
          rw [hs, if_neg (by decide)]
          simp (disch := omega) only [i_X3_parse_0, i_X3_parse_1, i_X3_parse_2, i_X3_parse_5, i_X3_parse_6, i_X3_parse_7, i_X3_parse_10, i_X3_parse_11, i_X3_parse_12, i_X3_parse_12b, i_X3_parse_12c, i_X3_parse_15, i_X3_parse_16, i_X3_parse_17, i_X3_parse_20, i_X3_parse_23, i_X3_parse_24, i_X3_parse_27, i_X3_parse_30, i_X3_parse_31, i_X3_parse_31b, i_X3_parse_31c, i_X3_parse_32, i_X3_parse_33, i_X3_parse_35, i_X3_parse_37, i_X3_parse_40, i_X3_parse_41, i_X3_parse_44, i_X3_parse_45, i_X3_parse_48, i_X3_parse_51, i_X3_parse_52, i_X3_parse_54, i_X3_parse_57, i_X3_parse_60, i_X3_parse_61, i_X3_parse_64, i_X3_parse_67, i_X3_parse_68, i_X3_parse_71, i_X3_parse_72, i_X3_parse_75, i_X3_parse_78, i_X3_parse_79, i_X3_parse_83, i_X3_parse_83b, i_X3_parse_83c, i_X3_parse_82, i_X3_parse_84, i_X3_parse_85, i_X3_parse_88, i_X3_parse_91, i_X3_parse_92, i_X3_parse_92b, i_X3_parse_92c, i_X3_parse_93, i_X3_parse_96, i_X3_parse_99, i_X3_parse_100, i_X3_parse_103, i_X3_parse_104, i_X3_parse_107, i_X3_parse_110, i_X3_parse_111, i_X3_parse_115, i_X3_parse_115b, i_X3_parse_115c, i_X3_parse_114, i_X3_parse_0_e, Option.toList_some, Option.toList_none, List.cons_append, List.nil_append, List.append_nil, ↓reduceIte, bz_e0]
          refine t_readStep hY1 e2 hp e4 h4 (fun hk => ?_) (fun hk hn => ?_) (fun hk r hn => ?_)
          · rw [est, if_pos hk] at hpr
            have hr : prs tp = .inl p := by
              rw [hpr]
              show prs2 tp st (acc ++ []) p false = _
              unfold prs2
              rw [if_neg (by decide), if_pos hl, if_neg c46]
            rw [hr] at hQ
            simp (disch := omega) only [i_X3_parse_0, i_X3_parse_1, i_X3_parse_2, i_X3_parse_5, i_X3_parse_6, i_X3_parse_7, i_X3_parse_10, i_X3_parse_11, i_X3_parse_12, i_X3_parse_12b, i_X3_parse_12c, i_X3_parse_15, i_X3_parse_16, i_X3_parse_17, i_X3_parse_20, i_X3_parse_23, i_X3_parse_24, i_X3_parse_27, i_X3_parse_30, i_X3_parse_31, i_X3_parse_31b, i_X3_parse_31c, i_X3_parse_32, i_X3_parse_33, i_X3_parse_35, i_X3_parse_37, i_X3_parse_40, i_X3_parse_41, i_X3_parse_44, i_X3_parse_45, i_X3_parse_48, i_X3_parse_51, i_X3_parse_52, i_X3_parse_54, i_X3_parse_57, i_X3_parse_60, i_X3_parse_61, i_X3_parse_64, i_X3_parse_67, i_X3_parse_68, i_X3_parse_71, i_X3_parse_72, i_X3_parse_75, i_X3_parse_78, i_X3_parse_79, i_X3_parse_83, i_X3_parse_83b, i_X3_parse_83c, i_X3_parse_82, i_X3_parse_84, i_X3_parse_85, i_X3_parse_88, i_X3_parse_91, i_X3_parse_92, i_X3_parse_92b, i_X3_parse_92c, i_X3_parse_93, i_X3_parse_96, i_X3_parse_99, i_X3_parse_100, i_X3_parse_103, i_X3_parse_104, i_X3_parse_107, i_X3_parse_110, i_X3_parse_111, i_X3_parse_115, i_X3_parse_115b, i_X3_parse_115c, i_X3_parse_114, i_X3_parse_0_e, Option.toList_some, Option.toList_none, List.cons_append, List.nil_append, List.append_nil, ↓reduceIte, bz_e0]
            exact hQ I1 A1 e2 hI hA
          · rw [est, if_neg hk, hn] at hpr
            have hr : prs tp = .inl (p + 1) := by
              rw [hpr]
              unfold prs2
              rw [if_pos rfl]
            rw [hr] at hQ
            simp (disch := omega) only [i_X3_parse_0, i_X3_parse_1, i_X3_parse_2, i_X3_parse_5, i_X3_parse_6, i_X3_parse_7, i_X3_parse_10, i_X3_parse_11, i_X3_parse_12, i_X3_parse_12b, i_X3_parse_12c, i_X3_parse_15, i_X3_parse_16, i_X3_parse_17, i_X3_parse_20, i_X3_parse_23, i_X3_parse_24, i_X3_parse_27, i_X3_parse_30, i_X3_parse_31, i_X3_parse_31b, i_X3_parse_31c, i_X3_parse_32, i_X3_parse_33, i_X3_parse_35, i_X3_parse_37, i_X3_parse_40, i_X3_parse_41, i_X3_parse_44, i_X3_parse_45, i_X3_parse_48, i_X3_parse_51, i_X3_parse_52, i_X3_parse_54, i_X3_parse_57, i_X3_parse_60, i_X3_parse_61, i_X3_parse_64, i_X3_parse_67, i_X3_parse_68, i_X3_parse_71, i_X3_parse_72, i_X3_parse_75, i_X3_parse_78, i_X3_parse_79, i_X3_parse_83, i_X3_parse_83b, i_X3_parse_83c, i_X3_parse_82, i_X3_parse_84, i_X3_parse_85, i_X3_parse_88, i_X3_parse_91, i_X3_parse_92, i_X3_parse_92b, i_X3_parse_92c, i_X3_parse_93, i_X3_parse_96, i_X3_parse_99, i_X3_parse_100, i_X3_parse_103, i_X3_parse_104, i_X3_parse_107, i_X3_parse_110, i_X3_parse_111, i_X3_parse_115, i_X3_parse_115b, i_X3_parse_115c, i_X3_parse_114, i_X3_parse_0_e, Option.toList_some, Option.toList_none, List.cons_append, List.nil_append, List.append_nil, ↓reduceIte, bz_e0]
            exact hQ _ A1 (up2_s _ _ _ _) (fun c k h => by rw [up2_n _ _ (by omega)]; exact hI c k h) hA
          · rw [est, if_neg hk, hn] at hpr
            have b := nof_b hn
            simp (disch := omega) only [i_X3_parse_0, i_X3_parse_1, i_X3_parse_2, i_X3_parse_5, i_X3_parse_6, i_X3_parse_7, i_X3_parse_10, i_X3_parse_11, i_X3_parse_12, i_X3_parse_12b, i_X3_parse_12c, i_X3_parse_15, i_X3_parse_16, i_X3_parse_17, i_X3_parse_20, i_X3_parse_23, i_X3_parse_24, i_X3_parse_27, i_X3_parse_30, i_X3_parse_31, i_X3_parse_31b, i_X3_parse_31c, i_X3_parse_32, i_X3_parse_33, i_X3_parse_35, i_X3_parse_37, i_X3_parse_40, i_X3_parse_41, i_X3_parse_44, i_X3_parse_45, i_X3_parse_48, i_X3_parse_51, i_X3_parse_52, i_X3_parse_54, i_X3_parse_57, i_X3_parse_60, i_X3_parse_61, i_X3_parse_64, i_X3_parse_67, i_X3_parse_68, i_X3_parse_71, i_X3_parse_72, i_X3_parse_75, i_X3_parse_78, i_X3_parse_79, i_X3_parse_83, i_X3_parse_83b, i_X3_parse_83c, i_X3_parse_82, i_X3_parse_84, i_X3_parse_85, i_X3_parse_88, i_X3_parse_91, i_X3_parse_92, i_X3_parse_92b, i_X3_parse_92c, i_X3_parse_93, i_X3_parse_96, i_X3_parse_99, i_X3_parse_100, i_X3_parse_103, i_X3_parse_104, i_X3_parse_107, i_X3_parse_110, i_X3_parse_111, i_X3_parse_115, i_X3_parse_115b, i_X3_parse_115c, i_X3_parse_114, i_X3_parse_0_e, Option.toList_some, Option.toList_none, List.cons_append, List.nil_append, List.append_nil, ↓reduceIte, bz_e0, reduceCtorEq, nI_add]
            have hlen2 : (acc ++ [(kdA tp p, r.1)]).length = acc.length + 1 := by simp
            have := ih (acc ++ [(kdA tp p, r.1)]) r.2 st (up2 (up2 I1 131 2 (nI r.2)) 131 4 (nI (acc.length + 1))) (up2 (up2 A1 133 acc.length (nI (kdA tp p))) 134 acc.length (nI r.1)) (by rw [hlen2]; omega) b.2.2 (by omega) (by rw [up2_n _ _ (by simp)]; exact up2_s _ _ _ _) (by rw [up2_n _ _ (by simp), up2_n _ _ (by simp)]; exact e3) (by rw [hlen2]; exact up2_s _ _ _ _) (by rw [up2_n _ _ (by simp), up2_n _ _ (by simp)]; exact e7) (fun i kv hi => ?_) (fun c k h => by rw [up2_n _ _ (by omega), up2_n _ _ (by omega)]; exact hI c k h) (fun a h1 h2 => by rw [up2_na _ _ h2, up2_na _ _ h1]; exact hA a h1 h2) (by rw [hpr]; simp)
            · rw [hlen2] at this
              exact this
            · rcases ap_at hi with ⟨k1, k2⟩ | ⟨k1, k2⟩
              · rw [up2_na _ _ (by decide), up2_n _ _ (by omega), up2_n _ _ (by omega), up2_na _ _ (by decide)]
                exact hH i kv k2
              · subst k1; subst k2
                exact ⟨by rw [up2_na _ _ (by decide)]; exact up2_s _ _ _ _, up2_s _ _ _ _⟩
      · have hl2 : p = tp.length := by omega
        have hk : kdA tp p = 0 := by unfold kdA; rw [if_neg hl]
        rw [est, if_pos hk] at hpr
        have hr : prs tp = .inr (st, acc ++ [], none) := by
          rw [hpr]
          show prs2 tp st (acc ++ []) p false = _
          unfold prs2
          rw [if_neg (by decide), if_neg hl]
        rw [hr] at hQ
        simp (disch := omega) only [i_X3_parse_0, i_X3_parse_1, i_X3_parse_2, i_X3_parse_5, i_X3_parse_6, i_X3_parse_7, i_X3_parse_10, i_X3_parse_11, i_X3_parse_12, i_X3_parse_12b, i_X3_parse_12c, i_X3_parse_15, i_X3_parse_16, i_X3_parse_17, i_X3_parse_20, i_X3_parse_23, i_X3_parse_24, i_X3_parse_27, i_X3_parse_30, i_X3_parse_31, i_X3_parse_31b, i_X3_parse_31c, i_X3_parse_32, i_X3_parse_33, i_X3_parse_35, i_X3_parse_37, i_X3_parse_40, i_X3_parse_41, i_X3_parse_44, i_X3_parse_45, i_X3_parse_48, i_X3_parse_51, i_X3_parse_52, i_X3_parse_54, i_X3_parse_57, i_X3_parse_60, i_X3_parse_61, i_X3_parse_64, i_X3_parse_67, i_X3_parse_68, i_X3_parse_71, i_X3_parse_72, i_X3_parse_75, i_X3_parse_78, i_X3_parse_79, i_X3_parse_83, i_X3_parse_83b, i_X3_parse_83c, i_X3_parse_82, i_X3_parse_84, i_X3_parse_85, i_X3_parse_88, i_X3_parse_91, i_X3_parse_92, i_X3_parse_92b, i_X3_parse_92c, i_X3_parse_93, i_X3_parse_96, i_X3_parse_99, i_X3_parse_100, i_X3_parse_103, i_X3_parse_104, i_X3_parse_107, i_X3_parse_110, i_X3_parse_111, i_X3_parse_115, i_X3_parse_115b, i_X3_parse_115c, i_X3_parse_114, i_X3_parse_0_e, Option.toList_some, Option.toList_none, List.cons_append, List.nil_append, List.append_nil, ↓reduceIte, q_lt, h4, e2, e1, hl2, Nat.lt_irrefl]
        exact hQ I1 A1 ⟨e3, by simp; exact e4, by simpa using hH, e7⟩ hI hA
  simp (disch := omega) only [i_X3_parse_0, i_X3_parse_1, i_X3_parse_2, i_X3_parse_5, i_X3_parse_6, i_X3_parse_7, i_X3_parse_10, i_X3_parse_11, i_X3_parse_12, i_X3_parse_12b, i_X3_parse_12c, i_X3_parse_15, i_X3_parse_16, i_X3_parse_17, i_X3_parse_20, i_X3_parse_23, i_X3_parse_24, i_X3_parse_27, i_X3_parse_30, i_X3_parse_31, i_X3_parse_31b, i_X3_parse_31c, i_X3_parse_32, i_X3_parse_33, i_X3_parse_35, i_X3_parse_37, i_X3_parse_40, i_X3_parse_41, i_X3_parse_44, i_X3_parse_45, i_X3_parse_48, i_X3_parse_51, i_X3_parse_52, i_X3_parse_54, i_X3_parse_57, i_X3_parse_60, i_X3_parse_61, i_X3_parse_64, i_X3_parse_67, i_X3_parse_68, i_X3_parse_71, i_X3_parse_72, i_X3_parse_75, i_X3_parse_78, i_X3_parse_79, i_X3_parse_83, i_X3_parse_83b, i_X3_parse_83c, i_X3_parse_82, i_X3_parse_84, i_X3_parse_85, i_X3_parse_88, i_X3_parse_91, i_X3_parse_92, i_X3_parse_92b, i_X3_parse_92c, i_X3_parse_93, i_X3_parse_96, i_X3_parse_99, i_X3_parse_100, i_X3_parse_103, i_X3_parse_104, i_X3_parse_107, i_X3_parse_110, i_X3_parse_111, i_X3_parse_115, i_X3_parse_115b, i_X3_parse_115c, i_X3_parse_114, i_X3_parse_0_e, Option.toList_some, Option.toList_none, List.cons_append, List.nil_append, List.append_nil, ↓reduceIte]
  have hY0 : RelY (up2 (up2 (up2 I 131 2 (nI 0)) 131 4 (nI 0)) 131 7 (bz false)) A tp := hY.fr (by simp [up2]) rfl
  refine t_readNumber hY0 (p := 0) (by simp [up2]) (Nat.zero_le _) (fun h => ?_) (fun r h => ?_)
  · have hr : prs tp = .inl 0 := by unfold prs; rw [h]
    rw [hr] at hQ
    simp (disch := omega) only [i_X3_parse_0, i_X3_parse_1, i_X3_parse_2, i_X3_parse_5, i_X3_parse_6, i_X3_parse_7, i_X3_parse_10, i_X3_parse_11, i_X3_parse_12, i_X3_parse_12b, i_X3_parse_12c, i_X3_parse_15, i_X3_parse_16, i_X3_parse_17, i_X3_parse_20, i_X3_parse_23, i_X3_parse_24, i_X3_parse_27, i_X3_parse_30, i_X3_parse_31, i_X3_parse_31b, i_X3_parse_31c, i_X3_parse_32, i_X3_parse_33, i_X3_parse_35, i_X3_parse_37, i_X3_parse_40, i_X3_parse_41, i_X3_parse_44, i_X3_parse_45, i_X3_parse_48, i_X3_parse_51, i_X3_parse_52, i_X3_parse_54, i_X3_parse_57, i_X3_parse_60, i_X3_parse_61, i_X3_parse_64, i_X3_parse_67, i_X3_parse_68, i_X3_parse_71, i_X3_parse_72, i_X3_parse_75, i_X3_parse_78, i_X3_parse_79, i_X3_parse_83, i_X3_parse_83b, i_X3_parse_83c, i_X3_parse_82, i_X3_parse_84, i_X3_parse_85, i_X3_parse_88, i_X3_parse_91, i_X3_parse_92, i_X3_parse_92b, i_X3_parse_92c, i_X3_parse_93, i_X3_parse_96, i_X3_parse_99, i_X3_parse_100, i_X3_parse_103, i_X3_parse_104, i_X3_parse_107, i_X3_parse_110, i_X3_parse_111, i_X3_parse_115, i_X3_parse_115b, i_X3_parse_115c, i_X3_parse_114, i_X3_parse_0_e, Option.toList_some, Option.toList_none, List.cons_append, List.nil_append, List.append_nil, ↓reduceIte, up2_s, show ((-1 : Int32) < 0) = True from by decide]
    exact hQ _ A (by simp [PRel, up2]) (fun c k h => by rw [up2_n _ _ (by omega), up2_n _ _ (by omega), up2_n _ _ (by omega), up2_n _ _ (by omega)]) (fun _ _ _ => rfl)
  · have b := num_b h
    simp (disch := omega) only [i_X3_parse_0, i_X3_parse_1, i_X3_parse_2, i_X3_parse_5, i_X3_parse_6, i_X3_parse_7, i_X3_parse_10, i_X3_parse_11, i_X3_parse_12, i_X3_parse_12b, i_X3_parse_12c, i_X3_parse_15, i_X3_parse_16, i_X3_parse_17, i_X3_parse_20, i_X3_parse_23, i_X3_parse_24, i_X3_parse_27, i_X3_parse_30, i_X3_parse_31, i_X3_parse_31b, i_X3_parse_31c, i_X3_parse_32, i_X3_parse_33, i_X3_parse_35, i_X3_parse_37, i_X3_parse_40, i_X3_parse_41, i_X3_parse_44, i_X3_parse_45, i_X3_parse_48, i_X3_parse_51, i_X3_parse_52, i_X3_parse_54, i_X3_parse_57, i_X3_parse_60, i_X3_parse_61, i_X3_parse_64, i_X3_parse_67, i_X3_parse_68, i_X3_parse_71, i_X3_parse_72, i_X3_parse_75, i_X3_parse_78, i_X3_parse_79, i_X3_parse_83, i_X3_parse_83b, i_X3_parse_83c, i_X3_parse_82, i_X3_parse_84, i_X3_parse_85, i_X3_parse_88, i_X3_parse_91, i_X3_parse_92, i_X3_parse_92b, i_X3_parse_92c, i_X3_parse_93, i_X3_parse_96, i_X3_parse_99, i_X3_parse_100, i_X3_parse_103, i_X3_parse_104, i_X3_parse_107, i_X3_parse_110, i_X3_parse_111, i_X3_parse_115, i_X3_parse_115b, i_X3_parse_115c, i_X3_parse_114, i_X3_parse_0_e, Option.toList_some, Option.toList_none, List.cons_append, List.nil_append, List.append_nil, ↓reduceIte, up2_s, q_neg]
    refine key 40 [] r.2 r.1 _ A rfl b.2.2 (by omega) (by simp [up2]) (by simp [up2]) (by simp [up2]) (by simp [up2]) (fun i kv hi => by simp at hi) (fun c k h => by rw [up2_n _ _ (by omega), up2_n _ _ (by omega), up2_n _ _ (by omega), up2_n _ _ (by omega), up2_n _ _ (by omega)]) (fun _ _ _ => rfl) ?_
    unfold prs
    rw [h]
    rfl
end PAQ
