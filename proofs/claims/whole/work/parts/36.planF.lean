theorem isT_ap {a b : Nat} (ha : isT a = true) (hb : isT b = true) (hne : a ≠ b) : a + 12 ≤ b ∨ b + 12 ≤ a := by
  rcases isT_mem ha with rfl | rfl | rfl | rfl | rfl | rfl | rfl | rfl | rfl <;> rcases isT_mem hb with rfl | rfl | rfl | rfl | rfl | rfl | rfl | rfl | rfl <;> omega
section PLF
variable {X : pm_X} {d : Nat} {G : pm_H} {Q : Option Value → pm_H → Prop} {I A : Nat → Nat → Int32} {E : Nat → Nat → Int64} {J : Nat → Int32} {B : Nat → Nat → Int32} {T : Tr}
/-- a tree takes another one's numbers -/
theorem t_take {a b : Nat} (ha : isT a = true) (hb : isT b = true) (hne : a ≠ b) (hP : RelTP I A b T) (h24 : T 10 0 ≤ 24) (hQ : ∀ I' A', RelTP I' A' a T → (∀ c k, (c ≠ a ∨ (k ≠ 11 ∧ k ≠ 12)) → I' c k = I c k) → (∀ c, c ≤ a ∨ a + 12 ≤ c → A' c = A c) → Q none (pm_w I' A' E J B)) : pm_call X d mX4_take [.ref a, .ref b] (pm_w I A E J B) Q := by
  have hap := isT_ap ha hb hne
  have key2 : ∀ m n, n + m = 4 → ∀ (A1 : Nat → Nat → Int32), (∀ w k, w < 10 → k < T 10 0 → A1 (a + (w + 1)) k = A (b + (w + 1)) k) → (∀ g, g < n → A1 (a + 11) g = A (b + 11) g) → (∀ c, c ≤ a ∨ a + 12 ≤ c → A1 c = A c) → pm_wp X d mX4_take 138 [.ref a, .ref b, .int (nI n)] [] (pm_w I A1 E J B) Q := by
    intro m
    induction m with
    | zero =>
      intro n hn A1 h1 h2 h3
      have : n = 4 := by omega
      subst this
      rw [i_X4_take_138]
      have u1 : ∀ x, up2 I a 11 x b 12 = I b 12 := fun x => by rw [up2_na _ _ (Ne.symm hne)]
      simp (disch := first | omega | assumption) only [i_X4_take_0, i_X4_take_1, i_X4_take_3, i_X4_take_4, i_X4_take_7, i_X4_take_10, i_X4_take_11, i_X4_take_14, i_X4_take_15, i_X4_take_16, i_X4_take_19, i_X4_take_20, i_X4_take_21, i_X4_take_22, i_X4_take_23, i_X4_take_26, i_X4_take_27, i_X4_take_28, i_X4_take_31, i_X4_take_32, i_X4_take_33, i_X4_take_34, i_X4_take_35, i_X4_take_38, i_X4_take_39, i_X4_take_40, i_X4_take_43, i_X4_take_44, i_X4_take_45, i_X4_take_46, i_X4_take_47, i_X4_take_50, i_X4_take_51, i_X4_take_52, i_X4_take_55, i_X4_take_56, i_X4_take_57, i_X4_take_58, i_X4_take_59, i_X4_take_62, i_X4_take_63, i_X4_take_64, i_X4_take_67, i_X4_take_68, i_X4_take_69, i_X4_take_70, i_X4_take_71, i_X4_take_74, i_X4_take_75, i_X4_take_76, i_X4_take_79, i_X4_take_80, i_X4_take_81, i_X4_take_82, i_X4_take_83, i_X4_take_86, i_X4_take_87, i_X4_take_88, i_X4_take_91, i_X4_take_92, i_X4_take_93, i_X4_take_94, i_X4_take_95, i_X4_take_98, i_X4_take_99, i_X4_take_100, i_X4_take_103, i_X4_take_104, i_X4_take_105, i_X4_take_106, i_X4_take_107, i_X4_take_110, i_X4_take_111, i_X4_take_112, i_X4_take_115, i_X4_take_116, i_X4_take_117, i_X4_take_118, i_X4_take_119, i_X4_take_122, i_X4_take_123, i_X4_take_124, i_X4_take_127, i_X4_take_128, i_X4_take_129, i_X4_take_130, i_X4_take_133, i_X4_take_136, i_X4_take_137, i_X4_take_139, i_X4_take_140, i_X4_take_143, i_X4_take_144, i_X4_take_147, i_X4_take_148, i_X4_take_149, i_X4_take_152, i_X4_take_153, i_X4_take_154, i_X4_take_155, i_X4_take_158, i_X4_take_161, i_X4_take_162, i_X4_take_163, i_X4_take_166, i_X4_take_169, i_X4_take_170, i_X4_take_171, i_X4_take_174, i_X4_take_177, i_X4_take_0_e, Option.toList_some, Option.toList_none, List.cons_append, List.nil_append, List.append_nil, ↓reduceIte, q_lt, Nat.lt_irrefl, u1]
      refine hQ _ _ ⟨?_, ?_, fun g hg => ?_, fun w k hw hk hne => ?_⟩ (fun c k hc => ?_) h3
      · simp [up2, hP.1]
      · simp [up2, hP.2.1]
      · rw [h2 g hg]; exact hP.2.2.1 g hg
      · rw [h1 w k hw hk]; exact hP.2.2.2 w k hw hk hne
      · rcases hc with hc | hc
        · rw [up2_na _ _ hc, up2_na _ _ hc]
        · rw [up2_n _ _ (by simp [hc.2]), up2_n _ _ (by simp [hc.1])]
    | succ m ih =>
      intro n hn A1 h1 h2 h3
      have hn4 : n < 4 := by omega
      rw [i_X4_take_138]
      simp (disch := first | omega | assumption) only [i_X4_take_0, i_X4_take_1, i_X4_take_3, i_X4_take_4, i_X4_take_7, i_X4_take_10, i_X4_take_11, i_X4_take_14, i_X4_take_15, i_X4_take_16, i_X4_take_19, i_X4_take_20, i_X4_take_21, i_X4_take_22, i_X4_take_23, i_X4_take_26, i_X4_take_27, i_X4_take_28, i_X4_take_31, i_X4_take_32, i_X4_take_33, i_X4_take_34, i_X4_take_35, i_X4_take_38, i_X4_take_39, i_X4_take_40, i_X4_take_43, i_X4_take_44, i_X4_take_45, i_X4_take_46, i_X4_take_47, i_X4_take_50, i_X4_take_51, i_X4_take_52, i_X4_take_55, i_X4_take_56, i_X4_take_57, i_X4_take_58, i_X4_take_59, i_X4_take_62, i_X4_take_63, i_X4_take_64, i_X4_take_67, i_X4_take_68, i_X4_take_69, i_X4_take_70, i_X4_take_71, i_X4_take_74, i_X4_take_75, i_X4_take_76, i_X4_take_79, i_X4_take_80, i_X4_take_81, i_X4_take_82, i_X4_take_83, i_X4_take_86, i_X4_take_87, i_X4_take_88, i_X4_take_91, i_X4_take_92, i_X4_take_93, i_X4_take_94, i_X4_take_95, i_X4_take_98, i_X4_take_99, i_X4_take_100, i_X4_take_103, i_X4_take_104, i_X4_take_105, i_X4_take_106, i_X4_take_107, i_X4_take_110, i_X4_take_111, i_X4_take_112, i_X4_take_115, i_X4_take_116, i_X4_take_117, i_X4_take_118, i_X4_take_119, i_X4_take_122, i_X4_take_123, i_X4_take_124, i_X4_take_127, i_X4_take_128, i_X4_take_129, i_X4_take_130, i_X4_take_133, i_X4_take_136, i_X4_take_137, i_X4_take_139, i_X4_take_140, i_X4_take_143, i_X4_take_144, i_X4_take_147, i_X4_take_148, i_X4_take_149, i_X4_take_152, i_X4_take_153, i_X4_take_154, i_X4_take_155, i_X4_take_158, i_X4_take_161, i_X4_take_162, i_X4_take_163, i_X4_take_166, i_X4_take_169, i_X4_take_170, i_X4_take_171, i_X4_take_174, i_X4_take_177, i_X4_take_0_e, Option.toList_some, Option.toList_none, List.cons_append, List.nil_append, List.append_nil, ↓reduceIte, q_lt, nI_add, hn4]
      refine ih (n + 1) (by omega) _ (fun w k hw hk => ?_) (fun g hg => ?_) (fun c hc => ?_)
      · rw [up2_na _ _ (by omega)]; exact h1 w k hw hk
      · by_cases hgn : g = n
        · subst hgn; rw [up2_s, h3 (b + 11) (by omega)]
        · rw [up2_n _ _ (by simp [hgn])]; exact h2 g (by omega)
      · rw [up2_na _ _ (by omega)]; exact h3 c hc
  have key : ∀ m n, n + m = T 10 0 → ∀ (A1 : Nat → Nat → Int32), (∀ w k, w < 10 → k < n → A1 (a + (w + 1)) k = A (b + (w + 1)) k) → (∀ c, c ≤ a ∨ a + 12 ≤ c → A1 c = A c) → pm_wp X d mX4_take 2 [.ref a, .ref b, .int (nI n)] [] (pm_w I A1 E J B) Q := by
    intro m
    induction m with
    | zero =>
      intro n hn A1 h1 h3
      have : n = T 10 0 := by omega
      subst this
      rw [i_X4_take_2]
      simp (disch := first | omega | assumption) only [i_X4_take_0, i_X4_take_1, i_X4_take_3, i_X4_take_4, i_X4_take_7, i_X4_take_10, i_X4_take_11, i_X4_take_14, i_X4_take_15, i_X4_take_16, i_X4_take_19, i_X4_take_20, i_X4_take_21, i_X4_take_22, i_X4_take_23, i_X4_take_26, i_X4_take_27, i_X4_take_28, i_X4_take_31, i_X4_take_32, i_X4_take_33, i_X4_take_34, i_X4_take_35, i_X4_take_38, i_X4_take_39, i_X4_take_40, i_X4_take_43, i_X4_take_44, i_X4_take_45, i_X4_take_46, i_X4_take_47, i_X4_take_50, i_X4_take_51, i_X4_take_52, i_X4_take_55, i_X4_take_56, i_X4_take_57, i_X4_take_58, i_X4_take_59, i_X4_take_62, i_X4_take_63, i_X4_take_64, i_X4_take_67, i_X4_take_68, i_X4_take_69, i_X4_take_70, i_X4_take_71, i_X4_take_74, i_X4_take_75, i_X4_take_76, i_X4_take_79, i_X4_take_80, i_X4_take_81, i_X4_take_82, i_X4_take_83, i_X4_take_86, i_X4_take_87, i_X4_take_88, i_X4_take_91, i_X4_take_92, i_X4_take_93, i_X4_take_94, i_X4_take_95, i_X4_take_98, i_X4_take_99, i_X4_take_100, i_X4_take_103, i_X4_take_104, i_X4_take_105, i_X4_take_106, i_X4_take_107, i_X4_take_110, i_X4_take_111, i_X4_take_112, i_X4_take_115, i_X4_take_116, i_X4_take_117, i_X4_take_118, i_X4_take_119, i_X4_take_122, i_X4_take_123, i_X4_take_124, i_X4_take_127, i_X4_take_128, i_X4_take_129, i_X4_take_130, i_X4_take_133, i_X4_take_136, i_X4_take_137, i_X4_take_139, i_X4_take_140, i_X4_take_143, i_X4_take_144, i_X4_take_147, i_X4_take_148, i_X4_take_149, i_X4_take_152, i_X4_take_153, i_X4_take_154, i_X4_take_155, i_X4_take_158, i_X4_take_161, i_X4_take_162, i_X4_take_163, i_X4_take_166, i_X4_take_169, i_X4_take_170, i_X4_take_171, i_X4_take_174, i_X4_take_177, i_X4_take_0_e, Option.toList_some, Option.toList_none, List.cons_append, List.nil_append, List.append_nil, ↓reduceIte, q_lt, Nat.lt_irrefl, hP.2.1]
      exact key2 4 0 (by omega) A1 h1 (fun g hg => by omega) h3
    | succ m ih =>
      intro n hn A1 h1 h3
      have hn2 : n < T 10 0 := by omega
      have e : ∀ w, w < 10 → A1 (b + (w + 1)) n = A (b + (w + 1)) n := fun w hw => by rw [h3 _ (by omega)]
      rw [i_X4_take_2]
      simp (disch := first | omega | assumption) only [i_X4_take_0, i_X4_take_1, i_X4_take_3, i_X4_take_4, i_X4_take_7, i_X4_take_10, i_X4_take_11, i_X4_take_14, i_X4_take_15, i_X4_take_16, i_X4_take_19, i_X4_take_20, i_X4_take_21, i_X4_take_22, i_X4_take_23, i_X4_take_26, i_X4_take_27, i_X4_take_28, i_X4_take_31, i_X4_take_32, i_X4_take_33, i_X4_take_34, i_X4_take_35, i_X4_take_38, i_X4_take_39, i_X4_take_40, i_X4_take_43, i_X4_take_44, i_X4_take_45, i_X4_take_46, i_X4_take_47, i_X4_take_50, i_X4_take_51, i_X4_take_52, i_X4_take_55, i_X4_take_56, i_X4_take_57, i_X4_take_58, i_X4_take_59, i_X4_take_62, i_X4_take_63, i_X4_take_64, i_X4_take_67, i_X4_take_68, i_X4_take_69, i_X4_take_70, i_X4_take_71, i_X4_take_74, i_X4_take_75, i_X4_take_76, i_X4_take_79, i_X4_take_80, i_X4_take_81, i_X4_take_82, i_X4_take_83, i_X4_take_86, i_X4_take_87, i_X4_take_88, i_X4_take_91, i_X4_take_92, i_X4_take_93, i_X4_take_94, i_X4_take_95, i_X4_take_98, i_X4_take_99, i_X4_take_100, i_X4_take_103, i_X4_take_104, i_X4_take_105, i_X4_take_106, i_X4_take_107, i_X4_take_110, i_X4_take_111, i_X4_take_112, i_X4_take_115, i_X4_take_116, i_X4_take_117, i_X4_take_118, i_X4_take_119, i_X4_take_122, i_X4_take_123, i_X4_take_124, i_X4_take_127, i_X4_take_128, i_X4_take_129, i_X4_take_130, i_X4_take_133, i_X4_take_136, i_X4_take_137, i_X4_take_139, i_X4_take_140, i_X4_take_143, i_X4_take_144, i_X4_take_147, i_X4_take_148, i_X4_take_149, i_X4_take_152, i_X4_take_153, i_X4_take_154, i_X4_take_155, i_X4_take_158, i_X4_take_161, i_X4_take_162, i_X4_take_163, i_X4_take_166, i_X4_take_169, i_X4_take_170, i_X4_take_171, i_X4_take_174, i_X4_take_177, i_X4_take_0_e, Option.toList_some, Option.toList_none, List.cons_append, List.nil_append, List.append_nil, ↓reduceIte, q_lt, nI_add, hP.2.1, hn2, up2_na]
      refine ih (n + 1) (by omega) _ (fun w k hw hk => ?_) (fun c hc => ?_)
      · by_cases hkn : k = n
        · subst hkn
          rw [← e w hw]
          match w, hw with
          | 0, _ | 1, _ | 2, _ | 3, _ | 4, _ | 5, _ | 6, _ | 7, _ | 8, _ | 9, _ => simp [up2]
        · rw [← h1 w k hw (by omega)]
          simp [up2, hkn]
      · rw [← h3 c hc]
        simp (disch := omega) only [up2_na]
  simp only [i_X4_take_0, i_X4_take_1, i_X4_take_3, i_X4_take_4, i_X4_take_7, i_X4_take_10, i_X4_take_11, i_X4_take_14, i_X4_take_15, i_X4_take_16, i_X4_take_19, i_X4_take_20, i_X4_take_21, i_X4_take_22, i_X4_take_23, i_X4_take_26, i_X4_take_27, i_X4_take_28, i_X4_take_31, i_X4_take_32, i_X4_take_33, i_X4_take_34, i_X4_take_35, i_X4_take_38, i_X4_take_39, i_X4_take_40, i_X4_take_43, i_X4_take_44, i_X4_take_45, i_X4_take_46, i_X4_take_47, i_X4_take_50, i_X4_take_51, i_X4_take_52, i_X4_take_55, i_X4_take_56, i_X4_take_57, i_X4_take_58, i_X4_take_59, i_X4_take_62, i_X4_take_63, i_X4_take_64, i_X4_take_67, i_X4_take_68, i_X4_take_69, i_X4_take_70, i_X4_take_71, i_X4_take_74, i_X4_take_75, i_X4_take_76, i_X4_take_79, i_X4_take_80, i_X4_take_81, i_X4_take_82, i_X4_take_83, i_X4_take_86, i_X4_take_87, i_X4_take_88, i_X4_take_91, i_X4_take_92, i_X4_take_93, i_X4_take_94, i_X4_take_95, i_X4_take_98, i_X4_take_99, i_X4_take_100, i_X4_take_103, i_X4_take_104, i_X4_take_105, i_X4_take_106, i_X4_take_107, i_X4_take_110, i_X4_take_111, i_X4_take_112, i_X4_take_115, i_X4_take_116, i_X4_take_117, i_X4_take_118, i_X4_take_119, i_X4_take_122, i_X4_take_123, i_X4_take_124, i_X4_take_127, i_X4_take_128, i_X4_take_129, i_X4_take_130, i_X4_take_133, i_X4_take_136, i_X4_take_137, i_X4_take_139, i_X4_take_140, i_X4_take_143, i_X4_take_144, i_X4_take_147, i_X4_take_148, i_X4_take_149, i_X4_take_152, i_X4_take_153, i_X4_take_154, i_X4_take_155, i_X4_take_158, i_X4_take_161, i_X4_take_162, i_X4_take_163, i_X4_take_166, i_X4_take_169, i_X4_take_170, i_X4_take_171, i_X4_take_174, i_X4_take_177, i_X4_take_0_e, Option.toList_some, Option.toList_none, List.cons_append, List.nil_append, List.append_nil, ↓reduceIte]
  exact key (T 10 0) 0 (by omega) A (fun w k hw hk => by omega) (fun _ _ => rfl)
/-- the class's history: trees in a ring, the oldest one first in the list -/
def RelH (I A : Nat → Nat → Int32) (hs : List Tr) : Prop := hs.length ≤ 6 ∧ I 57 2 = nI hs.length ∧ ∃ m, m < 6 ∧ I 57 1 = nI m ∧ ∀ i t, hs[i]? = some t → RelTP I A (59 + 12 * ((m + 7 + i - hs.length) % 6)) t
def pushH (hs : List Tr) (t : Tr) : List Tr := (if hs.length = 6 then hs.tail else hs) ++ [t]
theorem RelTP.fr {I A I' A' : Nat → Nat → Int32} {a : Nat} {T : Tr} (h : RelTP I A a T) (hI : I' a 11 = I a 11 ∧ I' a 12 = I a 12) (hA : ∀ c, a < c → c < a + 12 → A' c = A c) : RelTP I' A' a T := ⟨by rw [hI.1]; exact h.1, by rw [hI.2]; exact h.2.1, fun g hg => by rw [hA _ (by omega) (by omega)]; exact h.2.2.1 g hg, fun w k hw hk hne => by rw [hA _ (by omega) (by omega)]; exact h.2.2.2 w k hw hk hne⟩
theorem ring_ne {i j m : Nat} (hi : i < 6) (hj : j < 6) (h : i ≠ j) : 59 + 12 * ((m + i) % 6) + 12 ≤ 59 + 12 * ((m + j) % 6) ∨ 59 + 12 * ((m + j) % 6) + 12 ≤ 59 + 12 * ((m + i) % 6) := by omega
theorem t_push {hs : List Tr} (hH : RelH I A hs) (hP : RelTP I A 13 T) (h24 : T 10 0 ≤ 24) (hQ : ∀ I' A', RelH I' A' (pushH hs T) → (∀ c k, c < 57 ∨ 131 ≤ c → I' c k = I c k) → (∀ c, c < 59 ∨ 131 ≤ c → A' c = A c) → Q none (pm_w I' A' E J B)) : pm_call X (d + 1) mX1_push [.ref 57, .ref 13] (pm_w I A E J B) Q := by
  obtain ⟨hl, hh, m, hm, hm2, hr⟩ := hH
  have go : ∀ m', m' < 6 → (m + 1) % 6 = m' → pm_wp X (d + 1) mX1_push 25 [.ref 57, .ref 13] [] (pm_w (up2 I 57 1 (nI m')) A E J B) Q := by
    intro m' hm' he
    have e1 : up2 I 57 1 (nI m') 57 1 = nI m' := up2_s _ _ _ _
    have hT' := isT_k hm'
    simp (disch := first | omega | assumption) only [i_X1_push_0, i_X1_push_1, i_X1_push_2, i_X1_push_5, i_X1_push_6, i_X1_push_7, i_X1_push_9, i_X1_push_12, i_X1_push_13, i_X1_push_16, i_X1_push_17, i_X1_push_18, i_X1_push_22, i_X1_push_25, i_X1_push_26, i_X1_push_29, i_X1_push_30, i_X1_push_33, i_X1_push_34, i_X1_push_35, i_X1_push_38, i_X1_push_39, i_X1_push_40, i_X1_push_43, i_X1_push_44, i_X1_push_45, i_X1_push_47, i_X1_push_50, i_X1_push_53, i_X1_push_21, i_X1_push_0_e, Option.toList_some, Option.toList_none, List.cons_append, List.nil_append, List.append_nil, ↓reduceIte, e1]
    refine t_take hT' (by rfl) (by omega) (hP.fr (by simp [up2]) (fun _ _ _ => rfl)) h24 (fun I1 A1 hP1 hI1 hA1 => ?_)
    have g2 : I1 57 2 = nI hs.length := by rw [hI1 57 2 (by omega), up2_n _ _ (by simp)]; exact hh
    have hmin : (if nI 6 < nI hs.length + nI 1 then nI 6 else nI hs.length + nI 1) = nI (pushH hs T).length := by
      rw [nI_add]
      unfold pushH
      by_cases h6 : hs.length = 6
      · simp only [q_lt (show 6 < 2147483648 by decide) (show hs.length + 1 < 2147483648 by omega)]
        rw [if_pos (by omega), if_pos h6]
        simp [h6]
      · simp only [q_lt (show 6 < 2147483648 by decide) (show hs.length + 1 < 2147483648 by omega)]
        rw [if_neg (by omega), if_neg h6]
        simp
    simp (disch := first | omega | assumption) only [i_X1_push_0, i_X1_push_1, i_X1_push_2, i_X1_push_5, i_X1_push_6, i_X1_push_7, i_X1_push_9, i_X1_push_12, i_X1_push_13, i_X1_push_16, i_X1_push_17, i_X1_push_18, i_X1_push_22, i_X1_push_25, i_X1_push_26, i_X1_push_29, i_X1_push_30, i_X1_push_33, i_X1_push_34, i_X1_push_35, i_X1_push_38, i_X1_push_39, i_X1_push_40, i_X1_push_43, i_X1_push_44, i_X1_push_45, i_X1_push_47, i_X1_push_50, i_X1_push_53, i_X1_push_21, i_X1_push_0_e, Option.toList_some, Option.toList_none, List.cons_append, List.nil_append, List.append_nil, ↓reduceIte, g2, hmin]
    have hlen : (pushH hs T).length = if hs.length = 6 then 6 else hs.length + 1 := by
      unfold pushH; split <;> simp_all
    refine hQ _ _ ⟨by rw [hlen]; split <;> omega, up2_s _ _ _ _, m', hm', ?_, fun i t hi => ?_⟩ (fun c k hc => ?_) (fun c hc => hA1 c (by omega))
    · rw [up2_n _ _ (by simp), hI1 57 1 (by omega)]; exact e1
    · have hil : i < (pushH hs T).length := (List.getElem?_eq_some_iff.mp hi).1
      by_cases hlast : i = (pushH hs T).length - 1
      · have ht : t = T := by
          have : (pushH hs T)[(pushH hs T).length - 1]? = some T := by unfold pushH; simp
          rw [hlast, this] at hi; exact (Option.some.inj hi).symm
        subst ht
        have hx : (m' + 7 + i - (pushH hs t).length) % 6 = m' := by omega
        rw [hx]
        exact hP1.fr ⟨up2_n _ _ (by omega), up2_n _ _ (by omega)⟩ (fun _ _ _ => rfl)
      · have hold : hs[i + (if hs.length = 6 then 1 else 0)]? = some t := by
          unfold pushH at hi
          rw [List.getElem?_append_left (by
            rw [hlen] at hil hlast
            by_cases h6 : hs.length = 6
            · rw [if_pos h6] at hil hlast ⊢; simp; omega
            · rw [if_neg h6] at hil hlast ⊢; omega)] at hi
          by_cases h6 : hs.length = 6
          · rw [if_pos h6] at hi ⊢; rw [List.getElem?_tail] at hi; exact hi
          · rw [if_neg h6] at hi ⊢; exact hi
        have ho := hr _ t hold
        have hx : (m + 7 + (i + (if hs.length = 6 then 1 else 0)) - hs.length) % 6 = (m' + 7 + i - (pushH hs T).length) % 6 := by
          rw [hlen]
          rw [hlen] at hil
          by_cases h6 : hs.length = 6
          · rw [if_pos h6, if_pos h6]; omega
          · rw [if_neg h6, if_neg h6]; rw [if_neg h6] at hil; omega
        rw [hx] at ho
        have hne : (m' + 7 + i - (pushH hs T).length) % 6 ≠ m' := by
          rw [hlen] at hil hlast ⊢
          by_cases h6 : hs.length = 6
          · rw [if_pos h6] at hil hlast ⊢; omega
          · rw [if_neg h6] at hil hlast ⊢; omega
        refine ho.fr ⟨?_, ?_⟩ (fun c h1 h2 => ?_)
        · rw [up2_n _ _ (by omega), hI1 _ _ (by omega), up2_n _ _ (by omega)]
        · rw [up2_n _ _ (by omega), hI1 _ _ (by omega), up2_n _ _ (by omega)]
        · exact hA1 c (by omega)
    · rw [up2_na _ _ (by omega), hI1 c k (by omega), up2_na _ _ (by omega)]
  by_cases h5 : m + 1 < 6
  · simp (disch := first | omega | assumption) only [i_X1_push_0, i_X1_push_1, i_X1_push_2, i_X1_push_5, i_X1_push_6, i_X1_push_7, i_X1_push_9, i_X1_push_12, i_X1_push_13, i_X1_push_16, i_X1_push_17, i_X1_push_18, i_X1_push_22, i_X1_push_26, i_X1_push_29, i_X1_push_30, i_X1_push_33, i_X1_push_34, i_X1_push_35, i_X1_push_38, i_X1_push_39, i_X1_push_40, i_X1_push_43, i_X1_push_44, i_X1_push_45, i_X1_push_47, i_X1_push_50, i_X1_push_53, i_X1_push_21, i_X1_push_0_e, Option.toList_some, Option.toList_none, List.cons_append, List.nil_append, List.append_nil, ↓reduceIte, q_lt, nI_add, hm2, h5]
    exact go (m + 1) h5 (by omega)
  · simp (disch := first | omega | assumption) only [i_X1_push_0, i_X1_push_1, i_X1_push_2, i_X1_push_5, i_X1_push_6, i_X1_push_7, i_X1_push_9, i_X1_push_12, i_X1_push_13, i_X1_push_16, i_X1_push_17, i_X1_push_18, i_X1_push_22, i_X1_push_26, i_X1_push_29, i_X1_push_30, i_X1_push_33, i_X1_push_34, i_X1_push_35, i_X1_push_38, i_X1_push_39, i_X1_push_40, i_X1_push_43, i_X1_push_44, i_X1_push_45, i_X1_push_47, i_X1_push_50, i_X1_push_53, i_X1_push_21, i_X1_push_0_e, Option.toList_some, Option.toList_none, List.cons_append, List.nil_append, List.append_nil, ↓reduceIte, q_lt, nI_add, hm2, h5]
    exact go 0 (by decide) (by omega)
end PLF
