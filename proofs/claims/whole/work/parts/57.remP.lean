theorem cnt_pos {p : Nat → Bool} : ∀ n k, k < n → p k = true → 0 < cnt p n
  | 0, k, h, _ => by omega
  | n + 1, k, h, hp => by
    unfold cnt
    by_cases hk : k = n
    · subst hk; rw [if_pos hp]; omega
    · have := cnt_pos n k (by omega) hp; omega
theorem okD_t {T : Tr} {r : Nat} (h0 : 0 < r) (hr : r < T 10 0) (hc : chn T r = 0) : okD T r := ⟨h0, hr, fun k k0 hk e => by
  have := cnt_pos (p := chB T r) (T 10 0) k hk (by unfold chB; simp [k0, e])
  unfold chn at hc
  omega⟩
theorem ok_remove {S : St} (h : OkS S) {x : Int32} : OkS (o_remove S x).2 := by
  have h24 := h.1.1.wf.2.1
  unfold o_remove
  split
  · exact h
  · rename_i hx0
    split
    · rename_i hx
      split
      · exact h.ref
      · rename_i hc
        obtain ⟨k, hk, rfl⟩ := isN_t h.1.1.wf hx
        rw [xN_n (by omega)] at hc ⊢
        have : k ≠ 0 := fun e => hx0 (by rw [e]; rfl)
        exact h.chg (okP_rem h.1 (okD_t (by omega) hk (by omega)))
    · exact h.ref
section RMP
variable {X : pm_X} {d : Nat} {G : pm_H} {Q : Option Value → pm_H → Prop} {I A : Nat → Nat → Int32} {E : Nat → Nat → Int64} {J : Nat → Int32} {B : Nat → Nat → Int32} {T T' : Tr} {S : St}
theorem t_drop {r : Nat} (hP : RelTP I A 1 T) (hT : okT T) (hd : okD T r) (hQ : ∀ I' A', RelTP I' A' 1 (remT T r) → (∀ c k, c ≠ 1 → I' c k = I c k) → (∀ c, c ≤ 1 ∨ 12 ≤ c → A' c = A c) → Q none (pm_w I' A' E J B)) : pm_call X d mX4_drop [.ref 1, .int (nI r)] (pm_w I A E J B) Q := by
  have h24 := hT.wf.2.1
  have hsz := hP.2.1
  obtain ⟨d0, d1, d2⟩ := hd
  have key : ∀ m n, n + 1 + m = T 10 0 → r ≤ n → ∀ (A1 : Nat → Nat → Int32) (v : Value), (∀ w k, w < 10 → k < n → (w ≠ 1 ∨ 0 < k) → A1 (w + 2) k = nI (remT T r w k)) → (∀ w k, w < 10 → n < k → k < T 10 0 → A1 (w + 2) k = nI (T w k)) → (∀ c, c ≤ 1 ∨ 12 ≤ c → A1 c = A c) → pm_wp X d mX4_drop 2 [.ref 1, .int (nI r), .int (nI n), v] [] (pm_w I A1 E J B) Q := by
    intro m
    induction m with
    | zero =>
      intro n hn hrn A1 v h1 h2 h3
      rw [i_X4_drop_2]
      have hlt : ¬ n + 1 < T 10 0 := by omega
      simp (disch := omega) only [i_X4_drop_0, i_X4_drop_1, i_X4_drop_3, i_X4_drop_4, i_X4_drop_5, i_X4_drop_6, i_X4_drop_9, i_X4_drop_12, i_X4_drop_13, i_X4_drop_16, i_X4_drop_17, i_X4_drop_18, i_X4_drop_19, i_X4_drop_20, i_X4_drop_21, i_X4_drop_22, i_X4_drop_25, i_X4_drop_26, i_X4_drop_27, i_X4_drop_30, i_X4_drop_31, i_X4_drop_32, i_X4_drop_33, i_X4_drop_34, i_X4_drop_35, i_X4_drop_36, i_X4_drop_39, i_X4_drop_40, i_X4_drop_41, i_X4_drop_42, i_X4_drop_45, i_X4_drop_46, i_X4_drop_47, i_X4_drop_48, i_X4_drop_52, i_X4_drop_53, i_X4_drop_54, i_X4_drop_57, i_X4_drop_58, i_X4_drop_59, i_X4_drop_62, i_X4_drop_63, i_X4_drop_64, i_X4_drop_65, i_X4_drop_66, i_X4_drop_67, i_X4_drop_68, i_X4_drop_71, i_X4_drop_72, i_X4_drop_73, i_X4_drop_76, i_X4_drop_77, i_X4_drop_78, i_X4_drop_79, i_X4_drop_80, i_X4_drop_81, i_X4_drop_82, i_X4_drop_85, i_X4_drop_86, i_X4_drop_87, i_X4_drop_90, i_X4_drop_91, i_X4_drop_92, i_X4_drop_93, i_X4_drop_94, i_X4_drop_95, i_X4_drop_96, i_X4_drop_99, i_X4_drop_100, i_X4_drop_101, i_X4_drop_104, i_X4_drop_105, i_X4_drop_106, i_X4_drop_107, i_X4_drop_108, i_X4_drop_109, i_X4_drop_110, i_X4_drop_113, i_X4_drop_114, i_X4_drop_115, i_X4_drop_118, i_X4_drop_119, i_X4_drop_120, i_X4_drop_121, i_X4_drop_122, i_X4_drop_123, i_X4_drop_124, i_X4_drop_127, i_X4_drop_128, i_X4_drop_129, i_X4_drop_132, i_X4_drop_133, i_X4_drop_134, i_X4_drop_135, i_X4_drop_136, i_X4_drop_137, i_X4_drop_138, i_X4_drop_141, i_X4_drop_142, i_X4_drop_143, i_X4_drop_146, i_X4_drop_147, i_X4_drop_148, i_X4_drop_149, i_X4_drop_150, i_X4_drop_151, i_X4_drop_152, i_X4_drop_155, i_X4_drop_156, i_X4_drop_157, i_X4_drop_160, i_X4_drop_161, i_X4_drop_162, i_X4_drop_163, i_X4_drop_164, i_X4_drop_165, i_X4_drop_168, i_X4_drop_51, i_X4_drop_171, i_X4_drop_172, i_X4_drop_173, i_X4_drop_176, i_X4_drop_177, i_X4_drop_178, i_X4_drop_181, i_X4_drop_0_e, Option.toList_some, Option.toList_none, List.cons_append, List.nil_append, List.append_nil, ↓reduceIte, hsz, nI_add, q_lt, hlt, pk_sub]
      refine hQ _ _ ⟨?_, ?_, fun g hg => ?_, fun w k hw hk hne => ?_⟩ (fun c k hc => by rw [up2_na _ _ hc]) h3
      · rw [up2_n _ _ (by omega), remT_b]; exact hP.1
      · rw [up2_s, remT_N]
      · rw [h3 _ (by omega), remT_l]; exact hP.2.2.1 g hg
      · rw [remT_N] at hk
        rw [show 1 + (w + 1) = w + 2 by omega]
        exact h1 w k hw (by omega) hne
    | succ m ih =>
      intro n hn hrn A1 v h1 h2 h3
      have hlt : n + 1 < T 10 0 := by omega
      have hp := hT.wf.2.2 (n + 1) (by omega) hlt
      have en : sh r n = n + 1 := by unfold sh; rw [if_neg (by omega)]
      have e0 : A1 2 (n + 1) = nI (T 0 (n + 1)) := h2 0 _ (by decide) (by omega) hlt
      have e1 : A1 3 (n + 1) = nI (T 1 (n + 1)) := h2 1 _ (by decide) (by omega) hlt
      have e2 : A1 4 (n + 1) = nI (T 2 (n + 1)) := h2 2 _ (by decide) (by omega) hlt
      have e3 : A1 5 (n + 1) = nI (T 3 (n + 1)) := h2 3 _ (by decide) (by omega) hlt
      have e4 : A1 6 (n + 1) = nI (T 4 (n + 1)) := h2 4 _ (by decide) (by omega) hlt
      have e5 : A1 7 (n + 1) = nI (T 5 (n + 1)) := h2 5 _ (by decide) (by omega) hlt
      have e6 : A1 8 (n + 1) = nI (T 6 (n + 1)) := h2 6 _ (by decide) (by omega) hlt
      have e7 : A1 9 (n + 1) = nI (T 7 (n + 1)) := h2 7 _ (by decide) (by omega) hlt
      have e8 : A1 10 (n + 1) = nI (T 8 (n + 1)) := h2 8 _ (by decide) (by omega) hlt
      have e9 : A1 11 (n + 1) = nI (T 9 (n + 1)) := h2 9 _ (by decide) (by omega) hlt
      have fin : ∀ (q : Nat) (v : Value), q = pd r (T 1 (n + 1)) → pm_wp X d mX4_drop 2 [.ref 1, .int (nI r), .int (nI (n + 1)), v] [] (pm_w I (up2 (up2 (up2 (up2 (up2 (up2 (up2 (up2 (up2 (up2 A1 2 n (nI (T 0 (n + 1)))) 3 n (nI q)) 4 n (nI (T 2 (n + 1)))) 5 n (nI (T 3 (n + 1)))) 6 n (nI (T 4 (n + 1)))) 7 n (nI (T 5 (n + 1)))) 8 n (nI (T 6 (n + 1)))) 9 n (nI (T 7 (n + 1)))) 10 n (nI (T 8 (n + 1)))) 11 n (nI (T 9 (n + 1)))) E J B) Q := by
        intro q v hq
        refine ih (n + 1) (by omega) (by omega) _ v (fun w k hw hk hne => ?_) (fun w k hw hk hk2 => ?_) (fun c hc => ?_)
        · by_cases hkn : k = n
          · subst hkn
            match w, hw with
            | 0, _ | 2, _ | 3, _ | 4, _ | 5, _ | 6, _ | 7, _ | 8, _ | 9, _ => rw [remT_o (by decide) (by decide), en]; simp [up2]
            | 1, _ => rw [remT_1, en, ← hq]; simp [up2]
          · rw [← h1 w k hw (by omega) hne]
            simp [up2, hkn]
        · rw [← h2 w k hw (by omega) hk2]
          simp [up2, show ¬ k = n by omega]
        · rw [← h3 c hc]
          simp (disch := omega) only [up2_na]
      rw [i_X4_drop_2]
      by_cases hc : r < T 1 (n + 1)
      · have f := fin (T 1 (n + 1) - 1) (.int (nI (T 1 (n + 1)))) (by unfold pd; rw [if_pos hc])
        simp (disch := omega) only [i_X4_drop_0, i_X4_drop_1, i_X4_drop_3, i_X4_drop_4, i_X4_drop_5, i_X4_drop_6, i_X4_drop_9, i_X4_drop_12, i_X4_drop_13, i_X4_drop_16, i_X4_drop_17, i_X4_drop_18, i_X4_drop_19, i_X4_drop_20, i_X4_drop_21, i_X4_drop_22, i_X4_drop_25, i_X4_drop_26, i_X4_drop_27, i_X4_drop_30, i_X4_drop_31, i_X4_drop_32, i_X4_drop_33, i_X4_drop_34, i_X4_drop_35, i_X4_drop_36, i_X4_drop_39, i_X4_drop_40, i_X4_drop_41, i_X4_drop_42, i_X4_drop_45, i_X4_drop_46, i_X4_drop_47, i_X4_drop_48, i_X4_drop_52, i_X4_drop_53, i_X4_drop_54, i_X4_drop_57, i_X4_drop_58, i_X4_drop_59, i_X4_drop_62, i_X4_drop_63, i_X4_drop_64, i_X4_drop_65, i_X4_drop_66, i_X4_drop_67, i_X4_drop_68, i_X4_drop_71, i_X4_drop_72, i_X4_drop_73, i_X4_drop_76, i_X4_drop_77, i_X4_drop_78, i_X4_drop_79, i_X4_drop_80, i_X4_drop_81, i_X4_drop_82, i_X4_drop_85, i_X4_drop_86, i_X4_drop_87, i_X4_drop_90, i_X4_drop_91, i_X4_drop_92, i_X4_drop_93, i_X4_drop_94, i_X4_drop_95, i_X4_drop_96, i_X4_drop_99, i_X4_drop_100, i_X4_drop_101, i_X4_drop_104, i_X4_drop_105, i_X4_drop_106, i_X4_drop_107, i_X4_drop_108, i_X4_drop_109, i_X4_drop_110, i_X4_drop_113, i_X4_drop_114, i_X4_drop_115, i_X4_drop_118, i_X4_drop_119, i_X4_drop_120, i_X4_drop_121, i_X4_drop_122, i_X4_drop_123, i_X4_drop_124, i_X4_drop_127, i_X4_drop_128, i_X4_drop_129, i_X4_drop_132, i_X4_drop_133, i_X4_drop_134, i_X4_drop_135, i_X4_drop_136, i_X4_drop_137, i_X4_drop_138, i_X4_drop_141, i_X4_drop_142, i_X4_drop_143, i_X4_drop_146, i_X4_drop_147, i_X4_drop_148, i_X4_drop_149, i_X4_drop_150, i_X4_drop_151, i_X4_drop_152, i_X4_drop_155, i_X4_drop_156, i_X4_drop_157, i_X4_drop_160, i_X4_drop_161, i_X4_drop_162, i_X4_drop_163, i_X4_drop_164, i_X4_drop_165, i_X4_drop_168, i_X4_drop_51, i_X4_drop_171, i_X4_drop_172, i_X4_drop_173, i_X4_drop_176, i_X4_drop_177, i_X4_drop_178, i_X4_drop_181, i_X4_drop_0_e, Option.toList_some, Option.toList_none, List.cons_append, List.nil_append, List.append_nil, ↓reduceIte, hsz, nI_add, q_lt, hlt, e0, e1, e2, e3, e4, e5, e6, e7, e8, e9, hc, pk_sub, up2_na]
        exact f
      · have f := fin (T 1 (n + 1)) (.int (nI (T 1 (n + 1)))) (by unfold pd; rw [if_neg hc])
        simp (disch := omega) only [i_X4_drop_0, i_X4_drop_1, i_X4_drop_3, i_X4_drop_4, i_X4_drop_5, i_X4_drop_6, i_X4_drop_9, i_X4_drop_12, i_X4_drop_13, i_X4_drop_16, i_X4_drop_17, i_X4_drop_18, i_X4_drop_19, i_X4_drop_20, i_X4_drop_21, i_X4_drop_22, i_X4_drop_25, i_X4_drop_26, i_X4_drop_27, i_X4_drop_30, i_X4_drop_31, i_X4_drop_32, i_X4_drop_33, i_X4_drop_34, i_X4_drop_35, i_X4_drop_36, i_X4_drop_39, i_X4_drop_40, i_X4_drop_41, i_X4_drop_42, i_X4_drop_45, i_X4_drop_46, i_X4_drop_47, i_X4_drop_48, i_X4_drop_52, i_X4_drop_53, i_X4_drop_54, i_X4_drop_57, i_X4_drop_58, i_X4_drop_59, i_X4_drop_62, i_X4_drop_63, i_X4_drop_64, i_X4_drop_65, i_X4_drop_66, i_X4_drop_67, i_X4_drop_68, i_X4_drop_71, i_X4_drop_72, i_X4_drop_73, i_X4_drop_76, i_X4_drop_77, i_X4_drop_78, i_X4_drop_79, i_X4_drop_80, i_X4_drop_81, i_X4_drop_82, i_X4_drop_85, i_X4_drop_86, i_X4_drop_87, i_X4_drop_90, i_X4_drop_91, i_X4_drop_92, i_X4_drop_93, i_X4_drop_94, i_X4_drop_95, i_X4_drop_96, i_X4_drop_99, i_X4_drop_100, i_X4_drop_101, i_X4_drop_104, i_X4_drop_105, i_X4_drop_106, i_X4_drop_107, i_X4_drop_108, i_X4_drop_109, i_X4_drop_110, i_X4_drop_113, i_X4_drop_114, i_X4_drop_115, i_X4_drop_118, i_X4_drop_119, i_X4_drop_120, i_X4_drop_121, i_X4_drop_122, i_X4_drop_123, i_X4_drop_124, i_X4_drop_127, i_X4_drop_128, i_X4_drop_129, i_X4_drop_132, i_X4_drop_133, i_X4_drop_134, i_X4_drop_135, i_X4_drop_136, i_X4_drop_137, i_X4_drop_138, i_X4_drop_141, i_X4_drop_142, i_X4_drop_143, i_X4_drop_146, i_X4_drop_147, i_X4_drop_148, i_X4_drop_149, i_X4_drop_150, i_X4_drop_151, i_X4_drop_152, i_X4_drop_155, i_X4_drop_156, i_X4_drop_157, i_X4_drop_160, i_X4_drop_161, i_X4_drop_162, i_X4_drop_163, i_X4_drop_164, i_X4_drop_165, i_X4_drop_168, i_X4_drop_51, i_X4_drop_171, i_X4_drop_172, i_X4_drop_173, i_X4_drop_176, i_X4_drop_177, i_X4_drop_178, i_X4_drop_181, i_X4_drop_0_e, Option.toList_some, Option.toList_none, List.cons_append, List.nil_append, List.append_nil, ↓reduceIte, hsz, nI_add, q_lt, hlt, e0, e1, e2, e3, e4, e5, e6, e7, e8, e9, hc, pk_sub, up2_na]
        exact f
  simp only [i_X4_drop_0, i_X4_drop_1, i_X4_drop_3, i_X4_drop_4, i_X4_drop_5, i_X4_drop_6, i_X4_drop_9, i_X4_drop_12, i_X4_drop_13, i_X4_drop_16, i_X4_drop_17, i_X4_drop_18, i_X4_drop_19, i_X4_drop_20, i_X4_drop_21, i_X4_drop_22, i_X4_drop_25, i_X4_drop_26, i_X4_drop_27, i_X4_drop_30, i_X4_drop_31, i_X4_drop_32, i_X4_drop_33, i_X4_drop_34, i_X4_drop_35, i_X4_drop_36, i_X4_drop_39, i_X4_drop_40, i_X4_drop_41, i_X4_drop_42, i_X4_drop_45, i_X4_drop_46, i_X4_drop_47, i_X4_drop_48, i_X4_drop_52, i_X4_drop_53, i_X4_drop_54, i_X4_drop_57, i_X4_drop_58, i_X4_drop_59, i_X4_drop_62, i_X4_drop_63, i_X4_drop_64, i_X4_drop_65, i_X4_drop_66, i_X4_drop_67, i_X4_drop_68, i_X4_drop_71, i_X4_drop_72, i_X4_drop_73, i_X4_drop_76, i_X4_drop_77, i_X4_drop_78, i_X4_drop_79, i_X4_drop_80, i_X4_drop_81, i_X4_drop_82, i_X4_drop_85, i_X4_drop_86, i_X4_drop_87, i_X4_drop_90, i_X4_drop_91, i_X4_drop_92, i_X4_drop_93, i_X4_drop_94, i_X4_drop_95, i_X4_drop_96, i_X4_drop_99, i_X4_drop_100, i_X4_drop_101, i_X4_drop_104, i_X4_drop_105, i_X4_drop_106, i_X4_drop_107, i_X4_drop_108, i_X4_drop_109, i_X4_drop_110, i_X4_drop_113, i_X4_drop_114, i_X4_drop_115, i_X4_drop_118, i_X4_drop_119, i_X4_drop_120, i_X4_drop_121, i_X4_drop_122, i_X4_drop_123, i_X4_drop_124, i_X4_drop_127, i_X4_drop_128, i_X4_drop_129, i_X4_drop_132, i_X4_drop_133, i_X4_drop_134, i_X4_drop_135, i_X4_drop_136, i_X4_drop_137, i_X4_drop_138, i_X4_drop_141, i_X4_drop_142, i_X4_drop_143, i_X4_drop_146, i_X4_drop_147, i_X4_drop_148, i_X4_drop_149, i_X4_drop_150, i_X4_drop_151, i_X4_drop_152, i_X4_drop_155, i_X4_drop_156, i_X4_drop_157, i_X4_drop_160, i_X4_drop_161, i_X4_drop_162, i_X4_drop_163, i_X4_drop_164, i_X4_drop_165, i_X4_drop_168, i_X4_drop_51, i_X4_drop_171, i_X4_drop_172, i_X4_drop_173, i_X4_drop_176, i_X4_drop_177, i_X4_drop_178, i_X4_drop_181, i_X4_drop_0_e, Option.toList_some, Option.toList_none, List.cons_append, List.nil_append, List.append_nil, ↓reduceIte]
  refine key (T 10 0 - 1 - r) r (by omega) (Nat.le_refl _) A _ (fun w k hw hk hne => ?_) (fun w k hw hk hk2 => ?_) (fun _ _ => rfl)
  · have e := hP.2.2.2 w k hw (by omega) hne
    rw [show 1 + (w + 1) = w + 2 by omega] at e
    have es : sh r k = k := by unfold sh; rw [if_pos hk]
    rw [e]
    by_cases h1 : w = 1
    · subst h1
      have := hT.wf.2.2 k (by omega) (by omega)
      rw [remT_1, es]
      unfold pd
      rw [if_neg (by omega)]
    · rw [remT_o hw h1, es]
  · have e := hP.2.2.2 w k hw hk2 (by omega)
    rw [show 1 + (w + 1) = w + 2 by omega] at e
    exact e
theorem p_remove (hM : RelP I A E S) (hS : OkS S) {x : Int32} (hQ : ∀ I' A' E', RelP I' A' E' (o_remove S x).2 → Q (some (.int (o_remove S x).1)) (pm_w I' A' E' J B)) : pm_call X (d + 5) mX6_remove [.ref 0, .int x] (pm_w I A E J B) Q := by
  have hT := hS.1.1
  have h24 := hT.wf.2.1
  have hok := ok_remove hS (x := x)
  unfold o_remove at hQ hok
  by_cases hx0 : x = 0
  · rw [if_pos hx0] at hQ
    simp (disch := omega) only [i_X6_remove_0, i_X6_remove_1, i_X6_remove_4, i_X6_remove_5, i_X6_remove_6, i_X6_remove_7, i_X6_remove_8, i_X6_remove_11, i_X6_remove_14, i_X6_remove_15, i_X6_remove_16, i_X6_remove_19, i_X6_remove_20, i_X6_remove_21, i_X6_remove_24, i_X6_remove_27, i_X6_remove_28, i_X6_remove_29, i_X6_remove_32, i_X6_remove_33, i_X6_remove_35, i_X6_remove_38, i_X6_remove_39, i_X6_remove_40, i_X6_remove_43, i_X6_remove_44, i_X6_remove_47, i_X6_remove_48, i_X6_remove_51, i_X6_remove_52, i_X6_remove_53, i_X6_remove_56, i_X6_remove_59, i_X6_remove_62, i_X6_remove_0_e, Option.toList_some, Option.toList_none, List.cons_append, List.nil_append, List.append_nil, ↓reduceIte, hx0]
    exact hQ I A E hM
  · rw [if_neg hx0] at hQ hok
    cases hx : isN S.1 x with
    | false =>
      rw [hx] at hQ
      simp (disch := omega) only [i_X6_remove_0, i_X6_remove_1, i_X6_remove_4, i_X6_remove_5, i_X6_remove_6, i_X6_remove_7, i_X6_remove_8, i_X6_remove_11, i_X6_remove_14, i_X6_remove_15, i_X6_remove_16, i_X6_remove_19, i_X6_remove_20, i_X6_remove_21, i_X6_remove_24, i_X6_remove_27, i_X6_remove_28, i_X6_remove_29, i_X6_remove_32, i_X6_remove_33, i_X6_remove_35, i_X6_remove_38, i_X6_remove_39, i_X6_remove_40, i_X6_remove_43, i_X6_remove_44, i_X6_remove_47, i_X6_remove_48, i_X6_remove_51, i_X6_remove_52, i_X6_remove_53, i_X6_remove_56, i_X6_remove_59, i_X6_remove_62, i_X6_remove_0_e, Option.toList_some, Option.toList_none, List.cons_append, List.nil_append, List.append_nil, ↓reduceIte, hx0, t_isN hM.1 hT.wf, hx, bz_e0, t_refuse]
      exact hQ _ A E hM.reason
    | true =>
      rw [hx] at hQ hok
      have hx2 := hx
      obtain ⟨k, hk, rfl⟩ := isN_t hT.wf hx2
      rw [xN_n (by omega)] at hQ hok
      have k0 : 0 < k := Nat.pos_of_ne_zero (fun e => hx0 (by rw [e]; rfl))
      have f5 : A 42 k = nI (chn S.1 k) := (hM.2.1.2.2.1 k hk).1
      have cb : chn S.1 k ≤ 24 := Nat.le_trans (cnt_le _ _) h24
      by_cases hc : 0 < chn S.1 k
      · rw [if_pos rfl, if_pos hc] at hQ
        simp (disch := omega) only [i_X6_remove_0, i_X6_remove_1, i_X6_remove_4, i_X6_remove_5, i_X6_remove_6, i_X6_remove_7, i_X6_remove_8, i_X6_remove_11, i_X6_remove_14, i_X6_remove_15, i_X6_remove_16, i_X6_remove_19, i_X6_remove_20, i_X6_remove_21, i_X6_remove_24, i_X6_remove_27, i_X6_remove_28, i_X6_remove_29, i_X6_remove_32, i_X6_remove_33, i_X6_remove_35, i_X6_remove_38, i_X6_remove_39, i_X6_remove_40, i_X6_remove_43, i_X6_remove_44, i_X6_remove_47, i_X6_remove_48, i_X6_remove_51, i_X6_remove_52, i_X6_remove_53, i_X6_remove_56, i_X6_remove_59, i_X6_remove_62, i_X6_remove_0_e, Option.toList_some, Option.toList_none, List.cons_append, List.nil_append, List.append_nil, ↓reduceIte, hx0, t_isN hM.1 hT.wf, hx, bz_e0, reduceCtorEq, f5, q_pos, hc, t_refuse]
        exact hQ _ A E hM.reason
      · rw [if_pos rfl, if_neg hc] at hQ hok
        simp (disch := omega) only [i_X6_remove_0, i_X6_remove_1, i_X6_remove_4, i_X6_remove_5, i_X6_remove_6, i_X6_remove_7, i_X6_remove_8, i_X6_remove_11, i_X6_remove_14, i_X6_remove_15, i_X6_remove_16, i_X6_remove_19, i_X6_remove_20, i_X6_remove_21, i_X6_remove_24, i_X6_remove_27, i_X6_remove_28, i_X6_remove_29, i_X6_remove_32, i_X6_remove_33, i_X6_remove_35, i_X6_remove_38, i_X6_remove_39, i_X6_remove_40, i_X6_remove_43, i_X6_remove_44, i_X6_remove_47, i_X6_remove_48, i_X6_remove_51, i_X6_remove_52, i_X6_remove_53, i_X6_remove_56, i_X6_remove_59, i_X6_remove_62, i_X6_remove_0_e, Option.toList_some, Option.toList_none, List.cons_append, List.nil_append, List.append_nil, ↓reduceIte, hx0, t_isN hM.1 hT.wf, hx, bz_e0, reduceCtorEq, f5, q_pos, hc]
        refine t_beginP (d := d + 3) hM h24 (fun I1 A1 hB => ?_)
        simp (disch := omega) only [i_X6_remove_0, i_X6_remove_1, i_X6_remove_4, i_X6_remove_5, i_X6_remove_6, i_X6_remove_7, i_X6_remove_8, i_X6_remove_11, i_X6_remove_14, i_X6_remove_15, i_X6_remove_16, i_X6_remove_19, i_X6_remove_20, i_X6_remove_21, i_X6_remove_24, i_X6_remove_27, i_X6_remove_28, i_X6_remove_29, i_X6_remove_32, i_X6_remove_33, i_X6_remove_35, i_X6_remove_38, i_X6_remove_39, i_X6_remove_40, i_X6_remove_43, i_X6_remove_44, i_X6_remove_47, i_X6_remove_48, i_X6_remove_51, i_X6_remove_52, i_X6_remove_53, i_X6_remove_56, i_X6_remove_59, i_X6_remove_62, i_X6_remove_0_e, Option.toList_some, Option.toList_none, List.cons_append, List.nil_append, List.append_nil, ↓reduceIte]
        refine t_drop hB.1.1 hT (okD_t k0 hk (by omega)) (fun I2 A2 g1 g2 g3 => ?_)
        have e := g1.2.1
        rw [remT_N] at e
        simp (disch := omega) only [i_X6_remove_0, i_X6_remove_1, i_X6_remove_4, i_X6_remove_5, i_X6_remove_6, i_X6_remove_7, i_X6_remove_8, i_X6_remove_11, i_X6_remove_14, i_X6_remove_15, i_X6_remove_16, i_X6_remove_19, i_X6_remove_20, i_X6_remove_21, i_X6_remove_24, i_X6_remove_27, i_X6_remove_28, i_X6_remove_29, i_X6_remove_32, i_X6_remove_33, i_X6_remove_35, i_X6_remove_38, i_X6_remove_39, i_X6_remove_40, i_X6_remove_43, i_X6_remove_44, i_X6_remove_47, i_X6_remove_48, i_X6_remove_51, i_X6_remove_52, i_X6_remove_53, i_X6_remove_56, i_X6_remove_59, i_X6_remove_62, i_X6_remove_0_e, Option.toList_some, Option.toList_none, List.cons_append, List.nil_append, List.append_nil, ↓reduceIte, e]
        refine t_finP hB h24 g1 hok.1.1 g2 (fun c a => g3 c (by omega)) (fun I3 A3 E3 h => ?_)
        simp (disch := omega) only [i_X6_remove_0, i_X6_remove_1, i_X6_remove_4, i_X6_remove_5, i_X6_remove_6, i_X6_remove_7, i_X6_remove_8, i_X6_remove_11, i_X6_remove_14, i_X6_remove_15, i_X6_remove_16, i_X6_remove_19, i_X6_remove_20, i_X6_remove_21, i_X6_remove_24, i_X6_remove_27, i_X6_remove_28, i_X6_remove_29, i_X6_remove_32, i_X6_remove_33, i_X6_remove_35, i_X6_remove_38, i_X6_remove_39, i_X6_remove_40, i_X6_remove_43, i_X6_remove_44, i_X6_remove_47, i_X6_remove_48, i_X6_remove_51, i_X6_remove_52, i_X6_remove_53, i_X6_remove_56, i_X6_remove_59, i_X6_remove_62, i_X6_remove_0_e, Option.toList_some, Option.toList_none, List.cons_append, List.nil_append, List.append_nil, ↓reduceIte]
        exact hQ I3 A3 E3 h
end RMP
