theorem og_c {T T' : Tr} (e0 : T' 0 = T 0) (e1 : T' 1 = T 1) (e2 : T' 2 = T 2) (e8 : T' 8 = T 8) (e10 : T' 10 = T 10) (g k : Nat) : og T' g k = og T g k := by
  have u : und T' = und T := by funext o j; exact ph_c e1 (by rw [e1]) rfl
  have lb : lvB T' = lvB T := by funext o j; unfold lvB; rw [e0, u]
  have rb : rqB T' = rqB T := by funext o j; unfold rqB; rw [e0, e8, u]
  have ls : lvs T' = lvs T := by funext o; unfold lvs; rw [lb, e10]
  have rs : rqs T' = rqs T := by funext o; unfold rqs; rw [rb, e10]
  have op : opn T' = opn T := by funext o; unfold opn; rw [e2, ls, rs]
  have rr : ∀ j, rn T' j = rn T j := fun j => ph_c e1 (by rw [e0, op]) rfl
  unfold og ofg
  rw [e0, e2, rr]
section MNM
variable {X : pm_X} {d : Nat} {G : pm_H} {Q : Option Value → pm_H → Prop} {I A : Nat → Nat → Int32} {E : Nat → Nat → Int64} {J : Nat → Int32} {B : Nat → Nat → Int32} {T T' : Tr} {S : St}
theorem m_mend (hM : RelM J B S) (hS : OkS S) {x : Int32} (hQ : ∀ J' B', RelM J' B' (o_mend S x).2 → Q (some (.int (o_mend S x).1)) (pm_w I A E J' B')) : pm_call X (d + 9) mX7_mend [.ref 139, .int x] (pm_w I A E J B) Q := by
  have hT := hS.1.1
  have h24 := hT.wf.2.1
  unfold o_mend at hQ
  cases hx : inR x 0 3 with
  | false =>
    rw [hx] at hQ
    simp (disch := omega) only [i_X7_mend_0, i_X7_mend_1, i_X7_mend_2, i_X7_mend_3, i_X7_mend_6, i_X7_mend_9, i_X7_mend_12, i_X7_mend_13, i_X7_mend_14, i_X7_mend_15, i_X7_mend_16, i_X7_mend_19, i_X7_mend_20, i_X7_mend_21, i_X7_mend_23, i_X7_mend_26, i_X7_mend_27, i_X7_mend_29, i_X7_mend_32, i_X7_mend_33, i_X7_mend_34, i_X7_mend_37, i_X7_mend_38, i_X7_mend_41, i_X7_mend_42, i_X7_mend_43, i_X7_mend_44, i_X7_mend_47, i_X7_mend_48, i_X7_mend_49, i_X7_mend_51, i_X7_mend_54, i_X7_mend_55, i_X7_mend_72, i_X7_mend_74, i_X7_mend_75, i_X7_mend_79, i_X7_mend_80, i_X7_mend_83, i_X7_mend_84, i_X7_mend_85, i_X7_mend_88, i_X7_mend_89, i_X7_mend_91, i_X7_mend_92, i_X7_mend_93, i_X7_mend_96, i_X7_mend_99, i_X7_mend_101, i_X7_mend_102, i_X7_mend_104, i_X7_mend_107, i_X7_mend_108, i_X7_mend_112, i_X7_mend_114, i_X7_mend_115, i_X7_mend_117, i_X7_mend_119, i_X7_mend_120, i_X7_mend_122, i_X7_mend_124, i_X7_mend_127, i_X7_mend_129, i_X7_mend_132, i_X7_mend_133, i_X7_mend_138, i_X7_mend_139, i_X7_mend_140, i_X7_mend_143, i_X7_mend_146, i_X7_mend_136, i_X7_mend_111, i_X7_mend_149, i_X7_mend_150, i_X7_mend_58, i_X7_mend_59, i_X7_mend_60, i_X7_mend_63, i_X7_mend_64, i_X7_mend_67, i_X7_mend_68, i_X7_mend_69, i_X7_mend_70, i_X7_mend_71, i_X7_mend_0_e, Option.toList_some, Option.toList_none, List.cons_append, List.nil_append, List.append_nil, ↓reduceIte, s_isInR, hx, bz_e0]
    exact hQ J B hM
  | true =>
    rw [hx] at hQ
    have hx2 := hx
    obtain ⟨g, _, hg, rfl⟩ := inR_t (by decide) hx2
    have hg4 : g < 4 := by omega
    rw [xN_n (by omega)] at hQ
    cases hm : mnd S.1 g with
    | none =>
      rw [hm] at hQ
      have e : monI S.1 g = -5 := by unfold monI; rw [hm]; rfl
      simp (disch := omega) only [i_X7_mend_0, i_X7_mend_1, i_X7_mend_2, i_X7_mend_3, i_X7_mend_6, i_X7_mend_9, i_X7_mend_12, i_X7_mend_13, i_X7_mend_14, i_X7_mend_15, i_X7_mend_16, i_X7_mend_19, i_X7_mend_20, i_X7_mend_21, i_X7_mend_23, i_X7_mend_26, i_X7_mend_27, i_X7_mend_29, i_X7_mend_32, i_X7_mend_33, i_X7_mend_34, i_X7_mend_37, i_X7_mend_38, i_X7_mend_41, i_X7_mend_42, i_X7_mend_43, i_X7_mend_44, i_X7_mend_47, i_X7_mend_48, i_X7_mend_49, i_X7_mend_51, i_X7_mend_54, i_X7_mend_55, i_X7_mend_72, i_X7_mend_74, i_X7_mend_75, i_X7_mend_79, i_X7_mend_80, i_X7_mend_83, i_X7_mend_84, i_X7_mend_85, i_X7_mend_88, i_X7_mend_89, i_X7_mend_91, i_X7_mend_92, i_X7_mend_93, i_X7_mend_96, i_X7_mend_99, i_X7_mend_101, i_X7_mend_102, i_X7_mend_104, i_X7_mend_107, i_X7_mend_108, i_X7_mend_112, i_X7_mend_114, i_X7_mend_115, i_X7_mend_117, i_X7_mend_119, i_X7_mend_120, i_X7_mend_122, i_X7_mend_124, i_X7_mend_127, i_X7_mend_129, i_X7_mend_132, i_X7_mend_133, i_X7_mend_138, i_X7_mend_139, i_X7_mend_140, i_X7_mend_143, i_X7_mend_146, i_X7_mend_136, i_X7_mend_111, i_X7_mend_149, i_X7_mend_150, i_X7_mend_58, i_X7_mend_59, i_X7_mend_60, i_X7_mend_63, i_X7_mend_64, i_X7_mend_67, i_X7_mend_68, i_X7_mend_69, i_X7_mend_70, i_X7_mend_71, i_X7_mend_0_e, Option.toList_some, Option.toList_none, List.cons_append, List.nil_append, List.append_nil, ↓reduceIte, s_isInR, hx, bz_e0, reduceCtorEq, s_mending hM.1 hT hg4, e, s_refuse]
      exact hQ _ B hM.ref
    | some s =>
      rw [hm] at hQ
      have e : monI S.1 g = nI s := by unfold monI; rw [hm]; rfl
      have hs : s < 2147483648 := by
        unfold mnd at hm
        split at hm
        · cases hm
          have := sumN_le (f := grN S.1 g) (b := 800) (S.1 10 0) (fun k _ => grN_b hT)
          omega
        · cases hm
      have m5 : (-5 : Int32) < 0 := by decide
      simp (disch := first | omega | assumption) only [i_X7_mend_0, i_X7_mend_1, i_X7_mend_2, i_X7_mend_3, i_X7_mend_6, i_X7_mend_9, i_X7_mend_12, i_X7_mend_13, i_X7_mend_14, i_X7_mend_15, i_X7_mend_16, i_X7_mend_19, i_X7_mend_20, i_X7_mend_21, i_X7_mend_23, i_X7_mend_26, i_X7_mend_27, i_X7_mend_29, i_X7_mend_32, i_X7_mend_33, i_X7_mend_34, i_X7_mend_37, i_X7_mend_38, i_X7_mend_41, i_X7_mend_42, i_X7_mend_43, i_X7_mend_44, i_X7_mend_47, i_X7_mend_48, i_X7_mend_49, i_X7_mend_51, i_X7_mend_54, i_X7_mend_55, i_X7_mend_72, i_X7_mend_74, i_X7_mend_75, i_X7_mend_79, i_X7_mend_80, i_X7_mend_83, i_X7_mend_84, i_X7_mend_85, i_X7_mend_88, i_X7_mend_89, i_X7_mend_91, i_X7_mend_92, i_X7_mend_93, i_X7_mend_96, i_X7_mend_99, i_X7_mend_101, i_X7_mend_102, i_X7_mend_104, i_X7_mend_107, i_X7_mend_108, i_X7_mend_112, i_X7_mend_114, i_X7_mend_115, i_X7_mend_117, i_X7_mend_119, i_X7_mend_120, i_X7_mend_122, i_X7_mend_124, i_X7_mend_127, i_X7_mend_129, i_X7_mend_132, i_X7_mend_133, i_X7_mend_138, i_X7_mend_139, i_X7_mend_140, i_X7_mend_143, i_X7_mend_146, i_X7_mend_136, i_X7_mend_111, i_X7_mend_149, i_X7_mend_150, i_X7_mend_58, i_X7_mend_59, i_X7_mend_60, i_X7_mend_63, i_X7_mend_64, i_X7_mend_67, i_X7_mend_68, i_X7_mend_69, i_X7_mend_70, i_X7_mend_71, i_X7_mend_0_e, Option.toList_some, Option.toList_none, List.cons_append, List.nil_append, List.append_nil, ↓reduceIte, s_isInR, hx, bz_e0, reduceCtorEq, s_mending hM.1 hT hg4, e, q_em, s_keeps]
      refine s_kr hM h24 (fun J1 B1 hM1 => ?_)
      have key : ∀ m n, n + m = S.1 10 0 → ∀ (B2 : Nat → Nat → Int32) (v3 v6 : Value), RelM J1 B2 (chgS S (mendT S.1 g n)) → pm_wp X (d + 9) mX7_mend 77 [.ref 139, .int (nI g), .int (nI s), v3, .int (leI S.1 g), .int (nI n), v6] [] (pm_w I A E J1 B2) Q := by
        intro m
        induction m with
        | zero =>
          intro n hn B2 v3 v6 h1
          have : n = S.1 10 0 := by omega
          subst this
          have hsz : B2 140 1 = nI (S.1 10 0) := by rw [h1.1.2.1]; show nI (mendT S.1 g (S.1 10 0) 10 0) = _; rw [mendT_o (by decide)]
          rw [i_X7_mend_77]
          simp (disch := omega) only [i_X7_mend_0, i_X7_mend_1, i_X7_mend_2, i_X7_mend_3, i_X7_mend_6, i_X7_mend_9, i_X7_mend_12, i_X7_mend_13, i_X7_mend_14, i_X7_mend_15, i_X7_mend_16, i_X7_mend_19, i_X7_mend_20, i_X7_mend_21, i_X7_mend_23, i_X7_mend_26, i_X7_mend_27, i_X7_mend_29, i_X7_mend_32, i_X7_mend_33, i_X7_mend_34, i_X7_mend_37, i_X7_mend_38, i_X7_mend_41, i_X7_mend_42, i_X7_mend_43, i_X7_mend_44, i_X7_mend_47, i_X7_mend_48, i_X7_mend_49, i_X7_mend_51, i_X7_mend_54, i_X7_mend_55, i_X7_mend_72, i_X7_mend_74, i_X7_mend_75, i_X7_mend_79, i_X7_mend_80, i_X7_mend_83, i_X7_mend_84, i_X7_mend_85, i_X7_mend_88, i_X7_mend_89, i_X7_mend_91, i_X7_mend_92, i_X7_mend_93, i_X7_mend_96, i_X7_mend_99, i_X7_mend_101, i_X7_mend_102, i_X7_mend_104, i_X7_mend_107, i_X7_mend_108, i_X7_mend_112, i_X7_mend_114, i_X7_mend_115, i_X7_mend_117, i_X7_mend_119, i_X7_mend_120, i_X7_mend_122, i_X7_mend_124, i_X7_mend_127, i_X7_mend_129, i_X7_mend_132, i_X7_mend_133, i_X7_mend_138, i_X7_mend_139, i_X7_mend_140, i_X7_mend_143, i_X7_mend_146, i_X7_mend_136, i_X7_mend_111, i_X7_mend_149, i_X7_mend_150, i_X7_mend_58, i_X7_mend_59, i_X7_mend_60, i_X7_mend_63, i_X7_mend_64, i_X7_mend_67, i_X7_mend_68, i_X7_mend_69, i_X7_mend_70, i_X7_mend_71, i_X7_mend_0_e, Option.toList_some, Option.toList_none, List.cons_append, List.nil_append, List.append_nil, ↓reduceIte, hsz, q_lt, Nat.lt_irrefl]
          exact hQ _ _ h1
        | succ m ih =>
          intro n hn B2 v3 v6 h1
          have hn2 : n < S.1 10 0 := by omega
          have hR1 : RelT (B2 140) (mendT S.1 g n) := h1.1
          have hT1 : okT (mendT S.1 g n) := (okP_mend hS.1 hm (by omega)).1
          have hN : mendT S.1 g n 10 0 = S.1 10 0 := by rw [mendT_o (by decide)]
          have hn3 : n < mendT S.1 g n 10 0 := by rw [hN]; exact hn2
          have h241 : mendT S.1 g n 10 0 ≤ 24 := by rw [hN]; exact h24
          have hsz : B2 140 1 = nI (S.1 10 0) := by rw [hR1.2.1, hN]
          have eo : og (mendT S.1 g n) g n = og S.1 g n := og_c (mendT_o (by decide)) (mendT_o (by decide)) (mendT_o (by decide)) (mendT_o (by decide)) (mendT_o (by decide)) g n
          have e9 : mendT S.1 g n 9 n = S.1 9 n := by simp [mendT]
          have ed : del (mendT S.1 g n) n = del S.1 n := ph_c (mendT_o (by decide)) (by rw [mendT_o (by decide)]) (by rw [mendT_o (by decide)])
          have ea : arr (mendT S.1 g n) n = arr S.1 n := by unfold arr; rw [ed, e9, mendT_o (by decide)]
          have p9 := (hT.2.2.2.2.2.1 n hn2).2.2.2.2.2.2.1
          have gb := grN_b hT (g := g) (k := n)
          have step : ∀ v : Value, pm_wp X (d + 9) mX7_mend 77 [.ref 139, .int (nI g), .int (nI s), v3, .int (leI S.1 g), .int (nI (n + 1)), v] [] (pm_w I A E J1 (up2 B2 140 (6 + 10 * n + 9) (nI (S.1 9 n + grN S.1 g n)))) Q := by
            intro v
            refine ih (n + 1) (by omega) _ v3 v ?_
            rw [← mendT_s]
            exact h1.set (w := 9) (by decide) (by decide)
          rw [i_X7_mend_77]
          cases ho : og S.1 g n with
          | false =>
            have g0 : grN S.1 g n = 0 := by unfold grN; rw [ho]; simp
            rw [g0] at step
            simp (disch := omega) only [i_X7_mend_0, i_X7_mend_1, i_X7_mend_2, i_X7_mend_3, i_X7_mend_6, i_X7_mend_9, i_X7_mend_12, i_X7_mend_13, i_X7_mend_14, i_X7_mend_15, i_X7_mend_16, i_X7_mend_19, i_X7_mend_20, i_X7_mend_21, i_X7_mend_23, i_X7_mend_26, i_X7_mend_27, i_X7_mend_29, i_X7_mend_32, i_X7_mend_33, i_X7_mend_34, i_X7_mend_37, i_X7_mend_38, i_X7_mend_41, i_X7_mend_42, i_X7_mend_43, i_X7_mend_44, i_X7_mend_47, i_X7_mend_48, i_X7_mend_49, i_X7_mend_51, i_X7_mend_54, i_X7_mend_55, i_X7_mend_72, i_X7_mend_74, i_X7_mend_75, i_X7_mend_79, i_X7_mend_80, i_X7_mend_83, i_X7_mend_84, i_X7_mend_85, i_X7_mend_88, i_X7_mend_89, i_X7_mend_91, i_X7_mend_92, i_X7_mend_93, i_X7_mend_96, i_X7_mend_99, i_X7_mend_101, i_X7_mend_102, i_X7_mend_104, i_X7_mend_107, i_X7_mend_108, i_X7_mend_112, i_X7_mend_114, i_X7_mend_115, i_X7_mend_117, i_X7_mend_119, i_X7_mend_120, i_X7_mend_122, i_X7_mend_124, i_X7_mend_127, i_X7_mend_129, i_X7_mend_132, i_X7_mend_133, i_X7_mend_138, i_X7_mend_139, i_X7_mend_140, i_X7_mend_143, i_X7_mend_146, i_X7_mend_136, i_X7_mend_111, i_X7_mend_149, i_X7_mend_150, i_X7_mend_58, i_X7_mend_59, i_X7_mend_60, i_X7_mend_63, i_X7_mend_64, i_X7_mend_67, i_X7_mend_68, i_X7_mend_69, i_X7_mend_70, i_X7_mend_71, i_X7_mend_0_e, Option.toList_some, Option.toList_none, List.cons_append, List.nil_append, List.append_nil, ↓reduceIte, hsz, q_lt, hn2, s_isOfT hR1 hT1 hn3 hg4, eo, ho, bz_e0, s_nT hR1 h241, e9, q_neg, nI_add, l_of, s_put, l_toI]
            exact step _
          | true =>
            cases hl : lat S.1 g true (S.1 10 0) with
            | none => rw [lat_none _ hl n hn2] at ho; cases ho
            | some a =>
              have haN := (lat_lt _ _ hl).1
              have hli := hT.2.2.2.1 g hg4
              have aa := arr_b hT haN
              have ak := arr_b hT hn2
              have hgr : grN S.1 g n = arr S.1 a - (S.1 11 g + arr S.1 n) := by unfold grN; rw [ho, hl]; simp
              have hle : leI S.1 g = nI (arr S.1 a) - nI (S.1 11 g) := by unfold leI; rw [hl]
              obtain ⟨z1, z2⟩ := q_gr (a := arr S.1 a) (l := S.1 11 g) (b := arr S.1 n) (by omega) (by omega) (by omega)
              by_cases hc : arr S.1 a < S.1 11 g + arr S.1 n
              · have hn0 : (leI S.1 g - nI (arr S.1 n) < 0) = True := by rw [hle, z1]; exact eq_true hc
                have g0 : grN S.1 g n = 0 := by omega
                rw [g0] at step
                simp (disch := omega) only [i_X7_mend_0, i_X7_mend_1, i_X7_mend_2, i_X7_mend_3, i_X7_mend_6, i_X7_mend_9, i_X7_mend_12, i_X7_mend_13, i_X7_mend_14, i_X7_mend_15, i_X7_mend_16, i_X7_mend_19, i_X7_mend_20, i_X7_mend_21, i_X7_mend_23, i_X7_mend_26, i_X7_mend_27, i_X7_mend_29, i_X7_mend_32, i_X7_mend_33, i_X7_mend_34, i_X7_mend_37, i_X7_mend_38, i_X7_mend_41, i_X7_mend_42, i_X7_mend_43, i_X7_mend_44, i_X7_mend_47, i_X7_mend_48, i_X7_mend_49, i_X7_mend_51, i_X7_mend_54, i_X7_mend_55, i_X7_mend_72, i_X7_mend_74, i_X7_mend_75, i_X7_mend_79, i_X7_mend_80, i_X7_mend_83, i_X7_mend_84, i_X7_mend_85, i_X7_mend_88, i_X7_mend_89, i_X7_mend_91, i_X7_mend_92, i_X7_mend_93, i_X7_mend_96, i_X7_mend_99, i_X7_mend_101, i_X7_mend_102, i_X7_mend_104, i_X7_mend_107, i_X7_mend_108, i_X7_mend_112, i_X7_mend_114, i_X7_mend_115, i_X7_mend_117, i_X7_mend_119, i_X7_mend_120, i_X7_mend_122, i_X7_mend_124, i_X7_mend_127, i_X7_mend_129, i_X7_mend_132, i_X7_mend_133, i_X7_mend_138, i_X7_mend_139, i_X7_mend_140, i_X7_mend_143, i_X7_mend_146, i_X7_mend_136, i_X7_mend_111, i_X7_mend_149, i_X7_mend_150, i_X7_mend_58, i_X7_mend_59, i_X7_mend_60, i_X7_mend_63, i_X7_mend_64, i_X7_mend_67, i_X7_mend_68, i_X7_mend_69, i_X7_mend_70, i_X7_mend_71, i_X7_mend_0_e, Option.toList_some, Option.toList_none, List.cons_append, List.nil_append, List.append_nil, ↓reduceIte, hsz, q_lt, hn2, s_isOfT hR1 hT1 hn3 hg4, eo, ho, bz_e0, reduceCtorEq, s_arrival hR1 hT1 hn3, ea, hn0, s_nT hR1 h241, e9, nI_add, l_of, s_put, l_toI]
                exact step _
              · have hn0 : leI S.1 g - nI (arr S.1 n) = nI (grN S.1 g n) := by rw [hle, z2 (by omega), hgr]
                simp (disch := omega) only [i_X7_mend_0, i_X7_mend_1, i_X7_mend_2, i_X7_mend_3, i_X7_mend_6, i_X7_mend_9, i_X7_mend_12, i_X7_mend_13, i_X7_mend_14, i_X7_mend_15, i_X7_mend_16, i_X7_mend_19, i_X7_mend_20, i_X7_mend_21, i_X7_mend_23, i_X7_mend_26, i_X7_mend_27, i_X7_mend_29, i_X7_mend_32, i_X7_mend_33, i_X7_mend_34, i_X7_mend_37, i_X7_mend_38, i_X7_mend_41, i_X7_mend_42, i_X7_mend_43, i_X7_mend_44, i_X7_mend_47, i_X7_mend_48, i_X7_mend_49, i_X7_mend_51, i_X7_mend_54, i_X7_mend_55, i_X7_mend_72, i_X7_mend_74, i_X7_mend_75, i_X7_mend_79, i_X7_mend_80, i_X7_mend_83, i_X7_mend_84, i_X7_mend_85, i_X7_mend_88, i_X7_mend_89, i_X7_mend_91, i_X7_mend_92, i_X7_mend_93, i_X7_mend_96, i_X7_mend_99, i_X7_mend_101, i_X7_mend_102, i_X7_mend_104, i_X7_mend_107, i_X7_mend_108, i_X7_mend_112, i_X7_mend_114, i_X7_mend_115, i_X7_mend_117, i_X7_mend_119, i_X7_mend_120, i_X7_mend_122, i_X7_mend_124, i_X7_mend_127, i_X7_mend_129, i_X7_mend_132, i_X7_mend_133, i_X7_mend_138, i_X7_mend_139, i_X7_mend_140, i_X7_mend_143, i_X7_mend_146, i_X7_mend_136, i_X7_mend_111, i_X7_mend_149, i_X7_mend_150, i_X7_mend_58, i_X7_mend_59, i_X7_mend_60, i_X7_mend_63, i_X7_mend_64, i_X7_mend_67, i_X7_mend_68, i_X7_mend_69, i_X7_mend_70, i_X7_mend_71, i_X7_mend_0_e, Option.toList_some, Option.toList_none, List.cons_append, List.nil_append, List.append_nil, ↓reduceIte, hsz, q_lt, hn2, s_isOfT hR1 hT1 hn3 hg4, eo, ho, bz_e0, reduceCtorEq, s_arrival hR1 hT1 hn3, ea, hn0, q_neg, s_nT hR1 h241, e9, nI_add, l_of, s_put, l_toI]
                exact step _
      have k0 := fun v3 v6 => key (S.1 10 0) 0 (by omega) B1 v3 v6 (by rw [mendT_0]; exact hM1)
      have hR1 : RelT (B1 140) S.1 := hM1.1
      have hlim := hR1.2.2.1 g hg4
      cases hl : lat S.1 g true (S.1 10 0) with
      | none =>
        have hle : leI S.1 g = nI 0 := by unfold leI; rw [hl]
        rw [hle] at k0
        simp (disch := omega) only [i_X7_mend_0, i_X7_mend_1, i_X7_mend_2, i_X7_mend_3, i_X7_mend_6, i_X7_mend_9, i_X7_mend_12, i_X7_mend_13, i_X7_mend_14, i_X7_mend_15, i_X7_mend_16, i_X7_mend_19, i_X7_mend_20, i_X7_mend_21, i_X7_mend_23, i_X7_mend_26, i_X7_mend_27, i_X7_mend_29, i_X7_mend_32, i_X7_mend_33, i_X7_mend_34, i_X7_mend_37, i_X7_mend_38, i_X7_mend_41, i_X7_mend_42, i_X7_mend_43, i_X7_mend_44, i_X7_mend_47, i_X7_mend_48, i_X7_mend_49, i_X7_mend_51, i_X7_mend_54, i_X7_mend_55, i_X7_mend_72, i_X7_mend_74, i_X7_mend_75, i_X7_mend_79, i_X7_mend_80, i_X7_mend_83, i_X7_mend_84, i_X7_mend_85, i_X7_mend_88, i_X7_mend_89, i_X7_mend_91, i_X7_mend_92, i_X7_mend_93, i_X7_mend_96, i_X7_mend_99, i_X7_mend_101, i_X7_mend_102, i_X7_mend_104, i_X7_mend_107, i_X7_mend_108, i_X7_mend_112, i_X7_mend_114, i_X7_mend_115, i_X7_mend_117, i_X7_mend_119, i_X7_mend_120, i_X7_mend_122, i_X7_mend_124, i_X7_mend_127, i_X7_mend_129, i_X7_mend_132, i_X7_mend_133, i_X7_mend_138, i_X7_mend_139, i_X7_mend_140, i_X7_mend_143, i_X7_mend_146, i_X7_mend_136, i_X7_mend_111, i_X7_mend_149, i_X7_mend_150, i_X7_mend_58, i_X7_mend_59, i_X7_mend_60, i_X7_mend_63, i_X7_mend_64, i_X7_mend_67, i_X7_mend_68, i_X7_mend_69, i_X7_mend_70, i_X7_mend_71, i_X7_mend_0_e, Option.toList_some, Option.toList_none, List.cons_append, List.nil_append, List.append_nil, ↓reduceIte, s_latestT hR1 hT hg4, hl, oI]
        exact k0 _ _
      | some a =>
        have haN := (lat_lt _ _ hl).1
        have hle : leI S.1 g = nI (arr S.1 a) - nI (S.1 11 g) := by unfold leI; rw [hl]
        rw [hle] at k0
        simp (disch := first | omega | assumption) only [i_X7_mend_0, i_X7_mend_1, i_X7_mend_2, i_X7_mend_3, i_X7_mend_6, i_X7_mend_9, i_X7_mend_12, i_X7_mend_13, i_X7_mend_14, i_X7_mend_15, i_X7_mend_16, i_X7_mend_19, i_X7_mend_20, i_X7_mend_21, i_X7_mend_23, i_X7_mend_26, i_X7_mend_27, i_X7_mend_29, i_X7_mend_32, i_X7_mend_33, i_X7_mend_34, i_X7_mend_37, i_X7_mend_38, i_X7_mend_41, i_X7_mend_42, i_X7_mend_43, i_X7_mend_44, i_X7_mend_47, i_X7_mend_48, i_X7_mend_49, i_X7_mend_51, i_X7_mend_54, i_X7_mend_55, i_X7_mend_72, i_X7_mend_74, i_X7_mend_75, i_X7_mend_79, i_X7_mend_80, i_X7_mend_83, i_X7_mend_84, i_X7_mend_85, i_X7_mend_88, i_X7_mend_89, i_X7_mend_91, i_X7_mend_92, i_X7_mend_93, i_X7_mend_96, i_X7_mend_99, i_X7_mend_101, i_X7_mend_102, i_X7_mend_104, i_X7_mend_107, i_X7_mend_108, i_X7_mend_112, i_X7_mend_114, i_X7_mend_115, i_X7_mend_117, i_X7_mend_119, i_X7_mend_120, i_X7_mend_122, i_X7_mend_124, i_X7_mend_127, i_X7_mend_129, i_X7_mend_132, i_X7_mend_133, i_X7_mend_138, i_X7_mend_139, i_X7_mend_140, i_X7_mend_143, i_X7_mend_146, i_X7_mend_136, i_X7_mend_111, i_X7_mend_149, i_X7_mend_150, i_X7_mend_58, i_X7_mend_59, i_X7_mend_60, i_X7_mend_63, i_X7_mend_64, i_X7_mend_67, i_X7_mend_68, i_X7_mend_69, i_X7_mend_70, i_X7_mend_71, i_X7_mend_0_e, Option.toList_some, Option.toList_none, List.cons_append, List.nil_append, List.append_nil, ↓reduceIte, s_latestT hR1 hT hg4, hl, oI, q_em, s_arrival hR1 hT haN, nI_add, hlim]
        exact k0 _ _
end MNM
