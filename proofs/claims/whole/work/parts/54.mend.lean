/-! mend -/
def mendT (T : Tr) (g n : Nat) : Tr := fun w k => if w = 9 ∧ k < n then T 9 k + grN T g k else T w k
theorem mendT_0 {T : Tr} {g : Nat} : mendT T g 0 = T := by funext w k; simp [mendT]
theorem mendT_o {T : Tr} {g n w : Nat} (h : w ≠ 9) : mendT T g n w = T w := by funext k; simp [mendT, h]
theorem mendT_s {T : Tr} {g n : Nat} : up2 (mendT T g n) 9 n (T 9 n + grN T g n) = mendT T g (n + 1) := by
  funext w k
  unfold up2 mendT
  by_cases hw : w = 9
  · subst hw
    by_cases hk : k = n
    · subst hk; simp
    · by_cases hl : k < n
      · simp [hk, hl, show k < n + 1 by omega]
      · simp [hk, hl, show ¬ k < n + 1 by omega]
  · simp [hw]
def o_mend (S : St) (x : Int32) : Int32 × St := if inR x 0 3 then (match mnd S.1 (xN x) with
  | none => (-3, refS S 8)
  | some s => (nI s, chgS S (mendT S.1 (xN x) (S.1 10 0)))) else (-1, S)
theorem okP_mend {T : Tr} (h : okP T) {g s n : Nat} (hm : mnd T g = some s) (hn : n ≤ T 10 0) : okP (mendT T g n) := by
  have ha : allN (mndB T g) (T 10 0) = true := by
    unfold mnd at hm
    split at hm
    · assumption
    · cases hm
  refine okP_c h (mendT_o (by decide)) (mendT_o (by decide)) (mendT_o (by decide)) (mendT_o (by decide)) (mendT_o (by decide)) (fun q hq => by rw [mendT_o (by decide)]; exact h.1.2.2.2.1 q hq) (fun k hk => ?_)
  have q := h.1.2.2.2.2.2.1 k hk
  rw [mendT_o (by decide), mendT_o (by decide), mendT_o (by decide), mendT_o (by decide), mendT_o (w := 8) (by decide)]
  have hb : T 9 k + grN T g k ≤ 99 := by
    have := (allN_iff _).mp ha k hk
    unfold mndB at this
    simpa using this
  refine ⟨q.1, q.2.1, q.2.2.1, q.2.2.2.1, q.2.2.2.2.2.1, ?_, fun h5 => ⟨(q.2.2.2.2.2.2.2 h5).1, ?_⟩⟩
  · unfold mendT; split <;> omega
  · have z := (q.2.2.2.2.2.2.2 h5).2
    have g0 : grN T g k = 0 := by
      unfold grN og ofg
      simp [h5]
    unfold mendT
    split <;> omega
theorem ok_mend {S : St} (h : OkS S) {x : Int32} : OkS (o_mend S x).2 := by
  unfold o_mend
  split
  · cases hm : mnd S.1 (xN x) with
    | none => exact h.ref
    | some s => exact h.chg (okP_mend h.1 hm (Nat.le_refl _))
  · exact h
section MND
variable {X : pm_X} {d : Nat} {G : pm_H} {Q : Option Value → pm_H → Prop} {I A : Nat → Nat → Int32} {E : Nat → Nat → Int64} {J : Nat → Int32} {B : Nat → Nat → Int32} {T T' : Tr} {S : St}
theorem t_lackO (hT : okT T) (hF : RelF A E 37 T) {k g : Nat} (hk : k < T 10 0) (hg : g < 4) (e0 : A 2 k = nI (T 0 k)) (e2 : A 4 k = nI (T 2 k)) : pm_call X (d + 2) mX6_lackOf [.ref 0, .int (nI k), .int (nI g), .int (leI T g)] (pm_w I A E J B) Q ↔ Q (some (.int (nI (grN T g k)))) (pm_w I A E J B) := by
  have h24 := hT.wf.2.1
  have hb := hT.kind hk
  have hn := hT.num hk
  have f9 : A 46 k = bz (rn T k) := (hF.2.2.2 k hk).2
  have hr : ∀ Q' : Option Value → pm_H → Prop, pm_call X (d + 1) mX6_runsIn [.ref 0, .int (nI k), .int (nI g)] (pm_w I A E J B) Q' ↔ Q' (some (.int (bz (og T g k)))) (pm_w I A E J B) := by
    intro Q'
    unfold og ofg
    by_cases h5 : T 0 k = 5
    · by_cases h2 : T 2 k = g
      · cases hrn : rn T k <;> simp (disch := omega) only [i_X6_runsIn_0, i_X6_runsIn_1, i_X6_runsIn_4, i_X6_runsIn_5, i_X6_runsIn_6, i_X6_runsIn_9, i_X6_runsIn_12, i_X6_runsIn_13, i_X6_runsIn_16, i_X6_runsIn_19, i_X6_runsIn_20, i_X6_runsIn_21, i_X6_runsIn_24, i_X6_runsIn_25, i_X6_runsIn_29, i_X6_runsIn_29b, i_X6_runsIn_29c, i_X6_runsIn_28, i_X6_runsIn_0_e, Option.toList_some, Option.toList_none, List.cons_append, List.nil_append, List.append_nil, ↓reduceIte, i_X4_isOfGroup_0, i_X4_isOfGroup_1, i_X4_isOfGroup_4, i_X4_isOfGroup_5, i_X4_isOfGroup_6, i_X4_isOfGroup_7, i_X4_isOfGroup_10, i_X4_isOfGroup_11, i_X4_isOfGroup_14, i_X4_isOfGroup_15, i_X4_isOfGroup_16, i_X4_isOfGroup_17, i_X4_isOfGroup_20, i_X4_isOfGroup_21, i_X4_isOfGroup_25, i_X4_isOfGroup_25b, i_X4_isOfGroup_25c, i_X4_isOfGroup_24, i_X4_isOfGroup_0_e, Option.toList_some, Option.toList_none, List.cons_append, List.nil_append, List.append_nil, ↓reduceIte, e0, e2, f9, q_eq, h5, h2, hrn, bz_e0, n1_e0, n0_e0, bz_t, bz_f, decide_true, Bool.and_self, Bool.and_false, Bool.and_true, reduceCtorEq]
      · simp (disch := omega) only [i_X6_runsIn_0, i_X6_runsIn_1, i_X6_runsIn_4, i_X6_runsIn_5, i_X6_runsIn_6, i_X6_runsIn_9, i_X6_runsIn_12, i_X6_runsIn_13, i_X6_runsIn_16, i_X6_runsIn_19, i_X6_runsIn_20, i_X6_runsIn_21, i_X6_runsIn_24, i_X6_runsIn_25, i_X6_runsIn_29, i_X6_runsIn_29b, i_X6_runsIn_29c, i_X6_runsIn_28, i_X6_runsIn_0_e, Option.toList_some, Option.toList_none, List.cons_append, List.nil_append, List.append_nil, ↓reduceIte, i_X4_isOfGroup_0, i_X4_isOfGroup_1, i_X4_isOfGroup_4, i_X4_isOfGroup_5, i_X4_isOfGroup_6, i_X4_isOfGroup_7, i_X4_isOfGroup_10, i_X4_isOfGroup_11, i_X4_isOfGroup_14, i_X4_isOfGroup_15, i_X4_isOfGroup_16, i_X4_isOfGroup_17, i_X4_isOfGroup_20, i_X4_isOfGroup_21, i_X4_isOfGroup_25, i_X4_isOfGroup_25b, i_X4_isOfGroup_25c, i_X4_isOfGroup_24, i_X4_isOfGroup_0_e, Option.toList_some, Option.toList_none, List.cons_append, List.nil_append, List.append_nil, ↓reduceIte, e0, e2, f9, q_eq, h5, h2, bz_e0, n1_e0, n0_e0, bz_f, decide_true, decide_false, Bool.and_false, Bool.false_and, reduceCtorEq]
    · simp (disch := omega) only [i_X6_runsIn_0, i_X6_runsIn_1, i_X6_runsIn_4, i_X6_runsIn_5, i_X6_runsIn_6, i_X6_runsIn_9, i_X6_runsIn_12, i_X6_runsIn_13, i_X6_runsIn_16, i_X6_runsIn_19, i_X6_runsIn_20, i_X6_runsIn_21, i_X6_runsIn_24, i_X6_runsIn_25, i_X6_runsIn_29, i_X6_runsIn_29b, i_X6_runsIn_29c, i_X6_runsIn_28, i_X6_runsIn_0_e, Option.toList_some, Option.toList_none, List.cons_append, List.nil_append, List.append_nil, ↓reduceIte, i_X4_isOfGroup_0, i_X4_isOfGroup_1, i_X4_isOfGroup_4, i_X4_isOfGroup_5, i_X4_isOfGroup_6, i_X4_isOfGroup_7, i_X4_isOfGroup_10, i_X4_isOfGroup_11, i_X4_isOfGroup_14, i_X4_isOfGroup_15, i_X4_isOfGroup_16, i_X4_isOfGroup_17, i_X4_isOfGroup_20, i_X4_isOfGroup_21, i_X4_isOfGroup_25, i_X4_isOfGroup_25b, i_X4_isOfGroup_25c, i_X4_isOfGroup_24, i_X4_isOfGroup_0_e, Option.toList_some, Option.toList_none, List.cons_append, List.nil_append, List.append_nil, ↓reduceIte, e0, e2, f9, q_eq, h5, bz_e0, n1_e0, n0_e0, bz_f, decide_false, Bool.false_and, reduceCtorEq]
  unfold grN
  cases ho : og T g k with
  | false => simp (disch := omega) only [i_X6_lackOf_0, i_X6_lackOf_1, i_X6_lackOf_2, i_X6_lackOf_3, i_X6_lackOf_6, i_X6_lackOf_9, i_X6_lackOf_10, i_X6_lackOf_11, i_X6_lackOf_12, i_X6_lackOf_15, i_X6_lackOf_18, i_X6_lackOf_19, i_X6_lackOf_20, i_X6_lackOf_21, i_X6_lackOf_24, i_X6_lackOf_28, i_X6_lackOf_27, i_X6_lackOf_0_e, Option.toList_some, Option.toList_none, List.cons_append, List.nil_append, List.append_nil, ↓reduceIte, hr, ho, bz_e0]; simp
  | true =>
    cases h1 : lat T g true (T 10 0) with
    | none => rw [lat_none _ h1 k hk] at ho; cases ho
    | some a =>
      have ha := (lat_lt _ _ h1).1
      have hl := hT.2.2.2.1 g hg
      have aa := arr_b hT ha
      have ak := arr_b hT hk
      obtain ⟨e1, e2'⟩ := q_gr (a := arr T a) (l := T 11 g) (b := arr T k) (by omega) (by omega) (by omega)
      have e3 : (if nI 0 < nI (arr T a) - nI (T 11 g) - nI (arr T k) then nI (arr T a) - nI (T 11 g) - nI (arr T k) else nI 0) = nI (arr T a - (T 11 g + arr T k)) := by
        by_cases hc : arr T a < T 11 g + arr T k
        · have hn : nI (arr T a) - nI (T 11 g) - nI (arr T k) < 0 := by rw [e1]; exact hc
          rw [if_neg (fun q => by rw [(x_neg hn (by decide)).2.1] at q; exact q), Nat.sub_eq_zero_of_le (by omega)]
        · rw [e2' (by omega)]
          simp only [q_lt (show 0 < 2147483648 by decide) (show arr T a - (T 11 g + arr T k) < 2147483648 by omega)]
          split
          · rfl
          · next h => rw [show arr T a - (T 11 g + arr T k) = 0 by omega]
      simp (disch := omega) only [i_X6_lackOf_0, i_X6_lackOf_1, i_X6_lackOf_2, i_X6_lackOf_3, i_X6_lackOf_6, i_X6_lackOf_9, i_X6_lackOf_10, i_X6_lackOf_11, i_X6_lackOf_12, i_X6_lackOf_15, i_X6_lackOf_18, i_X6_lackOf_19, i_X6_lackOf_20, i_X6_lackOf_21, i_X6_lackOf_24, i_X6_lackOf_28, i_X6_lackOf_27, i_X6_lackOf_0_e, Option.toList_some, Option.toList_none, List.cons_append, List.nil_append, List.append_nil, ↓reduceIte, hr, ho, bz_e0, reduceCtorEq, leI, h1, (hF.2.1 k hk).2, e3]
theorem p_mend (hM : RelP I A E S) (hS : OkS S) {x : Int32} (hQ : ∀ I' A' E', RelP I' A' E' (o_mend S x).2 → Q (some (.int (o_mend S x).1)) (pm_w I' A' E' J B)) : pm_call X (d + 5) mX6_mend [.ref 0, .int x] (pm_w I A E J B) Q := by
  have hT := hS.1.1
  have h24 := hT.wf.2.1
  unfold o_mend at hQ
  cases hx : inR x 0 3 with
  | false =>
    rw [hx] at hQ
    simp (disch := omega) only [i_X6_mend_0, i_X6_mend_1, i_X6_mend_4, i_X6_mend_7, i_X6_mend_8, i_X6_mend_9, i_X6_mend_10, i_X6_mend_11, i_X6_mend_14, i_X6_mend_15, i_X6_mend_16, i_X6_mend_19, i_X6_mend_20, i_X6_mend_22, i_X6_mend_25, i_X6_mend_26, i_X6_mend_27, i_X6_mend_30, i_X6_mend_31, i_X6_mend_32, i_X6_mend_35, i_X6_mend_36, i_X6_mend_37, i_X6_mend_41, i_X6_mend_42, i_X6_mend_45, i_X6_mend_48, i_X6_mend_51, i_X6_mend_52, i_X6_mend_55, i_X6_mend_58, i_X6_mend_60, i_X6_mend_61, i_X6_mend_62, i_X6_mend_63, i_X6_mend_65, i_X6_mend_66, i_X6_mend_67, i_X6_mend_70, i_X6_mend_71, i_X6_mend_72, i_X6_mend_75, i_X6_mend_78, i_X6_mend_79, i_X6_mend_80, i_X6_mend_83, i_X6_mend_0_e, Option.toList_some, Option.toList_none, List.cons_append, List.nil_append, List.append_nil, ↓reduceIte, t_isGroup, hx, bz_e0]
    exact hQ I A E hM
  | true =>
    rw [hx] at hQ
    have hx2 := hx
    obtain ⟨g, _, hg, rfl⟩ := inR_t (by decide) hx2
    have hg4 : g < 4 := by omega
    rw [xN_n (by omega)] at hQ
    cases hm : mnd S.1 g with
    | none =>
      rw [hm] at hQ
      have e : monI S.1 g = -5 := by unfold monI; rw [hm]; rfl
      simp (disch := omega) only [i_X6_mend_0, i_X6_mend_1, i_X6_mend_4, i_X6_mend_7, i_X6_mend_8, i_X6_mend_9, i_X6_mend_10, i_X6_mend_11, i_X6_mend_14, i_X6_mend_15, i_X6_mend_16, i_X6_mend_19, i_X6_mend_20, i_X6_mend_22, i_X6_mend_25, i_X6_mend_26, i_X6_mend_27, i_X6_mend_30, i_X6_mend_31, i_X6_mend_32, i_X6_mend_35, i_X6_mend_36, i_X6_mend_37, i_X6_mend_41, i_X6_mend_42, i_X6_mend_45, i_X6_mend_48, i_X6_mend_51, i_X6_mend_52, i_X6_mend_55, i_X6_mend_58, i_X6_mend_60, i_X6_mend_61, i_X6_mend_62, i_X6_mend_63, i_X6_mend_65, i_X6_mend_66, i_X6_mend_67, i_X6_mend_70, i_X6_mend_71, i_X6_mend_72, i_X6_mend_75, i_X6_mend_78, i_X6_mend_79, i_X6_mend_80, i_X6_mend_83, i_X6_mend_0_e, Option.toList_some, Option.toList_none, List.cons_append, List.nil_append, List.append_nil, ↓reduceIte, t_isGroup, hx, bz_e0, reduceCtorEq, t_mendingOf hM.1 hM.2.1 hT hg4, e, show ((-5 : Int32) < 0) = True from by decide, t_refuse]
      exact hQ _ A E hM.reason
    | some s =>
      rw [hm] at hQ
      have e : monI S.1 g = nI s := by unfold monI; rw [hm]; rfl
      have hs : s < 2147483648 := by
        unfold mnd at hm
        split at hm
        · cases hm
          have := sumN_le (f := grN S.1 g) (b := 800) (S.1 10 0) (fun k _ => grN_b hT)
          omega
        · cases hm
      simp (disch := omega) only [i_X6_mend_0, i_X6_mend_1, i_X6_mend_4, i_X6_mend_7, i_X6_mend_8, i_X6_mend_9, i_X6_mend_10, i_X6_mend_11, i_X6_mend_14, i_X6_mend_15, i_X6_mend_16, i_X6_mend_19, i_X6_mend_20, i_X6_mend_22, i_X6_mend_25, i_X6_mend_26, i_X6_mend_27, i_X6_mend_30, i_X6_mend_31, i_X6_mend_32, i_X6_mend_35, i_X6_mend_36, i_X6_mend_37, i_X6_mend_41, i_X6_mend_42, i_X6_mend_45, i_X6_mend_48, i_X6_mend_51, i_X6_mend_52, i_X6_mend_55, i_X6_mend_58, i_X6_mend_60, i_X6_mend_61, i_X6_mend_62, i_X6_mend_63, i_X6_mend_65, i_X6_mend_66, i_X6_mend_67, i_X6_mend_70, i_X6_mend_71, i_X6_mend_72, i_X6_mend_75, i_X6_mend_78, i_X6_mend_79, i_X6_mend_80, i_X6_mend_83, i_X6_mend_0_e, Option.toList_some, Option.toList_none, List.cons_append, List.nil_append, List.append_nil, ↓reduceIte, t_isGroup, hx, bz_e0, reduceCtorEq, t_mendingOf hM.1 hM.2.1 hT hg4, e, q_neg]
      refine t_beginP (d := d + 3) hM h24 (fun I1 A1 hB => ?_)
      simp (disch := omega) only [i_X6_mend_0, i_X6_mend_1, i_X6_mend_4, i_X6_mend_7, i_X6_mend_8, i_X6_mend_9, i_X6_mend_10, i_X6_mend_11, i_X6_mend_14, i_X6_mend_15, i_X6_mend_16, i_X6_mend_19, i_X6_mend_20, i_X6_mend_22, i_X6_mend_25, i_X6_mend_26, i_X6_mend_27, i_X6_mend_30, i_X6_mend_31, i_X6_mend_32, i_X6_mend_35, i_X6_mend_36, i_X6_mend_37, i_X6_mend_41, i_X6_mend_42, i_X6_mend_45, i_X6_mend_48, i_X6_mend_51, i_X6_mend_52, i_X6_mend_55, i_X6_mend_58, i_X6_mend_60, i_X6_mend_61, i_X6_mend_62, i_X6_mend_63, i_X6_mend_65, i_X6_mend_66, i_X6_mend_67, i_X6_mend_70, i_X6_mend_71, i_X6_mend_72, i_X6_mend_75, i_X6_mend_78, i_X6_mend_79, i_X6_mend_80, i_X6_mend_83, i_X6_mend_0_e, Option.toList_some, Option.toList_none, List.cons_append, List.nil_append, List.append_nil, ↓reduceIte]
      rw [t_leastAllowed hB.1.1 hB.1.2.1 hT hg4]
      simp (disch := omega) only [i_X6_mend_0, i_X6_mend_1, i_X6_mend_4, i_X6_mend_7, i_X6_mend_8, i_X6_mend_9, i_X6_mend_10, i_X6_mend_11, i_X6_mend_14, i_X6_mend_15, i_X6_mend_16, i_X6_mend_19, i_X6_mend_20, i_X6_mend_22, i_X6_mend_25, i_X6_mend_26, i_X6_mend_27, i_X6_mend_30, i_X6_mend_31, i_X6_mend_32, i_X6_mend_35, i_X6_mend_36, i_X6_mend_37, i_X6_mend_41, i_X6_mend_42, i_X6_mend_45, i_X6_mend_48, i_X6_mend_51, i_X6_mend_52, i_X6_mend_55, i_X6_mend_58, i_X6_mend_60, i_X6_mend_61, i_X6_mend_62, i_X6_mend_63, i_X6_mend_65, i_X6_mend_66, i_X6_mend_67, i_X6_mend_70, i_X6_mend_71, i_X6_mend_72, i_X6_mend_75, i_X6_mend_78, i_X6_mend_79, i_X6_mend_80, i_X6_mend_83, i_X6_mend_0_e, Option.toList_some, Option.toList_none, List.cons_append, List.nil_append, List.append_nil, ↓reduceIte]
      have key : ∀ m n, n + m = S.1 10 0 → ∀ A2 : Nat → Nat → Int32, RelTP I1 A2 1 (mendT S.1 g n) → (∀ c, c ≠ 11 → A2 c = A1 c) → pm_wp X (d + 5) mX6_mend 39 [.ref 0, .int (nI g), .int (nI s), .int (leI S.1 g), .int (nI n)] [] (pm_w I1 A2 E J B) Q := by
        intro m
        induction m with
        | zero =>
          intro n hn A2 h1 h2
          have : n = S.1 10 0 := by omega
          subst this
          have hsz : I1 1 12 = nI (S.1 10 0) := hB.1.1.2.1
          rw [i_X6_mend_39]
          simp (disch := omega) only [i_X6_mend_0, i_X6_mend_1, i_X6_mend_4, i_X6_mend_7, i_X6_mend_8, i_X6_mend_9, i_X6_mend_10, i_X6_mend_11, i_X6_mend_14, i_X6_mend_15, i_X6_mend_16, i_X6_mend_19, i_X6_mend_20, i_X6_mend_22, i_X6_mend_25, i_X6_mend_26, i_X6_mend_27, i_X6_mend_30, i_X6_mend_31, i_X6_mend_32, i_X6_mend_35, i_X6_mend_36, i_X6_mend_37, i_X6_mend_41, i_X6_mend_42, i_X6_mend_45, i_X6_mend_48, i_X6_mend_51, i_X6_mend_52, i_X6_mend_55, i_X6_mend_58, i_X6_mend_60, i_X6_mend_61, i_X6_mend_62, i_X6_mend_63, i_X6_mend_65, i_X6_mend_66, i_X6_mend_67, i_X6_mend_70, i_X6_mend_71, i_X6_mend_72, i_X6_mend_75, i_X6_mend_78, i_X6_mend_79, i_X6_mend_80, i_X6_mend_83, i_X6_mend_0_e, Option.toList_some, Option.toList_none, List.cons_append, List.nil_append, List.append_nil, ↓reduceIte, hsz, q_lt, Nat.lt_irrefl]
          refine t_finP hB h24 h1 (okP_mend hS.1 hm (Nat.le_refl _)).1 (fun _ _ _ => rfl) (fun c a => h2 c (by omega)) (fun I3 A3 E3 h => ?_)
          simp (disch := omega) only [i_X6_mend_0, i_X6_mend_1, i_X6_mend_4, i_X6_mend_7, i_X6_mend_8, i_X6_mend_9, i_X6_mend_10, i_X6_mend_11, i_X6_mend_14, i_X6_mend_15, i_X6_mend_16, i_X6_mend_19, i_X6_mend_20, i_X6_mend_22, i_X6_mend_25, i_X6_mend_26, i_X6_mend_27, i_X6_mend_30, i_X6_mend_31, i_X6_mend_32, i_X6_mend_35, i_X6_mend_36, i_X6_mend_37, i_X6_mend_41, i_X6_mend_42, i_X6_mend_45, i_X6_mend_48, i_X6_mend_51, i_X6_mend_52, i_X6_mend_55, i_X6_mend_58, i_X6_mend_60, i_X6_mend_61, i_X6_mend_62, i_X6_mend_63, i_X6_mend_65, i_X6_mend_66, i_X6_mend_67, i_X6_mend_70, i_X6_mend_71, i_X6_mend_72, i_X6_mend_75, i_X6_mend_78, i_X6_mend_79, i_X6_mend_80, i_X6_mend_83, i_X6_mend_0_e, Option.toList_some, Option.toList_none, List.cons_append, List.nil_append, List.append_nil, ↓reduceIte]
          exact hQ I3 A3 E3 h
        | succ m ih =>
          intro n hn A2 h1 h2
          have hn2 : n < S.1 10 0 := by omega
          have hsz : I1 1 12 = nI (S.1 10 0) := hB.1.1.2.1
          have e0 : A2 2 n = nI (S.1 0 n) := by rw [h2 2 (by decide)]; exact hB.1.1.2.2.2 0 n (by decide) hn2 (by omega)
          have e2 : A2 4 n = nI (S.1 2 n) := by rw [h2 4 (by decide)]; exact hB.1.1.2.2.2 2 n (by decide) hn2 (by omega)
          have e9 : A2 11 n = nI (S.1 9 n) := by
            have := h1.2.2.2 9 n (by decide) (by rw [mendT_o (by decide)]; exact hn2) (by omega)
            rw [show mendT S.1 g n 9 n = S.1 9 n by simp [mendT]] at this
            exact this
          obtain ⟨f1, f2, f3, f4⟩ := hB.1.2.1
          have hF2 : RelF A2 E 37 S.1 := ⟨f1, fun k hk => by rw [h2 _ (by omega), h2 _ (by omega)]; exact f2 k hk, fun k hk => by rw [h2 _ (by omega), h2 _ (by omega), h2 _ (by omega)]; exact f3 k hk, fun k hk => by rw [h2 _ (by omega), h2 _ (by omega)]; exact f4 k hk⟩
          rw [i_X6_mend_39]
          simp (disch := omega) only [i_X6_mend_0, i_X6_mend_1, i_X6_mend_4, i_X6_mend_7, i_X6_mend_8, i_X6_mend_9, i_X6_mend_10, i_X6_mend_11, i_X6_mend_14, i_X6_mend_15, i_X6_mend_16, i_X6_mend_19, i_X6_mend_20, i_X6_mend_22, i_X6_mend_25, i_X6_mend_26, i_X6_mend_27, i_X6_mend_30, i_X6_mend_31, i_X6_mend_32, i_X6_mend_35, i_X6_mend_36, i_X6_mend_37, i_X6_mend_41, i_X6_mend_42, i_X6_mend_45, i_X6_mend_48, i_X6_mend_51, i_X6_mend_52, i_X6_mend_55, i_X6_mend_58, i_X6_mend_60, i_X6_mend_61, i_X6_mend_62, i_X6_mend_63, i_X6_mend_65, i_X6_mend_66, i_X6_mend_67, i_X6_mend_70, i_X6_mend_71, i_X6_mend_72, i_X6_mend_75, i_X6_mend_78, i_X6_mend_79, i_X6_mend_80, i_X6_mend_83, i_X6_mend_0_e, Option.toList_some, Option.toList_none, List.cons_append, List.nil_append, List.append_nil, ↓reduceIte, hsz, q_lt, hn2, e9]
          rw [t_lackO hT hF2 hn2 hg4 e0 e2]
          simp (disch := omega) only [i_X6_mend_0, i_X6_mend_1, i_X6_mend_4, i_X6_mend_7, i_X6_mend_8, i_X6_mend_9, i_X6_mend_10, i_X6_mend_11, i_X6_mend_14, i_X6_mend_15, i_X6_mend_16, i_X6_mend_19, i_X6_mend_20, i_X6_mend_22, i_X6_mend_25, i_X6_mend_26, i_X6_mend_27, i_X6_mend_30, i_X6_mend_31, i_X6_mend_32, i_X6_mend_35, i_X6_mend_36, i_X6_mend_37, i_X6_mend_41, i_X6_mend_42, i_X6_mend_45, i_X6_mend_48, i_X6_mend_51, i_X6_mend_52, i_X6_mend_55, i_X6_mend_58, i_X6_mend_60, i_X6_mend_61, i_X6_mend_62, i_X6_mend_63, i_X6_mend_65, i_X6_mend_66, i_X6_mend_67, i_X6_mend_70, i_X6_mend_71, i_X6_mend_72, i_X6_mend_75, i_X6_mend_78, i_X6_mend_79, i_X6_mend_80, i_X6_mend_83, i_X6_mend_0_e, Option.toList_some, Option.toList_none, List.cons_append, List.nil_append, List.append_nil, ↓reduceIte, nI_add]
          refine ih (n + 1) (by omega) _ ?_ (fun c hc => by rw [up2_na _ _ hc]; exact h2 c hc)
          rw [← mendT_s]
          exact h1.set (w := 9) (by decide)
      exact key (S.1 10 0) 0 (by omega) A1 (by rw [mendT_0]; exact hB.1.1) (fun _ _ => rfl)
end MND
