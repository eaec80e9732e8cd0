/-! the class reads a path -/
theorem up2_2 {α : Type} (f : Nat → Nat → α) (a j : Nat) (x y : α) : up2 (up2 f a j x) a j y = up2 f a j y := by
  funext a' j'
  unfold up2
  split <;> rfl
theorem bt_at {tp : List Nat} {p : Nat} (hp : p < tp.length) : tp[p]? = some (bt tp p) := by
  unfold bt
  rw [List.getD_eq_getElem?_getD, List.getElem?_eq_getElem hp]
  rfl
theorem RelY.at {I A : Nat → Nat → Int32} {tp : List Nat} (h : RelY I A tp) {p : Nat} (hp : p < tp.length) : A 132 p = nI (bt tp p) ∧ bt tp p ≤ 127 := by
  have := h.2.2 p _ (bt_at hp)
  exact ⟨this.2, this.1⟩
def HL (A : Nat → Nat → Int32) (ps : List (Nat × Nat)) : Prop := ∀ i kv, ps[i]? = some kv → A 133 i = nI kv.1 ∧ A 134 i = nI kv.2
def PRel (I A : Nat → Nat → Int32) (o : PR) : Prop := match o with
  | .inl e => I 131 2 = nI e
  | .inr q => I 131 3 = nI q.1 ∧ I 131 4 = nI q.2.1.length ∧ HL A q.2.1 ∧ (match q.2.2 with
    | none => I 131 7 = bz false
    | some l => I 131 7 = bz true ∧ I 131 8 = nI l.1 ∧ I 131 9 = nI l.2.1 ∧ I 131 10 = nI l.2.2)
def isR (o : PR) : Bool := match o with
  | .inl _ => false
  | .inr _ => true
section PAP
variable {X : pm_X} {d : Nat} {G : pm_H} {Q : Option Value → pm_H → Prop} {I A : Nat → Nat → Int32} {E : Nat → Nat → Int64} {J : Nat → Int32} {B : Nat → Nat → Int32} {T T' : Tr} {S : St} {tp : List Nat}
theorem t_readDigit (hY : RelY I A tp) {p lo hi : Nat} (h2 : I 131 2 = nI p) (hp : p ≤ tp.length) (hlo : lo ≤ 9) (hhi : hi ≤ 9) : pm_call X d mX3_readDigit [.ref 131, .int (nI lo), .int (nI hi)] (pm_w I A E J B) Q ↔ if dg tp p lo hi then Q (some (.int (nI (bt tp p - 48)))) (pm_w (up2 I 131 2 (nI (p + 1))) A E J B) else Q (some (.int (-1))) (pm_w I A E J B) := by
  have h40 := hY.2.1
  by_cases hl : p < tp.length
  · have hl4 : p < 40 := by omega
    obtain ⟨eb, b127⟩ := hY.at hl
    by_cases c48 : bt tp p < 48
    · have hs := pk_sneg (a := bt tp p) (b := 48) (by decide) c48
      have hn : (nI (bt tp p) - nI 48 < nI lo) = True := (x_neg hs (by omega)).1
      have hd : dg tp p lo hi = false := by unfold dg; simp; omega
      rw [hd]
      simp (disch := omega) only [i_X3_readDigit_0, i_X3_readDigit_1, i_X3_readDigit_4, i_X3_readDigit_5, i_X3_readDigit_8, i_X3_readDigit_11, i_X3_readDigit_12, i_X3_readDigit_15, i_X3_readDigit_17, i_X3_readDigit_22, i_X3_readDigit_23, i_X3_readDigit_26, i_X3_readDigit_27, i_X3_readDigit_30, i_X3_readDigit_31, i_X3_readDigit_33, i_X3_readDigit_34, i_X3_readDigit_35, i_X3_readDigit_36, i_X3_readDigit_37, i_X3_readDigit_40, i_X3_readDigit_41, i_X3_readDigit_42, i_X3_readDigit_47, i_X3_readDigit_48, i_X3_readDigit_49, i_X3_readDigit_52, i_X3_readDigit_53, i_X3_readDigit_54, i_X3_readDigit_57, i_X3_readDigit_58, i_X3_readDigit_45, i_X3_readDigit_46, i_X3_readDigit_20, i_X3_readDigit_21, i_X3_readDigit_0_e, Option.toList_some, Option.toList_none, List.cons_append, List.nil_append, List.append_nil, ↓reduceIte, h2, hY.1, q_lt, hl, hl4, eb, hn]
      simp
    · have c48' : 48 ≤ bt tp p := by omega
      by_cases c1 : bt tp p - 48 < lo
      · have hd : dg tp p lo hi = false := by unfold dg; simp; omega
        rw [hd]
        simp (disch := omega) only [i_X3_readDigit_0, i_X3_readDigit_1, i_X3_readDigit_4, i_X3_readDigit_5, i_X3_readDigit_8, i_X3_readDigit_11, i_X3_readDigit_12, i_X3_readDigit_15, i_X3_readDigit_17, i_X3_readDigit_22, i_X3_readDigit_23, i_X3_readDigit_26, i_X3_readDigit_27, i_X3_readDigit_30, i_X3_readDigit_31, i_X3_readDigit_33, i_X3_readDigit_34, i_X3_readDigit_35, i_X3_readDigit_36, i_X3_readDigit_37, i_X3_readDigit_40, i_X3_readDigit_41, i_X3_readDigit_42, i_X3_readDigit_47, i_X3_readDigit_48, i_X3_readDigit_49, i_X3_readDigit_52, i_X3_readDigit_53, i_X3_readDigit_54, i_X3_readDigit_57, i_X3_readDigit_58, i_X3_readDigit_45, i_X3_readDigit_46, i_X3_readDigit_20, i_X3_readDigit_21, i_X3_readDigit_0_e, Option.toList_some, Option.toList_none, List.cons_append, List.nil_append, List.append_nil, ↓reduceIte, h2, hY.1, q_lt, hl, hl4, eb, pk_sub, c1]
        simp
      · by_cases c2 : hi < bt tp p - 48
        · have hd : dg tp p lo hi = false := by unfold dg; simp; omega
          rw [hd]
          simp (disch := omega) only [i_X3_readDigit_0, i_X3_readDigit_1, i_X3_readDigit_4, i_X3_readDigit_5, i_X3_readDigit_8, i_X3_readDigit_11, i_X3_readDigit_12, i_X3_readDigit_15, i_X3_readDigit_17, i_X3_readDigit_22, i_X3_readDigit_23, i_X3_readDigit_26, i_X3_readDigit_27, i_X3_readDigit_30, i_X3_readDigit_31, i_X3_readDigit_33, i_X3_readDigit_34, i_X3_readDigit_35, i_X3_readDigit_36, i_X3_readDigit_37, i_X3_readDigit_40, i_X3_readDigit_41, i_X3_readDigit_42, i_X3_readDigit_47, i_X3_readDigit_48, i_X3_readDigit_49, i_X3_readDigit_52, i_X3_readDigit_53, i_X3_readDigit_54, i_X3_readDigit_57, i_X3_readDigit_58, i_X3_readDigit_45, i_X3_readDigit_46, i_X3_readDigit_20, i_X3_readDigit_21, i_X3_readDigit_0_e, Option.toList_some, Option.toList_none, List.cons_append, List.nil_append, List.append_nil, ↓reduceIte, h2, hY.1, q_lt, hl, hl4, eb, pk_sub, c1, c2]
          simp
        · have hd : dg tp p lo hi = true := by unfold dg; simp; omega
          rw [hd]
          simp (disch := omega) only [i_X3_readDigit_0, i_X3_readDigit_1, i_X3_readDigit_4, i_X3_readDigit_5, i_X3_readDigit_8, i_X3_readDigit_11, i_X3_readDigit_12, i_X3_readDigit_15, i_X3_readDigit_17, i_X3_readDigit_22, i_X3_readDigit_23, i_X3_readDigit_26, i_X3_readDigit_27, i_X3_readDigit_30, i_X3_readDigit_31, i_X3_readDigit_33, i_X3_readDigit_34, i_X3_readDigit_35, i_X3_readDigit_36, i_X3_readDigit_37, i_X3_readDigit_40, i_X3_readDigit_41, i_X3_readDigit_42, i_X3_readDigit_47, i_X3_readDigit_48, i_X3_readDigit_49, i_X3_readDigit_52, i_X3_readDigit_53, i_X3_readDigit_54, i_X3_readDigit_57, i_X3_readDigit_58, i_X3_readDigit_45, i_X3_readDigit_46, i_X3_readDigit_20, i_X3_readDigit_21, i_X3_readDigit_0_e, Option.toList_some, Option.toList_none, List.cons_append, List.nil_append, List.append_nil, ↓reduceIte, h2, hY.1, q_lt, hl, hl4, eb, pk_sub, c1, c2, nI_add]
  · have hd : dg tp p lo hi = false := by unfold dg; simp [hl]
    rw [hd]
    simp (disch := omega) only [i_X3_readDigit_0, i_X3_readDigit_1, i_X3_readDigit_4, i_X3_readDigit_5, i_X3_readDigit_8, i_X3_readDigit_11, i_X3_readDigit_12, i_X3_readDigit_15, i_X3_readDigit_17, i_X3_readDigit_22, i_X3_readDigit_23, i_X3_readDigit_26, i_X3_readDigit_27, i_X3_readDigit_30, i_X3_readDigit_31, i_X3_readDigit_33, i_X3_readDigit_34, i_X3_readDigit_35, i_X3_readDigit_36, i_X3_readDigit_37, i_X3_readDigit_40, i_X3_readDigit_41, i_X3_readDigit_42, i_X3_readDigit_47, i_X3_readDigit_48, i_X3_readDigit_49, i_X3_readDigit_52, i_X3_readDigit_53, i_X3_readDigit_54, i_X3_readDigit_57, i_X3_readDigit_58, i_X3_readDigit_45, i_X3_readDigit_46, i_X3_readDigit_20, i_X3_readDigit_21, i_X3_readDigit_0_e, Option.toList_some, Option.toList_none, List.cons_append, List.nil_append, List.append_nil, ↓reduceIte, h2, hY.1, q_lt, hl]
    simp
theorem t_readSign (hY : RelY I A tp) {p c : Nat} (h2 : I 131 2 = nI p) (hp : p ≤ tp.length) (hc : c ≤ 127) : pm_call X d mX3_readSign [.ref 131, .int (nI c)] (pm_w I A E J B) Q ↔ if sg tp p c then Q (some (.int (bz true))) (pm_w (up2 I 131 2 (nI (p + 1))) A E J B) else Q (some (.int (bz false))) (pm_w I A E J B) := by
  have h40 := hY.2.1
  by_cases hl : p < tp.length
  · have hl4 : p < 40 := by omega
    obtain ⟨eb, b127⟩ := hY.at hl
    by_cases c1 : bt tp p = c
    · have c1' := eq_true c1
      have hd : sg tp p c = true := by unfold sg; simp [hl, c1]
      rw [hd]
      simp (disch := omega) only [i_X3_readSign_0, i_X3_readSign_1, i_X3_readSign_4, i_X3_readSign_5, i_X3_readSign_8, i_X3_readSign_11, i_X3_readSign_12, i_X3_readSign_15, i_X3_readSign_17, i_X3_readSign_20, i_X3_readSign_21, i_X3_readSign_24, i_X3_readSign_25, i_X3_readSign_28, i_X3_readSign_29, i_X3_readSign_30, i_X3_readSign_35, i_X3_readSign_36, i_X3_readSign_37, i_X3_readSign_40, i_X3_readSign_41, i_X3_readSign_42, i_X3_readSign_45, i_X3_readSign_46, i_X3_readSign_46b, i_X3_readSign_46c, i_X3_readSign_33, i_X3_readSign_34, i_X3_readSign_34b, i_X3_readSign_34c, i_X3_readSign_0_e, Option.toList_some, Option.toList_none, List.cons_append, List.nil_append, List.append_nil, ↓reduceIte, h2, hY.1, q_lt, q_eq, hl, hl4, eb, c1', nI_add]
    · have hd : sg tp p c = false := by unfold sg; simp [c1]
      rw [hd]
      simp (disch := omega) only [i_X3_readSign_0, i_X3_readSign_1, i_X3_readSign_4, i_X3_readSign_5, i_X3_readSign_8, i_X3_readSign_11, i_X3_readSign_12, i_X3_readSign_15, i_X3_readSign_17, i_X3_readSign_20, i_X3_readSign_21, i_X3_readSign_24, i_X3_readSign_25, i_X3_readSign_28, i_X3_readSign_29, i_X3_readSign_30, i_X3_readSign_35, i_X3_readSign_36, i_X3_readSign_37, i_X3_readSign_40, i_X3_readSign_41, i_X3_readSign_42, i_X3_readSign_45, i_X3_readSign_46, i_X3_readSign_46b, i_X3_readSign_46c, i_X3_readSign_33, i_X3_readSign_34, i_X3_readSign_34b, i_X3_readSign_34c, i_X3_readSign_0_e, Option.toList_some, Option.toList_none, List.cons_append, List.nil_append, List.append_nil, ↓reduceIte, h2, hY.1, q_lt, q_eq, hl, hl4, eb, c1]
      simp
  · have hd : sg tp p c = false := by unfold sg; simp [hl]
    rw [hd]
    simp (disch := omega) only [i_X3_readSign_0, i_X3_readSign_1, i_X3_readSign_4, i_X3_readSign_5, i_X3_readSign_8, i_X3_readSign_11, i_X3_readSign_12, i_X3_readSign_15, i_X3_readSign_17, i_X3_readSign_20, i_X3_readSign_21, i_X3_readSign_24, i_X3_readSign_25, i_X3_readSign_28, i_X3_readSign_29, i_X3_readSign_30, i_X3_readSign_35, i_X3_readSign_36, i_X3_readSign_37, i_X3_readSign_40, i_X3_readSign_41, i_X3_readSign_42, i_X3_readSign_45, i_X3_readSign_46, i_X3_readSign_46b, i_X3_readSign_46c, i_X3_readSign_33, i_X3_readSign_34, i_X3_readSign_34b, i_X3_readSign_34c, i_X3_readSign_0_e, Option.toList_some, Option.toList_none, List.cons_append, List.nil_append, List.append_nil, ↓reduceIte, h2, hY.1, q_lt, hl]
    simp
theorem RelY.mv (hY : RelY I A tp) {x : Int32} : RelY (up2 I 131 2 x) A tp := hY.fr (up2_n _ _ (by simp)) rfl
theorem t_readNumber (hY : RelY I A tp) {p : Nat} (h2 : I 131 2 = nI p) (hp : p ≤ tp.length) (hQ0 : num tp p = none → Q (some (.int (-1))) (pm_w I A E J B)) (hQ1 : ∀ r, num tp p = some r → Q (some (.int (nI r.1))) (pm_w (up2 I 131 2 (nI r.2)) A E J B)) : pm_call X (d + 1) mX3_readNumber [.ref 131] (pm_w I A E J B) Q := by
  have key : ∀ m k, k + m = 7 → 1 ≤ k → ∀ (v q : Nat), q ≤ tp.length → v < 10 ^ (7 - m) → ∀ v3, (∀ r, r = nuG tp m v q → Q (some (.int (nI r.1))) (pm_w (up2 I 131 2 (nI r.2)) A E J B)) → pm_wp X (d + 1) mX3_readNumber 10 [.ref 131, .int (nI v), .int (nI k), v3] [] (pm_w (up2 I 131 2 (nI q)) A E J B) Q := by
    intro m
    induction m with
    | zero =>
      intro k hk _ v q hq hv v3 hQ
      have : k = 7 := by omega
      subst this
      rw [i_X3_readNumber_10]
      simp (disch := omega) only [i_X3_readNumber_0, i_X3_readNumber_1, i_X3_readNumber_2, i_X3_readNumber_4, i_X3_readNumber_7, i_X3_readNumber_8, i_X3_readNumber_9, i_X3_readNumber_11, i_X3_readNumber_13, i_X3_readNumber_16, i_X3_readNumber_17, i_X3_readNumber_20, i_X3_readNumber_21, i_X3_readNumber_22, i_X3_readNumber_24, i_X3_readNumber_27, i_X3_readNumber_28, i_X3_readNumber_29, i_X3_readNumber_32, i_X3_readNumber_33, i_X3_readNumber_34, i_X3_readNumber_35, i_X3_readNumber_37, i_X3_readNumber_38, i_X3_readNumber_39, i_X3_readNumber_40, i_X3_readNumber_41, i_X3_readNumber_44, i_X3_readNumber_47, i_X3_readNumber_48, i_X3_readNumber_0_e, Option.toList_some, Option.toList_none, List.cons_append, List.nil_append, List.append_nil, ↓reduceIte, q_lt, Nat.lt_irrefl]
      exact hQ (v, q) rfl
    | succ m ih =>
      intro k hk h1 v q hq hv v3 hQ
      have hk7 : k < 7 := by omega
      have h7 : 10 ^ (7 - (m + 1)) ≤ 10 ^ 7 := Nat.pow_le_pow_right (by decide) (by omega)
      have hv2 : v < 2147483648 := by omega
      have e2 : up2 I 131 2 (nI q) 131 2 = nI q := up2_s _ _ _ _
      rw [i_X3_readNumber_10]
      simp (disch := omega) only [i_X3_readNumber_0, i_X3_readNumber_1, i_X3_readNumber_2, i_X3_readNumber_4, i_X3_readNumber_7, i_X3_readNumber_8, i_X3_readNumber_9, i_X3_readNumber_11, i_X3_readNumber_13, i_X3_readNumber_16, i_X3_readNumber_17, i_X3_readNumber_20, i_X3_readNumber_21, i_X3_readNumber_22, i_X3_readNumber_24, i_X3_readNumber_27, i_X3_readNumber_28, i_X3_readNumber_29, i_X3_readNumber_32, i_X3_readNumber_33, i_X3_readNumber_34, i_X3_readNumber_35, i_X3_readNumber_37, i_X3_readNumber_38, i_X3_readNumber_39, i_X3_readNumber_40, i_X3_readNumber_41, i_X3_readNumber_44, i_X3_readNumber_47, i_X3_readNumber_48, i_X3_readNumber_0_e, Option.toList_some, Option.toList_none, List.cons_append, List.nil_append, List.append_nil, ↓reduceIte, q_lt, q_neg, hk7]
      rw [t_readDigit hY.mv e2 hq (by decide) (by decide)]
      rw [show nuG tp (m + 1) v q = if dg tp q 0 9 then nuG tp m (v * 10 + (bt tp q - 48)) (q + 1) else (v, q) from rfl] at hQ
      cases hd : dg tp q 0 9 with
      | false =>
        rw [hd] at hQ
        rw [if_neg (by decide)]
        simp (disch := omega) only [i_X3_readNumber_0, i_X3_readNumber_1, i_X3_readNumber_2, i_X3_readNumber_4, i_X3_readNumber_7, i_X3_readNumber_8, i_X3_readNumber_9, i_X3_readNumber_11, i_X3_readNumber_13, i_X3_readNumber_16, i_X3_readNumber_17, i_X3_readNumber_20, i_X3_readNumber_21, i_X3_readNumber_22, i_X3_readNumber_24, i_X3_readNumber_27, i_X3_readNumber_28, i_X3_readNumber_29, i_X3_readNumber_32, i_X3_readNumber_33, i_X3_readNumber_34, i_X3_readNumber_35, i_X3_readNumber_37, i_X3_readNumber_38, i_X3_readNumber_39, i_X3_readNumber_40, i_X3_readNumber_41, i_X3_readNumber_44, i_X3_readNumber_47, i_X3_readNumber_48, i_X3_readNumber_0_e, Option.toList_some, Option.toList_none, List.cons_append, List.nil_append, List.append_nil, ↓reduceIte, show ((-1 : Int32) < 0) = True from by decide]
        exact hQ (v, q) rfl
      | true =>
        rw [hd] at hQ
        have hb := dg_t hd
        rw [if_pos rfl, up2_2]
        simp (disch := omega) only [i_X3_readNumber_0, i_X3_readNumber_1, i_X3_readNumber_2, i_X3_readNumber_4, i_X3_readNumber_7, i_X3_readNumber_8, i_X3_readNumber_9, i_X3_readNumber_11, i_X3_readNumber_13, i_X3_readNumber_16, i_X3_readNumber_17, i_X3_readNumber_20, i_X3_readNumber_21, i_X3_readNumber_22, i_X3_readNumber_24, i_X3_readNumber_27, i_X3_readNumber_28, i_X3_readNumber_29, i_X3_readNumber_32, i_X3_readNumber_33, i_X3_readNumber_34, i_X3_readNumber_35, i_X3_readNumber_37, i_X3_readNumber_38, i_X3_readNumber_39, i_X3_readNumber_40, i_X3_readNumber_41, i_X3_readNumber_44, i_X3_readNumber_47, i_X3_readNumber_48, i_X3_readNumber_0_e, Option.toList_some, Option.toList_none, List.cons_append, List.nil_append, List.append_nil, ↓reduceIte, q_neg, pk_mul, nI_add]
        have e : 10 ^ (7 - m) = 10 ^ (7 - (m + 1)) * 10 := by rw [← Nat.pow_succ]; congr 1; omega
        exact ih (k + 1) (by omega) (by omega) _ _ (by omega) (by rw [e]; omega) _ hQ
  unfold num at hQ0 hQ1
  simp only [i_X3_readNumber_0, i_X3_readNumber_1, i_X3_readNumber_2, i_X3_readNumber_4, i_X3_readNumber_7, i_X3_readNumber_8, i_X3_readNumber_9, i_X3_readNumber_11, i_X3_readNumber_13, i_X3_readNumber_16, i_X3_readNumber_17, i_X3_readNumber_20, i_X3_readNumber_21, i_X3_readNumber_22, i_X3_readNumber_24, i_X3_readNumber_27, i_X3_readNumber_28, i_X3_readNumber_29, i_X3_readNumber_32, i_X3_readNumber_33, i_X3_readNumber_34, i_X3_readNumber_35, i_X3_readNumber_37, i_X3_readNumber_38, i_X3_readNumber_39, i_X3_readNumber_40, i_X3_readNumber_41, i_X3_readNumber_44, i_X3_readNumber_47, i_X3_readNumber_48, i_X3_readNumber_0_e, Option.toList_some, Option.toList_none, List.cons_append, List.nil_append, List.append_nil, ↓reduceIte]
  rw [t_readDigit hY h2 hp (by decide) (by decide)]
  cases hd : dg tp p 0 9 with
  | false =>
    rw [hd] at hQ0
    rw [if_neg (by decide)]
    simp only [i_X3_readNumber_0, i_X3_readNumber_1, i_X3_readNumber_2, i_X3_readNumber_4, i_X3_readNumber_7, i_X3_readNumber_8, i_X3_readNumber_9, i_X3_readNumber_11, i_X3_readNumber_13, i_X3_readNumber_16, i_X3_readNumber_17, i_X3_readNumber_20, i_X3_readNumber_21, i_X3_readNumber_22, i_X3_readNumber_24, i_X3_readNumber_27, i_X3_readNumber_28, i_X3_readNumber_29, i_X3_readNumber_32, i_X3_readNumber_33, i_X3_readNumber_34, i_X3_readNumber_35, i_X3_readNumber_37, i_X3_readNumber_38, i_X3_readNumber_39, i_X3_readNumber_40, i_X3_readNumber_41, i_X3_readNumber_44, i_X3_readNumber_47, i_X3_readNumber_48, i_X3_readNumber_0_e, Option.toList_some, Option.toList_none, List.cons_append, List.nil_append, List.append_nil, ↓reduceIte]
    rw [i_X3_readNumber_10]
    simp (disch := omega) only [i_X3_readNumber_0, i_X3_readNumber_1, i_X3_readNumber_2, i_X3_readNumber_4, i_X3_readNumber_7, i_X3_readNumber_8, i_X3_readNumber_9, i_X3_readNumber_11, i_X3_readNumber_13, i_X3_readNumber_16, i_X3_readNumber_17, i_X3_readNumber_20, i_X3_readNumber_21, i_X3_readNumber_22, i_X3_readNumber_24, i_X3_readNumber_27, i_X3_readNumber_28, i_X3_readNumber_29, i_X3_readNumber_32, i_X3_readNumber_33, i_X3_readNumber_34, i_X3_readNumber_35, i_X3_readNumber_37, i_X3_readNumber_38, i_X3_readNumber_39, i_X3_readNumber_40, i_X3_readNumber_41, i_X3_readNumber_44, i_X3_readNumber_47, i_X3_readNumber_48, i_X3_readNumber_0_e, Option.toList_some, Option.toList_none, List.cons_append, List.nil_append, List.append_nil, ↓reduceIte, q_lt, show (1 < 7) = True from by decide, show ((-1 : Int32) < 0) = True from by decide]
    exact hQ0 rfl
  | true =>
    rw [hd] at hQ1
    have hb := dg_t hd
    rw [if_pos rfl]
    simp only [i_X3_readNumber_0, i_X3_readNumber_1, i_X3_readNumber_2, i_X3_readNumber_4, i_X3_readNumber_7, i_X3_readNumber_8, i_X3_readNumber_9, i_X3_readNumber_11, i_X3_readNumber_13, i_X3_readNumber_16, i_X3_readNumber_17, i_X3_readNumber_20, i_X3_readNumber_21, i_X3_readNumber_22, i_X3_readNumber_24, i_X3_readNumber_27, i_X3_readNumber_28, i_X3_readNumber_29, i_X3_readNumber_32, i_X3_readNumber_33, i_X3_readNumber_34, i_X3_readNumber_35, i_X3_readNumber_37, i_X3_readNumber_38, i_X3_readNumber_39, i_X3_readNumber_40, i_X3_readNumber_41, i_X3_readNumber_44, i_X3_readNumber_47, i_X3_readNumber_48, i_X3_readNumber_0_e, Option.toList_some, Option.toList_none, List.cons_append, List.nil_append, List.append_nil, ↓reduceIte]
    exact key 6 1 rfl (by omega) _ _ (by omega) (by show bt tp p - 48 < 10; omega) _ (fun r hr => by subst hr; exact hQ1 _ rfl)
theorem t_readKind (hY : RelY I A tp) {p : Nat} (h2 : I 131 2 = nI p) (hp : p ≤ tp.length) : pm_call X (d + 1) mX3_readKind [.ref 131] (pm_w I A E J B) Q ↔ if kdA tp p = 0 then Q (some (.int (-1))) (pm_w I A E J B) else Q (some (.int (nI (kdA tp p)))) (pm_w (up2 I 131 2 (nI (p + 1))) A E J B) := by
  have sgf : ∀ c, c ≠ bt tp p ∨ ¬ p < tp.length → sg tp p c = false := fun c h => by
    unfold sg
    rcases h with h | h
    · simp; exact fun _ q => h q.symm
    · simp [h]
  have sgt : ∀ c, bt tp p = c → p < tp.length → sg tp p c = true := fun c h hl => by unfold sg; simp [h, hl]
  simp only [i_X3_readKind_0, i_X3_readKind_1, i_X3_readKind_3, i_X3_readKind_6, i_X3_readKind_9, i_X3_readKind_10, i_X3_readKind_11, i_X3_readKind_12, i_X3_readKind_14, i_X3_readKind_17, i_X3_readKind_20, i_X3_readKind_21, i_X3_readKind_22, i_X3_readKind_23, i_X3_readKind_25, i_X3_readKind_28, i_X3_readKind_31, i_X3_readKind_32, i_X3_readKind_33, i_X3_readKind_34, i_X3_readKind_36, i_X3_readKind_39, i_X3_readKind_42, i_X3_readKind_43, i_X3_readKind_47, i_X3_readKind_46, i_X3_readKind_0_e, Option.toList_some, Option.toList_none, List.cons_append, List.nil_append, List.append_nil, ↓reduceIte]
  rw [t_readSign hY h2 hp (by decide)]
  unfold kdA
  by_cases hl : p < tp.length
  · rw [if_pos hl]
    unfold kdO
    by_cases c1 : bt tp p = 47
    · rw [sgt 47 c1 hl, if_pos rfl, if_pos c1, if_neg (by decide)]
      simp (disch := omega) only [i_X3_readKind_0, i_X3_readKind_1, i_X3_readKind_3, i_X3_readKind_6, i_X3_readKind_9, i_X3_readKind_10, i_X3_readKind_11, i_X3_readKind_12, i_X3_readKind_14, i_X3_readKind_17, i_X3_readKind_20, i_X3_readKind_21, i_X3_readKind_22, i_X3_readKind_23, i_X3_readKind_25, i_X3_readKind_28, i_X3_readKind_31, i_X3_readKind_32, i_X3_readKind_33, i_X3_readKind_34, i_X3_readKind_36, i_X3_readKind_39, i_X3_readKind_42, i_X3_readKind_43, i_X3_readKind_47, i_X3_readKind_46, i_X3_readKind_0_e, Option.toList_some, Option.toList_none, List.cons_append, List.nil_append, List.append_nil, ↓reduceIte, bz_e0, reduceCtorEq]
    · rw [sgf 47 (Or.inl (fun q => c1 q.symm)), if_neg (by decide), if_neg c1]
      simp (disch := omega) only [i_X3_readKind_0, i_X3_readKind_1, i_X3_readKind_3, i_X3_readKind_6, i_X3_readKind_9, i_X3_readKind_10, i_X3_readKind_11, i_X3_readKind_12, i_X3_readKind_14, i_X3_readKind_17, i_X3_readKind_20, i_X3_readKind_21, i_X3_readKind_22, i_X3_readKind_23, i_X3_readKind_25, i_X3_readKind_28, i_X3_readKind_31, i_X3_readKind_32, i_X3_readKind_33, i_X3_readKind_34, i_X3_readKind_36, i_X3_readKind_39, i_X3_readKind_42, i_X3_readKind_43, i_X3_readKind_47, i_X3_readKind_46, i_X3_readKind_0_e, Option.toList_some, Option.toList_none, List.cons_append, List.nil_append, List.append_nil, ↓reduceIte, bz_e0]
      rw [t_readSign hY h2 hp (by decide)]
      by_cases c2 : bt tp p = 42
      · rw [sgt 42 c2 hl, if_pos rfl, if_pos c2, if_neg (by decide)]
        simp (disch := omega) only [i_X3_readKind_0, i_X3_readKind_1, i_X3_readKind_3, i_X3_readKind_6, i_X3_readKind_9, i_X3_readKind_10, i_X3_readKind_11, i_X3_readKind_12, i_X3_readKind_14, i_X3_readKind_17, i_X3_readKind_20, i_X3_readKind_21, i_X3_readKind_22, i_X3_readKind_23, i_X3_readKind_25, i_X3_readKind_28, i_X3_readKind_31, i_X3_readKind_32, i_X3_readKind_33, i_X3_readKind_34, i_X3_readKind_36, i_X3_readKind_39, i_X3_readKind_42, i_X3_readKind_43, i_X3_readKind_47, i_X3_readKind_46, i_X3_readKind_0_e, Option.toList_some, Option.toList_none, List.cons_append, List.nil_append, List.append_nil, ↓reduceIte, bz_e0, reduceCtorEq]
      · rw [sgf 42 (Or.inl (fun q => c2 q.symm)), if_neg (by decide), if_neg c2]
        simp (disch := omega) only [i_X3_readKind_0, i_X3_readKind_1, i_X3_readKind_3, i_X3_readKind_6, i_X3_readKind_9, i_X3_readKind_10, i_X3_readKind_11, i_X3_readKind_12, i_X3_readKind_14, i_X3_readKind_17, i_X3_readKind_20, i_X3_readKind_21, i_X3_readKind_22, i_X3_readKind_23, i_X3_readKind_25, i_X3_readKind_28, i_X3_readKind_31, i_X3_readKind_32, i_X3_readKind_33, i_X3_readKind_34, i_X3_readKind_36, i_X3_readKind_39, i_X3_readKind_42, i_X3_readKind_43, i_X3_readKind_47, i_X3_readKind_46, i_X3_readKind_0_e, Option.toList_some, Option.toList_none, List.cons_append, List.nil_append, List.append_nil, ↓reduceIte, bz_e0]
        rw [t_readSign hY h2 hp (by decide)]
        by_cases c3 : bt tp p = 103
        · rw [sgt 103 c3 hl, if_pos rfl, if_pos c3, if_neg (by decide)]
          simp (disch := omega) only [i_X3_readKind_0, i_X3_readKind_1, i_X3_readKind_3, i_X3_readKind_6, i_X3_readKind_9, i_X3_readKind_10, i_X3_readKind_11, i_X3_readKind_12, i_X3_readKind_14, i_X3_readKind_17, i_X3_readKind_20, i_X3_readKind_21, i_X3_readKind_22, i_X3_readKind_23, i_X3_readKind_25, i_X3_readKind_28, i_X3_readKind_31, i_X3_readKind_32, i_X3_readKind_33, i_X3_readKind_34, i_X3_readKind_36, i_X3_readKind_39, i_X3_readKind_42, i_X3_readKind_43, i_X3_readKind_47, i_X3_readKind_46, i_X3_readKind_0_e, Option.toList_some, Option.toList_none, List.cons_append, List.nil_append, List.append_nil, ↓reduceIte, bz_e0, reduceCtorEq]
        · rw [sgf 103 (Or.inl (fun q => c3 q.symm)), if_neg (by decide), if_neg c3]
          simp (disch := omega) only [i_X3_readKind_0, i_X3_readKind_1, i_X3_readKind_3, i_X3_readKind_6, i_X3_readKind_9, i_X3_readKind_10, i_X3_readKind_11, i_X3_readKind_12, i_X3_readKind_14, i_X3_readKind_17, i_X3_readKind_20, i_X3_readKind_21, i_X3_readKind_22, i_X3_readKind_23, i_X3_readKind_25, i_X3_readKind_28, i_X3_readKind_31, i_X3_readKind_32, i_X3_readKind_33, i_X3_readKind_34, i_X3_readKind_36, i_X3_readKind_39, i_X3_readKind_42, i_X3_readKind_43, i_X3_readKind_47, i_X3_readKind_46, i_X3_readKind_0_e, Option.toList_some, Option.toList_none, List.cons_append, List.nil_append, List.append_nil, ↓reduceIte, bz_e0]
          rw [t_readSign hY h2 hp (by decide)]
          by_cases c4 : bt tp p = 43
          · rw [sgt 43 c4 hl, if_pos rfl, if_pos c4, if_neg (by decide)]
            simp (disch := omega) only [i_X3_readKind_0, i_X3_readKind_1, i_X3_readKind_3, i_X3_readKind_6, i_X3_readKind_9, i_X3_readKind_10, i_X3_readKind_11, i_X3_readKind_12, i_X3_readKind_14, i_X3_readKind_17, i_X3_readKind_20, i_X3_readKind_21, i_X3_readKind_22, i_X3_readKind_23, i_X3_readKind_25, i_X3_readKind_28, i_X3_readKind_31, i_X3_readKind_32, i_X3_readKind_33, i_X3_readKind_34, i_X3_readKind_36, i_X3_readKind_39, i_X3_readKind_42, i_X3_readKind_43, i_X3_readKind_47, i_X3_readKind_46, i_X3_readKind_0_e, Option.toList_some, Option.toList_none, List.cons_append, List.nil_append, List.append_nil, ↓reduceIte, bz_e0, reduceCtorEq]
          · rw [sgf 43 (Or.inl (fun q => c4 q.symm)), if_neg (by decide), if_neg c4, if_pos rfl]
            simp (disch := omega) only [i_X3_readKind_0, i_X3_readKind_1, i_X3_readKind_3, i_X3_readKind_6, i_X3_readKind_9, i_X3_readKind_10, i_X3_readKind_11, i_X3_readKind_12, i_X3_readKind_14, i_X3_readKind_17, i_X3_readKind_20, i_X3_readKind_21, i_X3_readKind_22, i_X3_readKind_23, i_X3_readKind_25, i_X3_readKind_28, i_X3_readKind_31, i_X3_readKind_32, i_X3_readKind_33, i_X3_readKind_34, i_X3_readKind_36, i_X3_readKind_39, i_X3_readKind_42, i_X3_readKind_43, i_X3_readKind_47, i_X3_readKind_46, i_X3_readKind_0_e, Option.toList_some, Option.toList_none, List.cons_append, List.nil_append, List.append_nil, ↓reduceIte, bz_e0]
  · rw [if_neg hl, if_pos rfl, sgf 47 (Or.inr hl), if_neg (by decide)]
    simp (disch := omega) only [i_X3_readKind_0, i_X3_readKind_1, i_X3_readKind_3, i_X3_readKind_6, i_X3_readKind_9, i_X3_readKind_10, i_X3_readKind_11, i_X3_readKind_12, i_X3_readKind_14, i_X3_readKind_17, i_X3_readKind_20, i_X3_readKind_21, i_X3_readKind_22, i_X3_readKind_23, i_X3_readKind_25, i_X3_readKind_28, i_X3_readKind_31, i_X3_readKind_32, i_X3_readKind_33, i_X3_readKind_34, i_X3_readKind_36, i_X3_readKind_39, i_X3_readKind_42, i_X3_readKind_43, i_X3_readKind_47, i_X3_readKind_46, i_X3_readKind_0_e, Option.toList_some, Option.toList_none, List.cons_append, List.nil_append, List.append_nil, ↓reduceIte, bz_e0]
    rw [t_readSign hY h2 hp (by decide), sgf 42 (Or.inr hl), if_neg (by decide)]
    simp (disch := omega) only [i_X3_readKind_0, i_X3_readKind_1, i_X3_readKind_3, i_X3_readKind_6, i_X3_readKind_9, i_X3_readKind_10, i_X3_readKind_11, i_X3_readKind_12, i_X3_readKind_14, i_X3_readKind_17, i_X3_readKind_20, i_X3_readKind_21, i_X3_readKind_22, i_X3_readKind_23, i_X3_readKind_25, i_X3_readKind_28, i_X3_readKind_31, i_X3_readKind_32, i_X3_readKind_33, i_X3_readKind_34, i_X3_readKind_36, i_X3_readKind_39, i_X3_readKind_42, i_X3_readKind_43, i_X3_readKind_47, i_X3_readKind_46, i_X3_readKind_0_e, Option.toList_some, Option.toList_none, List.cons_append, List.nil_append, List.append_nil, ↓reduceIte, bz_e0]
    rw [t_readSign hY h2 hp (by decide), sgf 103 (Or.inr hl), if_neg (by decide)]
    simp (disch := omega) only [i_X3_readKind_0, i_X3_readKind_1, i_X3_readKind_3, i_X3_readKind_6, i_X3_readKind_9, i_X3_readKind_10, i_X3_readKind_11, i_X3_readKind_12, i_X3_readKind_14, i_X3_readKind_17, i_X3_readKind_20, i_X3_readKind_21, i_X3_readKind_22, i_X3_readKind_23, i_X3_readKind_25, i_X3_readKind_28, i_X3_readKind_31, i_X3_readKind_32, i_X3_readKind_33, i_X3_readKind_34, i_X3_readKind_36, i_X3_readKind_39, i_X3_readKind_42, i_X3_readKind_43, i_X3_readKind_47, i_X3_readKind_46, i_X3_readKind_0_e, Option.toList_some, Option.toList_none, List.cons_append, List.nil_append, List.append_nil, ↓reduceIte, bz_e0]
    rw [t_readSign hY h2 hp (by decide), sgf 43 (Or.inr hl), if_neg (by decide)]
    simp (disch := omega) only [i_X3_readKind_0, i_X3_readKind_1, i_X3_readKind_3, i_X3_readKind_6, i_X3_readKind_9, i_X3_readKind_10, i_X3_readKind_11, i_X3_readKind_12, i_X3_readKind_14, i_X3_readKind_17, i_X3_readKind_20, i_X3_readKind_21, i_X3_readKind_22, i_X3_readKind_23, i_X3_readKind_25, i_X3_readKind_28, i_X3_readKind_31, i_X3_readKind_32, i_X3_readKind_33, i_X3_readKind_34, i_X3_readKind_36, i_X3_readKind_39, i_X3_readKind_42, i_X3_readKind_43, i_X3_readKind_47, i_X3_readKind_46, i_X3_readKind_0_e, Option.toList_some, Option.toList_none, List.cons_append, List.nil_append, List.append_nil, ↓reduceIte, bz_e0]
theorem t_nof (hY : RelY I A tp) {k p : Nat} (h2 : I 131 2 = nI p) (hp : p ≤ tp.length) (hk : k ≤ 4) (hQ0 : nof tp k p = none → Q (some (.int (-1))) (pm_w I A E J B)) (hQ1 : ∀ r, nof tp k p = some r → Q (some (.int (nI r.1))) (pm_w (up2 I 131 2 (nI r.2)) A E J B)) : pm_call X (d + 2) mX3_readNumberOf [.ref 131, .int (nI k)] (pm_w I A E J B) Q := by
  unfold nof at hQ0 hQ1
  by_cases k4 : k = 4
  · subst k4
    simp (disch := omega) only [i_X3_readNumberOf_0, i_X3_readNumberOf_1, i_X3_readNumberOf_2, i_X3_readNumberOf_5, i_X3_readNumberOf_6, i_X3_readNumberOf_9, i_X3_readNumberOf_10, i_X3_readNumberOf_11, i_X3_readNumberOf_12, i_X3_readNumberOf_15, i_X3_readNumberOf_16, i_X3_readNumberOf_17, i_X3_readNumberOf_18, i_X3_readNumberOf_21, i_X3_readNumberOf_31, i_X3_readNumberOf_24, i_X3_readNumberOf_25, i_X3_readNumberOf_26, i_X3_readNumberOf_28, i_X3_readNumberOf_0_e, Option.toList_some, Option.toList_none, List.cons_append, List.nil_append, List.append_nil, ↓reduceIte]
    refine t_readNumber hY h2 hp (fun h => ?_) (fun r h => ?_)
    · simp (disch := omega) only [i_X3_readNumberOf_0, i_X3_readNumberOf_1, i_X3_readNumberOf_2, i_X3_readNumberOf_5, i_X3_readNumberOf_6, i_X3_readNumberOf_9, i_X3_readNumberOf_10, i_X3_readNumberOf_11, i_X3_readNumberOf_12, i_X3_readNumberOf_15, i_X3_readNumberOf_16, i_X3_readNumberOf_17, i_X3_readNumberOf_18, i_X3_readNumberOf_21, i_X3_readNumberOf_31, i_X3_readNumberOf_24, i_X3_readNumberOf_25, i_X3_readNumberOf_26, i_X3_readNumberOf_28, i_X3_readNumberOf_0_e, Option.toList_some, Option.toList_none, List.cons_append, List.nil_append, List.append_nil, ↓reduceIte]
      exact hQ0 h
    · simp (disch := omega) only [i_X3_readNumberOf_0, i_X3_readNumberOf_1, i_X3_readNumberOf_2, i_X3_readNumberOf_5, i_X3_readNumberOf_6, i_X3_readNumberOf_9, i_X3_readNumberOf_10, i_X3_readNumberOf_11, i_X3_readNumberOf_12, i_X3_readNumberOf_15, i_X3_readNumberOf_16, i_X3_readNumberOf_17, i_X3_readNumberOf_18, i_X3_readNumberOf_21, i_X3_readNumberOf_31, i_X3_readNumberOf_24, i_X3_readNumberOf_25, i_X3_readNumberOf_26, i_X3_readNumberOf_28, i_X3_readNumberOf_0_e, Option.toList_some, Option.toList_none, List.cons_append, List.nil_append, List.append_nil, ↓reduceIte]
      exact hQ1 r h
  · rw [if_neg k4] at hQ0 hQ1
    by_cases k3 : k = 3
    · subst k3
      rw [if_pos rfl, one] at hQ0 hQ1
      simp (disch := omega) only [i_X3_readNumberOf_0, i_X3_readNumberOf_1, i_X3_readNumberOf_2, i_X3_readNumberOf_5, i_X3_readNumberOf_6, i_X3_readNumberOf_9, i_X3_readNumberOf_10, i_X3_readNumberOf_11, i_X3_readNumberOf_12, i_X3_readNumberOf_15, i_X3_readNumberOf_16, i_X3_readNumberOf_17, i_X3_readNumberOf_18, i_X3_readNumberOf_21, i_X3_readNumberOf_31, i_X3_readNumberOf_24, i_X3_readNumberOf_25, i_X3_readNumberOf_26, i_X3_readNumberOf_28, i_X3_readNumberOf_0_e, Option.toList_some, Option.toList_none, List.cons_append, List.nil_append, List.append_nil, ↓reduceIte, q_eq, show (3 = 4) = False from by decide]
      rw [t_readDigit hY h2 hp (by decide) (by decide)]
      cases hd : dg tp p 0 4 with
      | false =>
        rw [hd] at hQ0
        rw [if_neg (by decide)]
        simp (disch := omega) only [i_X3_readNumberOf_0, i_X3_readNumberOf_1, i_X3_readNumberOf_2, i_X3_readNumberOf_5, i_X3_readNumberOf_6, i_X3_readNumberOf_9, i_X3_readNumberOf_10, i_X3_readNumberOf_11, i_X3_readNumberOf_12, i_X3_readNumberOf_15, i_X3_readNumberOf_16, i_X3_readNumberOf_17, i_X3_readNumberOf_18, i_X3_readNumberOf_21, i_X3_readNumberOf_31, i_X3_readNumberOf_24, i_X3_readNumberOf_25, i_X3_readNumberOf_26, i_X3_readNumberOf_28, i_X3_readNumberOf_0_e, Option.toList_some, Option.toList_none, List.cons_append, List.nil_append, List.append_nil, ↓reduceIte]
        exact hQ0 rfl
      | true =>
        rw [hd] at hQ1
        rw [if_pos rfl]
        simp (disch := omega) only [i_X3_readNumberOf_0, i_X3_readNumberOf_1, i_X3_readNumberOf_2, i_X3_readNumberOf_5, i_X3_readNumberOf_6, i_X3_readNumberOf_9, i_X3_readNumberOf_10, i_X3_readNumberOf_11, i_X3_readNumberOf_12, i_X3_readNumberOf_15, i_X3_readNumberOf_16, i_X3_readNumberOf_17, i_X3_readNumberOf_18, i_X3_readNumberOf_21, i_X3_readNumberOf_31, i_X3_readNumberOf_24, i_X3_readNumberOf_25, i_X3_readNumberOf_26, i_X3_readNumberOf_28, i_X3_readNumberOf_0_e, Option.toList_some, Option.toList_none, List.cons_append, List.nil_append, List.append_nil, ↓reduceIte]
        exact hQ1 _ rfl
    · rw [if_neg k3, one] at hQ0 hQ1
      simp (disch := omega) only [i_X3_readNumberOf_0, i_X3_readNumberOf_1, i_X3_readNumberOf_2, i_X3_readNumberOf_5, i_X3_readNumberOf_6, i_X3_readNumberOf_9, i_X3_readNumberOf_10, i_X3_readNumberOf_11, i_X3_readNumberOf_12, i_X3_readNumberOf_15, i_X3_readNumberOf_16, i_X3_readNumberOf_17, i_X3_readNumberOf_18, i_X3_readNumberOf_21, i_X3_readNumberOf_31, i_X3_readNumberOf_24, i_X3_readNumberOf_25, i_X3_readNumberOf_26, i_X3_readNumberOf_28, i_X3_readNumberOf_0_e, Option.toList_some, Option.toList_none, List.cons_append, List.nil_append, List.append_nil, ↓reduceIte, q_eq, k4, k3]
      rw [t_readDigit hY h2 hp (by decide) (by decide)]
      cases hd : dg tp p 1 9 with
      | false =>
        rw [hd] at hQ0
        rw [if_neg (by decide)]
        simp (disch := omega) only [i_X3_readNumberOf_0, i_X3_readNumberOf_1, i_X3_readNumberOf_2, i_X3_readNumberOf_5, i_X3_readNumberOf_6, i_X3_readNumberOf_9, i_X3_readNumberOf_10, i_X3_readNumberOf_11, i_X3_readNumberOf_12, i_X3_readNumberOf_15, i_X3_readNumberOf_16, i_X3_readNumberOf_17, i_X3_readNumberOf_18, i_X3_readNumberOf_21, i_X3_readNumberOf_31, i_X3_readNumberOf_24, i_X3_readNumberOf_25, i_X3_readNumberOf_26, i_X3_readNumberOf_28, i_X3_readNumberOf_0_e, Option.toList_some, Option.toList_none, List.cons_append, List.nil_append, List.append_nil, ↓reduceIte]
        exact hQ0 rfl
      | true =>
        rw [hd] at hQ1
        rw [if_pos rfl]
        simp (disch := omega) only [i_X3_readNumberOf_0, i_X3_readNumberOf_1, i_X3_readNumberOf_2, i_X3_readNumberOf_5, i_X3_readNumberOf_6, i_X3_readNumberOf_9, i_X3_readNumberOf_10, i_X3_readNumberOf_11, i_X3_readNumberOf_12, i_X3_readNumberOf_15, i_X3_readNumberOf_16, i_X3_readNumberOf_17, i_X3_readNumberOf_18, i_X3_readNumberOf_21, i_X3_readNumberOf_31, i_X3_readNumberOf_24, i_X3_readNumberOf_25, i_X3_readNumberOf_26, i_X3_readNumberOf_28, i_X3_readNumberOf_0_e, Option.toList_some, Option.toList_none, List.cons_append, List.nil_append, List.append_nil, ↓reduceIte]
        exact hQ1 _ rfl
theorem t_readStep (hY : RelY I A tp) {p n : Nat} (h2 : I 131 2 = nI p) (hp : p ≤ tp.length) (h4 : I 131 4 = nI n) (hn : n < 40) (hQ0 : kdA tp p = 0 → Q (some (.int (bz false))) (pm_w I A E J B)) (hQ1 : kdA tp p ≠ 0 → nof tp (kdA tp p) (p + 1) = none → Q (some (.int (bz false))) (pm_w (up2 I 131 2 (nI (p + 1))) A E J B)) (hQ2 : kdA tp p ≠ 0 → ∀ r, nof tp (kdA tp p) (p + 1) = some r → Q (some (.int (bz true))) (pm_w (up2 (up2 I 131 2 (nI r.2)) 131 4 (nI (n + 1))) (up2 (up2 A 133 n (nI (kdA tp p))) 134 n (nI r.1)) E J B)) : pm_call X (d + 3) mX3_readStep [.ref 131] (pm_w I A E J B) Q := by
  have kb := kdA_b tp p
  simp only [i_X3_readStep_0, i_X3_readStep_1, i_X3_readStep_4, i_X3_readStep_5, i_X3_readStep_6, i_X3_readStep_9, i_X3_readStep_10, i_X3_readStep_13, i_X3_readStep_15, i_X3_readStep_20, i_X3_readStep_21, i_X3_readStep_22, i_X3_readStep_25, i_X3_readStep_26, i_X3_readStep_27, i_X3_readStep_30, i_X3_readStep_31, i_X3_readStep_31b, i_X3_readStep_31c, i_X3_readStep_32, i_X3_readStep_33, i_X3_readStep_36, i_X3_readStep_37, i_X3_readStep_40, i_X3_readStep_41, i_X3_readStep_42, i_X3_readStep_43, i_X3_readStep_46, i_X3_readStep_47, i_X3_readStep_50, i_X3_readStep_51, i_X3_readStep_52, i_X3_readStep_53, i_X3_readStep_54, i_X3_readStep_57, i_X3_readStep_58, i_X3_readStep_59, i_X3_readStep_62, i_X3_readStep_63, i_X3_readStep_63b, i_X3_readStep_63c, i_X3_readStep_18, i_X3_readStep_19, i_X3_readStep_19b, i_X3_readStep_19c, i_X3_readStep_0_e, Option.toList_some, Option.toList_none, List.cons_append, List.nil_append, List.append_nil, ↓reduceIte]
  rw [t_readKind hY h2 hp]
  by_cases hk : kdA tp p = 0
  · rw [if_pos hk]
    simp (disch := omega) only [i_X3_readStep_0, i_X3_readStep_1, i_X3_readStep_4, i_X3_readStep_5, i_X3_readStep_6, i_X3_readStep_9, i_X3_readStep_10, i_X3_readStep_13, i_X3_readStep_15, i_X3_readStep_20, i_X3_readStep_21, i_X3_readStep_22, i_X3_readStep_25, i_X3_readStep_26, i_X3_readStep_27, i_X3_readStep_30, i_X3_readStep_31, i_X3_readStep_31b, i_X3_readStep_31c, i_X3_readStep_32, i_X3_readStep_33, i_X3_readStep_36, i_X3_readStep_37, i_X3_readStep_40, i_X3_readStep_41, i_X3_readStep_42, i_X3_readStep_43, i_X3_readStep_46, i_X3_readStep_47, i_X3_readStep_50, i_X3_readStep_51, i_X3_readStep_52, i_X3_readStep_53, i_X3_readStep_54, i_X3_readStep_57, i_X3_readStep_58, i_X3_readStep_59, i_X3_readStep_62, i_X3_readStep_63, i_X3_readStep_63b, i_X3_readStep_63c, i_X3_readStep_18, i_X3_readStep_19, i_X3_readStep_19b, i_X3_readStep_19c, i_X3_readStep_0_e, Option.toList_some, Option.toList_none, List.cons_append, List.nil_append, List.append_nil, ↓reduceIte, show ((-1 : Int32) < 0) = True from by decide]
    exact hQ0 hk
  · rw [if_neg hk]
    have hl := (kdA_lt hk).1
    have e4 : up2 I 131 2 (nI (p + 1)) 131 4 = nI n := by rw [up2_n _ _ (by simp)]; exact h4
    simp (disch := omega) only [i_X3_readStep_0, i_X3_readStep_1, i_X3_readStep_4, i_X3_readStep_5, i_X3_readStep_6, i_X3_readStep_9, i_X3_readStep_10, i_X3_readStep_13, i_X3_readStep_15, i_X3_readStep_20, i_X3_readStep_21, i_X3_readStep_22, i_X3_readStep_25, i_X3_readStep_26, i_X3_readStep_27, i_X3_readStep_30, i_X3_readStep_31, i_X3_readStep_31b, i_X3_readStep_31c, i_X3_readStep_32, i_X3_readStep_33, i_X3_readStep_36, i_X3_readStep_37, i_X3_readStep_40, i_X3_readStep_41, i_X3_readStep_42, i_X3_readStep_43, i_X3_readStep_46, i_X3_readStep_47, i_X3_readStep_50, i_X3_readStep_51, i_X3_readStep_52, i_X3_readStep_53, i_X3_readStep_54, i_X3_readStep_57, i_X3_readStep_58, i_X3_readStep_59, i_X3_readStep_62, i_X3_readStep_63, i_X3_readStep_63b, i_X3_readStep_63c, i_X3_readStep_18, i_X3_readStep_19, i_X3_readStep_19b, i_X3_readStep_19c, i_X3_readStep_0_e, Option.toList_some, Option.toList_none, List.cons_append, List.nil_append, List.append_nil, ↓reduceIte, q_neg, e4, q_lt, hn]
    refine t_nof (hY.mv) (up2_s _ _ _ _) (by omega) kb (fun h => ?_) (fun r h => ?_)
    · simp (disch := omega) only [i_X3_readStep_0, i_X3_readStep_1, i_X3_readStep_4, i_X3_readStep_5, i_X3_readStep_6, i_X3_readStep_9, i_X3_readStep_10, i_X3_readStep_13, i_X3_readStep_15, i_X3_readStep_20, i_X3_readStep_21, i_X3_readStep_22, i_X3_readStep_25, i_X3_readStep_26, i_X3_readStep_27, i_X3_readStep_30, i_X3_readStep_31, i_X3_readStep_31b, i_X3_readStep_31c, i_X3_readStep_32, i_X3_readStep_33, i_X3_readStep_36, i_X3_readStep_37, i_X3_readStep_40, i_X3_readStep_41, i_X3_readStep_42, i_X3_readStep_43, i_X3_readStep_46, i_X3_readStep_47, i_X3_readStep_50, i_X3_readStep_51, i_X3_readStep_52, i_X3_readStep_53, i_X3_readStep_54, i_X3_readStep_57, i_X3_readStep_58, i_X3_readStep_59, i_X3_readStep_62, i_X3_readStep_63, i_X3_readStep_63b, i_X3_readStep_63c, i_X3_readStep_18, i_X3_readStep_19, i_X3_readStep_19b, i_X3_readStep_19c, i_X3_readStep_0_e, Option.toList_some, Option.toList_none, List.cons_append, List.nil_append, List.append_nil, ↓reduceIte, show ((-1 : Int32) < 0) = True from by decide]
      exact hQ1 hk h
    · have hb := nof_b h
      have e4' : up2 I 131 2 (nI r.2) 131 4 = nI n := by rw [up2_n _ _ (by simp)]; exact h4
      rw [up2_2]
      simp (disch := omega) only [i_X3_readStep_0, i_X3_readStep_1, i_X3_readStep_4, i_X3_readStep_5, i_X3_readStep_6, i_X3_readStep_9, i_X3_readStep_10, i_X3_readStep_13, i_X3_readStep_15, i_X3_readStep_20, i_X3_readStep_21, i_X3_readStep_22, i_X3_readStep_25, i_X3_readStep_26, i_X3_readStep_27, i_X3_readStep_30, i_X3_readStep_31, i_X3_readStep_31b, i_X3_readStep_31c, i_X3_readStep_32, i_X3_readStep_33, i_X3_readStep_36, i_X3_readStep_37, i_X3_readStep_40, i_X3_readStep_41, i_X3_readStep_42, i_X3_readStep_43, i_X3_readStep_46, i_X3_readStep_47, i_X3_readStep_50, i_X3_readStep_51, i_X3_readStep_52, i_X3_readStep_53, i_X3_readStep_54, i_X3_readStep_57, i_X3_readStep_58, i_X3_readStep_59, i_X3_readStep_62, i_X3_readStep_63, i_X3_readStep_63b, i_X3_readStep_63c, i_X3_readStep_18, i_X3_readStep_19, i_X3_readStep_19b, i_X3_readStep_19c, i_X3_readStep_0_e, Option.toList_some, Option.toList_none, List.cons_append, List.nil_append, List.append_nil, ↓reduceIte, q_neg, e4', nI_add]
      exact hQ2 hk r h
theorem t_readLeaf (hY : RelY I A tp) {p : Nat} (h2 : I 131 2 = nI p) (hp : p ≤ tp.length) (hQ : ∀ I', (∀ c k, c ≠ 131 ∨ k = 1 ∨ k = 3 ∨ k = 4 → I' c k = I c k) → (∀ e, lfP tp p = .inl e → I' 131 2 = nI e) → (∀ q, lfP tp p = .inr q → I' 131 2 = nI q.2.2.2 ∧ I' 131 7 = bz true ∧ I' 131 8 = nI q.1 ∧ I' 131 9 = nI q.2.1 ∧ I' 131 10 = nI q.2.2.1) → Q (some (.int (bz (match lfP tp p with | .inl _ => false | .inr _ => true)))) (pm_w I' A E J B)) : pm_call X (d + 2) mX3_readLeaf [.ref 131] (pm_w I A E J B) Q := by
  have hY1 : RelY (up2 I 131 7 (bz true)) A tp := hY.fr (up2_n _ _ (by simp)) rfl
  have e21 : up2 I 131 7 (bz true) 131 2 = nI p := by rw [up2_n _ _ (by simp)]; exact h2
  unfold lfP at hQ
  simp only [i_X3_readLeaf_0, i_X3_readLeaf_1, i_X3_readLeaf_2, i_X3_readLeaf_2b, i_X3_readLeaf_2c, i_X3_readLeaf_5, i_X3_readLeaf_6, i_X3_readLeaf_7, i_X3_readLeaf_8, i_X3_readLeaf_9, i_X3_readLeaf_12, i_X3_readLeaf_15, i_X3_readLeaf_16, i_X3_readLeaf_19, i_X3_readLeaf_22, i_X3_readLeaf_23, i_X3_readLeaf_25, i_X3_readLeaf_28, i_X3_readLeaf_33, i_X3_readLeaf_34, i_X3_readLeaf_35, i_X3_readLeaf_38, i_X3_readLeaf_41, i_X3_readLeaf_42, i_X3_readLeaf_45, i_X3_readLeaf_48, i_X3_readLeaf_49, i_X3_readLeaf_51, i_X3_readLeaf_54, i_X3_readLeaf_59, i_X3_readLeaf_60, i_X3_readLeaf_61, i_X3_readLeaf_64, i_X3_readLeaf_67, i_X3_readLeaf_68, i_X3_readLeaf_71, i_X3_readLeaf_74, i_X3_readLeaf_75, i_X3_readLeaf_79, i_X3_readLeaf_79b, i_X3_readLeaf_79c, i_X3_readLeaf_78, i_X3_readLeaf_57, i_X3_readLeaf_58, i_X3_readLeaf_58b, i_X3_readLeaf_58c, i_X3_readLeaf_31, i_X3_readLeaf_32, i_X3_readLeaf_32b, i_X3_readLeaf_32c, i_X3_readLeaf_0_e, Option.toList_some, Option.toList_none, List.cons_append, List.nil_append, List.append_nil, ↓reduceIte]
  rw [t_readDigit hY1 e21 hp (by decide) (by decide)]
  cases hd : dg tp p 0 3 with
  | false =>
    rw [hd] at hQ
    rw [if_neg (by decide)]
    simp (disch := omega) only [i_X3_readLeaf_0, i_X3_readLeaf_1, i_X3_readLeaf_2, i_X3_readLeaf_2b, i_X3_readLeaf_2c, i_X3_readLeaf_5, i_X3_readLeaf_6, i_X3_readLeaf_7, i_X3_readLeaf_8, i_X3_readLeaf_9, i_X3_readLeaf_12, i_X3_readLeaf_15, i_X3_readLeaf_16, i_X3_readLeaf_19, i_X3_readLeaf_22, i_X3_readLeaf_23, i_X3_readLeaf_25, i_X3_readLeaf_28, i_X3_readLeaf_33, i_X3_readLeaf_34, i_X3_readLeaf_35, i_X3_readLeaf_38, i_X3_readLeaf_41, i_X3_readLeaf_42, i_X3_readLeaf_45, i_X3_readLeaf_48, i_X3_readLeaf_49, i_X3_readLeaf_51, i_X3_readLeaf_54, i_X3_readLeaf_59, i_X3_readLeaf_60, i_X3_readLeaf_61, i_X3_readLeaf_64, i_X3_readLeaf_67, i_X3_readLeaf_68, i_X3_readLeaf_71, i_X3_readLeaf_74, i_X3_readLeaf_75, i_X3_readLeaf_79, i_X3_readLeaf_79b, i_X3_readLeaf_79c, i_X3_readLeaf_78, i_X3_readLeaf_57, i_X3_readLeaf_58, i_X3_readLeaf_58b, i_X3_readLeaf_58c, i_X3_readLeaf_31, i_X3_readLeaf_32, i_X3_readLeaf_32b, i_X3_readLeaf_32c, i_X3_readLeaf_0_e, Option.toList_some, Option.toList_none, List.cons_append, List.nil_append, List.append_nil, ↓reduceIte, up2_s, show ((-1 : Int32) < 0) = True from by decide]
    refine hQ _ (fun c k h => by rw [up2_n _ _ (by omega), up2_n _ _ (by omega)]) (fun e h => ?_) (fun q h => by cases h)
    cases h
    rw [up2_n _ _ (by simp)]; exact e21
  | true =>
    rw [hd] at hQ
    have hb := dg_t hd
    rw [if_pos rfl]
    simp (disch := omega) only [i_X3_readLeaf_0, i_X3_readLeaf_1, i_X3_readLeaf_2, i_X3_readLeaf_2b, i_X3_readLeaf_2c, i_X3_readLeaf_5, i_X3_readLeaf_6, i_X3_readLeaf_7, i_X3_readLeaf_8, i_X3_readLeaf_9, i_X3_readLeaf_12, i_X3_readLeaf_15, i_X3_readLeaf_16, i_X3_readLeaf_19, i_X3_readLeaf_22, i_X3_readLeaf_23, i_X3_readLeaf_25, i_X3_readLeaf_28, i_X3_readLeaf_33, i_X3_readLeaf_34, i_X3_readLeaf_35, i_X3_readLeaf_38, i_X3_readLeaf_41, i_X3_readLeaf_42, i_X3_readLeaf_45, i_X3_readLeaf_48, i_X3_readLeaf_49, i_X3_readLeaf_51, i_X3_readLeaf_54, i_X3_readLeaf_59, i_X3_readLeaf_60, i_X3_readLeaf_61, i_X3_readLeaf_64, i_X3_readLeaf_67, i_X3_readLeaf_68, i_X3_readLeaf_71, i_X3_readLeaf_74, i_X3_readLeaf_75, i_X3_readLeaf_79, i_X3_readLeaf_79b, i_X3_readLeaf_79c, i_X3_readLeaf_78, i_X3_readLeaf_57, i_X3_readLeaf_58, i_X3_readLeaf_58b, i_X3_readLeaf_58c, i_X3_readLeaf_31, i_X3_readLeaf_32, i_X3_readLeaf_32b, i_X3_readLeaf_32c, i_X3_readLeaf_0_e, Option.toList_some, Option.toList_none, List.cons_append, List.nil_append, List.append_nil, ↓reduceIte, up2_s, q_neg]
    have hY2 : RelY (up2 (up2 (up2 I 131 7 (bz true)) 131 2 (nI (p + 1))) 131 8 (nI (bt tp p - 48))) A tp := hY1.mv.fr (up2_n _ _ (by simp)) rfl
    have e22 : up2 (up2 (up2 I 131 7 (bz true)) 131 2 (nI (p + 1))) 131 8 (nI (bt tp p - 48)) 131 2 = nI (p + 1) := by rw [up2_n _ _ (by simp)]; exact up2_s _ _ _ _
    rw [t_readSign hY2 e22 (by omega) (by decide)]
    cases hs : sg tp (p + 1) 58 with
    | false =>
      rw [hs] at hQ
      rw [if_neg (by decide)]
      simp (disch := omega) only [i_X3_readLeaf_0, i_X3_readLeaf_1, i_X3_readLeaf_2, i_X3_readLeaf_2b, i_X3_readLeaf_2c, i_X3_readLeaf_5, i_X3_readLeaf_6, i_X3_readLeaf_7, i_X3_readLeaf_8, i_X3_readLeaf_9, i_X3_readLeaf_12, i_X3_readLeaf_15, i_X3_readLeaf_16, i_X3_readLeaf_19, i_X3_readLeaf_22, i_X3_readLeaf_23, i_X3_readLeaf_25, i_X3_readLeaf_28, i_X3_readLeaf_33, i_X3_readLeaf_34, i_X3_readLeaf_35, i_X3_readLeaf_38, i_X3_readLeaf_41, i_X3_readLeaf_42, i_X3_readLeaf_45, i_X3_readLeaf_48, i_X3_readLeaf_49, i_X3_readLeaf_51, i_X3_readLeaf_54, i_X3_readLeaf_59, i_X3_readLeaf_60, i_X3_readLeaf_61, i_X3_readLeaf_64, i_X3_readLeaf_67, i_X3_readLeaf_68, i_X3_readLeaf_71, i_X3_readLeaf_74, i_X3_readLeaf_75, i_X3_readLeaf_79, i_X3_readLeaf_79b, i_X3_readLeaf_79c, i_X3_readLeaf_78, i_X3_readLeaf_57, i_X3_readLeaf_58, i_X3_readLeaf_58b, i_X3_readLeaf_58c, i_X3_readLeaf_31, i_X3_readLeaf_32, i_X3_readLeaf_32b, i_X3_readLeaf_32c, i_X3_readLeaf_0_e, Option.toList_some, Option.toList_none, List.cons_append, List.nil_append, List.append_nil, ↓reduceIte, bz_e0]
      refine hQ _ (fun c k h => by rw [up2_n _ _ (by omega), up2_n _ _ (by omega), up2_n _ _ (by omega)]) (fun e h => ?_) (fun q h => by cases h)
      cases h
      exact e22
    | true =>
      rw [hs] at hQ
      have hl2 : p + 1 < tp.length := by unfold sg at hs; simp only [Bool.and_eq_true, decide_eq_true_eq] at hs; exact hs.1
      rw [if_pos rfl]
      simp (disch := omega) only [i_X3_readLeaf_0, i_X3_readLeaf_1, i_X3_readLeaf_2, i_X3_readLeaf_2b, i_X3_readLeaf_2c, i_X3_readLeaf_5, i_X3_readLeaf_6, i_X3_readLeaf_7, i_X3_readLeaf_8, i_X3_readLeaf_9, i_X3_readLeaf_12, i_X3_readLeaf_15, i_X3_readLeaf_16, i_X3_readLeaf_19, i_X3_readLeaf_22, i_X3_readLeaf_23, i_X3_readLeaf_25, i_X3_readLeaf_28, i_X3_readLeaf_33, i_X3_readLeaf_34, i_X3_readLeaf_35, i_X3_readLeaf_38, i_X3_readLeaf_41, i_X3_readLeaf_42, i_X3_readLeaf_45, i_X3_readLeaf_48, i_X3_readLeaf_49, i_X3_readLeaf_51, i_X3_readLeaf_54, i_X3_readLeaf_59, i_X3_readLeaf_60, i_X3_readLeaf_61, i_X3_readLeaf_64, i_X3_readLeaf_67, i_X3_readLeaf_68, i_X3_readLeaf_71, i_X3_readLeaf_74, i_X3_readLeaf_75, i_X3_readLeaf_79, i_X3_readLeaf_79b, i_X3_readLeaf_79c, i_X3_readLeaf_78, i_X3_readLeaf_57, i_X3_readLeaf_58, i_X3_readLeaf_58b, i_X3_readLeaf_58c, i_X3_readLeaf_31, i_X3_readLeaf_32, i_X3_readLeaf_32b, i_X3_readLeaf_32c, i_X3_readLeaf_0_e, Option.toList_some, Option.toList_none, List.cons_append, List.nil_append, List.append_nil, ↓reduceIte, bz_e0, reduceCtorEq]
      refine t_readNumber hY2.mv (p := p + 2) (up2_s _ _ _ _) (by omega) (fun h3 => ?_) (fun lq h3 => ?_)
      · rw [h3] at hQ
        simp (disch := omega) only [i_X3_readLeaf_0, i_X3_readLeaf_1, i_X3_readLeaf_2, i_X3_readLeaf_2b, i_X3_readLeaf_2c, i_X3_readLeaf_5, i_X3_readLeaf_6, i_X3_readLeaf_7, i_X3_readLeaf_8, i_X3_readLeaf_9, i_X3_readLeaf_12, i_X3_readLeaf_15, i_X3_readLeaf_16, i_X3_readLeaf_19, i_X3_readLeaf_22, i_X3_readLeaf_23, i_X3_readLeaf_25, i_X3_readLeaf_28, i_X3_readLeaf_33, i_X3_readLeaf_34, i_X3_readLeaf_35, i_X3_readLeaf_38, i_X3_readLeaf_41, i_X3_readLeaf_42, i_X3_readLeaf_45, i_X3_readLeaf_48, i_X3_readLeaf_49, i_X3_readLeaf_51, i_X3_readLeaf_54, i_X3_readLeaf_59, i_X3_readLeaf_60, i_X3_readLeaf_61, i_X3_readLeaf_64, i_X3_readLeaf_67, i_X3_readLeaf_68, i_X3_readLeaf_71, i_X3_readLeaf_74, i_X3_readLeaf_75, i_X3_readLeaf_79, i_X3_readLeaf_79b, i_X3_readLeaf_79c, i_X3_readLeaf_78, i_X3_readLeaf_57, i_X3_readLeaf_58, i_X3_readLeaf_58b, i_X3_readLeaf_58c, i_X3_readLeaf_31, i_X3_readLeaf_32, i_X3_readLeaf_32b, i_X3_readLeaf_32c, i_X3_readLeaf_0_e, Option.toList_some, Option.toList_none, List.cons_append, List.nil_append, List.append_nil, ↓reduceIte, up2_s, show ((-1 : Int32) < 0) = True from by decide]
        refine hQ _ (fun c k h => by rw [up2_n _ _ (by omega), up2_n _ _ (by omega), up2_n _ _ (by omega), up2_n _ _ (by omega), up2_n _ _ (by omega)]) (fun e h => ?_) (fun q h => by cases h)
        cases h
        rw [up2_n _ _ (by simp)]; exact up2_s _ _ _ _
      · rw [h3] at hQ
        have b3 := num_b h3
        rw [up2_2]
        simp (disch := omega) only [i_X3_readLeaf_0, i_X3_readLeaf_1, i_X3_readLeaf_2, i_X3_readLeaf_2b, i_X3_readLeaf_2c, i_X3_readLeaf_5, i_X3_readLeaf_6, i_X3_readLeaf_7, i_X3_readLeaf_8, i_X3_readLeaf_9, i_X3_readLeaf_12, i_X3_readLeaf_15, i_X3_readLeaf_16, i_X3_readLeaf_19, i_X3_readLeaf_22, i_X3_readLeaf_23, i_X3_readLeaf_25, i_X3_readLeaf_28, i_X3_readLeaf_33, i_X3_readLeaf_34, i_X3_readLeaf_35, i_X3_readLeaf_38, i_X3_readLeaf_41, i_X3_readLeaf_42, i_X3_readLeaf_45, i_X3_readLeaf_48, i_X3_readLeaf_49, i_X3_readLeaf_51, i_X3_readLeaf_54, i_X3_readLeaf_59, i_X3_readLeaf_60, i_X3_readLeaf_61, i_X3_readLeaf_64, i_X3_readLeaf_67, i_X3_readLeaf_68, i_X3_readLeaf_71, i_X3_readLeaf_74, i_X3_readLeaf_75, i_X3_readLeaf_79, i_X3_readLeaf_79b, i_X3_readLeaf_79c, i_X3_readLeaf_78, i_X3_readLeaf_57, i_X3_readLeaf_58, i_X3_readLeaf_58b, i_X3_readLeaf_58c, i_X3_readLeaf_31, i_X3_readLeaf_32, i_X3_readLeaf_32b, i_X3_readLeaf_32c, i_X3_readLeaf_0_e, Option.toList_some, Option.toList_none, List.cons_append, List.nil_append, List.append_nil, ↓reduceIte, up2_s, q_neg]
        have hY3 : RelY (up2 (up2 (up2 (up2 (up2 I 131 7 (bz true)) 131 2 (nI (p + 1))) 131 8 (nI (bt tp p - 48))) 131 2 (nI lq.2)) 131 9 (nI lq.1)) A tp := hY2.mv.fr (up2_n _ _ (by simp)) rfl
        have e23 : up2 (up2 (up2 (up2 (up2 I 131 7 (bz true)) 131 2 (nI (p + 1))) 131 8 (nI (bt tp p - 48))) 131 2 (nI lq.2)) 131 9 (nI lq.1) 131 2 = nI lq.2 := by rw [up2_n _ _ (by simp)]; exact up2_s _ _ _ _
        rw [t_readSign hY3 e23 (by omega) (by decide)]
        cases hs2 : sg tp lq.2 45 with
        | false =>
          simp only [hs2] at hQ
          rw [if_neg (by decide)]
          simp (disch := omega) only [i_X3_readLeaf_0, i_X3_readLeaf_1, i_X3_readLeaf_2, i_X3_readLeaf_2b, i_X3_readLeaf_2c, i_X3_readLeaf_5, i_X3_readLeaf_6, i_X3_readLeaf_7, i_X3_readLeaf_8, i_X3_readLeaf_9, i_X3_readLeaf_12, i_X3_readLeaf_15, i_X3_readLeaf_16, i_X3_readLeaf_19, i_X3_readLeaf_22, i_X3_readLeaf_23, i_X3_readLeaf_25, i_X3_readLeaf_28, i_X3_readLeaf_33, i_X3_readLeaf_34, i_X3_readLeaf_35, i_X3_readLeaf_38, i_X3_readLeaf_41, i_X3_readLeaf_42, i_X3_readLeaf_45, i_X3_readLeaf_48, i_X3_readLeaf_49, i_X3_readLeaf_51, i_X3_readLeaf_54, i_X3_readLeaf_59, i_X3_readLeaf_60, i_X3_readLeaf_61, i_X3_readLeaf_64, i_X3_readLeaf_67, i_X3_readLeaf_68, i_X3_readLeaf_71, i_X3_readLeaf_74, i_X3_readLeaf_75, i_X3_readLeaf_79, i_X3_readLeaf_79b, i_X3_readLeaf_79c, i_X3_readLeaf_78, i_X3_readLeaf_57, i_X3_readLeaf_58, i_X3_readLeaf_58b, i_X3_readLeaf_58c, i_X3_readLeaf_31, i_X3_readLeaf_32, i_X3_readLeaf_32b, i_X3_readLeaf_32c, i_X3_readLeaf_0_e, Option.toList_some, Option.toList_none, List.cons_append, List.nil_append, List.append_nil, ↓reduceIte, bz_e0]
          refine hQ _ (fun c k h => by rw [up2_n _ _ (by omega), up2_n _ _ (by omega), up2_n _ _ (by omega), up2_n _ _ (by omega), up2_n _ _ (by omega)]) (fun e h => ?_) (fun q h => by cases h)
          cases h
          exact e23
        | true =>
          simp only [hs2] at hQ
          have hl3 : lq.2 < tp.length := by unfold sg at hs2; simp only [Bool.and_eq_true, decide_eq_true_eq] at hs2; exact hs2.1
          rw [if_pos rfl]
          simp (disch := omega) only [i_X3_readLeaf_0, i_X3_readLeaf_1, i_X3_readLeaf_2, i_X3_readLeaf_2b, i_X3_readLeaf_2c, i_X3_readLeaf_5, i_X3_readLeaf_6, i_X3_readLeaf_7, i_X3_readLeaf_8, i_X3_readLeaf_9, i_X3_readLeaf_12, i_X3_readLeaf_15, i_X3_readLeaf_16, i_X3_readLeaf_19, i_X3_readLeaf_22, i_X3_readLeaf_23, i_X3_readLeaf_25, i_X3_readLeaf_28, i_X3_readLeaf_33, i_X3_readLeaf_34, i_X3_readLeaf_35, i_X3_readLeaf_38, i_X3_readLeaf_41, i_X3_readLeaf_42, i_X3_readLeaf_45, i_X3_readLeaf_48, i_X3_readLeaf_49, i_X3_readLeaf_51, i_X3_readLeaf_54, i_X3_readLeaf_59, i_X3_readLeaf_60, i_X3_readLeaf_61, i_X3_readLeaf_64, i_X3_readLeaf_67, i_X3_readLeaf_68, i_X3_readLeaf_71, i_X3_readLeaf_74, i_X3_readLeaf_75, i_X3_readLeaf_79, i_X3_readLeaf_79b, i_X3_readLeaf_79c, i_X3_readLeaf_78, i_X3_readLeaf_57, i_X3_readLeaf_58, i_X3_readLeaf_58b, i_X3_readLeaf_58c, i_X3_readLeaf_31, i_X3_readLeaf_32, i_X3_readLeaf_32b, i_X3_readLeaf_32c, i_X3_readLeaf_0_e, Option.toList_some, Option.toList_none, List.cons_append, List.nil_append, List.append_nil, ↓reduceIte, bz_e0, reduceCtorEq]
          refine t_readNumber hY3.mv (p := lq.2 + 1) (up2_s _ _ _ _) (by omega) (fun h4 => ?_) (fun hq h4 => ?_)
          · rw [h4] at hQ
            simp (disch := omega) only [i_X3_readLeaf_0, i_X3_readLeaf_1, i_X3_readLeaf_2, i_X3_readLeaf_2b, i_X3_readLeaf_2c, i_X3_readLeaf_5, i_X3_readLeaf_6, i_X3_readLeaf_7, i_X3_readLeaf_8, i_X3_readLeaf_9, i_X3_readLeaf_12, i_X3_readLeaf_15, i_X3_readLeaf_16, i_X3_readLeaf_19, i_X3_readLeaf_22, i_X3_readLeaf_23, i_X3_readLeaf_25, i_X3_readLeaf_28, i_X3_readLeaf_33, i_X3_readLeaf_34, i_X3_readLeaf_35, i_X3_readLeaf_38, i_X3_readLeaf_41, i_X3_readLeaf_42, i_X3_readLeaf_45, i_X3_readLeaf_48, i_X3_readLeaf_49, i_X3_readLeaf_51, i_X3_readLeaf_54, i_X3_readLeaf_59, i_X3_readLeaf_60, i_X3_readLeaf_61, i_X3_readLeaf_64, i_X3_readLeaf_67, i_X3_readLeaf_68, i_X3_readLeaf_71, i_X3_readLeaf_74, i_X3_readLeaf_75, i_X3_readLeaf_79, i_X3_readLeaf_79b, i_X3_readLeaf_79c, i_X3_readLeaf_78, i_X3_readLeaf_57, i_X3_readLeaf_58, i_X3_readLeaf_58b, i_X3_readLeaf_58c, i_X3_readLeaf_31, i_X3_readLeaf_32, i_X3_readLeaf_32b, i_X3_readLeaf_32c, i_X3_readLeaf_0_e, Option.toList_some, Option.toList_none, List.cons_append, List.nil_append, List.append_nil, ↓reduceIte, up2_s, show ((-1 : Int32) < 0) = True from by decide]
            refine hQ _ (fun c k h => by rw [up2_n _ _ (by omega), up2_n _ _ (by omega), up2_n _ _ (by omega), up2_n _ _ (by omega), up2_n _ _ (by omega), up2_n _ _ (by omega), up2_n _ _ (by omega)]) (fun e h => ?_) (fun q h => by cases h)
            cases h
            rw [up2_n _ _ (by simp)]; exact up2_s _ _ _ _
          · rw [h4] at hQ
            have b4 := num_b h4
            rw [up2_2]
            simp (disch := omega) only [i_X3_readLeaf_0, i_X3_readLeaf_1, i_X3_readLeaf_2, i_X3_readLeaf_2b, i_X3_readLeaf_2c, i_X3_readLeaf_5, i_X3_readLeaf_6, i_X3_readLeaf_7, i_X3_readLeaf_8, i_X3_readLeaf_9, i_X3_readLeaf_12, i_X3_readLeaf_15, i_X3_readLeaf_16, i_X3_readLeaf_19, i_X3_readLeaf_22, i_X3_readLeaf_23, i_X3_readLeaf_25, i_X3_readLeaf_28, i_X3_readLeaf_33, i_X3_readLeaf_34, i_X3_readLeaf_35, i_X3_readLeaf_38, i_X3_readLeaf_41, i_X3_readLeaf_42, i_X3_readLeaf_45, i_X3_readLeaf_48, i_X3_readLeaf_49, i_X3_readLeaf_51, i_X3_readLeaf_54, i_X3_readLeaf_59, i_X3_readLeaf_60, i_X3_readLeaf_61, i_X3_readLeaf_64, i_X3_readLeaf_67, i_X3_readLeaf_68, i_X3_readLeaf_71, i_X3_readLeaf_74, i_X3_readLeaf_75, i_X3_readLeaf_79, i_X3_readLeaf_79b, i_X3_readLeaf_79c, i_X3_readLeaf_78, i_X3_readLeaf_57, i_X3_readLeaf_58, i_X3_readLeaf_58b, i_X3_readLeaf_58c, i_X3_readLeaf_31, i_X3_readLeaf_32, i_X3_readLeaf_32b, i_X3_readLeaf_32c, i_X3_readLeaf_0_e, Option.toList_some, Option.toList_none, List.cons_append, List.nil_append, List.append_nil, ↓reduceIte, up2_s, q_neg]
            refine hQ _ (fun c k h => by rw [up2_n _ _ (by omega), up2_n _ _ (by omega), up2_n _ _ (by omega), up2_n _ _ (by omega), up2_n _ _ (by omega), up2_n _ _ (by omega), up2_n _ _ (by omega)]) (fun e h => by cases h) (fun q h => ?_)
            cases h
            exact ⟨by simp [up2], by simp [up2], by simp [up2], by simp [up2], by simp [up2]⟩
end PAP
