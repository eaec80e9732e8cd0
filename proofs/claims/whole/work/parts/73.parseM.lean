/-! the reference reads a path -/
def rg (tp : List Nat) (p lo hi : Nat) : Bool := decide (p < tp.length) && (decide (lo ≤ bt tp p) && decide (bt tp p ≤ hi))
def CM (J : Nat → Int32) (B : Nat → Nat → Int32) (tp : List Nat) (p : Nat) (w : Bool) : Prop := J 13 = nI tp.length ∧ J 14 = nI p ∧ J 15 = bz w ∧ p ≤ tp.length ∧ tp.length ≤ 40 ∧ ∀ i b, tp[i]? = some b → b ≤ 127 ∧ B 144 i = nI b
def frM (J J' : Nat → Int32) : Prop := ∀ k, k < 13 ∨ 15 < k → J' k = J k
theorem CM.at {J : Nat → Int32} {B : Nat → Nat → Int32} {tp : List Nat} {p q : Nat} {w : Bool} (h : CM J B tp p w) (hq : q < tp.length) : B 144 q = nI (bt tp q) ∧ bt tp q ≤ 127 := by
  have := h.2.2.2.2.2 q _ (bt_at hq)
  exact ⟨this.2, this.1⟩
theorem CM.frB {J J' : Nat → Int32} {B B' : Nat → Nat → Int32} {tp : List Nat} {p : Nat} {w : Bool} (h : CM J B tp p w) (hJ : J' 13 = J 13 ∧ J' 14 = J 14 ∧ J' 15 = J 15) (hB : B' 144 = B 144) : CM J' B' tp p w := ⟨by rw [hJ.1]; exact h.1, by rw [hJ.2.1]; exact h.2.1, by rw [hJ.2.2]; exact h.2.2.1, h.2.2.2.1, h.2.2.2.2.1, by rw [hB]; exact h.2.2.2.2.2⟩
theorem CM.mv {J : Nat → Int32} {B : Nat → Nat → Int32} {tp : List Nat} {p q : Nat} {w : Bool} (h : CM J B tp p w) (hq : q ≤ tp.length) : CM (upd J 14 (nI q)) B tp q w := ⟨h.1, rfl, h.2.2.1, hq, h.2.2.2.2⟩
theorem CM.wr {J : Nat → Int32} {B : Nat → Nat → Int32} {tp : List Nat} {p : Nat} {w : Bool} (h : CM J B tp p w) : CM (upd J 15 (bz true)) B tp p true := ⟨h.1, h.2.1, rfl, h.2.2.2⟩
theorem frM_14 {J : Nat → Int32} {x : Int32} : frM J (upd J 14 x) := fun k h => by
  have : k ≠ 14 := by omega
  simp [upd, this]
theorem frM_15 {J : Nat → Int32} {x : Int32} : frM J (upd J 15 x) := fun k h => by
  have : k ≠ 15 := by omega
  simp [upd, this]
theorem frM.tr {J J' J'' : Nat → Int32} (h : frM J J') (h' : frM J' J'') : frM J J'' := fun k hk => by rw [h' k hk, h k hk]
section PAM
variable {X : pm_X} {d : Nat} {G : pm_H} {Q : Option Value → pm_H → Prop} {I A : Nat → Nat → Int32} {E : Nat → Nat → Int64} {J : Nat → Int32} {B : Nat → Nat → Int32} {T T' : Tr} {S : St} {tp : List Nat} {p : Nat} {w : Bool}
theorem s_isAt (h : CM J B tp p w) {lo hi : Nat} (hlo : lo ≤ 127) (hhi : hi ≤ 127) : pm_call X (d + 1) mX7_isAt [.ref 139, .int (nI lo), .int (nI hi)] (pm_w I A E J B) Q ↔ Q (some (.int (bz (!w && rg tp p lo hi)))) (pm_w I A E J B) := by
  have hat := fun hp => CM.at h (q := p) hp
  obtain ⟨e13, e14, e15, hpl, h40, _⟩ := h
  cases w with
  | true => simp (disch := omega) only [i_X7_isAt_0, i_X7_isAt_1, i_X7_isAt_4, i_X7_isAt_7, i_X7_isAt_8, i_X7_isAt_11, i_X7_isAt_12, i_X7_isAt_15, i_X7_isAt_18, i_X7_isAt_19, i_X7_isAt_22, i_X7_isAt_23, i_X7_isAt_26, i_X7_isAt_27, i_X7_isAt_28, i_X7_isAt_29, i_X7_isAt_30, i_X7_isAt_31, i_X7_isAt_32, i_X7_isAt_35, i_X7_isAt_38, i_X7_isAt_39, i_X7_isAt_43, i_X7_isAt_43b, i_X7_isAt_43c, i_X7_isAt_42, i_X7_isAt_0_e, Option.toList_some, Option.toList_none, List.cons_append, List.nil_append, List.append_nil, ↓reduceIte, e15, bz_e0, reduceCtorEq, Bool.not_true, Bool.false_and]
  | false =>
    by_cases hp : p < tp.length
    · obtain ⟨eb, b127⟩ := hat hp
      unfold rg
      by_cases c1 : lo ≤ bt tp p
      · by_cases c2 : bt tp p ≤ hi
        · simp (disch := omega) only [i_X7_isAt_0, i_X7_isAt_1, i_X7_isAt_4, i_X7_isAt_7, i_X7_isAt_8, i_X7_isAt_11, i_X7_isAt_12, i_X7_isAt_15, i_X7_isAt_18, i_X7_isAt_19, i_X7_isAt_22, i_X7_isAt_23, i_X7_isAt_26, i_X7_isAt_27, i_X7_isAt_28, i_X7_isAt_29, i_X7_isAt_30, i_X7_isAt_31, i_X7_isAt_32, i_X7_isAt_35, i_X7_isAt_38, i_X7_isAt_39, i_X7_isAt_43, i_X7_isAt_43b, i_X7_isAt_43c, i_X7_isAt_42, i_X7_isAt_0_e, Option.toList_some, Option.toList_none, List.cons_append, List.nil_append, List.append_nil, ↓reduceIte, e15, bz_e0, e14, e13, q_lt, hp, eb, l_of, s_isIn, l_le, c1, c2, decide_true, Bool.and_true, Bool.not_false, reduceCtorEq]
        · simp (disch := omega) only [i_X7_isAt_0, i_X7_isAt_1, i_X7_isAt_4, i_X7_isAt_7, i_X7_isAt_8, i_X7_isAt_11, i_X7_isAt_12, i_X7_isAt_15, i_X7_isAt_18, i_X7_isAt_19, i_X7_isAt_22, i_X7_isAt_23, i_X7_isAt_26, i_X7_isAt_27, i_X7_isAt_28, i_X7_isAt_29, i_X7_isAt_30, i_X7_isAt_31, i_X7_isAt_32, i_X7_isAt_35, i_X7_isAt_38, i_X7_isAt_39, i_X7_isAt_43, i_X7_isAt_43b, i_X7_isAt_43c, i_X7_isAt_42, i_X7_isAt_0_e, Option.toList_some, Option.toList_none, List.cons_append, List.nil_append, List.append_nil, ↓reduceIte, e15, bz_e0, e14, e13, q_lt, hp, eb, l_of, s_isIn, l_le, c1, c2, decide_true, decide_false, Bool.and_false, Bool.and_true, Bool.not_false]
      · simp (disch := omega) only [i_X7_isAt_0, i_X7_isAt_1, i_X7_isAt_4, i_X7_isAt_7, i_X7_isAt_8, i_X7_isAt_11, i_X7_isAt_12, i_X7_isAt_15, i_X7_isAt_18, i_X7_isAt_19, i_X7_isAt_22, i_X7_isAt_23, i_X7_isAt_26, i_X7_isAt_27, i_X7_isAt_28, i_X7_isAt_29, i_X7_isAt_30, i_X7_isAt_31, i_X7_isAt_32, i_X7_isAt_35, i_X7_isAt_38, i_X7_isAt_39, i_X7_isAt_43, i_X7_isAt_43b, i_X7_isAt_43c, i_X7_isAt_42, i_X7_isAt_0_e, Option.toList_some, Option.toList_none, List.cons_append, List.nil_append, List.append_nil, ↓reduceIte, e15, bz_e0, e14, e13, q_lt, hp, eb, l_of, s_isIn, l_le, c1, decide_true, decide_false, Bool.false_and, Bool.and_false, Bool.and_true, Bool.not_false]
    · simp (disch := omega) only [i_X7_isAt_0, i_X7_isAt_1, i_X7_isAt_4, i_X7_isAt_7, i_X7_isAt_8, i_X7_isAt_11, i_X7_isAt_12, i_X7_isAt_15, i_X7_isAt_18, i_X7_isAt_19, i_X7_isAt_22, i_X7_isAt_23, i_X7_isAt_26, i_X7_isAt_27, i_X7_isAt_28, i_X7_isAt_29, i_X7_isAt_30, i_X7_isAt_31, i_X7_isAt_32, i_X7_isAt_35, i_X7_isAt_38, i_X7_isAt_39, i_X7_isAt_43, i_X7_isAt_43b, i_X7_isAt_43c, i_X7_isAt_42, i_X7_isAt_0_e, Option.toList_some, Option.toList_none, List.cons_append, List.nil_append, List.append_nil, ↓reduceIte, e15, bz_e0, e14, e13, q_lt, hp, rg, decide_false, Bool.false_and, Bool.and_false]
theorem rg_t {lo hi : Nat} (h : rg tp p lo hi = true) : p < tp.length ∧ lo ≤ bt tp p ∧ bt tp p ≤ hi := by
  unfold rg at h
  simp only [Bool.and_eq_true, decide_eq_true_eq] at h
  exact h
theorem s_digit (h : CM J B tp p w) {lo hi : Nat} (hlo : 48 ≤ lo ∧ lo ≤ 127) (hhi : hi ≤ 127) (hQ0 : w = true ∨ rg tp p lo hi = false → ∀ J', CM J' B tp p true → frM J J' → Q (some (.int (nI 0))) (pm_w I A E J' B)) (hQ1 : w = false → rg tp p lo hi = true → ∀ J', CM J' B tp (p + 1) false → frM J J' → Q (some (.int (nI (bt tp p - 48)))) (pm_w I A E J' B)) : pm_call X (d + 2) mX7_digit [.ref 139, .int (nI lo), .int (nI hi)] (pm_w I A E J B) Q := by
  have h40 := h.2.2.2.2.1
  have e14 := h.2.1
  cases hc : (!w && rg tp p lo hi) with
  | false =>
    simp (disch := omega) only [i_X7_digit_0, i_X7_digit_1, i_X7_digit_2, i_X7_digit_3, i_X7_digit_6, i_X7_digit_9, i_X7_digit_10, i_X7_digit_11, i_X7_digit_11b, i_X7_digit_11c, i_X7_digit_14, i_X7_digit_15, i_X7_digit_16, i_X7_digit_17, i_X7_digit_18, i_X7_digit_21, i_X7_digit_22, i_X7_digit_23, i_X7_digit_26, i_X7_digit_27, i_X7_digit_30, i_X7_digit_31, i_X7_digit_34, i_X7_digit_35, i_X7_digit_36, i_X7_digit_37, i_X7_digit_39, i_X7_digit_40, i_X7_digit_0_e, Option.toList_some, Option.toList_none, List.cons_append, List.nil_append, List.append_nil, ↓reduceIte, s_isAt h, hc, bz_e0]
    refine hQ0 ?_ _ h.wr frM_15
    cases w with
    | true => exact Or.inl rfl
    | false => right; simpa using hc
  | true =>
    simp only [Bool.and_eq_true, Bool.not_eq_true'] at hc
    have r := rg_t hc.2
    have hat := h.at r.1
    have e14' : upd J 14 (nI (p + 1)) 14 = nI (p + 1) := rfl
    simp (disch := omega) only [i_X7_digit_0, i_X7_digit_1, i_X7_digit_2, i_X7_digit_3, i_X7_digit_6, i_X7_digit_9, i_X7_digit_10, i_X7_digit_11, i_X7_digit_11b, i_X7_digit_11c, i_X7_digit_14, i_X7_digit_15, i_X7_digit_16, i_X7_digit_17, i_X7_digit_18, i_X7_digit_21, i_X7_digit_22, i_X7_digit_23, i_X7_digit_26, i_X7_digit_27, i_X7_digit_30, i_X7_digit_31, i_X7_digit_34, i_X7_digit_35, i_X7_digit_36, i_X7_digit_37, i_X7_digit_39, i_X7_digit_40, i_X7_digit_0_e, Option.toList_some, Option.toList_none, List.cons_append, List.nil_append, List.append_nil, ↓reduceIte, s_isAt h, hc.1, hc.2, Bool.not_false, Bool.and_self, bz_e0, reduceCtorEq, e14, nI_add, e14', pk_sub, Nat.add_sub_cancel, hat.1]
    refine hQ1 hc.1 hc.2 _ ?_ frM_14
    have hm := h.mv (q := p + 1) (by omega)
    rw [hc.1] at hm
    exact hm
theorem s_expects (h : CM J B tp p w) {c : Nat} (hc : c ≤ 127) (hQ0 : w = true ∨ sg tp p c = false → ∀ J', CM J' B tp p true → frM J J' → Q none (pm_w I A E J' B)) (hQ1 : w = false → sg tp p c = true → ∀ J', CM J' B tp (p + 1) false → frM J J' → Q none (pm_w I A E J' B)) : pm_call X (d + 2) mX7_expects [.ref 139, .int (nI c)] (pm_w I A E J B) Q := by
  have e14 := h.2.1
  have es : rg tp p c c = sg tp p c := by
    unfold rg sg
    congr 1
    by_cases q : bt tp p = c
    · simp [q]
    · simp [q]; omega
  rw [← es] at hQ0 hQ1
  cases hcc : (!w && rg tp p c c) with
  | false =>
    simp (disch := omega) only [i_X7_expects_0, i_X7_expects_1, i_X7_expects_2, i_X7_expects_3, i_X7_expects_6, i_X7_expects_9, i_X7_expects_10, i_X7_expects_11, i_X7_expects_14, i_X7_expects_15, i_X7_expects_16, i_X7_expects_19, i_X7_expects_27, i_X7_expects_22, i_X7_expects_23, i_X7_expects_24, i_X7_expects_24b, i_X7_expects_24c, i_X7_expects_0_e, Option.toList_some, Option.toList_none, List.cons_append, List.nil_append, List.append_nil, ↓reduceIte, s_isAt h, hcc, bz_e0]
    refine hQ0 ?_ _ h.wr frM_15
    cases w with
    | true => exact Or.inl rfl
    | false => right; simpa using hcc
  | true =>
    simp only [Bool.and_eq_true, Bool.not_eq_true'] at hcc
    have r := rg_t hcc.2
    simp (disch := omega) only [i_X7_expects_0, i_X7_expects_1, i_X7_expects_2, i_X7_expects_3, i_X7_expects_6, i_X7_expects_9, i_X7_expects_10, i_X7_expects_11, i_X7_expects_14, i_X7_expects_15, i_X7_expects_16, i_X7_expects_19, i_X7_expects_27, i_X7_expects_22, i_X7_expects_23, i_X7_expects_24, i_X7_expects_24b, i_X7_expects_24c, i_X7_expects_0_e, Option.toList_some, Option.toList_none, List.cons_append, List.nil_append, List.append_nil, ↓reduceIte, s_isAt h, hcc.1, hcc.2, Bool.not_false, Bool.and_self, bz_e0, reduceCtorEq, e14, nI_add]
    refine hQ1 hcc.1 hcc.2 _ ?_ frM_14
    have hm := h.mv (q := p + 1) (by omega)
    rw [hcc.1] at hm
    exact hm
theorem s_number (h : CM J B tp p w) (hQ0 : w = true ∨ num tp p = none → ∀ J', CM J' B tp p true → frM J J' → Q (some (.int (nI 0))) (pm_w I A E J' B)) (hQ1 : w = false → ∀ r, num tp p = some r → ∀ J', CM J' B tp r.2 false → frM J J' → Q (some (.int (nI r.1))) (pm_w I A E J' B)) : pm_call X (d + 3) mX7_number [.ref 139] (pm_w I A E J B) Q := by
  have key : ∀ m k, k + m = 7 → 1 ≤ k → ∀ (v q : Nat) (J1 : Nat → Int32), CM J1 B tp q false → frM J J1 → v < 10 ^ (7 - m) → (∀ r, r = nuG tp m v q → ∀ J', CM J' B tp r.2 false → frM J J' → Q (some (.int (nI r.1))) (pm_w I A E J' B)) → pm_wp X (d + 3) mX7_number 11 [.ref 139, .int (nI v), .int (nI k)] [] (pm_w I A E J1 B) Q := by
    intro m
    induction m with
    | zero =>
      intro k hk _ v q J1 hC hF hv hQ
      have : k = 7 := by omega
      subst this
      rw [i_X7_number_11]
      simp (disch := omega) only [i_X7_number_0, i_X7_number_1, i_X7_number_3, i_X7_number_5, i_X7_number_8, i_X7_number_9, i_X7_number_10, i_X7_number_12, i_X7_number_14, i_X7_number_17, i_X7_number_18, i_X7_number_20, i_X7_number_22, i_X7_number_25, i_X7_number_28, i_X7_number_30, i_X7_number_31, i_X7_number_32, i_X7_number_33, i_X7_number_35, i_X7_number_37, i_X7_number_40, i_X7_number_41, i_X7_number_42, i_X7_number_45, i_X7_number_48, i_X7_number_49, i_X7_number_0_e, Option.toList_some, Option.toList_none, List.cons_append, List.nil_append, List.append_nil, ↓reduceIte, q_lt, Nat.lt_irrefl]
      exact hQ (v, q) rfl J1 hC hF
    | succ m ih =>
      intro k hk h1 v q J1 hC hF hv hQ
      have hk7 : k < 7 := by omega
      rw [show nuG tp (m + 1) v q = if dg tp q 0 9 then nuG tp m (v * 10 + (bt tp q - 48)) (q + 1) else (v, q) from rfl, show dg tp q 0 9 = rg tp q 48 57 from rfl] at hQ
      rw [i_X7_number_11]
      cases hd : rg tp q 48 57 with
      | false =>
        rw [hd] at hQ
        simp (disch := omega) only [i_X7_number_0, i_X7_number_1, i_X7_number_3, i_X7_number_5, i_X7_number_8, i_X7_number_9, i_X7_number_10, i_X7_number_12, i_X7_number_14, i_X7_number_17, i_X7_number_18, i_X7_number_20, i_X7_number_22, i_X7_number_25, i_X7_number_28, i_X7_number_30, i_X7_number_31, i_X7_number_32, i_X7_number_33, i_X7_number_35, i_X7_number_37, i_X7_number_40, i_X7_number_41, i_X7_number_42, i_X7_number_45, i_X7_number_48, i_X7_number_49, i_X7_number_0_e, Option.toList_some, Option.toList_none, List.cons_append, List.nil_append, List.append_nil, ↓reduceIte, q_lt, hk7, s_isAt hC, hd, Bool.not_false, Bool.and_false, bz_e0]
        exact hQ (v, q) rfl J1 hC hF
      | true =>
        rw [hd] at hQ
        have hb := rg_t hd
        simp (disch := omega) only [i_X7_number_0, i_X7_number_1, i_X7_number_3, i_X7_number_5, i_X7_number_8, i_X7_number_9, i_X7_number_10, i_X7_number_12, i_X7_number_14, i_X7_number_17, i_X7_number_18, i_X7_number_20, i_X7_number_22, i_X7_number_25, i_X7_number_28, i_X7_number_30, i_X7_number_31, i_X7_number_32, i_X7_number_33, i_X7_number_35, i_X7_number_37, i_X7_number_40, i_X7_number_41, i_X7_number_42, i_X7_number_45, i_X7_number_48, i_X7_number_49, i_X7_number_0_e, Option.toList_some, Option.toList_none, List.cons_append, List.nil_append, List.append_nil, ↓reduceIte, q_lt, hk7, s_isAt hC, hd, Bool.not_false, Bool.and_true, bz_e0, reduceCtorEq, pk_mul]
        refine s_digit (d := d) hC (by decide) (by decide) (fun hh => ?_) (fun _ _ J2 hC2 hF2 => ?_)
        · rw [hd] at hh; rcases hh with q | q <;> cases q
        · simp (disch := omega) only [i_X7_number_0, i_X7_number_1, i_X7_number_3, i_X7_number_5, i_X7_number_8, i_X7_number_9, i_X7_number_10, i_X7_number_12, i_X7_number_14, i_X7_number_17, i_X7_number_18, i_X7_number_20, i_X7_number_22, i_X7_number_25, i_X7_number_28, i_X7_number_30, i_X7_number_31, i_X7_number_32, i_X7_number_33, i_X7_number_35, i_X7_number_37, i_X7_number_40, i_X7_number_41, i_X7_number_42, i_X7_number_45, i_X7_number_48, i_X7_number_49, i_X7_number_0_e, Option.toList_some, Option.toList_none, List.cons_append, List.nil_append, List.append_nil, ↓reduceIte, nI_add]
          have e : 10 ^ (7 - m) = 10 ^ (7 - (m + 1)) * 10 := by rw [← Nat.pow_succ]; congr 1; omega
          rw [Nat.mul_comm 10 v]
          exact ih (k + 1) (by omega) (by omega) _ _ J2 hC2 (hF.tr hF2) (by rw [e]; omega) hQ
  unfold num at hQ0 hQ1
  rw [show dg tp p 0 9 = rg tp p 48 57 from rfl] at hQ0 hQ1
  simp only [i_X7_number_0, i_X7_number_1, i_X7_number_3, i_X7_number_5, i_X7_number_8, i_X7_number_9, i_X7_number_10, i_X7_number_12, i_X7_number_14, i_X7_number_17, i_X7_number_18, i_X7_number_20, i_X7_number_22, i_X7_number_25, i_X7_number_28, i_X7_number_30, i_X7_number_31, i_X7_number_32, i_X7_number_33, i_X7_number_35, i_X7_number_37, i_X7_number_40, i_X7_number_41, i_X7_number_42, i_X7_number_45, i_X7_number_48, i_X7_number_49, i_X7_number_0_e, Option.toList_some, Option.toList_none, List.cons_append, List.nil_append, List.append_nil, ↓reduceIte]
  refine s_digit (d := d) h (by decide) (by decide) (fun hh J2 hC2 hF2 => ?_) (fun hw hh J2 hC2 hF2 => ?_)
  · simp only [i_X7_number_0, i_X7_number_1, i_X7_number_3, i_X7_number_5, i_X7_number_8, i_X7_number_9, i_X7_number_10, i_X7_number_12, i_X7_number_14, i_X7_number_17, i_X7_number_18, i_X7_number_20, i_X7_number_22, i_X7_number_25, i_X7_number_28, i_X7_number_30, i_X7_number_31, i_X7_number_32, i_X7_number_33, i_X7_number_35, i_X7_number_37, i_X7_number_40, i_X7_number_41, i_X7_number_42, i_X7_number_45, i_X7_number_48, i_X7_number_49, i_X7_number_0_e, Option.toList_some, Option.toList_none, List.cons_append, List.nil_append, List.append_nil, ↓reduceIte]
    rw [i_X7_number_11]
    simp (disch := omega) only [i_X7_number_0, i_X7_number_1, i_X7_number_3, i_X7_number_5, i_X7_number_8, i_X7_number_9, i_X7_number_10, i_X7_number_12, i_X7_number_14, i_X7_number_17, i_X7_number_18, i_X7_number_20, i_X7_number_22, i_X7_number_25, i_X7_number_28, i_X7_number_30, i_X7_number_31, i_X7_number_32, i_X7_number_33, i_X7_number_35, i_X7_number_37, i_X7_number_40, i_X7_number_41, i_X7_number_42, i_X7_number_45, i_X7_number_48, i_X7_number_49, i_X7_number_0_e, Option.toList_some, Option.toList_none, List.cons_append, List.nil_append, List.append_nil, ↓reduceIte, q_lt, show (1 < 7) = True from by decide, s_isAt hC2, Bool.not_true, Bool.false_and, bz_e0]
    refine hQ0 ?_ J2 hC2 hF2
    rcases hh with q | q
    · exact Or.inl q
    · right; rw [q]; rfl
  · rw [hh] at hQ1
    have hb := rg_t hh
    simp only [i_X7_number_0, i_X7_number_1, i_X7_number_3, i_X7_number_5, i_X7_number_8, i_X7_number_9, i_X7_number_10, i_X7_number_12, i_X7_number_14, i_X7_number_17, i_X7_number_18, i_X7_number_20, i_X7_number_22, i_X7_number_25, i_X7_number_28, i_X7_number_30, i_X7_number_31, i_X7_number_32, i_X7_number_33, i_X7_number_35, i_X7_number_37, i_X7_number_40, i_X7_number_41, i_X7_number_42, i_X7_number_45, i_X7_number_48, i_X7_number_49, i_X7_number_0_e, Option.toList_some, Option.toList_none, List.cons_append, List.nil_append, List.append_nil, ↓reduceIte]
    exact key 6 1 rfl (by omega) _ _ J2 hC2 hF2 (by show bt tp p - 48 < 10; omega) (fun r hr J' hC hF => by subst hr; exact hQ1 hw _ rfl J' hC hF)
theorem s_kindOf {b : Nat} (hb : b ≤ 127) : pm_call X d mX7_kindOf [.int (nI b)] G Q ↔ Q (some (.int (if kdO b = 0 then -1 else nI (kdO b)))) G := by
  unfold kdO
  by_cases c1 : b = 47
  · subst c1; simp (disch := omega) only [i_X7_kindOf_0, i_X7_kindOf_1, i_X7_kindOf_3, i_X7_kindOf_6, i_X7_kindOf_7, i_X7_kindOf_41, i_X7_kindOf_10, i_X7_kindOf_11, i_X7_kindOf_13, i_X7_kindOf_16, i_X7_kindOf_17, i_X7_kindOf_20, i_X7_kindOf_21, i_X7_kindOf_23, i_X7_kindOf_26, i_X7_kindOf_27, i_X7_kindOf_30, i_X7_kindOf_31, i_X7_kindOf_33, i_X7_kindOf_36, i_X7_kindOf_37, i_X7_kindOf_40, i_X7_kindOf_0_e, Option.toList_some, Option.toList_none, List.cons_append, List.nil_append, List.append_nil, ↓reduceIte]; rfl
  · by_cases c2 : b = 42
    · subst c2; simp (disch := omega) only [i_X7_kindOf_0, i_X7_kindOf_1, i_X7_kindOf_3, i_X7_kindOf_6, i_X7_kindOf_7, i_X7_kindOf_41, i_X7_kindOf_10, i_X7_kindOf_11, i_X7_kindOf_13, i_X7_kindOf_16, i_X7_kindOf_17, i_X7_kindOf_20, i_X7_kindOf_21, i_X7_kindOf_23, i_X7_kindOf_26, i_X7_kindOf_27, i_X7_kindOf_30, i_X7_kindOf_31, i_X7_kindOf_33, i_X7_kindOf_36, i_X7_kindOf_37, i_X7_kindOf_40, i_X7_kindOf_0_e, Option.toList_some, Option.toList_none, List.cons_append, List.nil_append, List.append_nil, ↓reduceIte, q_eq, c1]; rfl
    · by_cases c3 : b = 103
      · subst c3; simp (disch := omega) only [i_X7_kindOf_0, i_X7_kindOf_1, i_X7_kindOf_3, i_X7_kindOf_6, i_X7_kindOf_7, i_X7_kindOf_41, i_X7_kindOf_10, i_X7_kindOf_11, i_X7_kindOf_13, i_X7_kindOf_16, i_X7_kindOf_17, i_X7_kindOf_20, i_X7_kindOf_21, i_X7_kindOf_23, i_X7_kindOf_26, i_X7_kindOf_27, i_X7_kindOf_30, i_X7_kindOf_31, i_X7_kindOf_33, i_X7_kindOf_36, i_X7_kindOf_37, i_X7_kindOf_40, i_X7_kindOf_0_e, Option.toList_some, Option.toList_none, List.cons_append, List.nil_append, List.append_nil, ↓reduceIte, q_eq, c1, c2]; rfl
      · by_cases c4 : b = 43
        · subst c4; simp (disch := omega) only [i_X7_kindOf_0, i_X7_kindOf_1, i_X7_kindOf_3, i_X7_kindOf_6, i_X7_kindOf_7, i_X7_kindOf_41, i_X7_kindOf_10, i_X7_kindOf_11, i_X7_kindOf_13, i_X7_kindOf_16, i_X7_kindOf_17, i_X7_kindOf_20, i_X7_kindOf_21, i_X7_kindOf_23, i_X7_kindOf_26, i_X7_kindOf_27, i_X7_kindOf_30, i_X7_kindOf_31, i_X7_kindOf_33, i_X7_kindOf_36, i_X7_kindOf_37, i_X7_kindOf_40, i_X7_kindOf_0_e, Option.toList_some, Option.toList_none, List.cons_append, List.nil_append, List.append_nil, ↓reduceIte, q_eq, c1, c2, c3]; rfl
        · simp (disch := omega) only [i_X7_kindOf_0, i_X7_kindOf_1, i_X7_kindOf_3, i_X7_kindOf_6, i_X7_kindOf_7, i_X7_kindOf_41, i_X7_kindOf_10, i_X7_kindOf_11, i_X7_kindOf_13, i_X7_kindOf_16, i_X7_kindOf_17, i_X7_kindOf_20, i_X7_kindOf_21, i_X7_kindOf_23, i_X7_kindOf_26, i_X7_kindOf_27, i_X7_kindOf_30, i_X7_kindOf_31, i_X7_kindOf_33, i_X7_kindOf_36, i_X7_kindOf_37, i_X7_kindOf_40, i_X7_kindOf_0_e, Option.toList_some, Option.toList_none, List.cons_append, List.nil_append, List.append_nil, ↓reduceIte, q_eq, c1, c2, c3, c4]
theorem s_partT (h : J 15 = bz true) {x y : Int32} : pm_call X d mX7_part [.ref 139, .int x, .int y] (pm_w I A E J B) Q ↔ Q none (pm_w I A E J B) := by
  simp (disch := omega) only [i_X7_part_0, i_X7_part_1, i_X7_part_4, i_X7_part_7, i_X7_part_8, i_X7_part_11, i_X7_part_12, i_X7_part_15, i_X7_part_16, i_X7_part_17, i_X7_part_18, i_X7_part_21, i_X7_part_22, i_X7_part_25, i_X7_part_26, i_X7_part_27, i_X7_part_28, i_X7_part_29, i_X7_part_32, i_X7_part_33, i_X7_part_34, i_X7_part_37, i_X7_part_0_e, Option.toList_some, Option.toList_none, List.cons_append, List.nil_append, List.append_nil, ↓reduceIte, h, bz_e0, reduceCtorEq]
theorem s_partF (h : J 15 = bz false) {n : Nat} (h16 : J 16 = nI n) (hn : n < 42) {x y : Int32} : pm_call X d mX7_part [.ref 139, .int x, .int y] (pm_w I A E J B) Q ↔ Q none (pm_w I A E (upd J 16 (nI (n + 1))) (up2 (up2 B 145 n x) 146 n y)) := by
  simp (disch := omega) only [i_X7_part_0, i_X7_part_1, i_X7_part_4, i_X7_part_7, i_X7_part_8, i_X7_part_11, i_X7_part_12, i_X7_part_15, i_X7_part_16, i_X7_part_17, i_X7_part_18, i_X7_part_21, i_X7_part_22, i_X7_part_25, i_X7_part_26, i_X7_part_27, i_X7_part_28, i_X7_part_29, i_X7_part_32, i_X7_part_33, i_X7_part_34, i_X7_part_37, i_X7_part_0_e, Option.toList_some, Option.toList_none, List.cons_append, List.nil_append, List.append_nil, ↓reduceIte, h, bz_e0, h16, nI_add]
end PAM
