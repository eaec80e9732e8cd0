/-! the class: its tree in a cell, what its figures say -/
def RelTP (I A : Nat → Nat → Int32) (a : Nat) (T : Tr) : Prop := I a 11 = nI (T 10 1) ∧ I a 12 = nI (T 10 0) ∧ (∀ g, g < 4 → A (a + 11) g = nI (T 11 g)) ∧ ∀ w k, w < 10 → k < T 10 0 → (w ≠ 1 ∨ 0 < k) → A (a + (w + 1)) k = nI (T w k)
theorem RelTP.at {I A : Nat → Nat → Int32} {a : Nat} {T : Tr} (h : RelTP I A a T) (w : Nat) {k : Nat} (hw : w < 10) (hk : k < T 10 0) (hne : w ≠ 1 ∨ 0 < k) : A (a + (w + 1)) k = nI (T w k) := h.2.2.2 w k hw hk hne
def opc (T : Tr) (k : Nat) : Bool := !decide (T 0 k = 3) || opn T k
def RF1 (E : Nat → Nat → Int64) (f n : Nat) (T : Tr) : Prop := ∀ k, k < n → E (f + 1) k = lN (nm T k) ∧ E (f + 2) k = lN (dn T k)
def RF2 (A : Nat → Nat → Int32) (f n : Nat) (T : Tr) : Prop := ∀ k, k < n → A (f + 3) k = nI (dep T k) ∧ A (f + 4) k = nI (arr T k)
def RF3 (A : Nat → Nat → Int32) (f : Nat) (T : Tr) : Prop := ∀ k, k < T 10 0 → A (f + 5) k = nI (chn T k) ∧ A (f + 6) k = nI (bts (lvB T k) (T 10 0)) ∧ A (f + 7) k = nI (bts (rqB T k) (T 10 0))
def RF4 (A : Nat → Nat → Int32) (f n : Nat) (T : Tr) : Prop := ∀ k, k < n → A (f + 8) k = bz (opc T k) ∧ A (f + 9) k = bz (rn T k)
def RelF (A : Nat → Nat → Int32) (E : Nat → Nat → Int64) (f : Nat) (T : Tr) : Prop := RF1 E f (T 10 0) T ∧ RF2 A f (T 10 0) T ∧ RF3 A f T ∧ RF4 A f (T 10 0) T
section PLA
variable {X : pm_X} {d : Nat} {G : pm_H} {Q : Option Value → pm_H → Prop} {I A : Nat → Nat → Int32} {E : Nat → Nat → Int64} {J : Nat → Int32} {B : Nat → Nat → Int32} {T : Tr}
theorem t_gc_l {a0 a1 a2 a3 : Value} : ∀ m, m ≤ 50 → ∀ a b t, a < 9223372036854775808 → b < 2 ^ m → t + 2 * m ≤ 100 → ∀ (v9 v10 : Value), pm_wp X d mX6_greatestCommon 9 [a0, a1, a2, a3, .long (lN a), pm_U, .long (lN b), pm_U, .int (nI t), v9, v10] [] G Q ↔ Q (some (.long (lN (Nat.gcd a b)))) G := by
  have hp : ∀ m, m ≤ 50 → 2 ^ m ≤ 1125899906842624 := fun m hm => Nat.le_trans (Nat.pow_le_pow_right (by decide) hm) (by decide)
  have exit : ∀ a t, a < 9223372036854775808 → t ≤ 100 → ∀ (v9 v10 : Value), pm_wp X d mX6_greatestCommon 9 [a0, a1, a2, a3, .long (lN a), pm_U, .long (lN 0), pm_U, .int (nI t), v9, v10] [] G Q ↔ Q (some (.long (lN a))) G := by
    intro a t ha ht v9 v10
    rw [i_X6_greatestCommon_9]
    by_cases h : t < 100
    · simp (disch := omega) only [i_X6_greatestCommon_0, i_X6_greatestCommon_1, i_X6_greatestCommon_3, i_X6_greatestCommon_4, i_X6_greatestCommon_6, i_X6_greatestCommon_7, i_X6_greatestCommon_11, i_X6_greatestCommon_13, i_X6_greatestCommon_16, i_X6_greatestCommon_18, i_X6_greatestCommon_19, i_X6_greatestCommon_20, i_X6_greatestCommon_23, i_X6_greatestCommon_25, i_X6_greatestCommon_27, i_X6_greatestCommon_28, i_X6_greatestCommon_30, i_X6_greatestCommon_32, i_X6_greatestCommon_34, i_X6_greatestCommon_36, i_X6_greatestCommon_38, i_X6_greatestCommon_41, i_X6_greatestCommon_44, i_X6_greatestCommon_46, i_X6_greatestCommon_0_e, Option.toList_some, Option.toList_none, List.cons_append, List.nil_append, List.append_nil, ↓reduceIte, q_lt, lg_e0, l_eq, h]
    · simp (disch := omega) only [i_X6_greatestCommon_0, i_X6_greatestCommon_1, i_X6_greatestCommon_3, i_X6_greatestCommon_4, i_X6_greatestCommon_6, i_X6_greatestCommon_7, i_X6_greatestCommon_11, i_X6_greatestCommon_13, i_X6_greatestCommon_16, i_X6_greatestCommon_18, i_X6_greatestCommon_19, i_X6_greatestCommon_20, i_X6_greatestCommon_23, i_X6_greatestCommon_25, i_X6_greatestCommon_27, i_X6_greatestCommon_28, i_X6_greatestCommon_30, i_X6_greatestCommon_32, i_X6_greatestCommon_34, i_X6_greatestCommon_36, i_X6_greatestCommon_38, i_X6_greatestCommon_41, i_X6_greatestCommon_44, i_X6_greatestCommon_46, i_X6_greatestCommon_0_e, Option.toList_some, Option.toList_none, List.cons_append, List.nil_append, List.append_nil, ↓reduceIte, q_lt, h]
  have step : ∀ a b t, a < 9223372036854775808 → 0 < b → b < 9223372036854775808 → t < 100 → ∀ (v9 v10 : Value), pm_wp X d mX6_greatestCommon 9 [a0, a1, a2, a3, .long (lN a), pm_U, .long (lN b), pm_U, .int (nI t), v9, v10] [] G Q ↔ pm_wp X d mX6_greatestCommon 9 [a0, a1, a2, a3, .long (lN b), pm_U, .long (lN (a % b)), pm_U, .int (nI (t + 1)), .long (lN (a % b)), pm_U] [] G Q := by
    intro a b t ha h0 hb ht v9 v10
    have hne : ¬ lN b = 0 := l_ne0 hb h0
    have hb0 : ¬ b = 0 := by omega
    rw [i_X6_greatestCommon_9]
    simp (disch := first | omega | assumption) only [i_X6_greatestCommon_0, i_X6_greatestCommon_1, i_X6_greatestCommon_3, i_X6_greatestCommon_4, i_X6_greatestCommon_6, i_X6_greatestCommon_7, i_X6_greatestCommon_11, i_X6_greatestCommon_13, i_X6_greatestCommon_16, i_X6_greatestCommon_18, i_X6_greatestCommon_19, i_X6_greatestCommon_20, i_X6_greatestCommon_23, i_X6_greatestCommon_25, i_X6_greatestCommon_27, i_X6_greatestCommon_28, i_X6_greatestCommon_30, i_X6_greatestCommon_32, i_X6_greatestCommon_34, i_X6_greatestCommon_36, i_X6_greatestCommon_38, i_X6_greatestCommon_41, i_X6_greatestCommon_44, i_X6_greatestCommon_46, i_X6_greatestCommon_0_e, Option.toList_some, Option.toList_none, List.cons_append, List.nil_append, List.append_nil, ↓reduceIte, q_lt, lg_e0, l_eq, ht, hb0, pk_lRem, nI_add]
  have gc : ∀ a b, Nat.gcd a b = Nat.gcd b (a % b) := fun a b => by rw [Nat.gcd_comm a b, Nat.gcd_rec b a, Nat.gcd_comm]
  intro m
  induction m with
  | zero =>
    intro _ a b t ha hb ht v9 v10
    have : b = 0 := by simpa using hb
    subst this
    rw [exit a t ha (by omega), Nat.gcd_zero_right]
  | succ m ih =>
    intro hm a b t ha hb ht v9 v10
    have h1 := hp m (by omega)
    rw [Nat.pow_succ] at hb
    rcases Nat.eq_zero_or_pos b with rfl | h0
    · rw [exit a t ha (by omega), Nat.gcd_zero_right]
    · have hr : a % b < b := Nat.mod_lt _ h0
      rw [step a b t ha h0 (by omega) (by omega), gc a b]
      by_cases hc : a % b < 2 ^ m
      · exact ih (by omega) b (a % b) (t + 1) (by omega) hc (by omega) _ _
      · have hr0 : 0 < a % b := by have := Nat.two_pow_pos m; omega
        rw [step b (a % b) (t + 1) (by omega) hr0 (by omega) (by omega), gc b (a % b)]
        have hb2 : b % (a % b) < 2 ^ m := by
          have : b % (a % b) = b - a % b := by
            rw [Nat.mod_eq_sub_mod (by omega), Nat.mod_eq_of_lt (by omega)]
          omega
        exact ih (by omega) (a % b) (b % (a % b)) (t + 1 + 1) (by omega) hb2 (by omega) _ _
theorem t_gc {a b : Nat} (ha : a < 9223372036854775808) (hb : b < 1125899906842624) : pm_call X d mX6_greatestCommon [.long (lN a), .long (lN b)] G Q ↔ Q (some (.long (lN (Nat.gcd a b)))) G := by
  simp only [i_X6_greatestCommon_0, i_X6_greatestCommon_1, i_X6_greatestCommon_3, i_X6_greatestCommon_4, i_X6_greatestCommon_6, i_X6_greatestCommon_7, i_X6_greatestCommon_11, i_X6_greatestCommon_13, i_X6_greatestCommon_16, i_X6_greatestCommon_18, i_X6_greatestCommon_19, i_X6_greatestCommon_20, i_X6_greatestCommon_23, i_X6_greatestCommon_25, i_X6_greatestCommon_27, i_X6_greatestCommon_28, i_X6_greatestCommon_30, i_X6_greatestCommon_32, i_X6_greatestCommon_34, i_X6_greatestCommon_36, i_X6_greatestCommon_38, i_X6_greatestCommon_41, i_X6_greatestCommon_44, i_X6_greatestCommon_46, i_X6_greatestCommon_0_e, Option.toList_some, Option.toList_none, List.cons_append, List.nil_append, List.append_nil, ↓reduceIte]
  exact t_gc_l 50 (by decide) a b 0 ha (Nat.lt_of_lt_of_le hb (by decide)) (by decide) _ _
theorem t_quo {a b : Nat} (ha : a < 9223372036854775808) (hb : b < 9223372036854775808) (h0 : 0 < b) : pm_call X d mX6_quotient [.long (lN a), .long (lN b)] G Q ↔ Q (some (.long (lN (a / b)))) G := by
  have hne : ¬ lN b = 0 := l_ne0 hb h0
  simp (disch := first | omega | assumption) only [i_X6_quotient_0, i_X6_quotient_1, i_X6_quotient_2, i_X6_quotient_3, i_X6_quotient_6, i_X6_quotient_7, i_X6_quotient_8, i_X6_quotient_9, i_X6_quotient_13, i_X6_quotient_12, i_X6_quotient_0_e, Option.toList_some, Option.toList_none, List.cons_append, List.nil_append, List.append_nil, ↓reduceIte, lg_gt, l_lt, h0, pk_lDiv]
theorem t_isAbove {a b c : Nat} (ha : a < 9223372036854775808) (hb : c * b < 9223372036854775808) : pm_call X d mX6_isAbove [.long (lN a), .long (lN b), .long (lN c)] G Q ↔ Q (some (.int (bz (decide (c * b < a))))) G := by
  by_cases h : c * b < a
  · simp (disch := omega) only [i_X6_isAbove_0, i_X6_isAbove_1, i_X6_isAbove_3, i_X6_isAbove_4, i_X6_isAbove_5, i_X6_isAbove_6, i_X6_isAbove_9, i_X6_isAbove_10, i_X6_isAbove_14, i_X6_isAbove_14b, i_X6_isAbove_14c, i_X6_isAbove_13, i_X6_isAbove_0_e, Option.toList_some, Option.toList_none, List.cons_append, List.nil_append, List.append_nil, ↓reduceIte, lN_mul, lg_gt, l_lt, h, decide_true]
  · simp (disch := omega) only [i_X6_isAbove_0, i_X6_isAbove_1, i_X6_isAbove_3, i_X6_isAbove_4, i_X6_isAbove_5, i_X6_isAbove_6, i_X6_isAbove_9, i_X6_isAbove_10, i_X6_isAbove_14, i_X6_isAbove_14b, i_X6_isAbove_14c, i_X6_isAbove_13, i_X6_isAbove_0_e, Option.toList_some, Option.toList_none, List.cons_append, List.nil_append, List.append_nil, ↓reduceIte, lN_mul, lg_gt, l_lt, h, decide_false]
theorem t_holds {s k : Nat} (hs : s < 2147483648) (hk : k < 32) : pm_call X d mX6_holds [.int (nI s), .int (nI k)] G Q ↔ Q (some (.int (bz (bit s k)))) G := by
  have h2 : s / 2 ^ k % 2 < 2 := Nat.mod_lt _ (by decide)
  have hd : s / 2 ^ k ≤ s := Nat.div_le_self _ _
  unfold bit
  by_cases hb : s / 2 ^ k % 2 = 1
  · simp (disch := omega) only [i_X6_holds_0, i_X6_holds_1, i_X6_holds_2, i_X6_holds_3, i_X6_holds_4, i_X6_holds_5, i_X6_holds_8, i_X6_holds_9, i_X6_holds_13, i_X6_holds_13b, i_X6_holds_13c, i_X6_holds_12, i_X6_holds_0_e, Option.toList_some, Option.toList_none, List.cons_append, List.nil_append, List.append_nil, ↓reduceIte, q_shr, q_and1, q_e0, hb]
    simp
  · simp (disch := omega) only [i_X6_holds_0, i_X6_holds_1, i_X6_holds_2, i_X6_holds_3, i_X6_holds_4, i_X6_holds_5, i_X6_holds_8, i_X6_holds_9, i_X6_holds_13, i_X6_holds_13b, i_X6_holds_13c, i_X6_holds_12, i_X6_holds_0_e, Option.toList_some, Option.toList_none, List.cons_append, List.nil_append, List.append_nil, ↓reduceIte, q_shr, q_and1, q_e0, show s / 2 ^ k % 2 = 0 by omega]
    simp
theorem t_compare {a b : Nat} (ha : a < 9223372036854775808) (hb : b < 9223372036854775808) : pm_call X d mJ13_compare_74951 [.long (lN a), .long (lN b)] G Q ↔ Q (some (.int (if a < b then -1 else if a = b then nI 0 else nI 1))) G := by
  by_cases h : a < b
  · simp (disch := omega) only [i_J13_compare_74951_0, i_J13_compare_74951_1, i_J13_compare_74951_2, i_J13_compare_74951_3, i_J13_compare_74951_6, i_J13_compare_74951_7, i_J13_compare_74951_21, i_J13_compare_74951_10, i_J13_compare_74951_11, i_J13_compare_74951_12, i_J13_compare_74951_13, i_J13_compare_74951_16, i_J13_compare_74951_17, i_J13_compare_74951_20, i_J13_compare_74951_0_e, Option.toList_some, Option.toList_none, List.cons_append, List.nil_append, List.append_nil, ↓reduceIte, lg_lt, l_lt, h]
  · by_cases h2 : a = b
    · simp (disch := omega) only [i_J13_compare_74951_0, i_J13_compare_74951_1, i_J13_compare_74951_2, i_J13_compare_74951_3, i_J13_compare_74951_6, i_J13_compare_74951_7, i_J13_compare_74951_21, i_J13_compare_74951_10, i_J13_compare_74951_11, i_J13_compare_74951_12, i_J13_compare_74951_13, i_J13_compare_74951_16, i_J13_compare_74951_17, i_J13_compare_74951_20, i_J13_compare_74951_0_e, Option.toList_some, Option.toList_none, List.cons_append, List.nil_append, List.append_nil, ↓reduceIte, lg_lt, l_lt, lg_e0, l_eq, h, h2, Nat.lt_irrefl]
    · simp (disch := omega) only [i_J13_compare_74951_0, i_J13_compare_74951_1, i_J13_compare_74951_2, i_J13_compare_74951_3, i_J13_compare_74951_6, i_J13_compare_74951_7, i_J13_compare_74951_21, i_J13_compare_74951_10, i_J13_compare_74951_11, i_J13_compare_74951_12, i_J13_compare_74951_13, i_J13_compare_74951_16, i_J13_compare_74951_17, i_J13_compare_74951_20, i_J13_compare_74951_0_e, Option.toList_some, Option.toList_none, List.cons_append, List.nil_append, List.append_nil, ↓reduceIte, lg_lt, l_lt, lg_e0, l_eq, h, h2]
/-- the fraction of a node out of that of its parent -/
theorem frac_step {m v t y : Nat} (hv : 0 < v) (hm : 0 < m) (ht : 0 < t) (hy : 0 < y) (h1 : t = 1 ∨ y = 1) : let g := Nat.gcd m v
    (m / g) / Nat.gcd (m / g) y * (t / Nat.gcd t (v / g)) = (m * t) / Nat.gcd (m * t) (v * y) ∧ (v / g) / Nat.gcd t (v / g) * (y / Nat.gcd (m / g) y) = (v * y) / Nat.gcd (m * t) (v * y) := by
  intro g
  have hg : 0 < g := Nat.gcd_pos_of_pos_left _ hm
  obtain ⟨a, ha⟩ : g ∣ m := Nat.gcd_dvd_left m v
  obtain ⟨b, hb⟩ : g ∣ v := Nat.gcd_dvd_right m v
  have hcop : Nat.Coprime (m / g) (v / g) := Nat.coprime_div_gcd_div_gcd hg
  have ea : m / g = a := by rw [ha]; exact Nat.mul_div_cancel_left a hg
  have eb : v / g = b := by rw [hb]; exact Nat.mul_div_cancel_left b hg
  rw [ea, eb] at hcop
  rw [ea, eb]
  have emt : m * t = g * (a * t) := by rw [ha, Nat.mul_assoc]
  have evy : v * y = g * (b * y) := by rw [hb, Nat.mul_assoc]
  rw [emt, evy, Nat.gcd_mul_left, Nat.mul_div_mul_left _ _ hg, Nat.mul_div_mul_left _ _ hg]
  rcases h1 with rfl | rfl
  · rw [Nat.gcd_one_left, Nat.div_one, Nat.mul_one, Nat.mul_one, Nat.div_one, Nat.Coprime.gcd_mul_left_cancel_right y hcop.symm]
    exact ⟨rfl, (Nat.mul_div_assoc b (Nat.gcd_dvd_right a y)).symm⟩
  · rw [Nat.gcd_one_right, Nat.div_one, Nat.mul_one, Nat.div_one, Nat.mul_one, Nat.Coprime.gcd_mul_left_cancel t hcop]
    exact ⟨(Nat.mul_div_assoc a (Nat.gcd_dvd_left t b)).symm, rfl⟩
theorem nm_0 (T : Tr) : nm T 0 = T 10 1 ∧ dn T 0 = 1 := by
  have e1 : mu T 0 = T 10 1 := rfl
  have e2 : dv T 0 = 1 := rfl
  unfold nm dn
  rw [e1, e2, Nat.gcd_one_right]
  simp
theorem nm_s {T : Tr} (hT : okT T) {k : Nat} (h0 : 0 < k) (hk : k < T 10 0) : nm T (T 1 k) / Nat.gcd (nm T (T 1 k)) (fcc T 1 k) * (fcc T 2 k / Nat.gcd (fcc T 2 k) (dn T (T 1 k))) = nm T k ∧ dn T (T 1 k) / Nat.gcd (fcc T 2 k) (dn T (T 1 k)) * (fcc T 1 k / Nat.gcd (nm T (T 1 k)) (fcc T 1 k)) = dn T k := by
  have hp := hT.wf.2.2 k h0 hk
  have e1 : mu T k = mu T (T 1 k) * fcc T 2 k := ph_s hT.wf h0 hk
  have e2 : dv T k = dv T (T 1 k) * fcc T 1 k := ph_s hT.wf h0 hk
  have b1 := mu_b hT (k := T 1 k) (by omega)
  have b2 := dv_b hT (k := T 1 k) (by omega)
  have f1 := fcc_b hT (Or.inl rfl) h0 hk
  have f2 := fcc_b hT (Or.inr rfl) h0 hk
  have h1 : fcc T 2 k = 1 ∨ fcc T 1 k = 1 := by
    unfold fcc
    by_cases h : T 0 k = 2
    · right; rw [if_neg (by omega)]
    · left; rw [if_neg h]
  have := frac_step (m := mu T (T 1 k)) (v := dv T (T 1 k)) (t := fcc T 2 k) (y := fcc T 1 k) (by omega) (by omega) (by omega) (by omega) h1
  rw [← e1, ← e2] at this
  exact this
end PLA
