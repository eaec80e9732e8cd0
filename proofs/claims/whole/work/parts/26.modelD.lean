theorem ph_mul {T : Tr} (hw : wf T) {f : Nat → Nat} {c : Nat} : ∀ k, k < T 10 0 → ph T (fun k x => x * f k) c k = c * ph T (fun k x => x * f k) 1 k := by
  refine ph_ind hw (by simp [ph_0]) (fun k h0 hN ih => ?_)
  rw [ph_s hw h0 hN, ih, ph_s hw h0 hN, Nat.mul_assoc]
/-- the product of the numbers of the nodes of kind w on a path -/
def fcc (T : Tr) (w k : Nat) : Nat := if T 0 k = w then T 2 k else 1
def prd (T : Tr) (w k : Nat) : Nat := ph T (fun k x => x * fcc T w k) 1 k
theorem mu_eq {T : Tr} (hw : wf T) {k : Nat} (hk : k < T 10 0) : mu T k = T 10 1 * prd T 2 k := ph_mul (f := fcc T 2) hw k hk
theorem dv_eq {T : Tr} {k : Nat} : dv T k = prd T 1 k := rfl
theorem fcc_b {T : Tr} (hT : okT T) {w : Nat} (hw : w = 1 ∨ w = 2) {k : Nat} (h0 : 0 < k) (hk : k < T 10 0) : 1 ≤ fcc T w k ∧ fcc T w k ≤ 9 := by
  have := (hT.2.2.2.2.1 k h0 hk).2.2.2.2.2.2.1
  unfold fcc
  split
  · next h => exact this (by rcases hw with rfl | rfl <;> simp [h])
  · omega
theorem prd_b {T : Tr} (hT : okT T) {w : Nat} (hw : w = 1 ∨ w = 2) : ∀ k, k < T 10 0 → 1 ≤ prd T w k ∧ prd T w k ≤ 9 ^ dep T k := by
  refine ph_ind hT.wf (by simp [prd, dep, ph_0]) (fun k h0 hN ih => ?_)
  have e1 : prd T w k = prd T w (T 1 k) * fcc T w k := ph_s hT.wf h0 hN
  have e2 : dep T k = dep T (T 1 k) + 1 := ph_s hT.wf h0 hN
  have hf := fcc_b hT hw h0 hN
  rw [e1, e2, Nat.pow_succ]
  exact ⟨Nat.mul_le_mul ih.1 hf.1, Nat.mul_le_mul ih.2 hf.2⟩
theorem prd_b6 {T : Tr} (hT : okT T) {w : Nat} (hw : w = 1 ∨ w = 2) {k : Nat} (hk : k < T 10 0) : 1 ≤ prd T w k ∧ prd T w k ≤ 531441 := by
  have h := prd_b hT hw k hk
  exact ⟨h.1, Nat.le_trans h.2 (Nat.le_trans (Nat.pow_le_pow_right (by decide) (hT.dep hk)) (by decide))⟩
theorem mu_b {T : Tr} (hT : okT T) {k : Nat} (hk : k < T 10 0) : 1 ≤ mu T k ∧ mu T k ≤ 531441000000 := by
  have h := prd_b6 hT (Or.inr rfl) hk
  have hb := hT.2.1
  rw [mu_eq hT.wf hk]
  exact ⟨Nat.mul_le_mul hb.1 h.1, Nat.le_trans (Nat.mul_le_mul hb.2 h.2) (by decide)⟩
theorem dv_b {T : Tr} (hT : okT T) {k : Nat} (hk : k < T 10 0) : 1 ≤ dv T k ∧ dv T k ≤ 531441 := prd_b6 hT (Or.inl rfl) hk
theorem gc_b {T : Tr} (hT : okT T) {k : Nat} (hk : k < T 10 0) : 1 ≤ Nat.gcd (mu T k) (dv T k) ∧ Nat.gcd (mu T k) (dv T k) ≤ 531441 := ⟨Nat.gcd_pos_of_pos_left _ (mu_b hT hk).1, Nat.le_trans (Nat.gcd_le_right _ (dv_b hT hk).1) (dv_b hT hk).2⟩
theorem nm_b {T : Tr} (hT : okT T) {k : Nat} (hk : k < T 10 0) : 1 ≤ nm T k ∧ nm T k ≤ 531441000000 := by
  have h := mu_b hT hk
  exact ⟨Nat.div_pos (Nat.gcd_le_left _ h.1) (gc_b hT hk).1, Nat.le_trans (Nat.div_le_self _ _) h.2⟩
theorem dn_b {T : Tr} (hT : okT T) {k : Nat} (hk : k < T 10 0) : 1 ≤ dn T k ∧ dn T k ≤ 531441 := by
  have h := dv_b hT hk
  exact ⟨Nat.div_pos (Nat.gcd_le_right _ h.1) (gc_b hT hk).1, Nat.le_trans (Nat.div_le_self _ _) h.2⟩
section MOD
variable {X : pm_X} {d : Nat} {G : pm_H} {Q : Option Value → pm_H → Prop} {I A : Nat → Nat → Int32} {E : Nat → Nat → Int64} {J : Nat → Int32} {B : Nat → Nat → Int32} {T : Tr}
theorem s_divisor_l {a0 a1 a2 a3 : Value} : ∀ b, b < 9223372036854775808 → ∀ a, a < 9223372036854775808 → ∀ (v8 v9 : Value), pm_wp X d mX7_divisor 6 [a0, a1, a2, a3, .long (lN a), pm_U, .long (lN b), pm_U, v8, v9] [] G Q ↔ Q (some (.long (lN (Nat.gcd a b)))) G := by
  intro b
  induction b using Nat.strongRecOn with
  | ind b ih =>
    intro hb a ha v8 v9
    rw [i_X7_divisor_6]
    rcases Nat.eq_zero_or_pos b with rfl | h0
    · simp (disch := omega) only [i_X7_divisor_0, i_X7_divisor_1, i_X7_divisor_3, i_X7_divisor_4, i_X7_divisor_8, i_X7_divisor_9, i_X7_divisor_10, i_X7_divisor_13, i_X7_divisor_15, i_X7_divisor_17, i_X7_divisor_18, i_X7_divisor_20, i_X7_divisor_22, i_X7_divisor_24, i_X7_divisor_26, i_X7_divisor_28, i_X7_divisor_31, i_X7_divisor_33, i_X7_divisor_0_e, Option.toList_some, Option.toList_none, List.cons_append, List.nil_append, List.append_nil, ↓reduceIte, q_lt, q_eq, q_neg, q_pos, q_e0, nI_add, pk_mul, pk_sub, q_add1, l_of, l_toI, l_lt, l_eq, lN_mul, lN_add, lg_lt, lg_gt, lg_e0, bz_e0, bz_t, bz_f, Nat.gcd_zero_right]
    · have hne : ¬ lN b = 0 := l_ne0 hb h0
      have hb0 : ¬ b = 0 := by omega
      have hm : a % b < b := Nat.mod_lt _ h0
      simp (disch := first | omega | assumption) only [i_X7_divisor_0, i_X7_divisor_1, i_X7_divisor_3, i_X7_divisor_4, i_X7_divisor_8, i_X7_divisor_9, i_X7_divisor_10, i_X7_divisor_13, i_X7_divisor_15, i_X7_divisor_17, i_X7_divisor_18, i_X7_divisor_20, i_X7_divisor_22, i_X7_divisor_24, i_X7_divisor_26, i_X7_divisor_28, i_X7_divisor_31, i_X7_divisor_33, i_X7_divisor_0_e, Option.toList_some, Option.toList_none, List.cons_append, List.nil_append, List.append_nil, ↓reduceIte, q_lt, q_eq, q_neg, q_pos, q_e0, nI_add, pk_mul, pk_sub, q_add1, l_of, l_toI, l_lt, l_eq, lN_mul, lN_add, lg_lt, lg_gt, lg_e0, bz_e0, bz_t, bz_f, hb0, pk_lRem]
      rw [ih (a % b) hm (by omega) b hb, Nat.gcd_comm a b, Nat.gcd_rec b a, Nat.gcd_comm]
theorem s_divisor {a b : Nat} (ha : a < 9223372036854775808) (hb : b < 9223372036854775808) : pm_call X d mX7_divisor [.long (lN a), .long (lN b)] G Q ↔ Q (some (.long (lN (Nat.gcd a b)))) G := by
  simp only [i_X7_divisor_0, i_X7_divisor_1, i_X7_divisor_3, i_X7_divisor_4, i_X7_divisor_8, i_X7_divisor_9, i_X7_divisor_10, i_X7_divisor_13, i_X7_divisor_15, i_X7_divisor_17, i_X7_divisor_18, i_X7_divisor_20, i_X7_divisor_22, i_X7_divisor_24, i_X7_divisor_26, i_X7_divisor_28, i_X7_divisor_31, i_X7_divisor_33, i_X7_divisor_0_e, Option.toList_some, Option.toList_none, List.cons_append, List.nil_append, List.append_nil, ↓reduceIte]
  rw [s_divisor_l b hb a ha]
theorem s_product_l (hR : RelT (B 140) T) (hT : okT T) {w : Nat} (hw2 : w < 6) {v2 : Value} : ∀ k, k < T 10 0 → ∀ (c : Nat) (v : Value), pm_wp X (d + 1) mX7_product 30 [.ref 139, v, v2, .long (lN c), pm_U, .int (nI w), .int (nI k)] [] (pm_w I A E J B) Q ↔ Q (some (.long (lN (c * prd T w k)))) (pm_w I A E J B) := by
  have hw := hT.wf
  have h24 := hw.2.1
  intro k
  induction k using Nat.strongRecOn with
  | ind k ih =>
    intro hk c v
    rw [i_X7_product_30]
    rcases Nat.eq_zero_or_pos k with rfl | h0
    · simp (disch := omega) only [i_X7_product_0, i_X7_product_1, i_X7_product_4, i_X7_product_5, i_X7_product_15, i_X7_product_16, i_X7_product_17, i_X7_product_20, i_X7_product_21, i_X7_product_25, i_X7_product_27, i_X7_product_28, i_X7_product_32, i_X7_product_35, i_X7_product_36, i_X7_product_37, i_X7_product_39, i_X7_product_40, i_X7_product_43, i_X7_product_45, i_X7_product_48, i_X7_product_49, i_X7_product_51, i_X7_product_52, i_X7_product_55, i_X7_product_56, i_X7_product_60, i_X7_product_61, i_X7_product_62, i_X7_product_63, i_X7_product_65, i_X7_product_66, i_X7_product_69, i_X7_product_71, i_X7_product_59, i_X7_product_74, i_X7_product_75, i_X7_product_24, i_X7_product_8, i_X7_product_9, i_X7_product_12, i_X7_product_13, i_X7_product_14, i_X7_product_0_e, Option.toList_some, Option.toList_none, List.cons_append, List.nil_append, List.append_nil, ↓reduceIte, q_lt, q_eq, q_neg, q_pos, q_e0, nI_add, pk_mul, pk_sub, q_add1, l_of, l_toI, l_lt, l_eq, lN_mul, lN_add, lg_lt, lg_gt, lg_e0, bz_e0, bz_t, bz_f, Nat.lt_irrefl, prd, ph_0, Nat.mul_one]
    · have hp := hw.2.2 k h0 hk
      have s0 := hT.small hk (w := 0) (by omega) (by omega)
      have s2 := hT.small hk (w := 2) (by omega) (by omega)
      rw [show prd T w k = prd T w (T 1 k) * fcc T w k from ph_s hw h0 hk, fcc]
      by_cases h : T 0 k = w
      · simp (disch := omega) only [i_X7_product_0, i_X7_product_1, i_X7_product_4, i_X7_product_5, i_X7_product_15, i_X7_product_16, i_X7_product_17, i_X7_product_20, i_X7_product_21, i_X7_product_25, i_X7_product_27, i_X7_product_28, i_X7_product_32, i_X7_product_35, i_X7_product_36, i_X7_product_37, i_X7_product_39, i_X7_product_40, i_X7_product_43, i_X7_product_45, i_X7_product_48, i_X7_product_49, i_X7_product_51, i_X7_product_52, i_X7_product_55, i_X7_product_56, i_X7_product_60, i_X7_product_61, i_X7_product_62, i_X7_product_63, i_X7_product_65, i_X7_product_66, i_X7_product_69, i_X7_product_71, i_X7_product_59, i_X7_product_74, i_X7_product_75, i_X7_product_24, i_X7_product_8, i_X7_product_9, i_X7_product_12, i_X7_product_13, i_X7_product_14, i_X7_product_0_e, Option.toList_some, Option.toList_none, List.cons_append, List.nil_append, List.append_nil, ↓reduceIte, q_lt, q_eq, q_neg, q_pos, q_e0, nI_add, pk_mul, pk_sub, q_add1, l_of, l_toI, l_lt, l_eq, lN_mul, lN_add, lg_lt, lg_gt, lg_e0, bz_e0, bz_t, bz_f, s_nT hR h24, h0, h]
        rw [ih _ hp (by omega), Nat.mul_right_comm, Nat.mul_assoc]
      · simp (disch := omega) only [i_X7_product_0, i_X7_product_1, i_X7_product_4, i_X7_product_5, i_X7_product_15, i_X7_product_16, i_X7_product_17, i_X7_product_20, i_X7_product_21, i_X7_product_25, i_X7_product_27, i_X7_product_28, i_X7_product_32, i_X7_product_35, i_X7_product_36, i_X7_product_37, i_X7_product_39, i_X7_product_40, i_X7_product_43, i_X7_product_45, i_X7_product_48, i_X7_product_49, i_X7_product_51, i_X7_product_52, i_X7_product_55, i_X7_product_56, i_X7_product_60, i_X7_product_61, i_X7_product_62, i_X7_product_63, i_X7_product_65, i_X7_product_66, i_X7_product_69, i_X7_product_71, i_X7_product_59, i_X7_product_74, i_X7_product_75, i_X7_product_24, i_X7_product_8, i_X7_product_9, i_X7_product_12, i_X7_product_13, i_X7_product_14, i_X7_product_0_e, Option.toList_some, Option.toList_none, List.cons_append, List.nil_append, List.append_nil, ↓reduceIte, q_lt, q_eq, q_neg, q_pos, q_e0, nI_add, pk_mul, pk_sub, q_add1, l_of, l_toI, l_lt, l_eq, lN_mul, lN_add, lg_lt, lg_gt, lg_e0, bz_e0, bz_t, bz_f, s_nT hR h24, h0, h]
        rw [ih _ hp (by omega), Nat.mul_one, Nat.mul_one]
theorem s_productF (hR : RelT (B 140) T) (hT : okT T) {k : Nat} (hk : k < T 10 0) : pm_call X (d + 1) mX7_product [.ref 139, .int (nI k), .int (nI 0)] (pm_w I A E J B) Q ↔ Q (some (.long (lN (mu T k)))) (pm_w I A E J B) := by
  have hb := hT.2.1
  simp (disch := omega) only [i_X7_product_0, i_X7_product_1, i_X7_product_4, i_X7_product_5, i_X7_product_15, i_X7_product_16, i_X7_product_17, i_X7_product_20, i_X7_product_21, i_X7_product_25, i_X7_product_27, i_X7_product_28, i_X7_product_32, i_X7_product_35, i_X7_product_36, i_X7_product_37, i_X7_product_39, i_X7_product_40, i_X7_product_43, i_X7_product_45, i_X7_product_48, i_X7_product_49, i_X7_product_51, i_X7_product_52, i_X7_product_55, i_X7_product_56, i_X7_product_60, i_X7_product_61, i_X7_product_62, i_X7_product_63, i_X7_product_65, i_X7_product_66, i_X7_product_69, i_X7_product_71, i_X7_product_59, i_X7_product_74, i_X7_product_75, i_X7_product_24, i_X7_product_8, i_X7_product_9, i_X7_product_12, i_X7_product_13, i_X7_product_14, i_X7_product_0_e, Option.toList_some, Option.toList_none, List.cons_append, List.nil_append, List.append_nil, ↓reduceIte, q_lt, q_eq, q_neg, q_pos, q_e0, nI_add, pk_mul, pk_sub, q_add1, l_of, l_toI, l_lt, l_eq, lN_mul, lN_add, lg_lt, lg_gt, lg_e0, bz_e0, bz_t, bz_f, hR.1]
  rw [s_product_l hR hT (by decide) k hk, mu_eq hT.wf hk]
theorem s_productT (hR : RelT (B 140) T) (hT : okT T) {k : Nat} (hk : k < T 10 0) : pm_call X (d + 1) mX7_product [.ref 139, .int (nI k), .int (nI 1)] (pm_w I A E J B) Q ↔ Q (some (.long (lN (dv T k)))) (pm_w I A E J B) := by
  simp (disch := omega) only [i_X7_product_0, i_X7_product_1, i_X7_product_4, i_X7_product_5, i_X7_product_15, i_X7_product_16, i_X7_product_17, i_X7_product_20, i_X7_product_21, i_X7_product_25, i_X7_product_27, i_X7_product_28, i_X7_product_32, i_X7_product_35, i_X7_product_36, i_X7_product_37, i_X7_product_39, i_X7_product_40, i_X7_product_43, i_X7_product_45, i_X7_product_48, i_X7_product_49, i_X7_product_51, i_X7_product_52, i_X7_product_55, i_X7_product_56, i_X7_product_60, i_X7_product_61, i_X7_product_62, i_X7_product_63, i_X7_product_65, i_X7_product_66, i_X7_product_69, i_X7_product_71, i_X7_product_59, i_X7_product_74, i_X7_product_75, i_X7_product_24, i_X7_product_8, i_X7_product_9, i_X7_product_12, i_X7_product_13, i_X7_product_14, i_X7_product_0_e, Option.toList_some, Option.toList_none, List.cons_append, List.nil_append, List.append_nil, ↓reduceIte, q_lt, q_eq, q_neg, q_pos, q_e0, nI_add, pk_mul, pk_sub, q_add1, l_of, l_toI, l_lt, l_eq, lN_mul, lN_add, lg_lt, lg_gt, lg_e0, bz_e0, bz_t, bz_f, show (1 = 0) = False from by decide]
  rw [s_product_l hR hT (by decide) k hk, Nat.one_mul, dv_eq]
theorem s_above (hR : RelT (B 140) T) (hT : okT T) {k : Nat} (hk : k < T 10 0) : pm_call X (d + 2) mX7_above [.ref 139, .int (nI k)] (pm_w I A E J B) Q ↔ Q (some (.long (lN (nm T k)))) (pm_w I A E J B) := by
  have b1 := mu_b hT hk
  have b2 := dv_b hT hk
  have b3 := gc_b hT hk
  have hne : ¬ lN (Nat.gcd (mu T k) (dv T k)) = 0 := l_ne0 (by omega) b3.1
  simp (disch := first | omega | assumption) only [i_X7_above_0, i_X7_above_1, i_X7_above_2, i_X7_above_3, i_X7_above_6, i_X7_above_7, i_X7_above_8, i_X7_above_9, i_X7_above_12, i_X7_above_13, i_X7_above_14, i_X7_above_15, i_X7_above_18, i_X7_above_21, i_X7_above_22, i_X7_above_0_e, Option.toList_some, Option.toList_none, List.cons_append, List.nil_append, List.append_nil, ↓reduceIte, s_productF hR hT hk, s_productT hR hT hk, s_divisor, pk_lDiv]
  rfl
theorem s_below (hR : RelT (B 140) T) (hT : okT T) {k : Nat} (hk : k < T 10 0) : pm_call X (d + 2) mX7_below [.ref 139, .int (nI k)] (pm_w I A E J B) Q ↔ Q (some (.long (lN (dn T k)))) (pm_w I A E J B) := by
  have b1 := mu_b hT hk
  have b2 := dv_b hT hk
  have b3 := gc_b hT hk
  have hne : ¬ lN (Nat.gcd (mu T k) (dv T k)) = 0 := l_ne0 (by omega) b3.1
  simp (disch := first | omega | assumption) only [i_X7_below_0, i_X7_below_1, i_X7_below_2, i_X7_below_3, i_X7_below_6, i_X7_below_7, i_X7_below_8, i_X7_below_9, i_X7_below_12, i_X7_below_13, i_X7_below_14, i_X7_below_15, i_X7_below_18, i_X7_below_21, i_X7_below_22, i_X7_below_0_e, Option.toList_some, Option.toList_none, List.cons_append, List.nil_append, List.append_nil, ↓reduceIte, s_productF hR hT hk, s_productT hR hT hk, s_divisor, pk_lDiv]
  rfl
def fst (T : Tr) (k : Nat) : Bool := decide (4000000 * dn T k < nm T k)
theorem s_isTooFast (hR : RelT (B 140) T) (hT : okT T) {k : Nat} (hk : k < T 10 0) : pm_call X (d + 3) mX7_isTooFast [.ref 139, .int (nI k)] (pm_w I A E J B) Q ↔ Q (some (.int (bz (fst T k)))) (pm_w I A E J B) := by
  have b1 := nm_b hT hk
  have b2 := dn_b hT hk
  simp (disch := omega) only [i_X7_isTooFast_0, i_X7_isTooFast_1, i_X7_isTooFast_2, i_X7_isTooFast_5, i_X7_isTooFast_8, i_X7_isTooFast_9, i_X7_isTooFast_10, i_X7_isTooFast_13, i_X7_isTooFast_14, i_X7_isTooFast_15, i_X7_isTooFast_18, i_X7_isTooFast_19, i_X7_isTooFast_23, i_X7_isTooFast_23b, i_X7_isTooFast_23c, i_X7_isTooFast_22, i_X7_isTooFast_0_e, Option.toList_some, Option.toList_none, List.cons_append, List.nil_append, List.append_nil, ↓reduceIte, q_lt, q_eq, q_neg, q_pos, q_e0, nI_add, pk_mul, pk_sub, q_add1, l_of, l_toI, l_lt, l_eq, lN_mul, lN_add, lg_lt, lg_gt, lg_e0, bz_e0, bz_t, bz_f, s_above hR hT hk, s_below hR hT hk]
  unfold fst
  by_cases h : 4000000 * dn T k < nm T k
  · simp only [h, decide_true, bz_t, if_true]
  · simp only [h, decide_false, bz_f, if_false]
theorem s_isContent (hR : RelT (B 140) T) (hT : okT T) {k : Nat} (hk : k < T 10 0) : pm_call X (d + 3) mX7_isContent [.ref 139, .int (nI k)] (pm_w I A E J B) Q ↔ Q (some (.int (bz (cnn T k)))) (pm_w I A E J B) := by
  have b1 := nm_b hT hk
  have b2 := dn_b hT hk
  have h24 := hT.wf.2.1
  have s5 := hT.small hk (w := 5) (by omega) (by omega)
  have s6 := hT.small hk (w := 6) (by omega) (by omega)
  have p5 : T 5 k * dn T k ≤ 4000000 * 531441 := Nat.mul_le_mul s5 b2.2
  have p6 : T 6 k * dn T k ≤ 4000000 * 531441 := Nat.mul_le_mul s6 b2.2
  simp (disch := omega) only [i_X7_isContent_0, i_X7_isContent_1, i_X7_isContent_2, i_X7_isContent_3, i_X7_isContent_6, i_X7_isContent_7, i_X7_isContent_8, i_X7_isContent_9, i_X7_isContent_12, i_X7_isContent_13, i_X7_isContent_14, i_X7_isContent_15, i_X7_isContent_18, i_X7_isContent_19, i_X7_isContent_22, i_X7_isContent_23, i_X7_isContent_24, i_X7_isContent_27, i_X7_isContent_28, i_X7_isContent_29, i_X7_isContent_31, i_X7_isContent_34, i_X7_isContent_35, i_X7_isContent_36, i_X7_isContent_37, i_X7_isContent_40, i_X7_isContent_41, i_X7_isContent_42, i_X7_isContent_45, i_X7_isContent_46, i_X7_isContent_50, i_X7_isContent_50b, i_X7_isContent_50c, i_X7_isContent_49, i_X7_isContent_0_e, Option.toList_some, Option.toList_none, List.cons_append, List.nil_append, List.append_nil, ↓reduceIte, q_lt, q_eq, q_neg, q_pos, q_e0, nI_add, pk_mul, pk_sub, q_add1, l_of, l_toI, l_lt, l_eq, lN_mul, lN_add, lg_lt, lg_gt, lg_e0, bz_e0, bz_t, bz_f, s_above hR hT hk, s_below hR hT hk, s_nT hR h24]
  unfold cnn
  by_cases h1 : nm T k < T 5 k * dn T k
  · simp only [h1, show ¬ T 5 k * dn T k ≤ nm T k from Nat.not_le.mpr h1, decide_false, Bool.false_and, bz_f, if_true]
  · by_cases h2 : T 6 k * dn T k < nm T k
    · simp only [h1, h2, show ¬ nm T k ≤ T 6 k * dn T k from Nat.not_le.mpr h2, decide_false, Bool.and_false, bz_f, if_true, if_false]
    · simp only [h1, h2, Nat.not_lt.mp h1, Nat.not_lt.mp h2, decide_true, Bool.and_true, bz_t, if_false]
end MOD
