/-! the reference sheds: branch and bound -/
def RelB (J : Nat → Int32) (T : Tr) (o : Option Nat) : Prop := match o with
  | none => J 12 = bz false
  | some s => J 12 = bz true ∧ J 9 = nI (smS T s) ∧ J 10 = nI (mnS T s) ∧ J 11 = nI s
def BstO (T : Tr) (b m : Nat) (o : Option Nat) : Prop := match o with
  | none => ∀ s, sub s (uB T) (T 10 0) → s < m → ¬ PW T s ≤ b
  | some a => sub a (uB T) (T 10 0) ∧ a < m ∧ PW T a ≤ b ∧ ∀ s, sub s (uB T) (T 10 0) → s < m → PW T s ≤ b → leS T a s
theorem bit_hi {s m j : Nat} : bit (s / 2 ^ m) j = bit s (m + j) := by
  unfold bit
  rw [Nat.div_div_eq_div_mul, ← Nat.pow_add]
theorem low_0 {st m : Nat} (hz : ∀ k, k < m → bit st k = false) : st % 2 ^ m = 0 := bit_ext (fun k => by
  rw [bit_0]
  cases hb : bit (st % 2 ^ m) k with
  | false => rfl
  | true =>
    have hk := bit_t (Nat.mod_lt st (Nat.two_pow_pos m)) hb
    rw [bit_mod hk, hz k hk] at hb
    exact hb.symm)
theorem hi_eq {s st m : Nat} (hz : ∀ k, k < m → bit st k = false) (h1 : st ≤ s) (h2 : s < st + 2 ^ m) {k : Nat} (hk : m ≤ k) : bit s k = bit st k := by
  have h0 := low_0 hz
  have hd := Nat.div_add_mod st (2 ^ m)
  have e : s / 2 ^ m = st / 2 ^ m := Nat.div_eq_of_lt_le (by rw [Nat.mul_comm]; omega) (by rw [Nat.add_mul, Nat.mul_comm]; omega)
  obtain ⟨j, rfl⟩ : ∃ j, k = m + j := ⟨k - m, by omega⟩
  rw [← bit_hi, ← bit_hi, e]
theorem lo_lt {s st m : Nat} (h : ∀ k, m ≤ k → bit s k = bit st k) : s < st + 2 ^ m := by
  have e : s / 2 ^ m = st / 2 ^ m := bit_ext (fun j => by rw [bit_hi, bit_hi]; exact h _ (by omega))
  have d1 := Nat.div_add_mod s (2 ^ m)
  have d2 := Nat.div_add_mod st (2 ^ m)
  have := Nat.mod_lt s (Nat.two_pow_pos m)
  rw [e] at d1
  omega
theorem or_add {st m n : Nat} (hz : ∀ k, k < m → bit st k = false) (hn : n < m) : st ||| 2 ^ n = st + 2 ^ n := by
  have h0 := low_0 hz
  have hd := Nat.div_add_mod st (2 ^ m)
  have := Nat.two_pow_add_eq_or_of_lt (Nat.pow_lt_pow_right (by decide) hn : 2 ^ n < 2 ^ m) (st / 2 ^ m)
  rw [h0, Nat.add_zero] at hd
  rw [hd] at this
  exact this.symm
theorem bit_or {a b k : Nat} : bit (a ||| b) k = (bit a k || bit b k) := by rw [bit_tb, Nat.testBit_or, ← bit_tb, ← bit_tb]
theorem bit_pow {n k : Nat} : bit (2 ^ n) k = decide (n = k) := by rw [bit_tb, Nat.testBit_two_pow]
theorem sumN_pt {f g : Nat → Nat} {m v : Nat} : ∀ n, m < n → g m = f m + v → (∀ k, k < n → k ≠ m → g k = f k) → sumN g n = sumN f n + v
  | 0, h, _, _ => by omega
  | n + 1, h, hm, hq => by
    unfold sumN
    by_cases e : m = n
    · subst e
      rw [sumN_congr (p := g) (q := f) m (fun k hk => hq k (by omega) (by omega)), hm]
      omega
    · rw [sumN_pt n (by omega) hm (fun k hk hne => hq k (by omega) hne), hq n (by omega) (by omega)]
      omega
theorem top_1 {p : Nat → Bool} : ∀ n, bts p n ≠ 0 → ∃ k, k < n ∧ p k = true ∧ ∀ j, k < j → j < n → p j = false
  | 0, h => absurd rfl h
  | n + 1, h => by
    cases hp : p n with
    | true => exact ⟨n, by omega, hp, fun j a b => by omega⟩
    | false =>
      unfold bts at h
      rw [hp] at h
      obtain ⟨k, h1, h2, h3⟩ := top_1 n h
      refine ⟨k, by omega, h2, fun j a b => ?_⟩
      by_cases e : j = n
      · subst e; exact hp
      · exact h3 j a (by omega)
section SHM
variable {X : pm_X} {d : Nat} {G : pm_H} {Q : Option Value → pm_H → Prop} {I A : Nat → Nat → Int32} {E : Nat → Nat → Int64} {J : Nat → Int32} {B : Nat → Nat → Int32} {T T' : Tr} {S : St}
theorem s_canShut_l (hR : RelT (B 140) T) (hT : okT T) : ∀ k, k < T 10 0 → ∀ (c : Bool) (v : Value), pm_wp X (d + 1) mX7_canShut 4 [.ref 139, v, .int (bz c), .int (nI k)] [] (pm_w I A E J B) Q ↔ Q (some (.int (bz (c || canB T k)))) (pm_w I A E J B) := by
  have hw := hT.wf
  have h24 := hw.2.1
  intro k
  induction k using Nat.strongRecOn with
  | ind k ih =>
    intro hk c v
    rw [i_X7_canShut_4]
    rcases Nat.eq_zero_or_pos k with rfl | h0
    · simp (disch := omega) only [i_X7_canShut_0, i_X7_canShut_1, i_X7_canShut_2, i_X7_canShut_3, i_X7_canShut_5, i_X7_canShut_8, i_X7_canShut_9, i_X7_canShut_12, i_X7_canShut_13, i_X7_canShut_14, i_X7_canShut_15, i_X7_canShut_18, i_X7_canShut_19, i_X7_canShut_22, i_X7_canShut_23, i_X7_canShut_24, i_X7_canShut_25, i_X7_canShut_28, i_X7_canShut_29, i_X7_canShut_36, i_X7_canShut_37, i_X7_canShut_38, i_X7_canShut_39, i_X7_canShut_40, i_X7_canShut_41, i_X7_canShut_44, i_X7_canShut_45, i_X7_canShut_32, i_X7_canShut_33, i_X7_canShut_48, i_X7_canShut_49, i_X7_canShut_49b, i_X7_canShut_49c, i_X7_canShut_0_e, Option.toList_some, Option.toList_none, List.cons_append, List.nil_append, List.append_nil, ↓reduceIte, q_pos, Nat.lt_irrefl, canB, ph_0, Bool.or_false]
    · have hp := hw.2.2 k h0 hk
      have s0 := hT.small hk (w := 0) (by omega) (by omega)
      have s2 := hT.small hk (w := 2) (by omega) (by omega)
      rw [canB_s hw h0 hk]
      have ih2 := fun c => ih (T 1 k) hp (by omega) c v
      cases c with
      | true =>
        simp (disch := omega) only [i_X7_canShut_0, i_X7_canShut_1, i_X7_canShut_2, i_X7_canShut_3, i_X7_canShut_5, i_X7_canShut_8, i_X7_canShut_9, i_X7_canShut_12, i_X7_canShut_13, i_X7_canShut_14, i_X7_canShut_15, i_X7_canShut_18, i_X7_canShut_19, i_X7_canShut_22, i_X7_canShut_23, i_X7_canShut_24, i_X7_canShut_25, i_X7_canShut_28, i_X7_canShut_29, i_X7_canShut_36, i_X7_canShut_37, i_X7_canShut_38, i_X7_canShut_39, i_X7_canShut_40, i_X7_canShut_41, i_X7_canShut_44, i_X7_canShut_45, i_X7_canShut_32, i_X7_canShut_33, i_X7_canShut_48, i_X7_canShut_49, i_X7_canShut_49b, i_X7_canShut_49c, i_X7_canShut_0_e, Option.toList_some, Option.toList_none, List.cons_append, List.nil_append, List.append_nil, ↓reduceIte, q_lt, q_eq, q_neg, q_pos, q_e0, nI_add, pk_mul, pk_sub, q_add1, l_of, l_toI, l_lt, l_eq, lN_mul, lN_add, lg_lt, lg_gt, lg_e0, bz_e0, bz_t, bz_f, s_nT hR h24, h0, n1_e0]
        rw [← bz_t, ih2]; simp
      | false =>
        by_cases h3 : T 0 k = 3
        · by_cases h2 : 1 < T 2 k
          · simp (disch := omega) only [i_X7_canShut_0, i_X7_canShut_1, i_X7_canShut_2, i_X7_canShut_3, i_X7_canShut_5, i_X7_canShut_8, i_X7_canShut_9, i_X7_canShut_12, i_X7_canShut_13, i_X7_canShut_14, i_X7_canShut_15, i_X7_canShut_18, i_X7_canShut_19, i_X7_canShut_22, i_X7_canShut_23, i_X7_canShut_24, i_X7_canShut_25, i_X7_canShut_28, i_X7_canShut_29, i_X7_canShut_36, i_X7_canShut_37, i_X7_canShut_38, i_X7_canShut_39, i_X7_canShut_40, i_X7_canShut_41, i_X7_canShut_44, i_X7_canShut_45, i_X7_canShut_32, i_X7_canShut_33, i_X7_canShut_48, i_X7_canShut_49, i_X7_canShut_49b, i_X7_canShut_49c, i_X7_canShut_0_e, Option.toList_some, Option.toList_none, List.cons_append, List.nil_append, List.append_nil, ↓reduceIte, q_lt, q_eq, q_neg, q_pos, q_e0, nI_add, pk_mul, pk_sub, q_add1, l_of, l_toI, l_lt, l_eq, lN_mul, lN_add, lg_lt, lg_gt, lg_e0, bz_e0, bz_t, bz_f, s_nT hR h24, h0, h3, h2, n0_e0]
            rw [← bz_t, ih2]; simp
          · simp (disch := omega) only [i_X7_canShut_0, i_X7_canShut_1, i_X7_canShut_2, i_X7_canShut_3, i_X7_canShut_5, i_X7_canShut_8, i_X7_canShut_9, i_X7_canShut_12, i_X7_canShut_13, i_X7_canShut_14, i_X7_canShut_15, i_X7_canShut_18, i_X7_canShut_19, i_X7_canShut_22, i_X7_canShut_23, i_X7_canShut_24, i_X7_canShut_25, i_X7_canShut_28, i_X7_canShut_29, i_X7_canShut_36, i_X7_canShut_37, i_X7_canShut_38, i_X7_canShut_39, i_X7_canShut_40, i_X7_canShut_41, i_X7_canShut_44, i_X7_canShut_45, i_X7_canShut_32, i_X7_canShut_33, i_X7_canShut_48, i_X7_canShut_49, i_X7_canShut_49b, i_X7_canShut_49c, i_X7_canShut_0_e, Option.toList_some, Option.toList_none, List.cons_append, List.nil_append, List.append_nil, ↓reduceIte, q_lt, q_eq, q_neg, q_pos, q_e0, nI_add, pk_mul, pk_sub, q_add1, l_of, l_toI, l_lt, l_eq, lN_mul, lN_add, lg_lt, lg_gt, lg_e0, bz_e0, bz_t, bz_f, s_nT hR h24, h0, h3, h2, n0_e0]
            rw [← bz_f, ih2]; simp
        · simp (disch := omega) only [i_X7_canShut_0, i_X7_canShut_1, i_X7_canShut_2, i_X7_canShut_3, i_X7_canShut_5, i_X7_canShut_8, i_X7_canShut_9, i_X7_canShut_12, i_X7_canShut_13, i_X7_canShut_14, i_X7_canShut_15, i_X7_canShut_18, i_X7_canShut_19, i_X7_canShut_22, i_X7_canShut_23, i_X7_canShut_24, i_X7_canShut_25, i_X7_canShut_28, i_X7_canShut_29, i_X7_canShut_36, i_X7_canShut_37, i_X7_canShut_38, i_X7_canShut_39, i_X7_canShut_40, i_X7_canShut_41, i_X7_canShut_44, i_X7_canShut_45, i_X7_canShut_32, i_X7_canShut_33, i_X7_canShut_48, i_X7_canShut_49, i_X7_canShut_49b, i_X7_canShut_49c, i_X7_canShut_0_e, Option.toList_some, Option.toList_none, List.cons_append, List.nil_append, List.append_nil, ↓reduceIte, q_lt, q_eq, q_neg, q_pos, q_e0, nI_add, pk_mul, pk_sub, q_add1, l_of, l_toI, l_lt, l_eq, lN_mul, lN_add, lg_lt, lg_gt, lg_e0, bz_e0, bz_t, bz_f, s_nT hR h24, h0, h3, n0_e0]
          rw [← bz_f, ih2]; simp [h3]
theorem s_canShut (hR : RelT (B 140) T) (hT : okT T) {k : Nat} (hk : k < T 10 0) : pm_call X (d + 1) mX7_canShut [.ref 139, .int (nI k)] (pm_w I A E J B) Q ↔ Q (some (.int (bz (canB T k)))) (pm_w I A E J B) := by
  simp only [i_X7_canShut_0, i_X7_canShut_1, i_X7_canShut_2, i_X7_canShut_3, i_X7_canShut_5, i_X7_canShut_8, i_X7_canShut_9, i_X7_canShut_12, i_X7_canShut_13, i_X7_canShut_14, i_X7_canShut_15, i_X7_canShut_18, i_X7_canShut_19, i_X7_canShut_22, i_X7_canShut_23, i_X7_canShut_24, i_X7_canShut_25, i_X7_canShut_28, i_X7_canShut_29, i_X7_canShut_36, i_X7_canShut_37, i_X7_canShut_38, i_X7_canShut_39, i_X7_canShut_40, i_X7_canShut_41, i_X7_canShut_44, i_X7_canShut_45, i_X7_canShut_32, i_X7_canShut_33, i_X7_canShut_48, i_X7_canShut_49, i_X7_canShut_49b, i_X7_canShut_49c, i_X7_canShut_0_e, Option.toList_some, Option.toList_none, List.cons_append, List.nil_append, List.append_nil, ↓reduceIte]
  rw [← bz_f, s_canShut_l hR hT k hk]
  simp
theorem uB_0 (hT : okT T) : uB T 0 = false := by
  unfold uB askB
  rw [hT.2.2.1.1]
  simp
theorem s_left (hR : RelT (B 140) T) (hT : okT T) {l : Nat} (hl : l < T 10 0) : pm_call X (d + 2) mX7_left [.ref 139, .int (nI l)] (pm_w I A E J B) Q ↔ Q (some (.int (nI (bts (uB T) (l + 1))))) (pm_w I A E J B) := by
  have h24 := hT.wf.2.1
  have key : ∀ j, j ≤ l + 1 → ∀ _ : Unit, pm_wp X (d + 2) mX7_left 4 [.ref 139, .int (nI l), .int (nI (bts (uB T) j)), .int (nI j)] [] (pm_w I A E J B) Q ↔ Q (some (.int (nI (bts (uB T) (l + 1))))) (pm_w I A E J B) := by
    refine loop_r (fun _ => ?_) (fun j hj ih _ => ?_)
    · rw [i_X7_left_4]
      simp (disch := omega) only [i_X7_left_0, i_X7_left_1, i_X7_left_2, i_X7_left_3, i_X7_left_5, i_X7_left_6, i_X7_left_9, i_X7_left_10, i_X7_left_11, i_X7_left_12, i_X7_left_13, i_X7_left_16, i_X7_left_17, i_X7_left_20, i_X7_left_21, i_X7_left_22, i_X7_left_24, i_X7_left_27, i_X7_left_28, i_X7_left_31, i_X7_left_32, i_X7_left_33, i_X7_left_36, i_X7_left_39, i_X7_left_40, i_X7_left_41, i_X7_left_42, i_X7_left_46, i_X7_left_47, i_X7_left_48, i_X7_left_51, i_X7_left_45, i_X7_left_54, i_X7_left_55, i_X7_left_0_e, Option.toList_some, Option.toList_none, List.cons_append, List.nil_append, List.append_nil, ↓reduceIte, q_lt, show l < l + 1 by omega]
    · have ih := ih ()
      have hjN : j < T 10 0 := by omega
      have hlj : ¬ l < j := by omega
      have s0 := hT.small hjN (w := 0) (by omega) (by omega)
      have s8 := hT.small hjN (w := 8) (by omega) (by omega)
      rw [← bts_or, uB, askB] at ih
      rw [i_X7_left_4]
      by_cases h5 : T 0 j = 5
      · by_cases h8 : T 8 j = 1
        · cases hc : canB T j with
          | false =>
            simp only [h5, h8, hc, decide_true, Bool.and_false, Bool.false_eq_true, if_false] at ih
            simp (disch := omega) only [i_X7_left_0, i_X7_left_1, i_X7_left_2, i_X7_left_3, i_X7_left_5, i_X7_left_6, i_X7_left_9, i_X7_left_10, i_X7_left_11, i_X7_left_12, i_X7_left_13, i_X7_left_16, i_X7_left_17, i_X7_left_20, i_X7_left_21, i_X7_left_22, i_X7_left_24, i_X7_left_27, i_X7_left_28, i_X7_left_31, i_X7_left_32, i_X7_left_33, i_X7_left_36, i_X7_left_39, i_X7_left_40, i_X7_left_41, i_X7_left_42, i_X7_left_46, i_X7_left_47, i_X7_left_48, i_X7_left_51, i_X7_left_45, i_X7_left_54, i_X7_left_55, i_X7_left_0_e, Option.toList_some, Option.toList_none, List.cons_append, List.nil_append, List.append_nil, ↓reduceIte, q_lt, q_eq, nI_add, bz_e0, nI_or, hlj, s_nT hR h24, h5, h8, s_canShut hR hT hjN, hc, reduceCtorEq]
            exact ih
          | true =>
            simp only [h5, h8, hc, decide_true, Bool.and_true, if_true] at ih
            simp (disch := omega) only [i_X7_left_0, i_X7_left_1, i_X7_left_2, i_X7_left_3, i_X7_left_5, i_X7_left_6, i_X7_left_9, i_X7_left_10, i_X7_left_11, i_X7_left_12, i_X7_left_13, i_X7_left_16, i_X7_left_17, i_X7_left_20, i_X7_left_21, i_X7_left_22, i_X7_left_24, i_X7_left_27, i_X7_left_28, i_X7_left_31, i_X7_left_32, i_X7_left_33, i_X7_left_36, i_X7_left_39, i_X7_left_40, i_X7_left_41, i_X7_left_42, i_X7_left_46, i_X7_left_47, i_X7_left_48, i_X7_left_51, i_X7_left_45, i_X7_left_54, i_X7_left_55, i_X7_left_0_e, Option.toList_some, Option.toList_none, List.cons_append, List.nil_append, List.append_nil, ↓reduceIte, q_lt, q_eq, nI_add, bz_e0, nI_or, q_shl1, hlj, s_nT hR h24, h5, h8, s_canShut hR hT hjN, hc, reduceCtorEq]
            exact ih
        · simp only [h8, decide_false, Bool.and_false, Bool.false_and, Bool.false_eq_true, if_false] at ih
          simp (disch := omega) only [i_X7_left_0, i_X7_left_1, i_X7_left_2, i_X7_left_3, i_X7_left_5, i_X7_left_6, i_X7_left_9, i_X7_left_10, i_X7_left_11, i_X7_left_12, i_X7_left_13, i_X7_left_16, i_X7_left_17, i_X7_left_20, i_X7_left_21, i_X7_left_22, i_X7_left_24, i_X7_left_27, i_X7_left_28, i_X7_left_31, i_X7_left_32, i_X7_left_33, i_X7_left_36, i_X7_left_39, i_X7_left_40, i_X7_left_41, i_X7_left_42, i_X7_left_46, i_X7_left_47, i_X7_left_48, i_X7_left_51, i_X7_left_45, i_X7_left_54, i_X7_left_55, i_X7_left_0_e, Option.toList_some, Option.toList_none, List.cons_append, List.nil_append, List.append_nil, ↓reduceIte, q_lt, q_eq, nI_add, bz_e0, nI_or, hlj, s_nT hR h24, h5, h8]
          exact ih
      · simp only [h5, decide_false, Bool.false_and, Bool.false_eq_true, if_false] at ih
        simp (disch := omega) only [i_X7_left_0, i_X7_left_1, i_X7_left_2, i_X7_left_3, i_X7_left_5, i_X7_left_6, i_X7_left_9, i_X7_left_10, i_X7_left_11, i_X7_left_12, i_X7_left_13, i_X7_left_16, i_X7_left_17, i_X7_left_20, i_X7_left_21, i_X7_left_22, i_X7_left_24, i_X7_left_27, i_X7_left_28, i_X7_left_31, i_X7_left_32, i_X7_left_33, i_X7_left_36, i_X7_left_39, i_X7_left_40, i_X7_left_41, i_X7_left_42, i_X7_left_46, i_X7_left_47, i_X7_left_48, i_X7_left_51, i_X7_left_45, i_X7_left_54, i_X7_left_55, i_X7_left_0_e, Option.toList_some, Option.toList_none, List.cons_append, List.nil_append, List.append_nil, ↓reduceIte, q_lt, q_eq, nI_add, bz_e0, nI_or, hlj, s_nT hR h24, h5]
        exact ih
  have := key 1 (by omega) ()
  rw [show bts (uB T) 1 = 0 from by unfold bts; rw [uB_0 hT]; rfl] at this
  simp only [i_X7_left_0, i_X7_left_1, i_X7_left_2, i_X7_left_3, i_X7_left_5, i_X7_left_6, i_X7_left_9, i_X7_left_10, i_X7_left_11, i_X7_left_12, i_X7_left_13, i_X7_left_16, i_X7_left_17, i_X7_left_20, i_X7_left_21, i_X7_left_22, i_X7_left_24, i_X7_left_27, i_X7_left_28, i_X7_left_31, i_X7_left_32, i_X7_left_33, i_X7_left_36, i_X7_left_39, i_X7_left_40, i_X7_left_41, i_X7_left_42, i_X7_left_46, i_X7_left_47, i_X7_left_48, i_X7_left_51, i_X7_left_45, i_X7_left_54, i_X7_left_55, i_X7_left_0_e, Option.toList_some, Option.toList_none, List.cons_append, List.nil_append, List.append_nil, ↓reduceIte]
  exact this
theorem s_requestAll (hR : RelT (B 140) T) (hT : okT T) {s v : Nat} (hs : s < 2147483648) (h0 : bit s 0 = false) (hv : v ≤ 1) (hQ : ∀ B', RelT (B' 140) (rqT T s v (T 10 0)) → (∀ a, a ≠ 140 → B' a = B a) → Q none (pm_w I A E J B')) : pm_call X (d + 1) mX7_requestAll [.ref 139, .int (nI s), .int (nI v)] (pm_w I A E J B) Q := by
  have h24 := hT.wf.2.1
  have h1 := hT.wf.1
  have key : ∀ m n, n + m = T 10 0 → ∀ B1 : Nat → Nat → Int32, RelT (B1 140) (rqT T s v n) → (∀ a, a ≠ 140 → B1 a = B a) → pm_wp X (d + 1) mX7_requestAll 2 [.ref 139, .int (nI s), .int (nI v), .int (nI n)] [] (pm_w I A E J B1) Q := by
    intro m
    induction m with
    | zero =>
      intro n hn B1 hR1 hF
      have : n = T 10 0 := by omega
      subst this
      have hsz : B1 140 1 = nI (T 10 0) := hR1.2.1
      rw [i_X7_requestAll_2]
      simp (disch := omega) only [i_X7_requestAll_0, i_X7_requestAll_1, i_X7_requestAll_3, i_X7_requestAll_4, i_X7_requestAll_7, i_X7_requestAll_8, i_X7_requestAll_9, i_X7_requestAll_12, i_X7_requestAll_13, i_X7_requestAll_14, i_X7_requestAll_17, i_X7_requestAll_20, i_X7_requestAll_21, i_X7_requestAll_22, i_X7_requestAll_24, i_X7_requestAll_25, i_X7_requestAll_26, i_X7_requestAll_29, i_X7_requestAll_32, i_X7_requestAll_35, i_X7_requestAll_0_e, Option.toList_some, Option.toList_none, List.cons_append, List.nil_append, List.append_nil, ↓reduceIte, hsz, q_lt, Nat.lt_irrefl]
      exact hQ B1 hR1 hF
    | succ m ih =>
      intro n hn B1 hR1 hF
      have hn2 : n < T 10 0 := by omega
      have hsz : B1 140 1 = nI (T 10 0) := hR1.2.1
      rw [i_X7_requestAll_2]
      cases hb : bit s n with
      | false =>
        simp (disch := omega) only [i_X7_requestAll_0, i_X7_requestAll_1, i_X7_requestAll_3, i_X7_requestAll_4, i_X7_requestAll_7, i_X7_requestAll_8, i_X7_requestAll_9, i_X7_requestAll_12, i_X7_requestAll_13, i_X7_requestAll_14, i_X7_requestAll_17, i_X7_requestAll_20, i_X7_requestAll_21, i_X7_requestAll_22, i_X7_requestAll_24, i_X7_requestAll_25, i_X7_requestAll_26, i_X7_requestAll_29, i_X7_requestAll_32, i_X7_requestAll_35, i_X7_requestAll_0_e, Option.toList_some, Option.toList_none, List.cons_append, List.nil_append, List.append_nil, ↓reduceIte, hsz, q_lt, hn2, s_has hs, hb, bz_e0, nI_add]
        rw [rqT_f hb] at hR1
        exact ih (n + 1) (by omega) B1 hR1 hF
      | true =>
        simp (disch := omega) only [i_X7_requestAll_0, i_X7_requestAll_1, i_X7_requestAll_3, i_X7_requestAll_4, i_X7_requestAll_7, i_X7_requestAll_8, i_X7_requestAll_9, i_X7_requestAll_12, i_X7_requestAll_13, i_X7_requestAll_14, i_X7_requestAll_17, i_X7_requestAll_20, i_X7_requestAll_21, i_X7_requestAll_22, i_X7_requestAll_24, i_X7_requestAll_25, i_X7_requestAll_26, i_X7_requestAll_29, i_X7_requestAll_32, i_X7_requestAll_35, i_X7_requestAll_0_e, Option.toList_some, Option.toList_none, List.cons_append, List.nil_append, List.append_nil, ↓reduceIte, hsz, q_lt, hn2, s_has hs, hb, bz_e0, nI_add, reduceCtorEq, s_put, l_of, l_toI]
        refine ih (n + 1) (by omega) _ ?_ (fun a ha => by rw [up2_na _ _ ha]; exact hF a ha)
        rw [← rqT_t hb, up2_row]
        exact hR1.set (w := 8) (by decide) (by decide)
  simp only [i_X7_requestAll_0, i_X7_requestAll_1, i_X7_requestAll_3, i_X7_requestAll_4, i_X7_requestAll_7, i_X7_requestAll_8, i_X7_requestAll_9, i_X7_requestAll_12, i_X7_requestAll_13, i_X7_requestAll_14, i_X7_requestAll_17, i_X7_requestAll_20, i_X7_requestAll_21, i_X7_requestAll_22, i_X7_requestAll_24, i_X7_requestAll_25, i_X7_requestAll_26, i_X7_requestAll_29, i_X7_requestAll_32, i_X7_requestAll_35, i_X7_requestAll_0_e, Option.toList_some, Option.toList_none, List.cons_append, List.nil_append, List.append_nil, ↓reduceIte]
  exact key (T 10 0 - 1) 1 (by omega) B (by rw [← rqT_f h0, rqT_0]; exact hR) (fun _ _ => rfl)
/-- the least priority of a set -/
def lst (T : Tr) (L : Nat) : Nat → Nat
  | 0 => 10
  | n + 1 => if bit L n && decide (T 7 n < lst T L n) then T 7 n else lst T L n
theorem lst_b (T : Tr) (L : Nat) : ∀ n, lst T L n ≤ 10
  | 0 => Nat.le_refl _
  | n + 1 => by
    have := lst_b T L n
    unfold lst
    split
    · rename_i h
      simp only [Bool.and_eq_true, decide_eq_true_eq] at h
      omega
    · omega
theorem lst_le {L : Nat} : ∀ n k, k < n → bit L k = true → lst T L n ≤ T 7 k
  | 0, k, h, _ => by omega
  | n + 1, k, h, hb => by
    unfold lst
    by_cases e : k = n
    · subst e
      rw [hb]
      simp only [Bool.true_and, decide_eq_true_eq]
      split <;> omega
    · have := lst_le n k (by omega) hb
      split
      · rename_i q
        simp only [Bool.and_eq_true, decide_eq_true_eq] at q
        omega
      · exact this
theorem sh_uB {s k : Nat} (hb : bit s k = false) : uB (shT T s) k = uB T k := by
  have e0 : shT T s 0 = T 0 := shT_o (by decide)
  have e2 : shT T s 2 = T 2 := shT_o (by decide)
  have ec : canB (shT T s) k = canB T k := ph_c (shT_o (by decide)) (by rw [e0, e2]) rfl
  unfold uB askB
  rw [e0, ec, shT_8, hb]
  rfl
theorem smS_b (hT : okT T) {s : Nat} : smS T s ≤ 216 := by
  have h := sumN_le (f := fun k => if bit s k then T 7 k else 0) (b := 9) (T 10 0) (fun k hk => by
    have := (hT.2.2.2.2.2.1 k hk).2.2.2.2.1
    split <;> omega)
  have := hT.wf.2.1
  exact Nat.le_trans h (Nat.mul_le_mul_right 9 this)
theorem mnS_b (hT : okT T) {s : Nat} : mnS T s ≤ 24 := Nat.le_trans (cnt_le _ _) hT.wf.2.1
theorem cst_iff (hT : okT T) {a s : Nat} : cst T a < cst T s ↔ smS T a < smS T s ∨ (smS T a = smS T s ∧ mnS T a < mnS T s) := by
  have h1 := mnS_b hT (s := a)
  have h2 := mnS_b hT (s := s)
  rw [cst_eq, cst_eq]
  omega
theorem BstO_new {b m n s0 : Nat} {o : Option Nat} (h : BstO T b m o) (h1 : sub s0 (uB T) (T 10 0)) (h2 : PW T s0 ≤ b) (hm : m ≤ s0) (hn : s0 < n) (hle : ∀ s, sub s (uB T) (T 10 0) → m ≤ s → s < n → leS T s0 s) (hc : ∀ a, o = some a → cst T s0 < cst T a) : BstO T b n (some s0) := by
  refine ⟨h1, hn, h2, fun s g1 g2 g3 => ?_⟩
  rcases Nat.lt_or_ge s m with q | q
  · cases o with
    | none => exact absurd g3 (h s g1 q)
    | some a =>
      have k1 := h.2.2.2 s g1 q g3
      have k2 := hc a rfl
      unfold leS at k1 ⊢
      omega
  · exact hle s g1 q g2
theorem BstO_old {b m n a : Nat} (h : BstO T b m (some a)) (hmn : m ≤ n) (hle : ∀ s, sub s (uB T) (T 10 0) → m ≤ s → s < n → PW T s ≤ b → cst T a ≤ cst T s) : BstO T b n (some a) := by
  have h2 := h.2.1
  refine ⟨h.1, by omega, h.2.2.1, fun s g1 g2 g3 => ?_⟩
  rcases Nat.lt_or_ge s m with q | q
  · exact h.2.2.2 s g1 q g3
  · have := hle s g1 q g2 g3
    unfold leS
    omega
theorem BstO_same {b m n : Nat} {o : Option Nat} (h : BstO T b m o) (hmn : m ≤ n) (hno : ∀ s, sub s (uB T) (T 10 0) → m ≤ s → s < n → ¬ PW T s ≤ b) : BstO T b n o := by
  cases o with
  | none =>
    intro s g1 g2
    rcases Nat.lt_or_ge s m with q | q
    · exact h s g1 q
    · exact hno s g1 q g2
  | some a => exact BstO_old h hmn (fun s g1 g2 g3 g4 => absurd g4 (hno s g1 g2 g3))
end SHM
