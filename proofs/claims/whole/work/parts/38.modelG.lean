/-! the reference's whole state, and what writes it -/
def cpR (B : Nat → Nat → Int32) (dst src n : Nat) : Nat → Nat → Int32 := fun a k => if a = dst ∧ k < n then B src k else B a k
theorem cpR_s {B : Nat → Nat → Int32} {dst src n : Nat} : up2 (cpR B dst src n) dst n (B src n) = cpR B dst src (n + 1) := by
  funext a k
  unfold up2 cpR
  by_cases ha : a = dst
  · subst ha
    by_cases hk : k = n
    · subst hk; simp
    · by_cases hl : k < n
      · simp [hk, hl, show k < n + 1 by omega]
      · simp [hk, hl, show ¬ k < n + 1 by omega]
  · simp [ha]
theorem cpR_0 {B : Nat → Nat → Int32} {dst src : Nat} : cpR B dst src 0 = B := by funext a k; simp [cpR]
theorem cpR_at {B : Nat → Nat → Int32} {dst src n k : Nat} (h : k < n) : cpR B dst src n dst k = B src k := by simp [cpR, h]
theorem cpR_ne {B : Nat → Nat → Int32} {dst src n a : Nat} (h : a ≠ dst) : cpR B dst src n a = B a := by funext k; simp [cpR, h]
def shR (B : Nat → Nat → Int32) (n : Nat) : Nat → Nat → Int32 := fun a k => if a = 141 ∧ k < n then B 141 (k + 246) else B a k
theorem shR_s {B : Nat → Nat → Int32} {n : Nat} : up2 (shR B n) 141 n (B 141 (n + 246)) = shR B (n + 1) := by
  funext a k
  unfold up2 shR
  by_cases ha : a = 141
  · subst ha
    by_cases hk : k = n
    · subst hk; simp
    · by_cases hl : k < n
      · simp [hk, hl, show k < n + 1 by omega]
      · simp [hk, hl, show ¬ k < n + 1 by omega]
  · simp [ha]
def ppR (B : Nat → Nat → Int32) (m n : Nat) : Nat → Nat → Int32 := fun a k => if a = 141 ∧ 246 * m ≤ k ∧ k < 246 * m + n then B 143 (k - 246 * m) else B a k
theorem ppR_s {B : Nat → Nat → Int32} {m n : Nat} : up2 (ppR B m n) 141 (246 * m + n) (B 143 n) = ppR B m (n + 1) := by
  funext a k
  unfold up2 ppR
  by_cases ha : a = 141
  · subst ha
    by_cases hk : k = 246 * m + n
    · subst hk; simp
    · by_cases hl : 246 * m ≤ k ∧ k < 246 * m + n
      · simp [hk, hl, show k < 246 * m + (n + 1) by omega]
      · have : ¬ (246 * m ≤ k ∧ k < 246 * m + (n + 1)) := by omega
        simp only [hk, and_false, if_false, true_and, hl, this]
  · simp [ha]
theorem RelT.congr {f g : Nat → Int32} {T : Tr} (h24 : T 10 0 ≤ 24) (h : ∀ k, k < 246 → f k = g k) (hg : RelT g T) : RelT f T := ⟨by rw [h 0 (by decide)]; exact hg.1, by rw [h 1 (by decide)]; exact hg.2.1, fun q hq => by rw [h _ (by omega)]; exact hg.2.2.1 q hq, by rw [h 7 (by decide)]; exact hg.2.2.2.1, fun k w hk hw hne => by rw [h _ (by omega)]; exact hg.2.2.2.2 k w hk hw hne⟩
def RelHM (J : Nat → Int32) (B : Nat → Nat → Int32) (hs : List Tr) : Prop := hs.length ≤ 6 ∧ J 2 = nI hs.length ∧ ∀ i t, hs[i]? = some t → t 10 0 ≤ 24 ∧ RelT (fun k => B 141 (246 * i + k)) t
def RelSM (J : Nat → Int32) (B : Nat → Nat → Int32) (sn : Option Tr) : Prop := match sn with
  | none => J 4 = bz false
  | some t => J 4 = bz true ∧ t 10 0 ≤ 24 ∧ RelT (B 142) t
def RelYM (J : Nat → Int32) (B : Nat → Nat → Int32) (tp : List Nat) : Prop := J 7 = nI tp.length ∧ tp.length ≤ 40 ∧ ∀ i b, tp[i]? = some b → b ≤ 127 ∧ B 144 i = nI b
def RelOM (J : Nat → Int32) (B : Nat → Nat → Int32) (hs : List Tr) (sn : Option Tr) (tp : List Nat) (rs : Int32) : Prop := RelHM J B hs ∧ RelSM J B sn ∧ RelYM J B tp ∧ J 8 = rs
theorem RelOM.fr {J J' : Nat → Int32} {B B' : Nat → Nat → Int32} {hs : List Tr} {sn : Option Tr} {tp : List Nat} {rs : Int32} (h : RelOM J B hs sn tp rs) (hJ : J' 2 = J 2 ∧ J' 4 = J 4 ∧ J' 7 = J 7 ∧ J' 8 = J 8) (hB : B' 141 = B 141 ∧ B' 142 = B 142 ∧ B' 144 = B 144) : RelOM J' B' hs sn tp rs := by
  refine ⟨⟨h.1.1, by rw [hJ.1]; exact h.1.2.1, fun i t hi => by rw [hB.1]; exact h.1.2.2 i t hi⟩, ?_, ⟨by rw [hJ.2.2.1]; exact h.2.2.1.1, h.2.2.1.2.1, fun i b hi => by rw [hB.2.2]; exact h.2.2.1.2.2 i b hi⟩, by rw [hJ.2.2.2]; exact h.2.2.2⟩
  have := h.2.1
  cases sn with
  | none => show J' 4 = _; rw [hJ.2.1]; exact this
  | some t => exact ⟨by rw [hJ.2.1]; exact this.1, this.2.1, by rw [hB.2.1]; exact this.2.2⟩
def RelM (J : Nat → Int32) (B : Nat → Nat → Int32) (S : St) : Prop := RelT (B 140) S.1 ∧ RelOM J B S.2.1 S.2.2.1 S.2.2.2.1 S.2.2.2.2
section MOG
variable {X : pm_X} {d : Nat} {G : pm_H} {Q : Option Value → pm_H → Prop} {I A : Nat → Nat → Int32} {E : Nat → Nat → Int64} {J : Nat → Int32} {B : Nat → Nat → Int32} {T T0 : Tr} {hs : List Tr} {sn : Option Tr} {tp : List Nat} {rs : Int32}
theorem s_keeps : pm_call X d mX7_keeps [.ref 139] (pm_w I A E J B) Q ↔ Q none (pm_w I A E J (cpR B 143 140 246)) := by
  have key : ∀ j, j ≤ 246 → ∀ _ : Unit, pm_wp X d mX7_keeps 2 [.ref 139, .int (nI j)] [] (pm_w I A E J (cpR B 143 140 j)) Q ↔ Q none (pm_w I A E J (cpR B 143 140 246)) := by
    refine loop_r (fun _ => ?_) (fun j hj ih _ => ?_)
    · rw [i_X7_keeps_2]
      simp (disch := omega) only [i_X7_keeps_0, i_X7_keeps_1, i_X7_keeps_3, i_X7_keeps_6, i_X7_keeps_9, i_X7_keeps_10, i_X7_keeps_13, i_X7_keeps_14, i_X7_keeps_15, i_X7_keeps_18, i_X7_keeps_19, i_X7_keeps_20, i_X7_keeps_21, i_X7_keeps_24, i_X7_keeps_27, i_X7_keeps_0_e, Option.toList_some, Option.toList_none, List.cons_append, List.nil_append, List.append_nil, ↓reduceIte, q_lt, Nat.lt_irrefl]
    · rw [i_X7_keeps_2]
      have e : cpR B 143 140 j 140 j = B 140 j := by rw [cpR_ne (by decide)]
      simp (disch := omega) only [i_X7_keeps_0, i_X7_keeps_1, i_X7_keeps_3, i_X7_keeps_6, i_X7_keeps_9, i_X7_keeps_10, i_X7_keeps_13, i_X7_keeps_14, i_X7_keeps_15, i_X7_keeps_18, i_X7_keeps_19, i_X7_keeps_20, i_X7_keeps_21, i_X7_keeps_24, i_X7_keeps_27, i_X7_keeps_0_e, Option.toList_some, Option.toList_none, List.cons_append, List.nil_append, List.append_nil, ↓reduceIte, q_lt, hj, nI_add, e, cpR_s]
      exact ih ()
  simp only [i_X7_keeps_0, i_X7_keeps_1, i_X7_keeps_3, i_X7_keeps_6, i_X7_keeps_9, i_X7_keeps_10, i_X7_keeps_13, i_X7_keeps_14, i_X7_keeps_15, i_X7_keeps_18, i_X7_keeps_19, i_X7_keeps_20, i_X7_keeps_21, i_X7_keeps_24, i_X7_keeps_27, i_X7_keeps_0_e, Option.toList_some, Option.toList_none, List.cons_append, List.nil_append, List.append_nil, ↓reduceIte]
  have := key 0 (by decide) ()
  rw [cpR_0] at this
  exact this
theorem s_goesBack : pm_call X d mX7_goesBack [.ref 139] (pm_w I A E J B) Q ↔ Q none (pm_w I A E J (cpR B 140 143 246)) := by
  have key : ∀ j, j ≤ 246 → ∀ _ : Unit, pm_wp X d mX7_goesBack 2 [.ref 139, .int (nI j)] [] (pm_w I A E J (cpR B 140 143 j)) Q ↔ Q none (pm_w I A E J (cpR B 140 143 246)) := by
    refine loop_r (fun _ => ?_) (fun j hj ih _ => ?_)
    · rw [i_X7_goesBack_2]
      simp (disch := omega) only [i_X7_goesBack_0, i_X7_goesBack_1, i_X7_goesBack_3, i_X7_goesBack_6, i_X7_goesBack_9, i_X7_goesBack_10, i_X7_goesBack_13, i_X7_goesBack_14, i_X7_goesBack_15, i_X7_goesBack_18, i_X7_goesBack_19, i_X7_goesBack_20, i_X7_goesBack_21, i_X7_goesBack_24, i_X7_goesBack_27, i_X7_goesBack_0_e, Option.toList_some, Option.toList_none, List.cons_append, List.nil_append, List.append_nil, ↓reduceIte, q_lt, Nat.lt_irrefl]
    · rw [i_X7_goesBack_2]
      have e : cpR B 140 143 j 143 j = B 143 j := by rw [cpR_ne (by decide)]
      simp (disch := omega) only [i_X7_goesBack_0, i_X7_goesBack_1, i_X7_goesBack_3, i_X7_goesBack_6, i_X7_goesBack_9, i_X7_goesBack_10, i_X7_goesBack_13, i_X7_goesBack_14, i_X7_goesBack_15, i_X7_goesBack_18, i_X7_goesBack_19, i_X7_goesBack_20, i_X7_goesBack_21, i_X7_goesBack_24, i_X7_goesBack_27, i_X7_goesBack_0_e, Option.toList_some, Option.toList_none, List.cons_append, List.nil_append, List.append_nil, ↓reduceIte, q_lt, hj, nI_add, e, cpR_s]
      exact ih ()
  simp only [i_X7_goesBack_0, i_X7_goesBack_1, i_X7_goesBack_3, i_X7_goesBack_6, i_X7_goesBack_9, i_X7_goesBack_10, i_X7_goesBack_13, i_X7_goesBack_14, i_X7_goesBack_15, i_X7_goesBack_18, i_X7_goesBack_19, i_X7_goesBack_20, i_X7_goesBack_21, i_X7_goesBack_24, i_X7_goesBack_27, i_X7_goesBack_0_e, Option.toList_some, Option.toList_none, List.cons_append, List.nil_append, List.append_nil, ↓reduceIte]
  have := key 0 (by decide) ()
  rw [cpR_0] at this
  exact this
theorem s_remember_2 {a : Value} {m : Nat} (hm : m < 6) (hJ : J 2 = nI m) : pm_wp X d mX7_remember 55 [.ref 139, a] [] (pm_w I A E J B) Q ↔ Q none (pm_w I A E (upd J 2 (nI (m + 1))) (ppR B m 246)) := by
  have key : ∀ j, j ≤ 246 → ∀ _ : Unit, pm_wp X d mX7_remember 57 [.ref 139, .int (nI j)] [] (pm_w I A E J (ppR B m j)) Q ↔ Q none (pm_w I A E (upd J 2 (nI (m + 1))) (ppR B m 246)) := by
    refine loop_r (fun _ => ?_) (fun j hj ih _ => ?_)
    · rw [i_X7_remember_57]
      simp (disch := omega) only [i_X7_remember_0, i_X7_remember_1, i_X7_remember_4, i_X7_remember_6, i_X7_remember_9, i_X7_remember_10, i_X7_remember_11, i_X7_remember_14, i_X7_remember_15, i_X7_remember_16, i_X7_remember_19, i_X7_remember_20, i_X7_remember_21, i_X7_remember_22, i_X7_remember_25, i_X7_remember_26, i_X7_remember_29, i_X7_remember_30, i_X7_remember_33, i_X7_remember_34, i_X7_remember_37, i_X7_remember_38, i_X7_remember_39, i_X7_remember_42, i_X7_remember_43, i_X7_remember_46, i_X7_remember_47, i_X7_remember_48, i_X7_remember_49, i_X7_remember_52, i_X7_remember_55, i_X7_remember_56, i_X7_remember_58, i_X7_remember_61, i_X7_remember_64, i_X7_remember_65, i_X7_remember_68, i_X7_remember_71, i_X7_remember_72, i_X7_remember_75, i_X7_remember_76, i_X7_remember_77, i_X7_remember_78, i_X7_remember_79, i_X7_remember_82, i_X7_remember_83, i_X7_remember_84, i_X7_remember_85, i_X7_remember_88, i_X7_remember_91, i_X7_remember_92, i_X7_remember_93, i_X7_remember_96, i_X7_remember_97, i_X7_remember_98, i_X7_remember_101, i_X7_remember_0_e, Option.toList_some, Option.toList_none, List.cons_append, List.nil_append, List.append_nil, ↓reduceIte, q_lt, Nat.lt_irrefl, hJ, nI_add]
    · rw [i_X7_remember_57]
      have e : ppR B m j 143 j = B 143 j := by simp [ppR]
      simp (disch := omega) only [i_X7_remember_0, i_X7_remember_1, i_X7_remember_4, i_X7_remember_6, i_X7_remember_9, i_X7_remember_10, i_X7_remember_11, i_X7_remember_14, i_X7_remember_15, i_X7_remember_16, i_X7_remember_19, i_X7_remember_20, i_X7_remember_21, i_X7_remember_22, i_X7_remember_25, i_X7_remember_26, i_X7_remember_29, i_X7_remember_30, i_X7_remember_33, i_X7_remember_34, i_X7_remember_37, i_X7_remember_38, i_X7_remember_39, i_X7_remember_42, i_X7_remember_43, i_X7_remember_46, i_X7_remember_47, i_X7_remember_48, i_X7_remember_49, i_X7_remember_52, i_X7_remember_55, i_X7_remember_56, i_X7_remember_58, i_X7_remember_61, i_X7_remember_64, i_X7_remember_65, i_X7_remember_68, i_X7_remember_71, i_X7_remember_72, i_X7_remember_75, i_X7_remember_76, i_X7_remember_77, i_X7_remember_78, i_X7_remember_79, i_X7_remember_82, i_X7_remember_83, i_X7_remember_84, i_X7_remember_85, i_X7_remember_88, i_X7_remember_91, i_X7_remember_92, i_X7_remember_93, i_X7_remember_96, i_X7_remember_97, i_X7_remember_98, i_X7_remember_101, i_X7_remember_0_e, Option.toList_some, Option.toList_none, List.cons_append, List.nil_append, List.append_nil, ↓reduceIte, q_lt, hj, nI_add, pk_mul, hJ, e, ppR_s]
      exact ih ()
  simp only [i_X7_remember_55, i_X7_remember_56]
  have := key 0 (by decide) ()
  rw [show ppR B m 0 = B from by funext a k; unfold ppR; rw [if_neg (by omega)]] at this
  exact this
theorem s_remember (hH : RelHM J B hs) (h0 : RelT (B 143) T0) (h24 : T0 10 0 ≤ 24) (hQ : ∀ J' B', RelHM J' B' (pushH hs T0) → (∀ k, k ≠ 2 → J' k = J k) → (∀ a, a ≠ 141 → B' a = B a) → Q none (pm_w I A E J' B')) : pm_call X d mX7_remember [.ref 139] (pm_w I A E J B) Q := by
  obtain ⟨hl, hJ, hr⟩ := hH
  by_cases h6 : hs.length = 6
  · rw [h6] at hJ
    have hJ5 : upd J 2 (nI 5) 2 = nI 5 := by simp [upd]
    have key : ∀ j, j ≤ 1230 → ∀ _ : Unit, pm_wp X d mX7_remember 21 [.ref 139, .int (nI j)] [] (pm_w I A E (upd J 2 (nI 5)) (shR B j)) Q ↔ pm_wp X d mX7_remember 55 [.ref 139, .int (nI 1230)] [] (pm_w I A E (upd J 2 (nI 5)) (shR B 1230)) Q := by
      refine loop_r (fun _ => ?_) (fun j hj ih _ => ?_)
      · rw [i_X7_remember_21]
        simp (disch := omega) only [i_X7_remember_0, i_X7_remember_1, i_X7_remember_4, i_X7_remember_6, i_X7_remember_9, i_X7_remember_10, i_X7_remember_11, i_X7_remember_14, i_X7_remember_15, i_X7_remember_16, i_X7_remember_19, i_X7_remember_20, i_X7_remember_22, i_X7_remember_25, i_X7_remember_26, i_X7_remember_29, i_X7_remember_30, i_X7_remember_33, i_X7_remember_34, i_X7_remember_37, i_X7_remember_38, i_X7_remember_39, i_X7_remember_42, i_X7_remember_43, i_X7_remember_46, i_X7_remember_47, i_X7_remember_48, i_X7_remember_49, i_X7_remember_52, i_X7_remember_56, i_X7_remember_58, i_X7_remember_61, i_X7_remember_64, i_X7_remember_65, i_X7_remember_68, i_X7_remember_71, i_X7_remember_72, i_X7_remember_75, i_X7_remember_76, i_X7_remember_77, i_X7_remember_78, i_X7_remember_79, i_X7_remember_82, i_X7_remember_83, i_X7_remember_84, i_X7_remember_85, i_X7_remember_88, i_X7_remember_91, i_X7_remember_92, i_X7_remember_93, i_X7_remember_96, i_X7_remember_97, i_X7_remember_98, i_X7_remember_101, i_X7_remember_0_e, Option.toList_some, Option.toList_none, List.cons_append, List.nil_append, List.append_nil, ↓reduceIte, q_lt, hJ5, pk_mul, show (1230 < 246 * 5) = False from by decide]
      · rw [i_X7_remember_21]
        have e : shR B j 141 (j + 246) = B 141 (j + 246) := by unfold shR; rw [if_neg (by omega)]
        have hj2 : j < 246 * 5 := by omega
        simp (disch := omega) only [i_X7_remember_0, i_X7_remember_1, i_X7_remember_4, i_X7_remember_6, i_X7_remember_9, i_X7_remember_10, i_X7_remember_11, i_X7_remember_14, i_X7_remember_15, i_X7_remember_16, i_X7_remember_19, i_X7_remember_20, i_X7_remember_22, i_X7_remember_25, i_X7_remember_26, i_X7_remember_29, i_X7_remember_30, i_X7_remember_33, i_X7_remember_34, i_X7_remember_37, i_X7_remember_38, i_X7_remember_39, i_X7_remember_42, i_X7_remember_43, i_X7_remember_46, i_X7_remember_47, i_X7_remember_48, i_X7_remember_49, i_X7_remember_52, i_X7_remember_56, i_X7_remember_58, i_X7_remember_61, i_X7_remember_64, i_X7_remember_65, i_X7_remember_68, i_X7_remember_71, i_X7_remember_72, i_X7_remember_75, i_X7_remember_76, i_X7_remember_77, i_X7_remember_78, i_X7_remember_79, i_X7_remember_82, i_X7_remember_83, i_X7_remember_84, i_X7_remember_85, i_X7_remember_88, i_X7_remember_91, i_X7_remember_92, i_X7_remember_93, i_X7_remember_96, i_X7_remember_97, i_X7_remember_98, i_X7_remember_101, i_X7_remember_0_e, Option.toList_some, Option.toList_none, List.cons_append, List.nil_append, List.append_nil, ↓reduceIte, q_lt, hJ5, pk_mul, hj2, nI_add, e, shR_s]
        exact ih ()
    simp (disch := omega) only [i_X7_remember_0, i_X7_remember_1, i_X7_remember_4, i_X7_remember_6, i_X7_remember_9, i_X7_remember_10, i_X7_remember_11, i_X7_remember_14, i_X7_remember_15, i_X7_remember_16, i_X7_remember_19, i_X7_remember_20, i_X7_remember_22, i_X7_remember_25, i_X7_remember_26, i_X7_remember_29, i_X7_remember_30, i_X7_remember_33, i_X7_remember_34, i_X7_remember_37, i_X7_remember_38, i_X7_remember_39, i_X7_remember_42, i_X7_remember_43, i_X7_remember_46, i_X7_remember_47, i_X7_remember_48, i_X7_remember_49, i_X7_remember_52, i_X7_remember_56, i_X7_remember_58, i_X7_remember_61, i_X7_remember_64, i_X7_remember_65, i_X7_remember_68, i_X7_remember_71, i_X7_remember_72, i_X7_remember_75, i_X7_remember_76, i_X7_remember_77, i_X7_remember_78, i_X7_remember_79, i_X7_remember_82, i_X7_remember_83, i_X7_remember_84, i_X7_remember_85, i_X7_remember_88, i_X7_remember_91, i_X7_remember_92, i_X7_remember_93, i_X7_remember_96, i_X7_remember_97, i_X7_remember_98, i_X7_remember_101, i_X7_remember_0_e, Option.toList_some, Option.toList_none, List.cons_append, List.nil_append, List.append_nil, ↓reduceIte, hJ, q_eq, pk_sub]
    have := key 0 (by decide) ()
    rw [show shR B 0 = B from by funext a k; simp [shR]] at this
    rw [show 6 - 1 = 5 from rfl, this, s_remember_2 (by decide) hJ5]
    have hp : pushH hs T0 = hs.tail ++ [T0] := by unfold pushH; rw [if_pos h6]
    refine hQ _ _ ⟨by rw [hp]; simp [h6], by rw [hp]; simp [upd, h6], fun i t hi => ?_⟩ (fun k hk => by simp [upd, hk]) (fun a ha => by funext k; simp [ppR, shR, ha])
    rw [hp] at hi
    have hil : i < 6 := by have := (List.getElem?_eq_some_iff.mp hi).1; simp [h6] at this; exact this
    by_cases h5 : i = 5
    · subst h5
      rw [List.getElem?_append_right (by simp [h6])] at hi
      simp [h6] at hi
      subst hi
      refine ⟨h24, RelT.congr h24 (fun k hk => ?_) h0⟩
      show ppR (shR B 1230) 5 246 141 (246 * 5 + k) = B 143 k
      unfold ppR
      rw [if_pos (by omega), show 246 * 5 + k - 246 * 5 = k by omega]
      simp [shR]
    · rw [List.getElem?_append_left (by simp [h6]; omega), List.getElem?_tail] at hi
      obtain ⟨g1, g2⟩ := hr (i + 1) t hi
      refine ⟨g1, RelT.congr g1 (fun k hk => ?_) g2⟩
      show ppR (shR B 1230) 5 246 141 (246 * i + k) = B 141 (246 * (i + 1) + k)
      unfold ppR
      rw [if_neg (by omega)]
      unfold shR
      rw [if_pos (by omega), show 246 * i + k + 246 = 246 * (i + 1) + k by omega]
  · have hl6 : ¬ hs.length = 6 := h6
    simp (disch := omega) only [i_X7_remember_0, i_X7_remember_1, i_X7_remember_4, i_X7_remember_6, i_X7_remember_9, i_X7_remember_10, i_X7_remember_11, i_X7_remember_14, i_X7_remember_15, i_X7_remember_16, i_X7_remember_19, i_X7_remember_20, i_X7_remember_22, i_X7_remember_25, i_X7_remember_26, i_X7_remember_29, i_X7_remember_30, i_X7_remember_33, i_X7_remember_34, i_X7_remember_37, i_X7_remember_38, i_X7_remember_39, i_X7_remember_42, i_X7_remember_43, i_X7_remember_46, i_X7_remember_47, i_X7_remember_48, i_X7_remember_49, i_X7_remember_52, i_X7_remember_56, i_X7_remember_58, i_X7_remember_61, i_X7_remember_64, i_X7_remember_65, i_X7_remember_68, i_X7_remember_71, i_X7_remember_72, i_X7_remember_75, i_X7_remember_76, i_X7_remember_77, i_X7_remember_78, i_X7_remember_79, i_X7_remember_82, i_X7_remember_83, i_X7_remember_84, i_X7_remember_85, i_X7_remember_88, i_X7_remember_91, i_X7_remember_92, i_X7_remember_93, i_X7_remember_96, i_X7_remember_97, i_X7_remember_98, i_X7_remember_101, i_X7_remember_0_e, Option.toList_some, Option.toList_none, List.cons_append, List.nil_append, List.append_nil, ↓reduceIte, hJ, q_eq, hl6]
    rw [s_remember_2 (by omega) hJ]
    have hp : pushH hs T0 = hs ++ [T0] := by unfold pushH; rw [if_neg h6]
    refine hQ _ _ ⟨by rw [hp]; simp; omega, by rw [hp]; simp [upd], fun i t hi => ?_⟩ (fun k hk => by simp [upd, hk]) (fun a ha => by funext k; simp [ppR, ha])
    rw [hp] at hi
    have hil : i < hs.length + 1 := by have := (List.getElem?_eq_some_iff.mp hi).1; simpa using this
    by_cases h5 : i = hs.length
    · subst h5
      rw [List.getElem?_append_right (Nat.le_refl _)] at hi
      simp at hi
      subst hi
      refine ⟨h24, RelT.congr h24 (fun k hk => ?_) h0⟩
      show ppR B hs.length 246 141 (246 * hs.length + k) = B 143 k
      unfold ppR
      rw [if_pos (by omega), show 246 * hs.length + k - 246 * hs.length = k by omega]
    · rw [List.getElem?_append_left (by omega)] at hi
      obtain ⟨g1, g2⟩ := hr i t hi
      refine ⟨g1, RelT.congr g1 (fun k hk => ?_) g2⟩
      show ppR B hs.length 246 141 (246 * i + k) = B 141 (246 * i + k)
      unfold ppR
      rw [if_neg (by
        have : i + 1 ≤ hs.length := by omega
        have := Nat.mul_le_mul_left 246 this
        omega)]
end MOG
