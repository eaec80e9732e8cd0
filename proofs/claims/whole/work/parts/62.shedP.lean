/-! the class sheds -/
theorem rqB_0 {T : Tr} (hT : okT T) : bts (rqB T 0) (T 10 0) = bts (askB T) (T 10 0) := bts_congr _ (fun k hk => by
  unfold rqB askB
  rcases Nat.eq_zero_or_pos k with rfl | h0
  · simp [hT.2.2.1.1]
  · rw [und_all hT.wf k hk h0]; simp)
theorem ask_10 {T : Tr} (hT : okT T) : cnt (askB T) (T 10 0) ≤ 10 := Nat.le_trans (cnt_le2 _ (fun k _ h => by
  unfold askB at h
  simp only [Bool.and_eq_true] at h
  exact h.1)) hT.2.2.2.2.2.2
theorem cst_b {T : Tr} (hT : okT T) {s : Nat} : ∀ n, n ≤ T 10 0 → sumN (fun k => if bit s k then T 7 k * 100 + 1 else 0) n ≤ 24 * 901 := fun n hn => by
  have h := sumN_le (f := fun k => if bit s k then T 7 k * 100 + 1 else 0) (b := 901) n (fun k hk => by
    have := (hT.2.2.2.2.2.1 k (by omega)).2.2.2.2.1
    split <;> omega)
  have := hT.wf.2.1
  exact Nat.le_trans h (Nat.mul_le_mul_right _ (by omega))
theorem drw_b {T : Tr} (hT : okT T) {k : Nat} (hk : k < T 10 0) : drw T k ≤ 4782969000000 := by
  have h1 := nm_b hT hk
  have h2 := (hT.2.2.2.2.2.1 k hk).2.1
  unfold drw
  exact Nat.le_trans (Nat.div_le_self _ _) (Nat.le_trans (Nat.mul_le_mul h1.2 h2) (by decide))
theorem PW_b {T : Tr} (h : okP T) {s : Nat} : ∀ n, n ≤ T 10 0 → sumN (pw (shT T s)) n ≤ 24 * 4782969000000 := fun n hn => spw_b (okP_sh h s).1 n hn
/-- the requests of a set become v, node by node -/
def rqT (T : Tr) (s v n : Nat) : Tr := fun w k => if w = 8 ∧ k < n ∧ bit s k = true then v else T w k
theorem rqT_o {T : Tr} {s v n w : Nat} (h : w ≠ 8) : rqT T s v n w = T w := by funext k; simp [rqT, h]
theorem rqT_0 {T : Tr} {s v : Nat} : rqT T s v 0 = T := by funext w k; simp [rqT]
theorem rqT_t {T : Tr} {s v n : Nat} (h : bit s n = true) : up2 (rqT T s v n) 8 n v = rqT T s v (n + 1) := by
  funext w k
  unfold up2 rqT
  by_cases hw : w = 8
  · subst hw
    by_cases hk : k = n
    · subst hk; simp [h]
    · by_cases hl : k < n
      · simp [hk, hl, show k < n + 1 by omega]
      · simp [hk, hl, show ¬ k < n + 1 by omega]
  · simp [hw]
theorem rqT_f {T : Tr} {s v n : Nat} (h : bit s n = false) : rqT T s v n = rqT T s v (n + 1) := by
  funext w k
  unfold rqT
  by_cases hw : w = 8
  · subst hw
    by_cases hk : k = n
    · subst hk; simp [h]
    · by_cases hl : k < n
      · simp [hl, show k < n + 1 by omega]
      · simp [hl, show ¬ k < n + 1 by omega]
  · simp [hw]
theorem rqT_sh {T : Tr} {s n : Nat} (h : s < 2 ^ n) : rqT T s 0 n = shT T s := by
  funext w k
  unfold rqT shT
  cases hb : bit s k with
  | false => simp
  | true => simp [bit_t h hb]
section SHP
variable {X : pm_X} {d : Nat} {G : pm_H} {Q : Option Value → pm_H → Prop} {I A : Nat → Nat → Int32} {E : Nat → Nat → Int64} {J : Nat → Int32} {B : Nat → Nat → Int32} {T T' : Tr} {S : St}
theorem t_costOf (hP : RelTP I A 1 T) (hT : okT T) {s : Nat} (hs : s < 2147483648) : pm_call X (d + 1) mX2_costOf [.ref 135, .ref 1, .int (nI s)] (pm_w I A E J B) Q ↔ Q (some (.int (nI (cst T s)))) (pm_w I A E J B) := by
  have h24 := hT.wf.2.1
  have key : ∀ j, j ≤ T 10 0 → ∀ _ : Unit, pm_wp X (d + 1) mX2_costOf 5 [.ref 135, .ref 1, .int (nI s), .int (nI (sumN (fun k => if bit s k then T 7 k * 100 + 1 else 0) j)), .int (nI j)] [] (pm_w I A E J B) Q ↔ Q (some (.int (nI (cst T s)))) (pm_w I A E J B) := by
    refine loop_r (fun _ => ?_) (fun j hj ih _ => ?_)
    · rw [i_X2_costOf_5]
      simp (disch := omega) only [i_X2_costOf_0, i_X2_costOf_1, i_X2_costOf_2, i_X2_costOf_3, i_X2_costOf_7, i_X2_costOf_8, i_X2_costOf_11, i_X2_costOf_14, i_X2_costOf_15, i_X2_costOf_17, i_X2_costOf_20, i_X2_costOf_23, i_X2_costOf_24, i_X2_costOf_25, i_X2_costOf_28, i_X2_costOf_30, i_X2_costOf_31, i_X2_costOf_33, i_X2_costOf_34, i_X2_costOf_35, i_X2_costOf_36, i_X2_costOf_37, i_X2_costOf_38, i_X2_costOf_41, i_X2_costOf_44, i_X2_costOf_45, i_X2_costOf_0_e, Option.toList_some, Option.toList_none, List.cons_append, List.nil_append, List.append_nil, ↓reduceIte, q_lt, hP.2.1, Nat.lt_irrefl]
      rfl
    · have ih := ih ()
      rw [show sumN (fun k => if bit s k then T 7 k * 100 + 1 else 0) (j + 1) = sumN (fun k => if bit s k then T 7 k * 100 + 1 else 0) j + (if bit s j then T 7 j * 100 + 1 else 0) from rfl] at ih
      have e7 : A 9 j = nI (T 7 j) := hP.2.2.2 7 j (by omega) hj (by omega)
      rw [i_X2_costOf_5]
      cases hb : bit s j with
      | false =>
        rw [hb] at ih
        simp (disch := omega) only [i_X2_costOf_0, i_X2_costOf_1, i_X2_costOf_2, i_X2_costOf_3, i_X2_costOf_7, i_X2_costOf_8, i_X2_costOf_11, i_X2_costOf_14, i_X2_costOf_15, i_X2_costOf_17, i_X2_costOf_20, i_X2_costOf_23, i_X2_costOf_24, i_X2_costOf_25, i_X2_costOf_28, i_X2_costOf_30, i_X2_costOf_31, i_X2_costOf_33, i_X2_costOf_34, i_X2_costOf_35, i_X2_costOf_36, i_X2_costOf_37, i_X2_costOf_38, i_X2_costOf_41, i_X2_costOf_44, i_X2_costOf_45, i_X2_costOf_0_e, Option.toList_some, Option.toList_none, List.cons_append, List.nil_append, List.append_nil, ↓reduceIte, q_lt, nI_add, hP.2.1, hj, t_holds hs, hb, bz_e0]
        exact ih
      | true =>
        rw [hb] at ih
        simp (disch := omega) only [i_X2_costOf_0, i_X2_costOf_1, i_X2_costOf_2, i_X2_costOf_3, i_X2_costOf_7, i_X2_costOf_8, i_X2_costOf_11, i_X2_costOf_14, i_X2_costOf_15, i_X2_costOf_17, i_X2_costOf_20, i_X2_costOf_23, i_X2_costOf_24, i_X2_costOf_25, i_X2_costOf_28, i_X2_costOf_30, i_X2_costOf_31, i_X2_costOf_33, i_X2_costOf_34, i_X2_costOf_35, i_X2_costOf_36, i_X2_costOf_37, i_X2_costOf_38, i_X2_costOf_41, i_X2_costOf_44, i_X2_costOf_45, i_X2_costOf_0_e, Option.toList_some, Option.toList_none, List.cons_append, List.nil_append, List.append_nil, ↓reduceIte, q_lt, nI_add, hP.2.1, hj, t_holds hs, hb, bz_e0, reduceCtorEq, e7, pk_mul]
        exact ih
  simp only [i_X2_costOf_0, i_X2_costOf_1, i_X2_costOf_2, i_X2_costOf_3, i_X2_costOf_7, i_X2_costOf_8, i_X2_costOf_11, i_X2_costOf_14, i_X2_costOf_15, i_X2_costOf_17, i_X2_costOf_20, i_X2_costOf_23, i_X2_costOf_24, i_X2_costOf_25, i_X2_costOf_28, i_X2_costOf_30, i_X2_costOf_31, i_X2_costOf_33, i_X2_costOf_34, i_X2_costOf_35, i_X2_costOf_36, i_X2_costOf_37, i_X2_costOf_38, i_X2_costOf_41, i_X2_costOf_44, i_X2_costOf_45, i_X2_costOf_0_e, Option.toList_some, Option.toList_none, List.cons_append, List.nil_append, List.append_nil, ↓reduceIte]
  exact key 0 (Nat.zero_le _) ()
theorem t_powerWithout (hP : RelTP I A 1 T) (h3 : RF3 A 37 T) (hO : okP T) (hD : ∀ k, k < T 10 0 → E 136 k = lN (drw T k)) {s : Nat} (hQ : ∀ A', (∀ a, a ≠ 137 → A' a = A a) → Q (some (.long (lN (PW T s)))) (pm_w I A' E J B)) : pm_call X (d + 2) mX2_powerWithout [.ref 135, .ref 1, .ref 37, .int (nI s)] (pm_w I A E J B) Q := by
  have hT := hO.1
  have hw := hT.wf
  have h24 := hw.2.1
  have h1 := hw.1
  have key : ∀ m n, 0 < n → n + m = T 10 0 → ∀ A1 : Nat → Nat → Int32, (∀ k, k < n → A1 137 k = bz (rn (shT T s) k)) → (∀ a, a ≠ 137 → A1 a = A a) → pm_wp X (d + 2) mX2_powerWithout 18 [.ref 135, .ref 1, .ref 37, .int (nI s), .long (lN (sumN (pw (shT T s)) n)), pm_U, .int (nI n)] [] (pm_w I A1 E J B) Q := by
    intro m
    induction m with
    | zero =>
      intro n h0 hn A1 hE hF
      have : n = T 10 0 := by omega
      subst this
      rw [i_X2_powerWithout_18]
      simp (disch := omega) only [i_X2_powerWithout_0, i_X2_powerWithout_1, i_X2_powerWithout_4, i_X2_powerWithout_5, i_X2_powerWithout_6, i_X2_powerWithout_8, i_X2_powerWithout_9, i_X2_powerWithout_12, i_X2_powerWithout_13, i_X2_powerWithout_14, i_X2_powerWithout_14b, i_X2_powerWithout_14c, i_X2_powerWithout_15, i_X2_powerWithout_16, i_X2_powerWithout_20, i_X2_powerWithout_21, i_X2_powerWithout_24, i_X2_powerWithout_27, i_X2_powerWithout_28, i_X2_powerWithout_31, i_X2_powerWithout_33, i_X2_powerWithout_34, i_X2_powerWithout_37, i_X2_powerWithout_38, i_X2_powerWithout_41, i_X2_powerWithout_43, i_X2_powerWithout_44, i_X2_powerWithout_45, i_X2_powerWithout_48, i_X2_powerWithout_49, i_X2_powerWithout_50, i_X2_powerWithout_52, i_X2_powerWithout_53, i_X2_powerWithout_56, i_X2_powerWithout_59, i_X2_powerWithout_60, i_X2_powerWithout_64, i_X2_powerWithout_64b, i_X2_powerWithout_64c, i_X2_powerWithout_65, i_X2_powerWithout_66, i_X2_powerWithout_69, i_X2_powerWithout_71, i_X2_powerWithout_72, i_X2_powerWithout_75, i_X2_powerWithout_77, i_X2_powerWithout_78, i_X2_powerWithout_81, i_X2_powerWithout_83, i_X2_powerWithout_84, i_X2_powerWithout_85, i_X2_powerWithout_87, i_X2_powerWithout_90, i_X2_powerWithout_63, i_X2_powerWithout_93, i_X2_powerWithout_95, i_X2_powerWithout_0_e, Option.toList_some, Option.toList_none, List.cons_append, List.nil_append, List.append_nil, ↓reduceIte, q_lt, hP.2.1, Nat.lt_irrefl]
      exact hQ A1 hF
    | succ m ih =>
      intro n h0 hn A1 hE hF
      have hn2 : n < T 10 0 := by omega
      have hp := hw.2.2 n h0 hn2
      have hP1 : RelTP I A1 1 T := hP.fr ⟨rfl, rfl⟩ (fun c a b => hF c (by omega))
      have e1 : A1 3 n = nI (T 1 n) := hP1.2.2.2 1 n (by omega) hn2 (by omega)
      have l1 : A1 43 n = nI (bts (lvB T n) (T 10 0)) := by rw [hF _ (by decide)]; exact (h3 n hn2).2.1
      have l2 : A1 44 n = nI (bts (rqB T n) (T 10 0)) := by rw [hF _ (by decide)]; exact (h3 n hn2).2.2
      have r1 := hE (T 1 n) hp
      have er := sh_rn_s (s := s) hw h0 hn2
      have ep := sh_pw (T := T) (s := s) (k := n)
      have fin : ∀ x y, x = bz (rn (shT T s) n) → y = pw (shT T s) n → pm_wp X (d + 2) mX2_powerWithout 18 [.ref 135, .ref 1, .ref 37, .int (nI s), .long (lN (sumN (pw (shT T s)) n + y)), pm_U, .int (nI (n + 1))] [] (pm_w I (up2 A1 137 n x) E J B) Q := fun x y hx hy => by
        subst hx
        subst hy
        refine ih (n + 1) (by omega) (by omega) _ (fun k hk => ?_) (fun a ha => ?_)
        · by_cases hkn : k = n
          · subst hkn; exact up2_s _ _ _ _
          · rw [up2_n _ _ (by omega)]; exact hE k (by omega)
        · rw [up2_na _ _ ha]; exact hF a ha
      rw [i_X2_powerWithout_18]
      cases hr : rn (shT T s) (T 1 n) with
      | false =>
        rw [hr] at r1 er
        rw [Bool.and_false] at er
        rw [er] at ep
        have f := fin (bz false) 0 (by rw [er]) (by rw [ep]; rfl)
        simp (disch := omega) only [i_X2_powerWithout_0, i_X2_powerWithout_1, i_X2_powerWithout_4, i_X2_powerWithout_5, i_X2_powerWithout_6, i_X2_powerWithout_8, i_X2_powerWithout_9, i_X2_powerWithout_12, i_X2_powerWithout_13, i_X2_powerWithout_14, i_X2_powerWithout_14b, i_X2_powerWithout_14c, i_X2_powerWithout_15, i_X2_powerWithout_16, i_X2_powerWithout_20, i_X2_powerWithout_21, i_X2_powerWithout_24, i_X2_powerWithout_27, i_X2_powerWithout_28, i_X2_powerWithout_31, i_X2_powerWithout_33, i_X2_powerWithout_34, i_X2_powerWithout_37, i_X2_powerWithout_38, i_X2_powerWithout_41, i_X2_powerWithout_43, i_X2_powerWithout_44, i_X2_powerWithout_45, i_X2_powerWithout_48, i_X2_powerWithout_49, i_X2_powerWithout_50, i_X2_powerWithout_52, i_X2_powerWithout_53, i_X2_powerWithout_56, i_X2_powerWithout_59, i_X2_powerWithout_60, i_X2_powerWithout_64, i_X2_powerWithout_64b, i_X2_powerWithout_64c, i_X2_powerWithout_65, i_X2_powerWithout_66, i_X2_powerWithout_69, i_X2_powerWithout_71, i_X2_powerWithout_72, i_X2_powerWithout_75, i_X2_powerWithout_77, i_X2_powerWithout_78, i_X2_powerWithout_81, i_X2_powerWithout_83, i_X2_powerWithout_84, i_X2_powerWithout_85, i_X2_powerWithout_87, i_X2_powerWithout_90, i_X2_powerWithout_63, i_X2_powerWithout_93, i_X2_powerWithout_95, i_X2_powerWithout_0_e, Option.toList_some, Option.toList_none, List.cons_append, List.nil_append, List.append_nil, ↓reduceIte, q_lt, hP.2.1, hn2, e1, r1, bz_e0, up2_s, nI_add]
        exact f
      | true =>
        rw [hr] at r1 er
        rw [Bool.and_true] at er
        cases ho : opcS T s n with
        | false =>
          rw [ho] at er
          rw [er] at ep
          have f := fin (bz false) 0 (by rw [er]) (by rw [ep]; rfl)
          simp (disch := omega) only [i_X2_powerWithout_0, i_X2_powerWithout_1, i_X2_powerWithout_4, i_X2_powerWithout_5, i_X2_powerWithout_6, i_X2_powerWithout_8, i_X2_powerWithout_9, i_X2_powerWithout_12, i_X2_powerWithout_13, i_X2_powerWithout_14, i_X2_powerWithout_14b, i_X2_powerWithout_14c, i_X2_powerWithout_15, i_X2_powerWithout_16, i_X2_powerWithout_20, i_X2_powerWithout_21, i_X2_powerWithout_24, i_X2_powerWithout_27, i_X2_powerWithout_28, i_X2_powerWithout_31, i_X2_powerWithout_33, i_X2_powerWithout_34, i_X2_powerWithout_37, i_X2_powerWithout_38, i_X2_powerWithout_41, i_X2_powerWithout_43, i_X2_powerWithout_44, i_X2_powerWithout_45, i_X2_powerWithout_48, i_X2_powerWithout_49, i_X2_powerWithout_50, i_X2_powerWithout_52, i_X2_powerWithout_53, i_X2_powerWithout_56, i_X2_powerWithout_59, i_X2_powerWithout_60, i_X2_powerWithout_64, i_X2_powerWithout_64b, i_X2_powerWithout_64c, i_X2_powerWithout_65, i_X2_powerWithout_66, i_X2_powerWithout_69, i_X2_powerWithout_71, i_X2_powerWithout_72, i_X2_powerWithout_75, i_X2_powerWithout_77, i_X2_powerWithout_78, i_X2_powerWithout_81, i_X2_powerWithout_83, i_X2_powerWithout_84, i_X2_powerWithout_85, i_X2_powerWithout_87, i_X2_powerWithout_90, i_X2_powerWithout_63, i_X2_powerWithout_93, i_X2_powerWithout_95, i_X2_powerWithout_0_e, Option.toList_some, Option.toList_none, List.cons_append, List.nil_append, List.append_nil, ↓reduceIte, q_lt, hP.2.1, hn2, e1, r1, bz_e0, up2_s, nI_add, t_isOpenWithouta hP1 hT hn2 l1 l2, ho, reduceCtorEq]
          exact f
        | true =>
          rw [ho] at er
          rw [er] at ep
          have f := fin (bz true) (drw T n) (by rw [er]) (by rw [ep]; rfl)
          simp (disch := omega) only [i_X2_powerWithout_0, i_X2_powerWithout_1, i_X2_powerWithout_4, i_X2_powerWithout_5, i_X2_powerWithout_6, i_X2_powerWithout_8, i_X2_powerWithout_9, i_X2_powerWithout_12, i_X2_powerWithout_13, i_X2_powerWithout_14, i_X2_powerWithout_14b, i_X2_powerWithout_14c, i_X2_powerWithout_15, i_X2_powerWithout_16, i_X2_powerWithout_20, i_X2_powerWithout_21, i_X2_powerWithout_24, i_X2_powerWithout_27, i_X2_powerWithout_28, i_X2_powerWithout_31, i_X2_powerWithout_33, i_X2_powerWithout_34, i_X2_powerWithout_37, i_X2_powerWithout_38, i_X2_powerWithout_41, i_X2_powerWithout_43, i_X2_powerWithout_44, i_X2_powerWithout_45, i_X2_powerWithout_48, i_X2_powerWithout_49, i_X2_powerWithout_50, i_X2_powerWithout_52, i_X2_powerWithout_53, i_X2_powerWithout_56, i_X2_powerWithout_59, i_X2_powerWithout_60, i_X2_powerWithout_64, i_X2_powerWithout_64b, i_X2_powerWithout_64c, i_X2_powerWithout_65, i_X2_powerWithout_66, i_X2_powerWithout_69, i_X2_powerWithout_71, i_X2_powerWithout_72, i_X2_powerWithout_75, i_X2_powerWithout_77, i_X2_powerWithout_78, i_X2_powerWithout_81, i_X2_powerWithout_83, i_X2_powerWithout_84, i_X2_powerWithout_85, i_X2_powerWithout_87, i_X2_powerWithout_90, i_X2_powerWithout_63, i_X2_powerWithout_93, i_X2_powerWithout_95, i_X2_powerWithout_0_e, Option.toList_some, Option.toList_none, List.cons_append, List.nil_append, List.append_nil, ↓reduceIte, q_lt, hP.2.1, hn2, e1, r1, bz_e0, up2_s, nI_add, t_isOpenWithouta hP1 hT hn2 l1 l2, ho, reduceCtorEq, hD n hn2, lN_add]
          exact f
  have ep := sh_pw (T := T) (s := s) (k := 0)
  rw [show rn (shT T s) 0 = true from rfl, if_pos rfl] at ep
  simp (disch := omega) only [i_X2_powerWithout_0, i_X2_powerWithout_1, i_X2_powerWithout_4, i_X2_powerWithout_5, i_X2_powerWithout_6, i_X2_powerWithout_8, i_X2_powerWithout_9, i_X2_powerWithout_12, i_X2_powerWithout_13, i_X2_powerWithout_14, i_X2_powerWithout_14b, i_X2_powerWithout_14c, i_X2_powerWithout_15, i_X2_powerWithout_16, i_X2_powerWithout_20, i_X2_powerWithout_21, i_X2_powerWithout_24, i_X2_powerWithout_27, i_X2_powerWithout_28, i_X2_powerWithout_31, i_X2_powerWithout_33, i_X2_powerWithout_34, i_X2_powerWithout_37, i_X2_powerWithout_38, i_X2_powerWithout_41, i_X2_powerWithout_43, i_X2_powerWithout_44, i_X2_powerWithout_45, i_X2_powerWithout_48, i_X2_powerWithout_49, i_X2_powerWithout_50, i_X2_powerWithout_52, i_X2_powerWithout_53, i_X2_powerWithout_56, i_X2_powerWithout_59, i_X2_powerWithout_60, i_X2_powerWithout_64, i_X2_powerWithout_64b, i_X2_powerWithout_64c, i_X2_powerWithout_65, i_X2_powerWithout_66, i_X2_powerWithout_69, i_X2_powerWithout_71, i_X2_powerWithout_72, i_X2_powerWithout_75, i_X2_powerWithout_77, i_X2_powerWithout_78, i_X2_powerWithout_81, i_X2_powerWithout_83, i_X2_powerWithout_84, i_X2_powerWithout_85, i_X2_powerWithout_87, i_X2_powerWithout_90, i_X2_powerWithout_63, i_X2_powerWithout_93, i_X2_powerWithout_95, i_X2_powerWithout_0_e, Option.toList_some, Option.toList_none, List.cons_append, List.nil_append, List.append_nil, ↓reduceIte, hD 0 (by omega)]
  have := key (T 10 0 - 1) 1 (by omega) (by omega) (up2 A 137 0 (bz true)) (fun k hk => by
    rw [show k = 0 by omega, up2_s]; rfl) (fun a ha => up2_na _ _ ha)
  rw [show sumN (pw (shT T s)) 1 = 0 + pw (shT T s) 0 from rfl, ep, Nat.zero_add] at this
  exact this
theorem t_cheapest (hP : RelTP I A 1 T) (h3 : RF3 A 37 T) (hO : okP T) (hD : ∀ k, k < T 10 0 → E 136 k = lN (drw T k)) {b : Nat} (hb : b < 9223372036854775808) (hQ : ∀ A', (∀ a, a ≠ 137 → A' a = A a) → Q (some (.int (nI (bst T b (2 ^ cnt (askB T) (T 10 0)))))) (pm_w I A' E J B)) : pm_call X (d + 3) mX2_cheapest [.ref 135, .ref 1, .ref 37, .long (lN b), .int (nI (bts (askB T) (T 10 0)))] (pm_w I A E J B) Q := by
  have hT := hO.1
  have h24 := hT.wf.2.1
  have p24 : (2 : Nat) ^ T 10 0 ≤ 16777216 := Nat.le_trans (Nat.pow_le_pow_right (by decide) h24) (by decide)
  have ba := bts_lt (askB T) (T 10 0)
  have c10 := ask_10 hT
  have pc : (2 : Nat) ^ cnt (askB T) (T 10 0) ≤ 1024 := Nat.le_trans (Nat.pow_le_pow_right (by decide) c10) (by decide)
  have cb : ∀ s, cst T s ≤ 24 * 901 := fun s => cst_b hT _ (Nat.le_refl _)
  have pb : ∀ s, PW T s ≤ 24 * 4782969000000 := fun s => PW_b hO _ (Nat.le_refl _)
  have key : ∀ m t, t + m = 2 ^ cnt (askB T) (T 10 0) → ∀ A1 : Nat → Nat → Int32, (∀ a, a ≠ 137 → A1 a = A a) → ∀ v, pm_wp X (d + 3) mX2_cheapest 33 [.ref 135, .ref 1, .ref 37, .long (lN b), pm_U, .int (nI (bts (askB T) (T 10 0))), .int (nI (bst T b t)), .int (nI (cst T (bst T b t))), .int (nI (dpo (askB T) (T 10 0) t)), .int (nI (2 ^ cnt (askB T) (T 10 0))), .int (nI t), v] [] (pm_w I A1 E J B) Q := by
    intro m
    induction m with
    | zero =>
      intro t ht A1 hF v
      have : t = 2 ^ cnt (askB T) (T 10 0) := by omega
      rw [← this] at hQ ⊢
      rw [i_X2_cheapest_33]
      simp (disch := omega) only [i_X2_cheapest_0, i_X2_cheapest_2, i_X2_cheapest_4, i_X2_cheapest_5, i_X2_cheapest_6, i_X2_cheapest_8, i_X2_cheapest_11, i_X2_cheapest_13, i_X2_cheapest_14, i_X2_cheapest_16, i_X2_cheapest_17, i_X2_cheapest_19, i_X2_cheapest_22, i_X2_cheapest_24, i_X2_cheapest_27, i_X2_cheapest_28, i_X2_cheapest_30, i_X2_cheapest_31, i_X2_cheapest_35, i_X2_cheapest_37, i_X2_cheapest_40, i_X2_cheapest_41, i_X2_cheapest_42, i_X2_cheapest_44, i_X2_cheapest_47, i_X2_cheapest_49, i_X2_cheapest_51, i_X2_cheapest_53, i_X2_cheapest_56, i_X2_cheapest_57, i_X2_cheapest_58, i_X2_cheapest_59, i_X2_cheapest_61, i_X2_cheapest_64, i_X2_cheapest_65, i_X2_cheapest_66, i_X2_cheapest_69, i_X2_cheapest_71, i_X2_cheapest_73, i_X2_cheapest_75, i_X2_cheapest_77, i_X2_cheapest_79, i_X2_cheapest_81, i_X2_cheapest_82, i_X2_cheapest_84, i_X2_cheapest_85, i_X2_cheapest_87, i_X2_cheapest_90, i_X2_cheapest_93, i_X2_cheapest_95, i_X2_cheapest_0_e, Option.toList_some, Option.toList_none, List.cons_append, List.nil_append, List.append_nil, ↓reduceIte, q_lt, Nat.lt_irrefl]
      exact hQ A1 hF
    | succ m ih =>
      intro t ht A1 hF v
      have ht2 : t < 2 ^ cnt (askB T) (T 10 0) := by omega
      have hP1 : RelTP I A1 1 T := hP.fr ⟨rfl, rfl⟩ (fun c a b => hF c (by omega))
      have h31 : RF3 A1 37 T := fun k hk => by rw [hF _ (by decide), hF _ (by decide), hF _ (by decide)]; exact h3 k hk
      have bd : dpo (askB T) (T 10 0) t < 2 ^ T 10 0 := bts_lt _ _
      have c1 := cb (dpo (askB T) (T 10 0) t)
      have c2 := cb (bst T b t)
      have p1 := pb (dpo (askB T) (T 10 0) t)
      have nx := dpo_next (p := askB T) (n := T 10 0) (t := t) h24
      have eb : bst T b (t + 1) = if cst T (dpo (askB T) (T 10 0) t) < cst T (bst T b t) ∧ PW T (dpo (askB T) (T 10 0) t) ≤ b then dpo (askB T) (T 10 0) t else bst T b t := rfl
      rw [i_X2_cheapest_33]
      simp (disch := omega) only [i_X2_cheapest_0, i_X2_cheapest_2, i_X2_cheapest_4, i_X2_cheapest_5, i_X2_cheapest_6, i_X2_cheapest_8, i_X2_cheapest_11, i_X2_cheapest_13, i_X2_cheapest_14, i_X2_cheapest_16, i_X2_cheapest_17, i_X2_cheapest_19, i_X2_cheapest_22, i_X2_cheapest_24, i_X2_cheapest_27, i_X2_cheapest_28, i_X2_cheapest_30, i_X2_cheapest_31, i_X2_cheapest_35, i_X2_cheapest_37, i_X2_cheapest_40, i_X2_cheapest_41, i_X2_cheapest_42, i_X2_cheapest_44, i_X2_cheapest_47, i_X2_cheapest_49, i_X2_cheapest_51, i_X2_cheapest_53, i_X2_cheapest_56, i_X2_cheapest_57, i_X2_cheapest_58, i_X2_cheapest_59, i_X2_cheapest_61, i_X2_cheapest_64, i_X2_cheapest_65, i_X2_cheapest_66, i_X2_cheapest_69, i_X2_cheapest_71, i_X2_cheapest_73, i_X2_cheapest_75, i_X2_cheapest_77, i_X2_cheapest_79, i_X2_cheapest_81, i_X2_cheapest_82, i_X2_cheapest_84, i_X2_cheapest_85, i_X2_cheapest_87, i_X2_cheapest_90, i_X2_cheapest_93, i_X2_cheapest_95, i_X2_cheapest_0_e, Option.toList_some, Option.toList_none, List.cons_append, List.nil_append, List.append_nil, ↓reduceIte, q_lt, ht2, t_costOf hP1 hT]
      by_cases hc : cst T (dpo (askB T) (T 10 0) t) < cst T (bst T b t)
      · simp (disch := omega) only [i_X2_cheapest_0, i_X2_cheapest_2, i_X2_cheapest_4, i_X2_cheapest_5, i_X2_cheapest_6, i_X2_cheapest_8, i_X2_cheapest_11, i_X2_cheapest_13, i_X2_cheapest_14, i_X2_cheapest_16, i_X2_cheapest_17, i_X2_cheapest_19, i_X2_cheapest_22, i_X2_cheapest_24, i_X2_cheapest_27, i_X2_cheapest_28, i_X2_cheapest_30, i_X2_cheapest_31, i_X2_cheapest_35, i_X2_cheapest_37, i_X2_cheapest_40, i_X2_cheapest_41, i_X2_cheapest_42, i_X2_cheapest_44, i_X2_cheapest_47, i_X2_cheapest_49, i_X2_cheapest_51, i_X2_cheapest_53, i_X2_cheapest_56, i_X2_cheapest_57, i_X2_cheapest_58, i_X2_cheapest_59, i_X2_cheapest_61, i_X2_cheapest_64, i_X2_cheapest_65, i_X2_cheapest_66, i_X2_cheapest_69, i_X2_cheapest_71, i_X2_cheapest_73, i_X2_cheapest_75, i_X2_cheapest_77, i_X2_cheapest_79, i_X2_cheapest_81, i_X2_cheapest_82, i_X2_cheapest_84, i_X2_cheapest_85, i_X2_cheapest_87, i_X2_cheapest_90, i_X2_cheapest_93, i_X2_cheapest_95, i_X2_cheapest_0_e, Option.toList_some, Option.toList_none, List.cons_append, List.nil_append, List.append_nil, ↓reduceIte, q_lt, hc]
        refine t_powerWithout hP1 h31 hO hD (fun A2 hF2 => ?_)
        have ih2 := ih (t + 1) (by omega) A2 (fun a ha => by rw [hF2 a ha, hF a ha])
        by_cases hp : b < PW T (dpo (askB T) (T 10 0) t)
        · rw [if_neg (by omega)] at eb
          rw [eb] at ih2
          simp (disch := omega) only [i_X2_cheapest_0, i_X2_cheapest_2, i_X2_cheapest_4, i_X2_cheapest_5, i_X2_cheapest_6, i_X2_cheapest_8, i_X2_cheapest_11, i_X2_cheapest_13, i_X2_cheapest_14, i_X2_cheapest_16, i_X2_cheapest_17, i_X2_cheapest_19, i_X2_cheapest_22, i_X2_cheapest_24, i_X2_cheapest_27, i_X2_cheapest_28, i_X2_cheapest_30, i_X2_cheapest_31, i_X2_cheapest_35, i_X2_cheapest_37, i_X2_cheapest_40, i_X2_cheapest_41, i_X2_cheapest_42, i_X2_cheapest_44, i_X2_cheapest_47, i_X2_cheapest_49, i_X2_cheapest_51, i_X2_cheapest_53, i_X2_cheapest_56, i_X2_cheapest_57, i_X2_cheapest_58, i_X2_cheapest_59, i_X2_cheapest_61, i_X2_cheapest_64, i_X2_cheapest_65, i_X2_cheapest_66, i_X2_cheapest_69, i_X2_cheapest_71, i_X2_cheapest_73, i_X2_cheapest_75, i_X2_cheapest_77, i_X2_cheapest_79, i_X2_cheapest_81, i_X2_cheapest_82, i_X2_cheapest_84, i_X2_cheapest_85, i_X2_cheapest_87, i_X2_cheapest_90, i_X2_cheapest_93, i_X2_cheapest_95, i_X2_cheapest_0_e, Option.toList_some, Option.toList_none, List.cons_append, List.nil_append, List.append_nil, ↓reduceIte, lg_gt, l_lt, hp, nx, nI_add]
          exact ih2 _
        · rw [if_pos ⟨hc, by omega⟩] at eb
          rw [eb] at ih2
          simp (disch := omega) only [i_X2_cheapest_0, i_X2_cheapest_2, i_X2_cheapest_4, i_X2_cheapest_5, i_X2_cheapest_6, i_X2_cheapest_8, i_X2_cheapest_11, i_X2_cheapest_13, i_X2_cheapest_14, i_X2_cheapest_16, i_X2_cheapest_17, i_X2_cheapest_19, i_X2_cheapest_22, i_X2_cheapest_24, i_X2_cheapest_27, i_X2_cheapest_28, i_X2_cheapest_30, i_X2_cheapest_31, i_X2_cheapest_35, i_X2_cheapest_37, i_X2_cheapest_40, i_X2_cheapest_41, i_X2_cheapest_42, i_X2_cheapest_44, i_X2_cheapest_47, i_X2_cheapest_49, i_X2_cheapest_51, i_X2_cheapest_53, i_X2_cheapest_56, i_X2_cheapest_57, i_X2_cheapest_58, i_X2_cheapest_59, i_X2_cheapest_61, i_X2_cheapest_64, i_X2_cheapest_65, i_X2_cheapest_66, i_X2_cheapest_69, i_X2_cheapest_71, i_X2_cheapest_73, i_X2_cheapest_75, i_X2_cheapest_77, i_X2_cheapest_79, i_X2_cheapest_81, i_X2_cheapest_82, i_X2_cheapest_84, i_X2_cheapest_85, i_X2_cheapest_87, i_X2_cheapest_90, i_X2_cheapest_93, i_X2_cheapest_95, i_X2_cheapest_0_e, Option.toList_some, Option.toList_none, List.cons_append, List.nil_append, List.append_nil, ↓reduceIte, lg_gt, l_lt, hp, nx, nI_add]
          exact ih2 _
      · rw [if_neg (fun q => hc q.1)] at eb
        have ih2 := ih (t + 1) (by omega) A1 hF
        rw [eb] at ih2
        simp (disch := omega) only [i_X2_cheapest_0, i_X2_cheapest_2, i_X2_cheapest_4, i_X2_cheapest_5, i_X2_cheapest_6, i_X2_cheapest_8, i_X2_cheapest_11, i_X2_cheapest_13, i_X2_cheapest_14, i_X2_cheapest_16, i_X2_cheapest_17, i_X2_cheapest_19, i_X2_cheapest_22, i_X2_cheapest_24, i_X2_cheapest_27, i_X2_cheapest_28, i_X2_cheapest_30, i_X2_cheapest_31, i_X2_cheapest_35, i_X2_cheapest_37, i_X2_cheapest_40, i_X2_cheapest_41, i_X2_cheapest_42, i_X2_cheapest_44, i_X2_cheapest_47, i_X2_cheapest_49, i_X2_cheapest_51, i_X2_cheapest_53, i_X2_cheapest_56, i_X2_cheapest_57, i_X2_cheapest_58, i_X2_cheapest_59, i_X2_cheapest_61, i_X2_cheapest_64, i_X2_cheapest_65, i_X2_cheapest_66, i_X2_cheapest_69, i_X2_cheapest_71, i_X2_cheapest_73, i_X2_cheapest_75, i_X2_cheapest_77, i_X2_cheapest_79, i_X2_cheapest_81, i_X2_cheapest_82, i_X2_cheapest_84, i_X2_cheapest_85, i_X2_cheapest_87, i_X2_cheapest_90, i_X2_cheapest_93, i_X2_cheapest_95, i_X2_cheapest_0_e, Option.toList_some, Option.toList_none, List.cons_append, List.nil_append, List.append_nil, ↓reduceIte, q_lt, hc, nx, nI_add]
        exact ih2 _
  have hbc : bcS (bts (askB T) (T 10 0)) = cnt (askB T) (T 10 0) := bc_cnt h24
  have hm : ¬ 10 < cnt (askB T) (T 10 0) := by omega
  simp (disch := omega) only [i_X2_cheapest_0, i_X2_cheapest_2, i_X2_cheapest_4, i_X2_cheapest_5, i_X2_cheapest_6, i_X2_cheapest_8, i_X2_cheapest_11, i_X2_cheapest_13, i_X2_cheapest_14, i_X2_cheapest_16, i_X2_cheapest_17, i_X2_cheapest_19, i_X2_cheapest_22, i_X2_cheapest_24, i_X2_cheapest_27, i_X2_cheapest_28, i_X2_cheapest_30, i_X2_cheapest_31, i_X2_cheapest_35, i_X2_cheapest_37, i_X2_cheapest_40, i_X2_cheapest_41, i_X2_cheapest_42, i_X2_cheapest_44, i_X2_cheapest_47, i_X2_cheapest_49, i_X2_cheapest_51, i_X2_cheapest_53, i_X2_cheapest_56, i_X2_cheapest_57, i_X2_cheapest_58, i_X2_cheapest_59, i_X2_cheapest_61, i_X2_cheapest_64, i_X2_cheapest_65, i_X2_cheapest_66, i_X2_cheapest_69, i_X2_cheapest_71, i_X2_cheapest_73, i_X2_cheapest_75, i_X2_cheapest_77, i_X2_cheapest_79, i_X2_cheapest_81, i_X2_cheapest_82, i_X2_cheapest_84, i_X2_cheapest_85, i_X2_cheapest_87, i_X2_cheapest_90, i_X2_cheapest_93, i_X2_cheapest_95, i_X2_cheapest_0_e, Option.toList_some, Option.toList_none, List.cons_append, List.nil_append, List.append_nil, ↓reduceIte, t_costOf hP hT, s_bitCount, hbc, q_lt, hm, q_shl1]
  have := key (2 ^ cnt (askB T) (T 10 0)) 0 (by omega) A (fun _ _ => rfl)
  rw [show dpo (askB T) (T 10 0) 0 = 0 from bit_ext (fun k => by unfold dpo; rw [bts_b, bit_0, bit_0]; simp)] at this
  exact this _
theorem t_find (hP : RelTP I A 1 T) (hF0 : RelF A E 37 T) (hO : okP T) {b : Nat} (hb : b < 9223372036854775808) (hQ : ∀ A' E', (∀ a, a ≠ 137 → A' a = A a) → (∀ a, a ≠ 136 → E' a = E a) → Q (some (.int (oI (shO T b)))) (pm_w I A' E' J B)) : pm_call X (d + 4) mX2_find [.ref 135, .ref 1, .ref 37, .long (lN b)] (pm_w I A E J B) Q := by
  have hT := hO.1
  have h24 := hT.wf.2.1
  have h1 := hT.wf.1
  have pb : ∀ s, PW T s ≤ 24 * 4782969000000 := fun s => PW_b hO _ (Nat.le_refl _)
  have key : ∀ m n, n + m = T 10 0 → ∀ E1 : Nat → Nat → Int64, (∀ k, k < n → E1 136 k = lN (drw T k)) → (∀ a, a ≠ 136 → E1 a = E a) → pm_wp X (d + 4) mX2_find 3 [.ref 135, .ref 1, .ref 37, .long (lN b), pm_U, .int (nI n)] [] (pm_w I A E1 J B) Q := by
    intro m
    induction m with
    | zero =>
      intro n hn E1 hE hF
      have : n = T 10 0 := by omega
      subst this
      have ea : A 44 0 = nI (bts (askB T) (T 10 0)) := by rw [← rqB_0 hT]; exact (hF0.2.2.1 0 (by omega)).2.2
      have p0 := pb 0
      have pa := pb (bts (askB T) (T 10 0))
      rw [i_X2_find_3]
      simp (disch := omega) only [i_X2_find_0, i_X2_find_1, i_X2_find_5, i_X2_find_6, i_X2_find_9, i_X2_find_12, i_X2_find_13, i_X2_find_16, i_X2_find_18, i_X2_find_19, i_X2_find_20, i_X2_find_22, i_X2_find_25, i_X2_find_26, i_X2_find_29, i_X2_find_32, i_X2_find_33, i_X2_find_36, i_X2_find_37, i_X2_find_38, i_X2_find_40, i_X2_find_41, i_X2_find_42, i_X2_find_43, i_X2_find_44, i_X2_find_47, i_X2_find_48, i_X2_find_49, i_X2_find_52, i_X2_find_53, i_X2_find_54, i_X2_find_55, i_X2_find_56, i_X2_find_57, i_X2_find_59, i_X2_find_62, i_X2_find_63, i_X2_find_64, i_X2_find_67, i_X2_find_69, i_X2_find_70, i_X2_find_71, i_X2_find_72, i_X2_find_73, i_X2_find_74, i_X2_find_76, i_X2_find_79, i_X2_find_0_e, Option.toList_some, Option.toList_none, List.cons_append, List.nil_append, List.append_nil, ↓reduceIte, q_lt, hP.2.1, Nat.lt_irrefl, ea]
      refine t_powerWithout (d := d + 1) hP hF0.2.2.1 hO hE (fun A1 hF1 => ?_)
      by_cases c0 : b < PW T 0
      · simp (disch := omega) only [i_X2_find_0, i_X2_find_1, i_X2_find_5, i_X2_find_6, i_X2_find_9, i_X2_find_12, i_X2_find_13, i_X2_find_16, i_X2_find_18, i_X2_find_19, i_X2_find_20, i_X2_find_22, i_X2_find_25, i_X2_find_26, i_X2_find_29, i_X2_find_32, i_X2_find_33, i_X2_find_36, i_X2_find_37, i_X2_find_38, i_X2_find_40, i_X2_find_41, i_X2_find_42, i_X2_find_43, i_X2_find_44, i_X2_find_47, i_X2_find_48, i_X2_find_49, i_X2_find_52, i_X2_find_53, i_X2_find_54, i_X2_find_55, i_X2_find_56, i_X2_find_57, i_X2_find_59, i_X2_find_62, i_X2_find_63, i_X2_find_64, i_X2_find_67, i_X2_find_69, i_X2_find_70, i_X2_find_71, i_X2_find_72, i_X2_find_73, i_X2_find_74, i_X2_find_76, i_X2_find_79, i_X2_find_0_e, Option.toList_some, Option.toList_none, List.cons_append, List.nil_append, List.append_nil, ↓reduceIte, lg_gt, l_lt, c0]
        have hP1 : RelTP I A1 1 T := hP.fr ⟨rfl, rfl⟩ (fun c a b => hF1 c (by omega))
        have h31 : RF3 A1 37 T := fun k hk => by rw [hF1 _ (by decide), hF1 _ (by decide), hF1 _ (by decide)]; exact hF0.2.2.1 k hk
        refine t_powerWithout (d := d + 1) hP1 h31 hO hE (fun A2 hF2 => ?_)
        by_cases c1 : b < PW T (bts (askB T) (T 10 0))
        · simp (disch := omega) only [i_X2_find_0, i_X2_find_1, i_X2_find_5, i_X2_find_6, i_X2_find_9, i_X2_find_12, i_X2_find_13, i_X2_find_16, i_X2_find_18, i_X2_find_19, i_X2_find_20, i_X2_find_22, i_X2_find_25, i_X2_find_26, i_X2_find_29, i_X2_find_32, i_X2_find_33, i_X2_find_36, i_X2_find_37, i_X2_find_38, i_X2_find_40, i_X2_find_41, i_X2_find_42, i_X2_find_43, i_X2_find_44, i_X2_find_47, i_X2_find_48, i_X2_find_49, i_X2_find_52, i_X2_find_53, i_X2_find_54, i_X2_find_55, i_X2_find_56, i_X2_find_57, i_X2_find_59, i_X2_find_62, i_X2_find_63, i_X2_find_64, i_X2_find_67, i_X2_find_69, i_X2_find_70, i_X2_find_71, i_X2_find_72, i_X2_find_73, i_X2_find_74, i_X2_find_76, i_X2_find_79, i_X2_find_0_e, Option.toList_some, Option.toList_none, List.cons_append, List.nil_append, List.append_nil, ↓reduceIte, lg_gt, l_lt, c1]
          have e : shO T b = none := shO_none (fun s hs q => by
            have := PW_anti (T := T) (s := s) (s' := bts (askB T) (T 10 0)) hT.wf (fun j hj => sub_bts hs hj)
            omega)
          rw [e] at hQ
          exact hQ A2 E1 (fun a ha => by rw [hF2 a ha, hF1 a ha]) hF
        · simp (disch := omega) only [i_X2_find_0, i_X2_find_1, i_X2_find_5, i_X2_find_6, i_X2_find_9, i_X2_find_12, i_X2_find_13, i_X2_find_16, i_X2_find_18, i_X2_find_19, i_X2_find_20, i_X2_find_22, i_X2_find_25, i_X2_find_26, i_X2_find_29, i_X2_find_32, i_X2_find_33, i_X2_find_36, i_X2_find_37, i_X2_find_38, i_X2_find_40, i_X2_find_41, i_X2_find_42, i_X2_find_43, i_X2_find_44, i_X2_find_47, i_X2_find_48, i_X2_find_49, i_X2_find_52, i_X2_find_53, i_X2_find_54, i_X2_find_55, i_X2_find_56, i_X2_find_57, i_X2_find_59, i_X2_find_62, i_X2_find_63, i_X2_find_64, i_X2_find_67, i_X2_find_69, i_X2_find_70, i_X2_find_71, i_X2_find_72, i_X2_find_73, i_X2_find_74, i_X2_find_76, i_X2_find_79, i_X2_find_0_e, Option.toList_some, Option.toList_none, List.cons_append, List.nil_append, List.append_nil, ↓reduceIte, lg_gt, l_lt, c1]
          have hP2 : RelTP I A2 1 T := hP1.fr ⟨rfl, rfl⟩ (fun c a b => hF2 c (by omega))
          have h32 : RF3 A2 37 T := fun k hk => by rw [hF2 _ (by decide), hF2 _ (by decide), hF2 _ (by decide)]; exact h31 k hk
          refine t_cheapest hP2 h32 hO hE hb (fun A3 hF3 => ?_)
          simp (disch := omega) only [i_X2_find_0, i_X2_find_1, i_X2_find_5, i_X2_find_6, i_X2_find_9, i_X2_find_12, i_X2_find_13, i_X2_find_16, i_X2_find_18, i_X2_find_19, i_X2_find_20, i_X2_find_22, i_X2_find_25, i_X2_find_26, i_X2_find_29, i_X2_find_32, i_X2_find_33, i_X2_find_36, i_X2_find_37, i_X2_find_38, i_X2_find_40, i_X2_find_41, i_X2_find_42, i_X2_find_43, i_X2_find_44, i_X2_find_47, i_X2_find_48, i_X2_find_49, i_X2_find_52, i_X2_find_53, i_X2_find_54, i_X2_find_55, i_X2_find_56, i_X2_find_57, i_X2_find_59, i_X2_find_62, i_X2_find_63, i_X2_find_64, i_X2_find_67, i_X2_find_69, i_X2_find_70, i_X2_find_71, i_X2_find_72, i_X2_find_73, i_X2_find_74, i_X2_find_76, i_X2_find_79, i_X2_find_0_e, Option.toList_some, Option.toList_none, List.cons_append, List.nil_append, List.append_nil, ↓reduceIte]
          rw [shO_some (bst_IsB (Nat.not_lt.mp c1))] at hQ
          exact hQ A3 E1 (fun a ha => by rw [hF3 a ha, hF2 a ha, hF1 a ha]) hF
      · simp (disch := omega) only [i_X2_find_0, i_X2_find_1, i_X2_find_5, i_X2_find_6, i_X2_find_9, i_X2_find_12, i_X2_find_13, i_X2_find_16, i_X2_find_18, i_X2_find_19, i_X2_find_20, i_X2_find_22, i_X2_find_25, i_X2_find_26, i_X2_find_29, i_X2_find_32, i_X2_find_33, i_X2_find_36, i_X2_find_37, i_X2_find_38, i_X2_find_40, i_X2_find_41, i_X2_find_42, i_X2_find_43, i_X2_find_44, i_X2_find_47, i_X2_find_48, i_X2_find_49, i_X2_find_52, i_X2_find_53, i_X2_find_54, i_X2_find_55, i_X2_find_56, i_X2_find_57, i_X2_find_59, i_X2_find_62, i_X2_find_63, i_X2_find_64, i_X2_find_67, i_X2_find_69, i_X2_find_70, i_X2_find_71, i_X2_find_72, i_X2_find_73, i_X2_find_74, i_X2_find_76, i_X2_find_79, i_X2_find_0_e, Option.toList_some, Option.toList_none, List.cons_append, List.nil_append, List.append_nil, ↓reduceIte, lg_gt, l_lt, c0]
        rw [shO_some (zero_IsB (Nat.not_lt.mp c0))] at hQ
        exact hQ A1 E1 hF1 hF
    | succ m ih =>
      intro n hn E1 hE hF
      have hn2 : n < T 10 0 := by omega
      have h11 : RF1 E1 37 (T 10 0) T := fun k hk => by rw [hF _ (by decide), hF _ (by decide)]; exact hF0.1 k hk
      rw [i_X2_find_3]
      simp (disch := omega) only [i_X2_find_0, i_X2_find_1, i_X2_find_5, i_X2_find_6, i_X2_find_9, i_X2_find_12, i_X2_find_13, i_X2_find_16, i_X2_find_18, i_X2_find_19, i_X2_find_20, i_X2_find_22, i_X2_find_25, i_X2_find_26, i_X2_find_29, i_X2_find_32, i_X2_find_33, i_X2_find_36, i_X2_find_37, i_X2_find_38, i_X2_find_40, i_X2_find_41, i_X2_find_42, i_X2_find_43, i_X2_find_44, i_X2_find_47, i_X2_find_48, i_X2_find_49, i_X2_find_52, i_X2_find_53, i_X2_find_54, i_X2_find_55, i_X2_find_56, i_X2_find_57, i_X2_find_59, i_X2_find_62, i_X2_find_63, i_X2_find_64, i_X2_find_67, i_X2_find_69, i_X2_find_70, i_X2_find_71, i_X2_find_72, i_X2_find_73, i_X2_find_74, i_X2_find_76, i_X2_find_79, i_X2_find_0_e, Option.toList_some, Option.toList_none, List.cons_append, List.nil_append, List.append_nil, ↓reduceIte, q_lt, hP.2.1, hn2, t_drawOf hP hT h11 hn2, nI_add]
      refine ih (n + 1) (by omega) _ (fun k hk => ?_) (fun a ha => by rw [up2_na _ _ ha]; exact hF a ha)
      by_cases hkn : k = n
      · subst hkn; exact up2_s _ _ _ _
      · rw [up2_n _ _ (by omega)]; exact hE k (by omega)
  simp only [i_X2_find_0, i_X2_find_1, i_X2_find_5, i_X2_find_6, i_X2_find_9, i_X2_find_12, i_X2_find_13, i_X2_find_16, i_X2_find_18, i_X2_find_19, i_X2_find_20, i_X2_find_22, i_X2_find_25, i_X2_find_26, i_X2_find_29, i_X2_find_32, i_X2_find_33, i_X2_find_36, i_X2_find_37, i_X2_find_38, i_X2_find_40, i_X2_find_41, i_X2_find_42, i_X2_find_43, i_X2_find_44, i_X2_find_47, i_X2_find_48, i_X2_find_49, i_X2_find_52, i_X2_find_53, i_X2_find_54, i_X2_find_55, i_X2_find_56, i_X2_find_57, i_X2_find_59, i_X2_find_62, i_X2_find_63, i_X2_find_64, i_X2_find_67, i_X2_find_69, i_X2_find_70, i_X2_find_71, i_X2_find_72, i_X2_find_73, i_X2_find_74, i_X2_find_76, i_X2_find_79, i_X2_find_0_e, Option.toList_some, Option.toList_none, List.cons_append, List.nil_append, List.append_nil, ↓reduceIte]
  exact key (T 10 0) 0 (by omega) E (fun k hk => by omega) (fun _ _ => rfl)
theorem RelP.fr2 {A' : Nat → Nat → Int32} {E' : Nat → Nat → Int64} (h : RelP I A E S) (hA : ∀ a, a ≠ 137 → A' a = A a) (hE : ∀ a, a ≠ 136 → E' a = E a) : RelP I A' E' S := by
  obtain ⟨f1, f2, f3, f4⟩ := h.2.1
  exact ⟨h.1.fr ⟨rfl, rfl⟩ (fun c a b => hA c (by omega)), ⟨fun k hk => by rw [hE _ (by omega), hE _ (by omega)]; exact f1 k hk, fun k hk => by rw [hA _ (by omega), hA _ (by omega)]; exact f2 k hk, fun k hk => by rw [hA _ (by omega), hA _ (by omega), hA _ (by omega)]; exact f3 k hk, fun k hk => by rw [hA _ (by omega), hA _ (by omega)]; exact f4 k hk⟩, h.2.2.1.fr (fun _ _ _ _ => rfl) (fun c a b => hA c (by omega)), h.2.2.2.1.fr (fun _ => rfl) (fun _ => rfl) (fun c a b => hA c (by omega)), h.2.2.2.2.1.fr rfl (hA 132 (by decide)), h.2.2.2.2.2⟩
theorem p_would (hM : RelP I A E S) (hS : OkS S) {x : Int32} (hQ : ∀ A' E', RelP I A' E' S → Q (some (.int (o_would S.1 x))) (pm_w I A' E' J B)) : pm_call X (d + 5) mX6_wouldShed [.ref 0, .int x] (pm_w I A E J B) Q := by
  unfold o_would at hQ
  cases hx : inR x 0 2000000000 with
  | false =>
    rw [hx] at hQ
    simp (disch := omega) only [i_X6_wouldShed_0, i_X6_wouldShed_1, i_X6_wouldShed_4, i_X6_wouldShed_7, i_X6_wouldShed_8, i_X6_wouldShed_11, i_X6_wouldShed_12, i_X6_wouldShed_15, i_X6_wouldShed_16, i_X6_wouldShed_19, i_X6_wouldShed_20, i_X6_wouldShed_21, i_X6_wouldShed_24, i_X6_wouldShed_29, i_X6_wouldShed_27, i_X6_wouldShed_0_e, Option.toList_some, Option.toList_none, List.cons_append, List.nil_append, List.append_nil, ↓reduceIte, t_isBudget, hx, bz_e0]
    exact hQ A E hM
  | true =>
    rw [hx] at hQ
    have hx2 := hx
    obtain ⟨b, _, hb, rfl⟩ := inR_t (by decide) hx2
    rw [xN_n (by omega)] at hQ
    simp (disch := omega) only [i_X6_wouldShed_0, i_X6_wouldShed_1, i_X6_wouldShed_4, i_X6_wouldShed_7, i_X6_wouldShed_8, i_X6_wouldShed_11, i_X6_wouldShed_12, i_X6_wouldShed_15, i_X6_wouldShed_16, i_X6_wouldShed_19, i_X6_wouldShed_20, i_X6_wouldShed_21, i_X6_wouldShed_24, i_X6_wouldShed_29, i_X6_wouldShed_27, i_X6_wouldShed_0_e, Option.toList_some, Option.toList_none, List.cons_append, List.nil_append, List.append_nil, ↓reduceIte, t_isBudget, hx, bz_e0, reduceCtorEq, l_of]
    refine t_find hM.1 hM.2.1 hS.1 (by omega) (fun A1 E1 hA hE => ?_)
    simp (disch := omega) only [i_X6_wouldShed_0, i_X6_wouldShed_1, i_X6_wouldShed_4, i_X6_wouldShed_7, i_X6_wouldShed_8, i_X6_wouldShed_11, i_X6_wouldShed_12, i_X6_wouldShed_15, i_X6_wouldShed_16, i_X6_wouldShed_19, i_X6_wouldShed_20, i_X6_wouldShed_21, i_X6_wouldShed_24, i_X6_wouldShed_29, i_X6_wouldShed_27, i_X6_wouldShed_0_e, Option.toList_some, Option.toList_none, List.cons_append, List.nil_append, List.append_nil, ↓reduceIte]
    exact hQ A1 E1 (hM.fr2 hA hE)
theorem shO_t {b s : Nat} (h : shO T b = some s) : IsB T b (askB T) s := by
  unfold shO at h
  by_cases he : ∃ s, IsB T b (askB T) s
  · rw [dif_pos he] at h
    cases h
    exact he.choose_spec
  · rw [dif_neg he] at h
    cases h
theorem p_shed (hM : RelP I A E S) (hS : OkS S) {x : Int32} (hQ : ∀ I' A' E', RelP I' A' E' (o_shed S x).2 → Q (some (.int (o_shed S x).1)) (pm_w I' A' E' J B)) : pm_call X (d + 5) mX6_shed [.ref 0, .int x] (pm_w I A E J B) Q := by
  have hT := hS.1.1
  have h24 := hT.wf.2.1
  unfold o_shed at hQ
  cases hx : inR x 0 2000000000 with
  | false =>
    rw [hx] at hQ
    simp (disch := omega) only [i_X6_shed_0, i_X6_shed_1, i_X6_shed_4, i_X6_shed_7, i_X6_shed_9, i_X6_shed_10, i_X6_shed_11, i_X6_shed_14, i_X6_shed_15, i_X6_shed_18, i_X6_shed_19, i_X6_shed_22, i_X6_shed_23, i_X6_shed_24, i_X6_shed_27, i_X6_shed_28, i_X6_shed_29, i_X6_shed_32, i_X6_shed_33, i_X6_shed_35, i_X6_shed_38, i_X6_shed_39, i_X6_shed_40, i_X6_shed_43, i_X6_shed_44, i_X6_shed_46, i_X6_shed_47, i_X6_shed_50, i_X6_shed_53, i_X6_shed_56, i_X6_shed_57, i_X6_shed_58, i_X6_shed_61, i_X6_shed_64, i_X6_shed_65, i_X6_shed_68, i_X6_shed_71, i_X6_shed_72, i_X6_shed_73, i_X6_shed_74, i_X6_shed_77, i_X6_shed_80, i_X6_shed_81, i_X6_shed_82, i_X6_shed_85, i_X6_shed_88, i_X6_shed_0_e, Option.toList_some, Option.toList_none, List.cons_append, List.nil_append, List.append_nil, ↓reduceIte, t_isBudget, hx, bz_e0]
    exact hQ I A E hM
  | true =>
    rw [hx] at hQ
    have hx2 := hx
    obtain ⟨b, _, hb, rfl⟩ := inR_t (by decide) hx2
    rw [xN_n (by omega)] at hQ
    simp (disch := omega) only [i_X6_shed_0, i_X6_shed_1, i_X6_shed_4, i_X6_shed_7, i_X6_shed_9, i_X6_shed_10, i_X6_shed_11, i_X6_shed_14, i_X6_shed_15, i_X6_shed_18, i_X6_shed_19, i_X6_shed_22, i_X6_shed_23, i_X6_shed_24, i_X6_shed_27, i_X6_shed_28, i_X6_shed_29, i_X6_shed_32, i_X6_shed_33, i_X6_shed_35, i_X6_shed_38, i_X6_shed_39, i_X6_shed_40, i_X6_shed_43, i_X6_shed_44, i_X6_shed_46, i_X6_shed_47, i_X6_shed_50, i_X6_shed_53, i_X6_shed_56, i_X6_shed_57, i_X6_shed_58, i_X6_shed_61, i_X6_shed_64, i_X6_shed_65, i_X6_shed_68, i_X6_shed_71, i_X6_shed_72, i_X6_shed_73, i_X6_shed_74, i_X6_shed_77, i_X6_shed_80, i_X6_shed_81, i_X6_shed_82, i_X6_shed_85, i_X6_shed_88, i_X6_shed_0_e, Option.toList_some, Option.toList_none, List.cons_append, List.nil_append, List.append_nil, ↓reduceIte, t_isBudget, hx, bz_e0, reduceCtorEq, l_of]
    refine t_find hM.1 hM.2.1 hS.1 (by omega) (fun A0 E0 hA0 hE0 => ?_)
    have hM0 := hM.fr2 hA0 hE0
    cases hm : shO S.1 b with
    | none =>
      rw [hm] at hQ
      simp (disch := omega) only [i_X6_shed_0, i_X6_shed_1, i_X6_shed_4, i_X6_shed_7, i_X6_shed_9, i_X6_shed_10, i_X6_shed_11, i_X6_shed_14, i_X6_shed_15, i_X6_shed_18, i_X6_shed_19, i_X6_shed_22, i_X6_shed_23, i_X6_shed_24, i_X6_shed_27, i_X6_shed_28, i_X6_shed_29, i_X6_shed_32, i_X6_shed_33, i_X6_shed_35, i_X6_shed_38, i_X6_shed_39, i_X6_shed_40, i_X6_shed_43, i_X6_shed_44, i_X6_shed_46, i_X6_shed_47, i_X6_shed_50, i_X6_shed_53, i_X6_shed_56, i_X6_shed_57, i_X6_shed_58, i_X6_shed_61, i_X6_shed_64, i_X6_shed_65, i_X6_shed_68, i_X6_shed_71, i_X6_shed_72, i_X6_shed_73, i_X6_shed_74, i_X6_shed_77, i_X6_shed_80, i_X6_shed_81, i_X6_shed_82, i_X6_shed_85, i_X6_shed_88, i_X6_shed_0_e, Option.toList_some, Option.toList_none, List.cons_append, List.nil_append, List.append_nil, ↓reduceIte, oI, show ((-5 : Int32) < 0) = True from by decide, t_refuse]
      exact hQ _ A0 E0 hM0.reason
    | some s =>
      rw [hm] at hQ
      have hs := (shO_t hm).1.lt
      have p24 : (2 : Nat) ^ S.1 10 0 ≤ 16777216 := Nat.le_trans (Nat.pow_le_pow_right (by decide) h24) (by decide)
      have hbc : bcS s = mnS S.1 s := by
        have := bc_cnt (p := bit s) h24
        rw [bts_bit hs] at this
        exact this
      simp (disch := omega) only [i_X6_shed_0, i_X6_shed_1, i_X6_shed_4, i_X6_shed_7, i_X6_shed_9, i_X6_shed_10, i_X6_shed_11, i_X6_shed_14, i_X6_shed_15, i_X6_shed_18, i_X6_shed_19, i_X6_shed_22, i_X6_shed_23, i_X6_shed_24, i_X6_shed_27, i_X6_shed_28, i_X6_shed_29, i_X6_shed_32, i_X6_shed_33, i_X6_shed_35, i_X6_shed_38, i_X6_shed_39, i_X6_shed_40, i_X6_shed_43, i_X6_shed_44, i_X6_shed_46, i_X6_shed_47, i_X6_shed_50, i_X6_shed_53, i_X6_shed_56, i_X6_shed_57, i_X6_shed_58, i_X6_shed_61, i_X6_shed_64, i_X6_shed_65, i_X6_shed_68, i_X6_shed_71, i_X6_shed_72, i_X6_shed_73, i_X6_shed_74, i_X6_shed_77, i_X6_shed_80, i_X6_shed_81, i_X6_shed_82, i_X6_shed_85, i_X6_shed_88, i_X6_shed_0_e, Option.toList_some, Option.toList_none, List.cons_append, List.nil_append, List.append_nil, ↓reduceIte, oI, q_neg]
      refine t_beginP (d := d + 3) hM0 h24 (fun I1 A1 hB => ?_)
      simp (disch := omega) only [i_X6_shed_0, i_X6_shed_1, i_X6_shed_4, i_X6_shed_7, i_X6_shed_9, i_X6_shed_10, i_X6_shed_11, i_X6_shed_14, i_X6_shed_15, i_X6_shed_18, i_X6_shed_19, i_X6_shed_22, i_X6_shed_23, i_X6_shed_24, i_X6_shed_27, i_X6_shed_28, i_X6_shed_29, i_X6_shed_32, i_X6_shed_33, i_X6_shed_35, i_X6_shed_38, i_X6_shed_39, i_X6_shed_40, i_X6_shed_43, i_X6_shed_44, i_X6_shed_46, i_X6_shed_47, i_X6_shed_50, i_X6_shed_53, i_X6_shed_56, i_X6_shed_57, i_X6_shed_58, i_X6_shed_61, i_X6_shed_64, i_X6_shed_65, i_X6_shed_68, i_X6_shed_71, i_X6_shed_72, i_X6_shed_73, i_X6_shed_74, i_X6_shed_77, i_X6_shed_80, i_X6_shed_81, i_X6_shed_82, i_X6_shed_85, i_X6_shed_88, i_X6_shed_0_e, Option.toList_some, Option.toList_none, List.cons_append, List.nil_append, List.append_nil, ↓reduceIte]
      have key : ∀ m n, n + m = S.1 10 0 → ∀ A2 : Nat → Nat → Int32, RelTP I1 A2 1 (rqT S.1 s 0 n) → (∀ c, c ≠ 10 → A2 c = A1 c) → pm_wp X (d + 5) mX6_shed 45 [.ref 0, .int (nI b), .int (nI s), .int (nI n)] [] (pm_w I1 A2 E0 J B) Q := by
        intro m
        induction m with
        | zero =>
          intro n hn A2 h1 h2
          have : n = S.1 10 0 := by omega
          subst this
          have hsz : I1 1 12 = nI (S.1 10 0) := hB.1.1.2.1
          rw [rqT_sh hs] at h1
          rw [i_X6_shed_45]
          simp (disch := omega) only [i_X6_shed_0, i_X6_shed_1, i_X6_shed_4, i_X6_shed_7, i_X6_shed_9, i_X6_shed_10, i_X6_shed_11, i_X6_shed_14, i_X6_shed_15, i_X6_shed_18, i_X6_shed_19, i_X6_shed_22, i_X6_shed_23, i_X6_shed_24, i_X6_shed_27, i_X6_shed_28, i_X6_shed_29, i_X6_shed_32, i_X6_shed_33, i_X6_shed_35, i_X6_shed_38, i_X6_shed_39, i_X6_shed_40, i_X6_shed_43, i_X6_shed_44, i_X6_shed_46, i_X6_shed_47, i_X6_shed_50, i_X6_shed_53, i_X6_shed_56, i_X6_shed_57, i_X6_shed_58, i_X6_shed_61, i_X6_shed_64, i_X6_shed_65, i_X6_shed_68, i_X6_shed_71, i_X6_shed_72, i_X6_shed_73, i_X6_shed_74, i_X6_shed_77, i_X6_shed_80, i_X6_shed_81, i_X6_shed_82, i_X6_shed_85, i_X6_shed_88, i_X6_shed_0_e, Option.toList_some, Option.toList_none, List.cons_append, List.nil_append, List.append_nil, ↓reduceIte, hsz, q_lt, Nat.lt_irrefl, s_bitCount, hbc]
          refine t_finP hB h24 h1 (okP_sh hS.1 s).1 (fun _ _ _ => rfl) (fun c a => h2 c (by omega)) (fun I3 A3 E3 h => ?_)
          simp (disch := omega) only [i_X6_shed_0, i_X6_shed_1, i_X6_shed_4, i_X6_shed_7, i_X6_shed_9, i_X6_shed_10, i_X6_shed_11, i_X6_shed_14, i_X6_shed_15, i_X6_shed_18, i_X6_shed_19, i_X6_shed_22, i_X6_shed_23, i_X6_shed_24, i_X6_shed_27, i_X6_shed_28, i_X6_shed_29, i_X6_shed_32, i_X6_shed_33, i_X6_shed_35, i_X6_shed_38, i_X6_shed_39, i_X6_shed_40, i_X6_shed_43, i_X6_shed_44, i_X6_shed_46, i_X6_shed_47, i_X6_shed_50, i_X6_shed_53, i_X6_shed_56, i_X6_shed_57, i_X6_shed_58, i_X6_shed_61, i_X6_shed_64, i_X6_shed_65, i_X6_shed_68, i_X6_shed_71, i_X6_shed_72, i_X6_shed_73, i_X6_shed_74, i_X6_shed_77, i_X6_shed_80, i_X6_shed_81, i_X6_shed_82, i_X6_shed_85, i_X6_shed_88, i_X6_shed_0_e, Option.toList_some, Option.toList_none, List.cons_append, List.nil_append, List.append_nil, ↓reduceIte]
          exact hQ I3 A3 E3 h
        | succ m ih =>
          intro n hn A2 h1 h2
          have hn2 : n < S.1 10 0 := by omega
          have hsz : I1 1 12 = nI (S.1 10 0) := hB.1.1.2.1
          rw [i_X6_shed_45]
          cases hbt : bit s n with
          | false =>
            simp (disch := omega) only [i_X6_shed_0, i_X6_shed_1, i_X6_shed_4, i_X6_shed_7, i_X6_shed_9, i_X6_shed_10, i_X6_shed_11, i_X6_shed_14, i_X6_shed_15, i_X6_shed_18, i_X6_shed_19, i_X6_shed_22, i_X6_shed_23, i_X6_shed_24, i_X6_shed_27, i_X6_shed_28, i_X6_shed_29, i_X6_shed_32, i_X6_shed_33, i_X6_shed_35, i_X6_shed_38, i_X6_shed_39, i_X6_shed_40, i_X6_shed_43, i_X6_shed_44, i_X6_shed_46, i_X6_shed_47, i_X6_shed_50, i_X6_shed_53, i_X6_shed_56, i_X6_shed_57, i_X6_shed_58, i_X6_shed_61, i_X6_shed_64, i_X6_shed_65, i_X6_shed_68, i_X6_shed_71, i_X6_shed_72, i_X6_shed_73, i_X6_shed_74, i_X6_shed_77, i_X6_shed_80, i_X6_shed_81, i_X6_shed_82, i_X6_shed_85, i_X6_shed_88, i_X6_shed_0_e, Option.toList_some, Option.toList_none, List.cons_append, List.nil_append, List.append_nil, ↓reduceIte, hsz, q_lt, hn2, t_holds, hbt, bz_e0, nI_add]
            rw [rqT_f hbt] at h1
            exact ih (n + 1) (by omega) A2 h1 h2
          | true =>
            simp (disch := omega) only [i_X6_shed_0, i_X6_shed_1, i_X6_shed_4, i_X6_shed_7, i_X6_shed_9, i_X6_shed_10, i_X6_shed_11, i_X6_shed_14, i_X6_shed_15, i_X6_shed_18, i_X6_shed_19, i_X6_shed_22, i_X6_shed_23, i_X6_shed_24, i_X6_shed_27, i_X6_shed_28, i_X6_shed_29, i_X6_shed_32, i_X6_shed_33, i_X6_shed_35, i_X6_shed_38, i_X6_shed_39, i_X6_shed_40, i_X6_shed_43, i_X6_shed_44, i_X6_shed_46, i_X6_shed_47, i_X6_shed_50, i_X6_shed_53, i_X6_shed_56, i_X6_shed_57, i_X6_shed_58, i_X6_shed_61, i_X6_shed_64, i_X6_shed_65, i_X6_shed_68, i_X6_shed_71, i_X6_shed_72, i_X6_shed_73, i_X6_shed_74, i_X6_shed_77, i_X6_shed_80, i_X6_shed_81, i_X6_shed_82, i_X6_shed_85, i_X6_shed_88, i_X6_shed_0_e, Option.toList_some, Option.toList_none, List.cons_append, List.nil_append, List.append_nil, ↓reduceIte, hsz, q_lt, hn2, t_holds, hbt, bz_e0, nI_add, reduceCtorEq]
            refine ih (n + 1) (by omega) _ ?_ (fun c hc => by rw [up2_na _ _ hc]; exact h2 c hc)
            rw [← rqT_t hbt]
            exact h1.set (w := 8) (by decide)
      exact key (S.1 10 0) 0 (by omega) A1 (by rw [rqT_0]; exact hB.1.1) (fun _ _ => rfl)
end SHP
