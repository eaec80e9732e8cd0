/-! power, ranks, accounts -/
def pw (T : Tr) (k : Nat) : Nat := if rn T k then nm T k * T 4 k / dn T k else 0
theorem pw_b {T : Tr} (hT : okT T) {k : Nat} (hk : k < T 10 0) : pw T k ≤ 4782969000000 := by
  have h1 := nm_b hT hk
  have h2 := (hT.2.2.2.2.2.1 k hk).2.1
  unfold pw
  split
  · exact Nat.le_trans (Nat.div_le_self _ _) (Nat.le_trans (Nat.mul_le_mul h1.2 h2) (by decide))
  · omega
theorem spw_b {T : Tr} (hT : okT T) : ∀ n, n ≤ T 10 0 → sumN (pw T) n ≤ 24 * 4782969000000 := fun n hn => by
  have := sumN_le (f := pw T) (b := 4782969000000) n (fun k hk => pw_b hT (by omega))
  have h24 := hT.wf.2.1
  exact Nat.le_trans this (Nat.mul_le_mul_right _ (by omega))
/-- node o comes ahead of node n by its rate -/
def ahd (T : Tr) (o n : Nat) : Bool := decide (nm T n * dn T o < nm T o * dn T n) || (decide (nm T o * dn T n = nm T n * dn T o) && decide (o < n))
def rk (T : Tr) (n : Nat) : Nat := cnt (fun o => ahd T o n) (T 10 0)
/-- the first place from j on, within m places -/
def frs (p : Nat → Bool) : Nat → Nat → Option Nat
  | _, 0 => none
  | j, m + 1 => if p j then some j else frs p (j + 1) m
def oJ (o : Option Nat) : Int32 := match o with
  | none => -1
  | some k => nI k
def mxN (f : Nat → Nat) : Nat → Nat
  | 0 => 0
  | n + 1 => if mxN f n < f n then f n else mxN f n
def cnB (T : Tr) (k : Nat) : Bool := decide (T 0 k = 5) && cnn T k
def anyN (p : Nat → Bool) : Nat → Bool
  | 0 => false
  | n + 1 => anyN p n || p n
def skd (T : Tr) : Nat → Int32
  | 0 => nI 0
  | n + 1 => if nI (T 11 n) < skI T n then skd T n ||| nI 1 <<< (nI n &&& 31) else skd T n
theorem or_0 {x : Int32} : x ||| nI 0 = x := by rw [nI_0]; exact Int32.or_zero
theorem l_sub0 {a b : Nat} (ha : a < 4611686018427387904) (hb : b < 4611686018427387904) : ((lN a - lN b = lN 0) = (a = b)) ∧ ((lN 0 < lN a - lN b) = (b < a)) := by
  have e : (lN a - lN b).toInt = (a : Int) - b := by
    rw [Int64.toInt_sub, pk_lT (by omega), pk_lT (by omega), Int.bmod_eq_of_le (by omega) (by omega)]
  refine ⟨propext ?_, propext ?_⟩
  · rw [← Int64.toInt_inj, e, pk_lT (by omega)]; omega
  · rw [Int64.lt_iff_toInt_lt, e, pk_lT (by omega)]; omega
section MOF
variable {X : pm_X} {d : Nat} {G : pm_H} {Q : Option Value → pm_H → Prop} {I A : Nat → Nat → Int32} {E : Nat → Nat → Int64} {J : Nat → Int32} {B : Nat → Nat → Int32} {T : Tr}
theorem s_powerOf (hR : RelT (B 140) T) (hT : okT T) {k : Nat} (hk : k < T 10 0) : pm_call X (d + 5) mX7_powerOf [.ref 139, .int (nI k)] (pm_w I A E J B) Q ↔ Q (some (.long (lN (pw T k)))) (pm_w I A E J B) := by
  have h24 := hT.wf.2.1
  have b1 := nm_b hT hk
  have b2 := dn_b hT hk
  have s4 := (hT.2.2.2.2.2.1 k hk).2.1
  have hm : nm T k * T 4 k ≤ 531441000000 * 9 := Nat.mul_le_mul b1.2 s4
  have hne : ¬ lN (dn T k) = 0 := l_ne0 (by omega) b2.1
  unfold pw
  cases hr : rn T k with
  | false => simp (disch := first | omega | assumption) only [i_X7_powerOf_0, i_X7_powerOf_1, i_X7_powerOf_2, i_X7_powerOf_5, i_X7_powerOf_8, i_X7_powerOf_9, i_X7_powerOf_10, i_X7_powerOf_13, i_X7_powerOf_14, i_X7_powerOf_15, i_X7_powerOf_16, i_X7_powerOf_19, i_X7_powerOf_20, i_X7_powerOf_21, i_X7_powerOf_22, i_X7_powerOf_23, i_X7_powerOf_26, i_X7_powerOf_27, i_X7_powerOf_31, i_X7_powerOf_30, i_X7_powerOf_0_e, Option.toList_some, Option.toList_none, List.cons_append, List.nil_append, List.append_nil, ↓reduceIte, bz_e0, s_runs hR hT hk, hr]; simp
  | true => simp (disch := first | omega | assumption) only [i_X7_powerOf_0, i_X7_powerOf_1, i_X7_powerOf_2, i_X7_powerOf_5, i_X7_powerOf_8, i_X7_powerOf_9, i_X7_powerOf_10, i_X7_powerOf_13, i_X7_powerOf_14, i_X7_powerOf_15, i_X7_powerOf_16, i_X7_powerOf_19, i_X7_powerOf_20, i_X7_powerOf_21, i_X7_powerOf_22, i_X7_powerOf_23, i_X7_powerOf_26, i_X7_powerOf_27, i_X7_powerOf_31, i_X7_powerOf_30, i_X7_powerOf_0_e, Option.toList_some, Option.toList_none, List.cons_append, List.nil_append, List.append_nil, ↓reduceIte, bz_e0, s_runs hR hT hk, hr, s_above hR hT hk, s_below hR hT hk, s_nT hR h24, l_of, lN_mul, pk_lDiv, reduceCtorEq]
theorem s_powerOfAll (hR : RelT (B 140) T) (hT : okT T) : pm_call X (d + 6) mX7_powerOfAll [.ref 139] (pm_w I A E J B) Q ↔ Q (some (.long (lN (sumN (pw T) (T 10 0))))) (pm_w I A E J B) := by
  have h24 := hT.wf.2.1
  have key : ∀ j, j ≤ T 10 0 → ∀ _ : Unit, pm_wp X (d + 6) mX7_powerOfAll 4 [.ref 139, .long (lN (sumN (pw T) j)), pm_U, .int (nI j)] [] (pm_w I A E J B) Q ↔ Q (some (.long (lN (sumN (pw T) (T 10 0))))) (pm_w I A E J B) := by
    refine loop_r (fun _ => ?_) (fun j hj ih _ => ?_)
    · rw [i_X7_powerOfAll_4]
      simp (disch := omega) only [i_X7_powerOfAll_0, i_X7_powerOfAll_1, i_X7_powerOfAll_2, i_X7_powerOfAll_3, i_X7_powerOfAll_5, i_X7_powerOfAll_6, i_X7_powerOfAll_9, i_X7_powerOfAll_10, i_X7_powerOfAll_11, i_X7_powerOfAll_14, i_X7_powerOfAll_15, i_X7_powerOfAll_16, i_X7_powerOfAll_17, i_X7_powerOfAll_18, i_X7_powerOfAll_21, i_X7_powerOfAll_24, i_X7_powerOfAll_25, i_X7_powerOfAll_33, i_X7_powerOfAll_34, i_X7_powerOfAll_35, i_X7_powerOfAll_38, i_X7_powerOfAll_28, i_X7_powerOfAll_29, i_X7_powerOfAll_30, i_X7_powerOfAll_41, i_X7_powerOfAll_42, i_X7_powerOfAll_0_e, Option.toList_some, Option.toList_none, List.cons_append, List.nil_append, List.append_nil, ↓reduceIte, q_lt, hR.2.1, Nat.lt_irrefl]
    · have ih := ih ()
      have s4 := (hT.2.2.2.2.2.1 j hj).2.1
      rw [show sumN (pw T) (j + 1) = sumN (pw T) j + pw T j from rfl] at ih
      rw [i_X7_powerOfAll_4]
      by_cases h4 : T 4 j = 0
      · have : pw T j = 0 := by unfold pw; rw [h4]; simp
        rw [this] at ih
        simp (disch := omega) only [i_X7_powerOfAll_0, i_X7_powerOfAll_1, i_X7_powerOfAll_2, i_X7_powerOfAll_3, i_X7_powerOfAll_5, i_X7_powerOfAll_6, i_X7_powerOfAll_9, i_X7_powerOfAll_10, i_X7_powerOfAll_11, i_X7_powerOfAll_14, i_X7_powerOfAll_15, i_X7_powerOfAll_16, i_X7_powerOfAll_17, i_X7_powerOfAll_18, i_X7_powerOfAll_21, i_X7_powerOfAll_24, i_X7_powerOfAll_25, i_X7_powerOfAll_33, i_X7_powerOfAll_34, i_X7_powerOfAll_35, i_X7_powerOfAll_38, i_X7_powerOfAll_28, i_X7_powerOfAll_29, i_X7_powerOfAll_30, i_X7_powerOfAll_41, i_X7_powerOfAll_42, i_X7_powerOfAll_0_e, Option.toList_some, Option.toList_none, List.cons_append, List.nil_append, List.append_nil, ↓reduceIte, q_lt, q_e0, nI_add, lN_add, hR.2.1, hj, s_nT hR h24, h4]
        exact ih
      · simp (disch := omega) only [i_X7_powerOfAll_0, i_X7_powerOfAll_1, i_X7_powerOfAll_2, i_X7_powerOfAll_3, i_X7_powerOfAll_5, i_X7_powerOfAll_6, i_X7_powerOfAll_9, i_X7_powerOfAll_10, i_X7_powerOfAll_11, i_X7_powerOfAll_14, i_X7_powerOfAll_15, i_X7_powerOfAll_16, i_X7_powerOfAll_17, i_X7_powerOfAll_18, i_X7_powerOfAll_21, i_X7_powerOfAll_24, i_X7_powerOfAll_25, i_X7_powerOfAll_33, i_X7_powerOfAll_34, i_X7_powerOfAll_35, i_X7_powerOfAll_38, i_X7_powerOfAll_28, i_X7_powerOfAll_29, i_X7_powerOfAll_30, i_X7_powerOfAll_41, i_X7_powerOfAll_42, i_X7_powerOfAll_0_e, Option.toList_some, Option.toList_none, List.cons_append, List.nil_append, List.append_nil, ↓reduceIte, q_lt, q_e0, nI_add, lN_add, hR.2.1, hj, s_nT hR h24, h4, s_powerOf hR hT hj]
        exact ih
  simp only [i_X7_powerOfAll_0, i_X7_powerOfAll_1, i_X7_powerOfAll_2, i_X7_powerOfAll_3, i_X7_powerOfAll_5, i_X7_powerOfAll_6, i_X7_powerOfAll_9, i_X7_powerOfAll_10, i_X7_powerOfAll_11, i_X7_powerOfAll_14, i_X7_powerOfAll_15, i_X7_powerOfAll_16, i_X7_powerOfAll_17, i_X7_powerOfAll_18, i_X7_powerOfAll_21, i_X7_powerOfAll_24, i_X7_powerOfAll_25, i_X7_powerOfAll_33, i_X7_powerOfAll_34, i_X7_powerOfAll_35, i_X7_powerOfAll_38, i_X7_powerOfAll_28, i_X7_powerOfAll_29, i_X7_powerOfAll_30, i_X7_powerOfAll_41, i_X7_powerOfAll_42, i_X7_powerOfAll_0_e, Option.toList_some, Option.toList_none, List.cons_append, List.nil_append, List.append_nil, ↓reduceIte]
  exact key 0 (Nat.zero_le _) ()
theorem s_isAhead (hR : RelT (B 140) T) (hT : okT T) {o n : Nat} (ho : o < T 10 0) (hn : n < T 10 0) : pm_call X (d + 3) mX7_isAhead [.ref 139, .int (nI o), .int (nI n)] (pm_w I A E J B) Q ↔ Q (some (.int (bz (ahd T o n)))) (pm_w I A E J B) := by
  have h24 := hT.wf.2.1
  have b1 := nm_b hT ho
  have b2 := dn_b hT ho
  have b3 := nm_b hT hn
  have b4 := dn_b hT hn
  have m1 : nm T o * dn T n ≤ 531441000000 * 531441 := Nat.mul_le_mul b1.2 b4.2
  have m2 : nm T n * dn T o ≤ 531441000000 * 531441 := Nat.mul_le_mul b3.2 b2.2
  obtain ⟨e1, e2⟩ := l_sub0 (a := nm T o * dn T n) (b := nm T n * dn T o) (by omega) (by omega)
  unfold ahd
  by_cases h1 : nm T o * dn T n = nm T n * dn T o
  · replace e1 := e1.trans (eq_true h1)
    by_cases h3 : o < n
    · simp (disch := omega) only [i_X7_isAhead_0, i_X7_isAhead_1, i_X7_isAhead_2, i_X7_isAhead_5, i_X7_isAhead_6, i_X7_isAhead_7, i_X7_isAhead_10, i_X7_isAhead_11, i_X7_isAhead_12, i_X7_isAhead_13, i_X7_isAhead_16, i_X7_isAhead_17, i_X7_isAhead_18, i_X7_isAhead_21, i_X7_isAhead_22, i_X7_isAhead_23, i_X7_isAhead_24, i_X7_isAhead_25, i_X7_isAhead_26, i_X7_isAhead_27, i_X7_isAhead_30, i_X7_isAhead_31, i_X7_isAhead_32, i_X7_isAhead_33, i_X7_isAhead_36, i_X7_isAhead_37, i_X7_isAhead_54, i_X7_isAhead_54b, i_X7_isAhead_54c, i_X7_isAhead_40, i_X7_isAhead_41, i_X7_isAhead_44, i_X7_isAhead_45, i_X7_isAhead_46, i_X7_isAhead_49, i_X7_isAhead_50, i_X7_isAhead_53, i_X7_isAhead_0_e, Option.toList_some, Option.toList_none, List.cons_append, List.nil_append, List.append_nil, ↓reduceIte, s_above hR hT ho, s_above hR hT hn, s_below hR hT ho, s_below hR hT hn, lN_mul, lg_e0, lg_gt, q_lt, e1, h3]
      simp [bz_t, h1]
    · simp (disch := omega) only [i_X7_isAhead_0, i_X7_isAhead_1, i_X7_isAhead_2, i_X7_isAhead_5, i_X7_isAhead_6, i_X7_isAhead_7, i_X7_isAhead_10, i_X7_isAhead_11, i_X7_isAhead_12, i_X7_isAhead_13, i_X7_isAhead_16, i_X7_isAhead_17, i_X7_isAhead_18, i_X7_isAhead_21, i_X7_isAhead_22, i_X7_isAhead_23, i_X7_isAhead_24, i_X7_isAhead_25, i_X7_isAhead_26, i_X7_isAhead_27, i_X7_isAhead_30, i_X7_isAhead_31, i_X7_isAhead_32, i_X7_isAhead_33, i_X7_isAhead_36, i_X7_isAhead_37, i_X7_isAhead_54, i_X7_isAhead_54b, i_X7_isAhead_54c, i_X7_isAhead_40, i_X7_isAhead_41, i_X7_isAhead_44, i_X7_isAhead_45, i_X7_isAhead_46, i_X7_isAhead_49, i_X7_isAhead_50, i_X7_isAhead_53, i_X7_isAhead_0_e, Option.toList_some, Option.toList_none, List.cons_append, List.nil_append, List.append_nil, ↓reduceIte, s_above hR hT ho, s_above hR hT hn, s_below hR hT ho, s_below hR hT hn, lN_mul, lg_e0, lg_gt, q_lt, e1, h3]
      simp [bz_f, h1]
  · replace e1 := e1.trans (eq_false h1)
    by_cases h2 : nm T n * dn T o < nm T o * dn T n
    · simp (disch := omega) only [i_X7_isAhead_0, i_X7_isAhead_1, i_X7_isAhead_2, i_X7_isAhead_5, i_X7_isAhead_6, i_X7_isAhead_7, i_X7_isAhead_10, i_X7_isAhead_11, i_X7_isAhead_12, i_X7_isAhead_13, i_X7_isAhead_16, i_X7_isAhead_17, i_X7_isAhead_18, i_X7_isAhead_21, i_X7_isAhead_22, i_X7_isAhead_23, i_X7_isAhead_24, i_X7_isAhead_25, i_X7_isAhead_26, i_X7_isAhead_27, i_X7_isAhead_30, i_X7_isAhead_31, i_X7_isAhead_32, i_X7_isAhead_33, i_X7_isAhead_36, i_X7_isAhead_37, i_X7_isAhead_54, i_X7_isAhead_54b, i_X7_isAhead_54c, i_X7_isAhead_40, i_X7_isAhead_41, i_X7_isAhead_44, i_X7_isAhead_45, i_X7_isAhead_46, i_X7_isAhead_49, i_X7_isAhead_50, i_X7_isAhead_53, i_X7_isAhead_0_e, Option.toList_some, Option.toList_none, List.cons_append, List.nil_append, List.append_nil, ↓reduceIte, s_above hR hT ho, s_above hR hT hn, s_below hR hT ho, s_below hR hT hn, lN_mul, lg_e0, lg_gt, e1, e2, h2]
      simp [bz_t]
    · simp (disch := omega) only [i_X7_isAhead_0, i_X7_isAhead_1, i_X7_isAhead_2, i_X7_isAhead_5, i_X7_isAhead_6, i_X7_isAhead_7, i_X7_isAhead_10, i_X7_isAhead_11, i_X7_isAhead_12, i_X7_isAhead_13, i_X7_isAhead_16, i_X7_isAhead_17, i_X7_isAhead_18, i_X7_isAhead_21, i_X7_isAhead_22, i_X7_isAhead_23, i_X7_isAhead_24, i_X7_isAhead_25, i_X7_isAhead_26, i_X7_isAhead_27, i_X7_isAhead_30, i_X7_isAhead_31, i_X7_isAhead_32, i_X7_isAhead_33, i_X7_isAhead_36, i_X7_isAhead_37, i_X7_isAhead_54, i_X7_isAhead_54b, i_X7_isAhead_54c, i_X7_isAhead_40, i_X7_isAhead_41, i_X7_isAhead_44, i_X7_isAhead_45, i_X7_isAhead_46, i_X7_isAhead_49, i_X7_isAhead_50, i_X7_isAhead_53, i_X7_isAhead_0_e, Option.toList_some, Option.toList_none, List.cons_append, List.nil_append, List.append_nil, ↓reduceIte, s_above hR hT ho, s_above hR hT hn, s_below hR hT ho, s_below hR hT hn, lN_mul, lg_e0, lg_gt, e1, e2, h2]
      simp [bz_f, h1]
theorem s_ranked (hR : RelT (B 140) T) (hT : okT T) {x : Int32} : pm_call X (d + 4) mX7_ranked [.ref 139, .int x] (pm_w I A E J B) Q ↔ Q (some (.int (oJ (frs (fun n => decide (nI (rk T n) = x)) 0 (T 10 0))))) (pm_w I A E J B) := by
  have h24 := hT.wf.2.1
  have inner : ∀ {n : Nat}, n < T 10 0 → ∀ j, j ≤ T 10 0 → ∀ _ : Unit, pm_wp X (d + 4) mX7_ranked 17 [.ref 139, .int x, .int (nI n), .int (nI (cnt (fun o => ahd T o n) j)), .int (nI j)] [] (pm_w I A E J B) Q ↔ pm_wp X (d + 4) mX7_ranked 52 [.ref 139, .int x, .int (nI n), .int (nI (rk T n)), .int (nI (T 10 0))] [] (pm_w I A E J B) Q := by
    intro n hn
    refine loop_r (fun _ => ?_) (fun j hj ih _ => ?_)
    · rw [i_X7_ranked_17]
      simp (disch := omega) only [i_X7_ranked_0, i_X7_ranked_1, i_X7_ranked_2, i_X7_ranked_3, i_X7_ranked_4, i_X7_ranked_7, i_X7_ranked_8, i_X7_ranked_9, i_X7_ranked_12, i_X7_ranked_13, i_X7_ranked_14, i_X7_ranked_15, i_X7_ranked_19, i_X7_ranked_20, i_X7_ranked_23, i_X7_ranked_24, i_X7_ranked_25, i_X7_ranked_28, i_X7_ranked_29, i_X7_ranked_30, i_X7_ranked_32, i_X7_ranked_33, i_X7_ranked_36, i_X7_ranked_39, i_X7_ranked_40, i_X7_ranked_44, i_X7_ranked_45, i_X7_ranked_46, i_X7_ranked_49, i_X7_ranked_43, i_X7_ranked_53, i_X7_ranked_54, i_X7_ranked_57, i_X7_ranked_58, i_X7_ranked_59, i_X7_ranked_62, i_X7_ranked_65, i_X7_ranked_66, i_X7_ranked_0_e, Option.toList_some, Option.toList_none, List.cons_append, List.nil_append, List.append_nil, ↓reduceIte, q_lt, hR.2.1, Nat.lt_irrefl, rk]
    · have ih := ih ()
      rw [show cnt (fun o => ahd T o n) (j + 1) = cnt (fun o => ahd T o n) j + (if ahd T j n then 1 else 0) from rfl] at ih
      rw [i_X7_ranked_17]
      cases ha : ahd T j n with
      | false =>
        rw [ha] at ih
        simp (disch := omega) only [i_X7_ranked_0, i_X7_ranked_1, i_X7_ranked_2, i_X7_ranked_3, i_X7_ranked_4, i_X7_ranked_7, i_X7_ranked_8, i_X7_ranked_9, i_X7_ranked_12, i_X7_ranked_13, i_X7_ranked_14, i_X7_ranked_15, i_X7_ranked_19, i_X7_ranked_20, i_X7_ranked_23, i_X7_ranked_24, i_X7_ranked_25, i_X7_ranked_28, i_X7_ranked_29, i_X7_ranked_30, i_X7_ranked_32, i_X7_ranked_33, i_X7_ranked_36, i_X7_ranked_39, i_X7_ranked_40, i_X7_ranked_44, i_X7_ranked_45, i_X7_ranked_46, i_X7_ranked_49, i_X7_ranked_43, i_X7_ranked_53, i_X7_ranked_54, i_X7_ranked_57, i_X7_ranked_58, i_X7_ranked_59, i_X7_ranked_62, i_X7_ranked_65, i_X7_ranked_66, i_X7_ranked_0_e, Option.toList_some, Option.toList_none, List.cons_append, List.nil_append, List.append_nil, ↓reduceIte, q_lt, nI_add, bz_e0, hR.2.1, hj, s_isAhead hR hT hj hn, ha, reduceCtorEq]
        exact ih
      | true =>
        rw [ha] at ih
        simp (disch := omega) only [i_X7_ranked_0, i_X7_ranked_1, i_X7_ranked_2, i_X7_ranked_3, i_X7_ranked_4, i_X7_ranked_7, i_X7_ranked_8, i_X7_ranked_9, i_X7_ranked_12, i_X7_ranked_13, i_X7_ranked_14, i_X7_ranked_15, i_X7_ranked_19, i_X7_ranked_20, i_X7_ranked_23, i_X7_ranked_24, i_X7_ranked_25, i_X7_ranked_28, i_X7_ranked_29, i_X7_ranked_30, i_X7_ranked_32, i_X7_ranked_33, i_X7_ranked_36, i_X7_ranked_39, i_X7_ranked_40, i_X7_ranked_44, i_X7_ranked_45, i_X7_ranked_46, i_X7_ranked_49, i_X7_ranked_43, i_X7_ranked_53, i_X7_ranked_54, i_X7_ranked_57, i_X7_ranked_58, i_X7_ranked_59, i_X7_ranked_62, i_X7_ranked_65, i_X7_ranked_66, i_X7_ranked_0_e, Option.toList_some, Option.toList_none, List.cons_append, List.nil_append, List.append_nil, ↓reduceIte, q_lt, nI_add, bz_e0, hR.2.1, hj, s_isAhead hR hT hj hn, ha, reduceCtorEq]
        exact ih
  have outer : ∀ m j, j + m = T 10 0 → ∀ v3 v4, pm_wp X (d + 4) mX7_ranked 2 [.ref 139, .int x, .int (nI j), v3, v4] [] (pm_w I A E J B) Q ↔ Q (some (.int (oJ (frs (fun n => decide (nI (rk T n) = x)) j m)))) (pm_w I A E J B) := by
    intro m
    induction m with
    | zero =>
      intro j hj v3 v4
      have : j = T 10 0 := by omega
      subst this
      rw [i_X7_ranked_2]
      simp (disch := omega) only [i_X7_ranked_0, i_X7_ranked_1, i_X7_ranked_3, i_X7_ranked_4, i_X7_ranked_7, i_X7_ranked_8, i_X7_ranked_9, i_X7_ranked_12, i_X7_ranked_13, i_X7_ranked_14, i_X7_ranked_15, i_X7_ranked_19, i_X7_ranked_20, i_X7_ranked_23, i_X7_ranked_24, i_X7_ranked_25, i_X7_ranked_28, i_X7_ranked_29, i_X7_ranked_30, i_X7_ranked_32, i_X7_ranked_33, i_X7_ranked_36, i_X7_ranked_39, i_X7_ranked_40, i_X7_ranked_44, i_X7_ranked_45, i_X7_ranked_46, i_X7_ranked_49, i_X7_ranked_43, i_X7_ranked_52, i_X7_ranked_53, i_X7_ranked_54, i_X7_ranked_57, i_X7_ranked_58, i_X7_ranked_59, i_X7_ranked_62, i_X7_ranked_65, i_X7_ranked_66, i_X7_ranked_0_e, Option.toList_some, Option.toList_none, List.cons_append, List.nil_append, List.append_nil, ↓reduceIte, q_lt, hR.2.1, Nat.lt_irrefl, frs, oJ]
    | succ m ih =>
      intro j hj v3 v4
      rw [i_X7_ranked_2]
      have hj2 : j < T 10 0 := by omega
      simp (disch := omega) only [i_X7_ranked_0, i_X7_ranked_1, i_X7_ranked_3, i_X7_ranked_4, i_X7_ranked_7, i_X7_ranked_8, i_X7_ranked_9, i_X7_ranked_12, i_X7_ranked_13, i_X7_ranked_14, i_X7_ranked_15, i_X7_ranked_19, i_X7_ranked_20, i_X7_ranked_23, i_X7_ranked_24, i_X7_ranked_25, i_X7_ranked_28, i_X7_ranked_29, i_X7_ranked_30, i_X7_ranked_32, i_X7_ranked_33, i_X7_ranked_36, i_X7_ranked_39, i_X7_ranked_40, i_X7_ranked_44, i_X7_ranked_45, i_X7_ranked_46, i_X7_ranked_49, i_X7_ranked_43, i_X7_ranked_52, i_X7_ranked_53, i_X7_ranked_54, i_X7_ranked_57, i_X7_ranked_58, i_X7_ranked_59, i_X7_ranked_62, i_X7_ranked_65, i_X7_ranked_66, i_X7_ranked_0_e, Option.toList_some, Option.toList_none, List.cons_append, List.nil_append, List.append_nil, ↓reduceIte, q_lt, hR.2.1, hj2]
      have hin := inner hj2 0 (Nat.zero_le _) ()
      rw [show cnt (fun o => ahd T o j) 0 = 0 from rfl] at hin
      rw [hin]
      unfold frs
      by_cases hc : nI (rk T j) = x
      · simp (disch := omega) only [i_X7_ranked_0, i_X7_ranked_1, i_X7_ranked_3, i_X7_ranked_4, i_X7_ranked_7, i_X7_ranked_8, i_X7_ranked_9, i_X7_ranked_12, i_X7_ranked_13, i_X7_ranked_14, i_X7_ranked_15, i_X7_ranked_19, i_X7_ranked_20, i_X7_ranked_23, i_X7_ranked_24, i_X7_ranked_25, i_X7_ranked_28, i_X7_ranked_29, i_X7_ranked_30, i_X7_ranked_32, i_X7_ranked_33, i_X7_ranked_36, i_X7_ranked_39, i_X7_ranked_40, i_X7_ranked_44, i_X7_ranked_45, i_X7_ranked_46, i_X7_ranked_49, i_X7_ranked_43, i_X7_ranked_52, i_X7_ranked_53, i_X7_ranked_54, i_X7_ranked_57, i_X7_ranked_58, i_X7_ranked_59, i_X7_ranked_62, i_X7_ranked_65, i_X7_ranked_66, i_X7_ranked_0_e, Option.toList_some, Option.toList_none, List.cons_append, List.nil_append, List.append_nil, ↓reduceIte, hc, decide_true, oJ]
      · simp (disch := omega) only [i_X7_ranked_0, i_X7_ranked_1, i_X7_ranked_3, i_X7_ranked_4, i_X7_ranked_7, i_X7_ranked_8, i_X7_ranked_9, i_X7_ranked_12, i_X7_ranked_13, i_X7_ranked_14, i_X7_ranked_15, i_X7_ranked_19, i_X7_ranked_20, i_X7_ranked_23, i_X7_ranked_24, i_X7_ranked_25, i_X7_ranked_28, i_X7_ranked_29, i_X7_ranked_30, i_X7_ranked_32, i_X7_ranked_33, i_X7_ranked_36, i_X7_ranked_39, i_X7_ranked_40, i_X7_ranked_44, i_X7_ranked_45, i_X7_ranked_46, i_X7_ranked_49, i_X7_ranked_43, i_X7_ranked_52, i_X7_ranked_53, i_X7_ranked_54, i_X7_ranked_57, i_X7_ranked_58, i_X7_ranked_59, i_X7_ranked_62, i_X7_ranked_65, i_X7_ranked_66, i_X7_ranked_0_e, Option.toList_some, Option.toList_none, List.cons_append, List.nil_append, List.append_nil, ↓reduceIte, hc, decide_false, nI_add, Bool.false_eq_true]
        exact ih (j + 1) (by omega) _ _
  simp only [i_X7_ranked_0, i_X7_ranked_1, i_X7_ranked_3, i_X7_ranked_4, i_X7_ranked_7, i_X7_ranked_8, i_X7_ranked_9, i_X7_ranked_12, i_X7_ranked_13, i_X7_ranked_14, i_X7_ranked_15, i_X7_ranked_19, i_X7_ranked_20, i_X7_ranked_23, i_X7_ranked_24, i_X7_ranked_25, i_X7_ranked_28, i_X7_ranked_29, i_X7_ranked_30, i_X7_ranked_32, i_X7_ranked_33, i_X7_ranked_36, i_X7_ranked_39, i_X7_ranked_40, i_X7_ranked_44, i_X7_ranked_45, i_X7_ranked_46, i_X7_ranked_49, i_X7_ranked_43, i_X7_ranked_52, i_X7_ranked_53, i_X7_ranked_54, i_X7_ranked_57, i_X7_ranked_58, i_X7_ranked_59, i_X7_ranked_62, i_X7_ranked_65, i_X7_ranked_66, i_X7_ranked_0_e, Option.toList_some, Option.toList_none, List.cons_append, List.nil_append, List.append_nil, ↓reduceIte]
  exact outer (T 10 0) 0 (by omega) _ _
def sum_s (T : Tr) (w : Nat) (k : Nat) : Nat := if w = 9 then T 9 k else if (if w = 6 then rn T k else decide (T 0 k = w)) then 1 else 0
theorem s_sumOf (hR : RelT (B 140) T) (hT : okT T) {w : Nat} (hw : w < 10) : pm_call X (d + 5) mX7_sumOf [.ref 139, .int (nI w)] (pm_w I A E J B) Q ↔ Q (some (.int (nI (sumN (sum_s T w) (T 10 0))))) (pm_w I A E J B) := by
  have h24 := hT.wf.2.1
  have key : ∀ j, j ≤ T 10 0 → ∀ _ : Unit, pm_wp X (d + 5) mX7_sumOf 4 [.ref 139, .int (nI w), .int (nI (sumN (sum_s T w) j)), .int (nI j)] [] (pm_w I A E J B) Q ↔ Q (some (.int (nI (sumN (sum_s T w) (T 10 0))))) (pm_w I A E J B) := by
    refine loop_r (fun _ => ?_) (fun j hj ih _ => ?_)
    · rw [i_X7_sumOf_4]
      simp (disch := omega) only [i_X7_sumOf_0, i_X7_sumOf_1, i_X7_sumOf_2, i_X7_sumOf_3, i_X7_sumOf_5, i_X7_sumOf_6, i_X7_sumOf_9, i_X7_sumOf_10, i_X7_sumOf_11, i_X7_sumOf_14, i_X7_sumOf_15, i_X7_sumOf_17, i_X7_sumOf_20, i_X7_sumOf_21, i_X7_sumOf_22, i_X7_sumOf_25, i_X7_sumOf_26, i_X7_sumOf_29, i_X7_sumOf_30, i_X7_sumOf_31, i_X7_sumOf_34, i_X7_sumOf_38, i_X7_sumOf_39, i_X7_sumOf_93, i_X7_sumOf_96, i_X7_sumOf_37, i_X7_sumOf_42, i_X7_sumOf_43, i_X7_sumOf_44, i_X7_sumOf_46, i_X7_sumOf_49, i_X7_sumOf_50, i_X7_sumOf_51, i_X7_sumOf_53, i_X7_sumOf_56, i_X7_sumOf_91, i_X7_sumOf_92, i_X7_sumOf_59, i_X7_sumOf_60, i_X7_sumOf_62, i_X7_sumOf_65, i_X7_sumOf_66, i_X7_sumOf_67, i_X7_sumOf_70, i_X7_sumOf_73, i_X7_sumOf_86, i_X7_sumOf_87, i_X7_sumOf_90, i_X7_sumOf_76, i_X7_sumOf_77, i_X7_sumOf_78, i_X7_sumOf_79, i_X7_sumOf_82, i_X7_sumOf_83, i_X7_sumOf_99, i_X7_sumOf_100, i_X7_sumOf_0_e, Option.toList_some, Option.toList_none, List.cons_append, List.nil_append, List.append_nil, ↓reduceIte, q_lt, hR.2.1, Nat.lt_irrefl]
    · have ih := ih ()
      have s0 := hT.small hj (w := 0) (by omega) (by omega)
      rw [show sumN (sum_s T w) (j + 1) = sumN (sum_s T w) j + sum_s T w j from rfl, sum_s] at ih
      rw [i_X7_sumOf_4]
      have h10 : ¬ w = 10 := by omega
      by_cases h9 : w = 9
      · rw [if_pos h9] at ih
        subst h9
        simp (disch := omega) only [i_X7_sumOf_0, i_X7_sumOf_1, i_X7_sumOf_2, i_X7_sumOf_3, i_X7_sumOf_5, i_X7_sumOf_6, i_X7_sumOf_9, i_X7_sumOf_10, i_X7_sumOf_11, i_X7_sumOf_14, i_X7_sumOf_15, i_X7_sumOf_17, i_X7_sumOf_20, i_X7_sumOf_21, i_X7_sumOf_22, i_X7_sumOf_25, i_X7_sumOf_26, i_X7_sumOf_29, i_X7_sumOf_30, i_X7_sumOf_31, i_X7_sumOf_34, i_X7_sumOf_38, i_X7_sumOf_39, i_X7_sumOf_93, i_X7_sumOf_96, i_X7_sumOf_37, i_X7_sumOf_42, i_X7_sumOf_43, i_X7_sumOf_44, i_X7_sumOf_46, i_X7_sumOf_49, i_X7_sumOf_50, i_X7_sumOf_51, i_X7_sumOf_53, i_X7_sumOf_56, i_X7_sumOf_91, i_X7_sumOf_92, i_X7_sumOf_59, i_X7_sumOf_60, i_X7_sumOf_62, i_X7_sumOf_65, i_X7_sumOf_66, i_X7_sumOf_67, i_X7_sumOf_70, i_X7_sumOf_73, i_X7_sumOf_86, i_X7_sumOf_87, i_X7_sumOf_90, i_X7_sumOf_76, i_X7_sumOf_77, i_X7_sumOf_78, i_X7_sumOf_79, i_X7_sumOf_82, i_X7_sumOf_83, i_X7_sumOf_99, i_X7_sumOf_100, i_X7_sumOf_0_e, Option.toList_some, Option.toList_none, List.cons_append, List.nil_append, List.append_nil, ↓reduceIte, q_lt, q_eq, nI_add, hR.2.1, hj, s_nT hR h24, h10]
        exact ih
      · rw [if_neg h9] at ih
        by_cases h6 : w = 6
        · rw [if_pos h6] at ih
          cases hr : rn T j with
          | false =>
            rw [hr] at ih
            simp (disch := omega) only [i_X7_sumOf_0, i_X7_sumOf_1, i_X7_sumOf_2, i_X7_sumOf_3, i_X7_sumOf_5, i_X7_sumOf_6, i_X7_sumOf_9, i_X7_sumOf_10, i_X7_sumOf_11, i_X7_sumOf_14, i_X7_sumOf_15, i_X7_sumOf_17, i_X7_sumOf_20, i_X7_sumOf_21, i_X7_sumOf_22, i_X7_sumOf_25, i_X7_sumOf_26, i_X7_sumOf_29, i_X7_sumOf_30, i_X7_sumOf_31, i_X7_sumOf_34, i_X7_sumOf_38, i_X7_sumOf_39, i_X7_sumOf_93, i_X7_sumOf_96, i_X7_sumOf_37, i_X7_sumOf_42, i_X7_sumOf_43, i_X7_sumOf_44, i_X7_sumOf_46, i_X7_sumOf_49, i_X7_sumOf_50, i_X7_sumOf_51, i_X7_sumOf_53, i_X7_sumOf_56, i_X7_sumOf_91, i_X7_sumOf_92, i_X7_sumOf_59, i_X7_sumOf_60, i_X7_sumOf_62, i_X7_sumOf_65, i_X7_sumOf_66, i_X7_sumOf_67, i_X7_sumOf_70, i_X7_sumOf_73, i_X7_sumOf_86, i_X7_sumOf_87, i_X7_sumOf_90, i_X7_sumOf_76, i_X7_sumOf_77, i_X7_sumOf_78, i_X7_sumOf_79, i_X7_sumOf_82, i_X7_sumOf_83, i_X7_sumOf_99, i_X7_sumOf_100, i_X7_sumOf_0_e, Option.toList_some, Option.toList_none, List.cons_append, List.nil_append, List.append_nil, ↓reduceIte, q_lt, q_eq, nI_add, bz_e0, hR.2.1, hj, h10, h9, h6, s_runs hR hT hj, hr, reduceCtorEq]
            subst h6
            exact ih
          | true =>
            rw [hr] at ih
            simp (disch := omega) only [i_X7_sumOf_0, i_X7_sumOf_1, i_X7_sumOf_2, i_X7_sumOf_3, i_X7_sumOf_5, i_X7_sumOf_6, i_X7_sumOf_9, i_X7_sumOf_10, i_X7_sumOf_11, i_X7_sumOf_14, i_X7_sumOf_15, i_X7_sumOf_17, i_X7_sumOf_20, i_X7_sumOf_21, i_X7_sumOf_22, i_X7_sumOf_25, i_X7_sumOf_26, i_X7_sumOf_29, i_X7_sumOf_30, i_X7_sumOf_31, i_X7_sumOf_34, i_X7_sumOf_38, i_X7_sumOf_39, i_X7_sumOf_93, i_X7_sumOf_96, i_X7_sumOf_37, i_X7_sumOf_42, i_X7_sumOf_43, i_X7_sumOf_44, i_X7_sumOf_46, i_X7_sumOf_49, i_X7_sumOf_50, i_X7_sumOf_51, i_X7_sumOf_53, i_X7_sumOf_56, i_X7_sumOf_91, i_X7_sumOf_92, i_X7_sumOf_59, i_X7_sumOf_60, i_X7_sumOf_62, i_X7_sumOf_65, i_X7_sumOf_66, i_X7_sumOf_67, i_X7_sumOf_70, i_X7_sumOf_73, i_X7_sumOf_86, i_X7_sumOf_87, i_X7_sumOf_90, i_X7_sumOf_76, i_X7_sumOf_77, i_X7_sumOf_78, i_X7_sumOf_79, i_X7_sumOf_82, i_X7_sumOf_83, i_X7_sumOf_99, i_X7_sumOf_100, i_X7_sumOf_0_e, Option.toList_some, Option.toList_none, List.cons_append, List.nil_append, List.append_nil, ↓reduceIte, q_lt, q_eq, nI_add, bz_e0, hR.2.1, hj, h10, h9, h6, s_runs hR hT hj, hr, reduceCtorEq]
            subst h6
            exact ih
        · rw [if_neg h6] at ih
          by_cases hk : T 0 j = w
          · simp only [hk, decide_true, if_true] at ih
            simp (disch := omega) only [i_X7_sumOf_0, i_X7_sumOf_1, i_X7_sumOf_2, i_X7_sumOf_3, i_X7_sumOf_5, i_X7_sumOf_6, i_X7_sumOf_9, i_X7_sumOf_10, i_X7_sumOf_11, i_X7_sumOf_14, i_X7_sumOf_15, i_X7_sumOf_17, i_X7_sumOf_20, i_X7_sumOf_21, i_X7_sumOf_22, i_X7_sumOf_25, i_X7_sumOf_26, i_X7_sumOf_29, i_X7_sumOf_30, i_X7_sumOf_31, i_X7_sumOf_34, i_X7_sumOf_38, i_X7_sumOf_39, i_X7_sumOf_93, i_X7_sumOf_96, i_X7_sumOf_37, i_X7_sumOf_42, i_X7_sumOf_43, i_X7_sumOf_44, i_X7_sumOf_46, i_X7_sumOf_49, i_X7_sumOf_50, i_X7_sumOf_51, i_X7_sumOf_53, i_X7_sumOf_56, i_X7_sumOf_91, i_X7_sumOf_92, i_X7_sumOf_59, i_X7_sumOf_60, i_X7_sumOf_62, i_X7_sumOf_65, i_X7_sumOf_66, i_X7_sumOf_67, i_X7_sumOf_70, i_X7_sumOf_73, i_X7_sumOf_86, i_X7_sumOf_87, i_X7_sumOf_90, i_X7_sumOf_76, i_X7_sumOf_77, i_X7_sumOf_78, i_X7_sumOf_79, i_X7_sumOf_82, i_X7_sumOf_83, i_X7_sumOf_99, i_X7_sumOf_100, i_X7_sumOf_0_e, Option.toList_some, Option.toList_none, List.cons_append, List.nil_append, List.append_nil, ↓reduceIte, q_lt, q_eq, nI_add, hR.2.1, hj, h10, h9, h6, s_nT hR h24, hk]
            exact ih
          · simp only [hk, decide_false, if_false, Bool.false_eq_true] at ih
            simp (disch := omega) only [i_X7_sumOf_0, i_X7_sumOf_1, i_X7_sumOf_2, i_X7_sumOf_3, i_X7_sumOf_5, i_X7_sumOf_6, i_X7_sumOf_9, i_X7_sumOf_10, i_X7_sumOf_11, i_X7_sumOf_14, i_X7_sumOf_15, i_X7_sumOf_17, i_X7_sumOf_20, i_X7_sumOf_21, i_X7_sumOf_22, i_X7_sumOf_25, i_X7_sumOf_26, i_X7_sumOf_29, i_X7_sumOf_30, i_X7_sumOf_31, i_X7_sumOf_34, i_X7_sumOf_38, i_X7_sumOf_39, i_X7_sumOf_93, i_X7_sumOf_96, i_X7_sumOf_37, i_X7_sumOf_42, i_X7_sumOf_43, i_X7_sumOf_44, i_X7_sumOf_46, i_X7_sumOf_49, i_X7_sumOf_50, i_X7_sumOf_51, i_X7_sumOf_53, i_X7_sumOf_56, i_X7_sumOf_91, i_X7_sumOf_92, i_X7_sumOf_59, i_X7_sumOf_60, i_X7_sumOf_62, i_X7_sumOf_65, i_X7_sumOf_66, i_X7_sumOf_67, i_X7_sumOf_70, i_X7_sumOf_73, i_X7_sumOf_86, i_X7_sumOf_87, i_X7_sumOf_90, i_X7_sumOf_76, i_X7_sumOf_77, i_X7_sumOf_78, i_X7_sumOf_79, i_X7_sumOf_82, i_X7_sumOf_83, i_X7_sumOf_99, i_X7_sumOf_100, i_X7_sumOf_0_e, Option.toList_some, Option.toList_none, List.cons_append, List.nil_append, List.append_nil, ↓reduceIte, q_lt, q_eq, nI_add, hR.2.1, hj, h10, h9, h6, s_nT hR h24, hk]
            exact ih
  simp only [i_X7_sumOf_0, i_X7_sumOf_1, i_X7_sumOf_2, i_X7_sumOf_3, i_X7_sumOf_5, i_X7_sumOf_6, i_X7_sumOf_9, i_X7_sumOf_10, i_X7_sumOf_11, i_X7_sumOf_14, i_X7_sumOf_15, i_X7_sumOf_17, i_X7_sumOf_20, i_X7_sumOf_21, i_X7_sumOf_22, i_X7_sumOf_25, i_X7_sumOf_26, i_X7_sumOf_29, i_X7_sumOf_30, i_X7_sumOf_31, i_X7_sumOf_34, i_X7_sumOf_38, i_X7_sumOf_39, i_X7_sumOf_93, i_X7_sumOf_96, i_X7_sumOf_37, i_X7_sumOf_42, i_X7_sumOf_43, i_X7_sumOf_44, i_X7_sumOf_46, i_X7_sumOf_49, i_X7_sumOf_50, i_X7_sumOf_51, i_X7_sumOf_53, i_X7_sumOf_56, i_X7_sumOf_91, i_X7_sumOf_92, i_X7_sumOf_59, i_X7_sumOf_60, i_X7_sumOf_62, i_X7_sumOf_65, i_X7_sumOf_66, i_X7_sumOf_67, i_X7_sumOf_70, i_X7_sumOf_73, i_X7_sumOf_86, i_X7_sumOf_87, i_X7_sumOf_90, i_X7_sumOf_76, i_X7_sumOf_77, i_X7_sumOf_78, i_X7_sumOf_79, i_X7_sumOf_82, i_X7_sumOf_83, i_X7_sumOf_99, i_X7_sumOf_100, i_X7_sumOf_0_e, Option.toList_some, Option.toList_none, List.cons_append, List.nil_append, List.append_nil, ↓reduceIte]
  exact key 0 (Nat.zero_le _) ()
theorem s_sumOf10 (hR : RelT (B 140) T) (hT : okT T) : pm_call X (d + 5) mX7_sumOf [.ref 139, .int (nI 10)] (pm_w I A E J B) Q ↔ Q (some (.int (nI (mxN (dep T) (T 10 0))))) (pm_w I A E J B) := by
  have h24 := hT.wf.2.1
  have hmx : ∀ n, n ≤ T 10 0 → mxN (dep T) n ≤ 6 := by
    intro n
    induction n with
    | zero => intro _; exact Nat.zero_le _
    | succ n ih => intro hn; unfold mxN; have := ih (by omega); have := hT.dep (k := n) (by omega); split <;> omega
  have key : ∀ j, j ≤ T 10 0 → ∀ _ : Unit, pm_wp X (d + 5) mX7_sumOf 4 [.ref 139, .int (nI 10), .int (nI (mxN (dep T) j)), .int (nI j)] [] (pm_w I A E J B) Q ↔ Q (some (.int (nI (mxN (dep T) (T 10 0))))) (pm_w I A E J B) := by
    refine loop_r (fun _ => ?_) (fun j hj ih _ => ?_)
    · rw [i_X7_sumOf_4]
      simp (disch := omega) only [i_X7_sumOf_0, i_X7_sumOf_1, i_X7_sumOf_2, i_X7_sumOf_3, i_X7_sumOf_5, i_X7_sumOf_6, i_X7_sumOf_9, i_X7_sumOf_10, i_X7_sumOf_11, i_X7_sumOf_14, i_X7_sumOf_15, i_X7_sumOf_17, i_X7_sumOf_20, i_X7_sumOf_21, i_X7_sumOf_22, i_X7_sumOf_25, i_X7_sumOf_26, i_X7_sumOf_29, i_X7_sumOf_30, i_X7_sumOf_31, i_X7_sumOf_34, i_X7_sumOf_38, i_X7_sumOf_39, i_X7_sumOf_93, i_X7_sumOf_96, i_X7_sumOf_37, i_X7_sumOf_42, i_X7_sumOf_43, i_X7_sumOf_44, i_X7_sumOf_46, i_X7_sumOf_49, i_X7_sumOf_50, i_X7_sumOf_51, i_X7_sumOf_53, i_X7_sumOf_56, i_X7_sumOf_91, i_X7_sumOf_92, i_X7_sumOf_59, i_X7_sumOf_60, i_X7_sumOf_62, i_X7_sumOf_65, i_X7_sumOf_66, i_X7_sumOf_67, i_X7_sumOf_70, i_X7_sumOf_73, i_X7_sumOf_86, i_X7_sumOf_87, i_X7_sumOf_90, i_X7_sumOf_76, i_X7_sumOf_77, i_X7_sumOf_78, i_X7_sumOf_79, i_X7_sumOf_82, i_X7_sumOf_83, i_X7_sumOf_99, i_X7_sumOf_100, i_X7_sumOf_0_e, Option.toList_some, Option.toList_none, List.cons_append, List.nil_append, List.append_nil, ↓reduceIte, q_lt, hR.2.1, Nat.lt_irrefl]
    · have ih := ih ()
      have hd := hT.dep hj
      have hm := hmx j (by omega)
      rw [show mxN (dep T) (j + 1) = if mxN (dep T) j < dep T j then dep T j else mxN (dep T) j from rfl] at ih
      rw [i_X7_sumOf_4]
      by_cases hc : mxN (dep T) j < dep T j
      · rw [if_pos hc] at ih
        simp (disch := omega) only [i_X7_sumOf_0, i_X7_sumOf_1, i_X7_sumOf_2, i_X7_sumOf_3, i_X7_sumOf_5, i_X7_sumOf_6, i_X7_sumOf_9, i_X7_sumOf_10, i_X7_sumOf_11, i_X7_sumOf_14, i_X7_sumOf_15, i_X7_sumOf_17, i_X7_sumOf_20, i_X7_sumOf_21, i_X7_sumOf_22, i_X7_sumOf_25, i_X7_sumOf_26, i_X7_sumOf_29, i_X7_sumOf_30, i_X7_sumOf_31, i_X7_sumOf_34, i_X7_sumOf_38, i_X7_sumOf_39, i_X7_sumOf_93, i_X7_sumOf_96, i_X7_sumOf_37, i_X7_sumOf_42, i_X7_sumOf_43, i_X7_sumOf_44, i_X7_sumOf_46, i_X7_sumOf_49, i_X7_sumOf_50, i_X7_sumOf_51, i_X7_sumOf_53, i_X7_sumOf_56, i_X7_sumOf_91, i_X7_sumOf_92, i_X7_sumOf_59, i_X7_sumOf_60, i_X7_sumOf_62, i_X7_sumOf_65, i_X7_sumOf_66, i_X7_sumOf_67, i_X7_sumOf_70, i_X7_sumOf_73, i_X7_sumOf_86, i_X7_sumOf_87, i_X7_sumOf_90, i_X7_sumOf_76, i_X7_sumOf_77, i_X7_sumOf_78, i_X7_sumOf_79, i_X7_sumOf_82, i_X7_sumOf_83, i_X7_sumOf_99, i_X7_sumOf_100, i_X7_sumOf_0_e, Option.toList_some, Option.toList_none, List.cons_append, List.nil_append, List.append_nil, ↓reduceIte, q_lt, nI_add, hR.2.1, hj, s_depth hR hT.wf hj, hc]
        exact ih
      · rw [if_neg hc] at ih
        simp (disch := omega) only [i_X7_sumOf_0, i_X7_sumOf_1, i_X7_sumOf_2, i_X7_sumOf_3, i_X7_sumOf_5, i_X7_sumOf_6, i_X7_sumOf_9, i_X7_sumOf_10, i_X7_sumOf_11, i_X7_sumOf_14, i_X7_sumOf_15, i_X7_sumOf_17, i_X7_sumOf_20, i_X7_sumOf_21, i_X7_sumOf_22, i_X7_sumOf_25, i_X7_sumOf_26, i_X7_sumOf_29, i_X7_sumOf_30, i_X7_sumOf_31, i_X7_sumOf_34, i_X7_sumOf_38, i_X7_sumOf_39, i_X7_sumOf_93, i_X7_sumOf_96, i_X7_sumOf_37, i_X7_sumOf_42, i_X7_sumOf_43, i_X7_sumOf_44, i_X7_sumOf_46, i_X7_sumOf_49, i_X7_sumOf_50, i_X7_sumOf_51, i_X7_sumOf_53, i_X7_sumOf_56, i_X7_sumOf_91, i_X7_sumOf_92, i_X7_sumOf_59, i_X7_sumOf_60, i_X7_sumOf_62, i_X7_sumOf_65, i_X7_sumOf_66, i_X7_sumOf_67, i_X7_sumOf_70, i_X7_sumOf_73, i_X7_sumOf_86, i_X7_sumOf_87, i_X7_sumOf_90, i_X7_sumOf_76, i_X7_sumOf_77, i_X7_sumOf_78, i_X7_sumOf_79, i_X7_sumOf_82, i_X7_sumOf_83, i_X7_sumOf_99, i_X7_sumOf_100, i_X7_sumOf_0_e, Option.toList_some, Option.toList_none, List.cons_append, List.nil_append, List.append_nil, ↓reduceIte, q_lt, nI_add, hR.2.1, hj, s_depth hR hT.wf hj, hc]
        exact ih
  simp only [i_X7_sumOf_0, i_X7_sumOf_1, i_X7_sumOf_2, i_X7_sumOf_3, i_X7_sumOf_5, i_X7_sumOf_6, i_X7_sumOf_9, i_X7_sumOf_10, i_X7_sumOf_11, i_X7_sumOf_14, i_X7_sumOf_15, i_X7_sumOf_17, i_X7_sumOf_20, i_X7_sumOf_21, i_X7_sumOf_22, i_X7_sumOf_25, i_X7_sumOf_26, i_X7_sumOf_29, i_X7_sumOf_30, i_X7_sumOf_31, i_X7_sumOf_34, i_X7_sumOf_38, i_X7_sumOf_39, i_X7_sumOf_93, i_X7_sumOf_96, i_X7_sumOf_37, i_X7_sumOf_42, i_X7_sumOf_43, i_X7_sumOf_44, i_X7_sumOf_46, i_X7_sumOf_49, i_X7_sumOf_50, i_X7_sumOf_51, i_X7_sumOf_53, i_X7_sumOf_56, i_X7_sumOf_91, i_X7_sumOf_92, i_X7_sumOf_59, i_X7_sumOf_60, i_X7_sumOf_62, i_X7_sumOf_65, i_X7_sumOf_66, i_X7_sumOf_67, i_X7_sumOf_70, i_X7_sumOf_73, i_X7_sumOf_86, i_X7_sumOf_87, i_X7_sumOf_90, i_X7_sumOf_76, i_X7_sumOf_77, i_X7_sumOf_78, i_X7_sumOf_79, i_X7_sumOf_82, i_X7_sumOf_83, i_X7_sumOf_99, i_X7_sumOf_100, i_X7_sumOf_0_e, Option.toList_some, Option.toList_none, List.cons_append, List.nil_append, List.append_nil, ↓reduceIte]
  exact key 0 (Nat.zero_le _) ()
theorem s_contents (hR : RelT (B 140) T) (hT : okT T) : pm_call X (d + 4) mX7_contents [.ref 139] (pm_w I A E J B) Q ↔ Q (some (.int (nI (bts (cnB T) (T 10 0))))) (pm_w I A E J B) := by
  have h24 := hT.wf.2.1
  have key : ∀ j, j ≤ T 10 0 → ∀ _ : Unit, pm_wp X (d + 4) mX7_contents 4 [.ref 139, .int (nI (bts (cnB T) j)), .int (nI j)] [] (pm_w I A E J B) Q ↔ Q (some (.int (nI (bts (cnB T) (T 10 0))))) (pm_w I A E J B) := by
    refine loop_r (fun _ => ?_) (fun j hj ih _ => ?_)
    · rw [i_X7_contents_4]
      simp (disch := omega) only [i_X7_contents_0, i_X7_contents_1, i_X7_contents_2, i_X7_contents_3, i_X7_contents_5, i_X7_contents_6, i_X7_contents_9, i_X7_contents_10, i_X7_contents_11, i_X7_contents_14, i_X7_contents_15, i_X7_contents_16, i_X7_contents_17, i_X7_contents_18, i_X7_contents_21, i_X7_contents_22, i_X7_contents_25, i_X7_contents_26, i_X7_contents_27, i_X7_contents_30, i_X7_contents_33, i_X7_contents_34, i_X7_contents_35, i_X7_contents_36, i_X7_contents_40, i_X7_contents_41, i_X7_contents_42, i_X7_contents_45, i_X7_contents_39, i_X7_contents_48, i_X7_contents_49, i_X7_contents_0_e, Option.toList_some, Option.toList_none, List.cons_append, List.nil_append, List.append_nil, ↓reduceIte, q_lt, hR.2.1, Nat.lt_irrefl]
    · have ih := ih ()
      have s0 := hT.small hj (w := 0) (by omega) (by omega)
      rw [← bts_or, cnB] at ih
      rw [i_X7_contents_4]
      by_cases h5 : T 0 j = 5
      · cases hc : cnn T j with
        | false =>
          simp only [h5, hc, decide_true, Bool.and_false, Bool.false_eq_true, if_false] at ih
          simp (disch := omega) only [i_X7_contents_0, i_X7_contents_1, i_X7_contents_2, i_X7_contents_3, i_X7_contents_5, i_X7_contents_6, i_X7_contents_9, i_X7_contents_10, i_X7_contents_11, i_X7_contents_14, i_X7_contents_15, i_X7_contents_16, i_X7_contents_17, i_X7_contents_18, i_X7_contents_21, i_X7_contents_22, i_X7_contents_25, i_X7_contents_26, i_X7_contents_27, i_X7_contents_30, i_X7_contents_33, i_X7_contents_34, i_X7_contents_35, i_X7_contents_36, i_X7_contents_40, i_X7_contents_41, i_X7_contents_42, i_X7_contents_45, i_X7_contents_39, i_X7_contents_48, i_X7_contents_49, i_X7_contents_0_e, Option.toList_some, Option.toList_none, List.cons_append, List.nil_append, List.append_nil, ↓reduceIte, q_lt, q_eq, nI_add, bz_e0, nI_or, hR.2.1, hj, s_nT hR h24, h5, s_isContent hR hT hj, hc, reduceCtorEq]
          exact ih
        | true =>
          simp only [h5, hc, decide_true, Bool.and_true, if_true] at ih
          simp (disch := omega) only [i_X7_contents_0, i_X7_contents_1, i_X7_contents_2, i_X7_contents_3, i_X7_contents_5, i_X7_contents_6, i_X7_contents_9, i_X7_contents_10, i_X7_contents_11, i_X7_contents_14, i_X7_contents_15, i_X7_contents_16, i_X7_contents_17, i_X7_contents_18, i_X7_contents_21, i_X7_contents_22, i_X7_contents_25, i_X7_contents_26, i_X7_contents_27, i_X7_contents_30, i_X7_contents_33, i_X7_contents_34, i_X7_contents_35, i_X7_contents_36, i_X7_contents_40, i_X7_contents_41, i_X7_contents_42, i_X7_contents_45, i_X7_contents_39, i_X7_contents_48, i_X7_contents_49, i_X7_contents_0_e, Option.toList_some, Option.toList_none, List.cons_append, List.nil_append, List.append_nil, ↓reduceIte, q_lt, q_eq, nI_add, bz_e0, nI_or, q_shl1, hR.2.1, hj, s_nT hR h24, h5, s_isContent hR hT hj, hc, reduceCtorEq]
          exact ih
      · simp only [h5, decide_false, Bool.false_and, Bool.false_eq_true, if_false] at ih
        simp (disch := omega) only [i_X7_contents_0, i_X7_contents_1, i_X7_contents_2, i_X7_contents_3, i_X7_contents_5, i_X7_contents_6, i_X7_contents_9, i_X7_contents_10, i_X7_contents_11, i_X7_contents_14, i_X7_contents_15, i_X7_contents_16, i_X7_contents_17, i_X7_contents_18, i_X7_contents_21, i_X7_contents_22, i_X7_contents_25, i_X7_contents_26, i_X7_contents_27, i_X7_contents_30, i_X7_contents_33, i_X7_contents_34, i_X7_contents_35, i_X7_contents_36, i_X7_contents_40, i_X7_contents_41, i_X7_contents_42, i_X7_contents_45, i_X7_contents_39, i_X7_contents_48, i_X7_contents_49, i_X7_contents_0_e, Option.toList_some, Option.toList_none, List.cons_append, List.nil_append, List.append_nil, ↓reduceIte, q_lt, q_eq, nI_add, nI_or, hR.2.1, hj, s_nT hR h24, h5]
        exact ih
  simp only [i_X7_contents_0, i_X7_contents_1, i_X7_contents_2, i_X7_contents_3, i_X7_contents_5, i_X7_contents_6, i_X7_contents_9, i_X7_contents_10, i_X7_contents_11, i_X7_contents_14, i_X7_contents_15, i_X7_contents_16, i_X7_contents_17, i_X7_contents_18, i_X7_contents_21, i_X7_contents_22, i_X7_contents_25, i_X7_contents_26, i_X7_contents_27, i_X7_contents_30, i_X7_contents_33, i_X7_contents_34, i_X7_contents_35, i_X7_contents_36, i_X7_contents_40, i_X7_contents_41, i_X7_contents_42, i_X7_contents_45, i_X7_contents_39, i_X7_contents_48, i_X7_contents_49, i_X7_contents_0_e, Option.toList_some, Option.toList_none, List.cons_append, List.nil_append, List.append_nil, ↓reduceIte]
  exact key 0 (Nat.zero_le _) ()
theorem s_isAnyTooFast (hR : RelT (B 140) T) (hT : okT T) : pm_call X (d + 4) mX7_isAnyTooFast [.ref 139] (pm_w I A E J B) Q ↔ Q (some (.int (bz (anyN (fst T) (T 10 0))))) (pm_w I A E J B) := by
  have h24 := hT.wf.2.1
  have key : ∀ j, j ≤ T 10 0 → ∀ _ : Unit, pm_wp X (d + 4) mX7_isAnyTooFast 4 [.ref 139, .int (bz (anyN (fst T) j)), .int (nI j)] [] (pm_w I A E J B) Q ↔ Q (some (.int (bz (anyN (fst T) (T 10 0))))) (pm_w I A E J B) := by
    refine loop_r (fun _ => ?_) (fun j hj ih _ => ?_)
    · rw [i_X7_isAnyTooFast_4]
      simp (disch := omega) only [i_X7_isAnyTooFast_0, i_X7_isAnyTooFast_1, i_X7_isAnyTooFast_2, i_X7_isAnyTooFast_3, i_X7_isAnyTooFast_5, i_X7_isAnyTooFast_6, i_X7_isAnyTooFast_9, i_X7_isAnyTooFast_10, i_X7_isAnyTooFast_11, i_X7_isAnyTooFast_14, i_X7_isAnyTooFast_15, i_X7_isAnyTooFast_18, i_X7_isAnyTooFast_19, i_X7_isAnyTooFast_20, i_X7_isAnyTooFast_23, i_X7_isAnyTooFast_30, i_X7_isAnyTooFast_31, i_X7_isAnyTooFast_32, i_X7_isAnyTooFast_35, i_X7_isAnyTooFast_26, i_X7_isAnyTooFast_27, i_X7_isAnyTooFast_38, i_X7_isAnyTooFast_39, i_X7_isAnyTooFast_39b, i_X7_isAnyTooFast_39c, i_X7_isAnyTooFast_0_e, Option.toList_some, Option.toList_none, List.cons_append, List.nil_append, List.append_nil, ↓reduceIte, q_lt, hR.2.1, Nat.lt_irrefl]
    · have ih := ih ()
      rw [show anyN (fst T) (j + 1) = (anyN (fst T) j || fst T j) from rfl] at ih
      rw [i_X7_isAnyTooFast_4]
      cases ha : anyN (fst T) j with
      | true =>
        rw [ha, Bool.true_or] at ih
        simp (disch := omega) only [i_X7_isAnyTooFast_0, i_X7_isAnyTooFast_1, i_X7_isAnyTooFast_2, i_X7_isAnyTooFast_3, i_X7_isAnyTooFast_5, i_X7_isAnyTooFast_6, i_X7_isAnyTooFast_9, i_X7_isAnyTooFast_10, i_X7_isAnyTooFast_11, i_X7_isAnyTooFast_14, i_X7_isAnyTooFast_15, i_X7_isAnyTooFast_18, i_X7_isAnyTooFast_19, i_X7_isAnyTooFast_20, i_X7_isAnyTooFast_23, i_X7_isAnyTooFast_30, i_X7_isAnyTooFast_31, i_X7_isAnyTooFast_32, i_X7_isAnyTooFast_35, i_X7_isAnyTooFast_26, i_X7_isAnyTooFast_27, i_X7_isAnyTooFast_38, i_X7_isAnyTooFast_39, i_X7_isAnyTooFast_39b, i_X7_isAnyTooFast_39c, i_X7_isAnyTooFast_0_e, Option.toList_some, Option.toList_none, List.cons_append, List.nil_append, List.append_nil, ↓reduceIte, q_lt, nI_add, bz_e0, hR.2.1, hj, reduceCtorEq]
        exact ih
      | false =>
        rw [ha, Bool.false_or] at ih
        cases hc : fst T j with
        | true =>
          rw [hc] at ih
          simp (disch := omega) only [i_X7_isAnyTooFast_0, i_X7_isAnyTooFast_1, i_X7_isAnyTooFast_2, i_X7_isAnyTooFast_3, i_X7_isAnyTooFast_5, i_X7_isAnyTooFast_6, i_X7_isAnyTooFast_9, i_X7_isAnyTooFast_10, i_X7_isAnyTooFast_11, i_X7_isAnyTooFast_14, i_X7_isAnyTooFast_15, i_X7_isAnyTooFast_18, i_X7_isAnyTooFast_19, i_X7_isAnyTooFast_20, i_X7_isAnyTooFast_23, i_X7_isAnyTooFast_30, i_X7_isAnyTooFast_31, i_X7_isAnyTooFast_32, i_X7_isAnyTooFast_35, i_X7_isAnyTooFast_26, i_X7_isAnyTooFast_27, i_X7_isAnyTooFast_38, i_X7_isAnyTooFast_39, i_X7_isAnyTooFast_39b, i_X7_isAnyTooFast_39c, i_X7_isAnyTooFast_0_e, Option.toList_some, Option.toList_none, List.cons_append, List.nil_append, List.append_nil, ↓reduceIte, q_lt, nI_add, bz_e0, hR.2.1, hj, s_isTooFast hR hT hj, hc, reduceCtorEq]
          exact ih
        | false =>
          rw [hc] at ih
          simp (disch := omega) only [i_X7_isAnyTooFast_0, i_X7_isAnyTooFast_1, i_X7_isAnyTooFast_2, i_X7_isAnyTooFast_3, i_X7_isAnyTooFast_5, i_X7_isAnyTooFast_6, i_X7_isAnyTooFast_9, i_X7_isAnyTooFast_10, i_X7_isAnyTooFast_11, i_X7_isAnyTooFast_14, i_X7_isAnyTooFast_15, i_X7_isAnyTooFast_18, i_X7_isAnyTooFast_19, i_X7_isAnyTooFast_20, i_X7_isAnyTooFast_23, i_X7_isAnyTooFast_30, i_X7_isAnyTooFast_31, i_X7_isAnyTooFast_32, i_X7_isAnyTooFast_35, i_X7_isAnyTooFast_26, i_X7_isAnyTooFast_27, i_X7_isAnyTooFast_38, i_X7_isAnyTooFast_39, i_X7_isAnyTooFast_39b, i_X7_isAnyTooFast_39c, i_X7_isAnyTooFast_0_e, Option.toList_some, Option.toList_none, List.cons_append, List.nil_append, List.append_nil, ↓reduceIte, q_lt, nI_add, bz_e0, hR.2.1, hj, s_isTooFast hR hT hj, hc, reduceCtorEq]
          exact ih
  simp only [i_X7_isAnyTooFast_0, i_X7_isAnyTooFast_1, i_X7_isAnyTooFast_2, i_X7_isAnyTooFast_3, i_X7_isAnyTooFast_5, i_X7_isAnyTooFast_6, i_X7_isAnyTooFast_9, i_X7_isAnyTooFast_10, i_X7_isAnyTooFast_11, i_X7_isAnyTooFast_14, i_X7_isAnyTooFast_15, i_X7_isAnyTooFast_18, i_X7_isAnyTooFast_19, i_X7_isAnyTooFast_20, i_X7_isAnyTooFast_23, i_X7_isAnyTooFast_30, i_X7_isAnyTooFast_31, i_X7_isAnyTooFast_32, i_X7_isAnyTooFast_35, i_X7_isAnyTooFast_26, i_X7_isAnyTooFast_27, i_X7_isAnyTooFast_38, i_X7_isAnyTooFast_39, i_X7_isAnyTooFast_39b, i_X7_isAnyTooFast_39c, i_X7_isAnyTooFast_0_e, Option.toList_some, Option.toList_none, List.cons_append, List.nil_append, List.append_nil, ↓reduceIte]
  exact key 0 (Nat.zero_le _) ()
theorem s_has {s k : Nat} (hs : s < 2147483648) (hk : k < 32) : pm_call X d mX7_has [.int (nI s), .int (nI k)] G Q ↔ Q (some (.int (bz (bit s k)))) G := by
  have h2 : s / 2 ^ k % 2 < 2 := Nat.mod_lt _ (by decide)
  have hd : s / 2 ^ k ≤ s := Nat.div_le_self _ _
  unfold bit
  by_cases hb : s / 2 ^ k % 2 = 1
  · simp (disch := omega) only [i_X7_has_0, i_X7_has_1, i_X7_has_2, i_X7_has_3, i_X7_has_4, i_X7_has_5, i_X7_has_6, i_X7_has_9, i_X7_has_10, i_X7_has_14, i_X7_has_14b, i_X7_has_14c, i_X7_has_13, i_X7_has_0_e, Option.toList_some, Option.toList_none, List.cons_append, List.nil_append, List.append_nil, ↓reduceIte, q_shr, q_and1, q_eq, hb]
    simp
  · simp (disch := omega) only [i_X7_has_0, i_X7_has_1, i_X7_has_2, i_X7_has_3, i_X7_has_4, i_X7_has_5, i_X7_has_6, i_X7_has_9, i_X7_has_10, i_X7_has_14, i_X7_has_14b, i_X7_has_14c, i_X7_has_13, i_X7_has_0_e, Option.toList_some, Option.toList_none, List.cons_append, List.nil_append, List.append_nil, ↓reduceIte, q_shr, q_and1, q_eq, hb]
    simp
theorem s_contentMany (hR : RelT (B 140) T) (hT : okT T) : pm_call X (d + 5) mX7_contentMany [.ref 139] (pm_w I A E J B) Q ↔ Q (some (.int (nI (cnt (cnB T) (T 10 0))))) (pm_w I A E J B) := by
  have h24 := hT.wf.2.1
  have hbl : bts (cnB T) (T 10 0) < 2147483648 := Nat.lt_of_lt_of_le (bts_lt _ _) (Nat.le_trans (Nat.pow_le_pow_right (by decide) h24) (by decide))
  have key : ∀ j, j ≤ T 10 0 → ∀ _ : Unit, pm_wp X (d + 5) mX7_contentMany 9 [.ref 139, .int (nI (cnt (cnB T) j)), .int (nI (bts (cnB T) (T 10 0))), .int (nI j)] [] (pm_w I A E J B) Q ↔ Q (some (.int (nI (cnt (cnB T) (T 10 0))))) (pm_w I A E J B) := by
    refine loop_r (fun _ => ?_) (fun j hj ih _ => ?_)
    · rw [i_X7_contentMany_9]
      simp (disch := omega) only [i_X7_contentMany_0, i_X7_contentMany_1, i_X7_contentMany_2, i_X7_contentMany_3, i_X7_contentMany_6, i_X7_contentMany_7, i_X7_contentMany_8, i_X7_contentMany_10, i_X7_contentMany_11, i_X7_contentMany_14, i_X7_contentMany_15, i_X7_contentMany_16, i_X7_contentMany_19, i_X7_contentMany_20, i_X7_contentMany_21, i_X7_contentMany_22, i_X7_contentMany_25, i_X7_contentMany_28, i_X7_contentMany_29, i_X7_contentMany_33, i_X7_contentMany_34, i_X7_contentMany_35, i_X7_contentMany_38, i_X7_contentMany_32, i_X7_contentMany_41, i_X7_contentMany_42, i_X7_contentMany_0_e, Option.toList_some, Option.toList_none, List.cons_append, List.nil_append, List.append_nil, ↓reduceIte, q_lt, hR.2.1, Nat.lt_irrefl]
    · have ih := ih ()
      rw [show cnt (cnB T) (j + 1) = cnt (cnB T) j + (if cnB T j then 1 else 0) from rfl] at ih
      rw [i_X7_contentMany_9]
      cases hc : cnB T j with
      | true =>
        rw [hc] at ih
        simp (disch := omega) only [i_X7_contentMany_0, i_X7_contentMany_1, i_X7_contentMany_2, i_X7_contentMany_3, i_X7_contentMany_6, i_X7_contentMany_7, i_X7_contentMany_8, i_X7_contentMany_10, i_X7_contentMany_11, i_X7_contentMany_14, i_X7_contentMany_15, i_X7_contentMany_16, i_X7_contentMany_19, i_X7_contentMany_20, i_X7_contentMany_21, i_X7_contentMany_22, i_X7_contentMany_25, i_X7_contentMany_28, i_X7_contentMany_29, i_X7_contentMany_33, i_X7_contentMany_34, i_X7_contentMany_35, i_X7_contentMany_38, i_X7_contentMany_32, i_X7_contentMany_41, i_X7_contentMany_42, i_X7_contentMany_0_e, Option.toList_some, Option.toList_none, List.cons_append, List.nil_append, List.append_nil, ↓reduceIte, q_lt, nI_add, bz_e0, hR.2.1, hj, s_has hbl, bit_bts hj, hc, reduceCtorEq]
        exact ih
      | false =>
        rw [hc] at ih
        simp (disch := omega) only [i_X7_contentMany_0, i_X7_contentMany_1, i_X7_contentMany_2, i_X7_contentMany_3, i_X7_contentMany_6, i_X7_contentMany_7, i_X7_contentMany_8, i_X7_contentMany_10, i_X7_contentMany_11, i_X7_contentMany_14, i_X7_contentMany_15, i_X7_contentMany_16, i_X7_contentMany_19, i_X7_contentMany_20, i_X7_contentMany_21, i_X7_contentMany_22, i_X7_contentMany_25, i_X7_contentMany_28, i_X7_contentMany_29, i_X7_contentMany_33, i_X7_contentMany_34, i_X7_contentMany_35, i_X7_contentMany_38, i_X7_contentMany_32, i_X7_contentMany_41, i_X7_contentMany_42, i_X7_contentMany_0_e, Option.toList_some, Option.toList_none, List.cons_append, List.nil_append, List.append_nil, ↓reduceIte, q_lt, nI_add, bz_e0, hR.2.1, hj, s_has hbl, bit_bts hj, hc, reduceCtorEq]
        exact ih
  simp only [i_X7_contentMany_0, i_X7_contentMany_1, i_X7_contentMany_2, i_X7_contentMany_3, i_X7_contentMany_6, i_X7_contentMany_7, i_X7_contentMany_8, i_X7_contentMany_10, i_X7_contentMany_11, i_X7_contentMany_14, i_X7_contentMany_15, i_X7_contentMany_16, i_X7_contentMany_19, i_X7_contentMany_20, i_X7_contentMany_21, i_X7_contentMany_22, i_X7_contentMany_25, i_X7_contentMany_28, i_X7_contentMany_29, i_X7_contentMany_33, i_X7_contentMany_34, i_X7_contentMany_35, i_X7_contentMany_38, i_X7_contentMany_32, i_X7_contentMany_41, i_X7_contentMany_42, i_X7_contentMany_0_e, Option.toList_some, Option.toList_none, List.cons_append, List.nil_append, List.append_nil, ↓reduceIte, s_contents hR hT]
  exact key 0 (Nat.zero_le _) ()
theorem s_skewed (hR : RelT (B 140) T) (hT : okT T) : pm_call X (d + 8) mX7_skewed [.ref 139] (pm_w I A E J B) Q ↔ Q (some (.int (skd T 4))) (pm_w I A E J B) := by
  have h24 := hT.wf.2.1
  have key : ∀ j, j ≤ 4 → ∀ _ : Unit, pm_wp X (d + 8) mX7_skewed 4 [.ref 139, .int (skd T j), .int (nI j)] [] (pm_w I A E J B) Q ↔ Q (some (.int (skd T 4))) (pm_w I A E J B) := by
    refine loop_r (fun _ => ?_) (fun j hj ih _ => ?_)
    · rw [i_X7_skewed_4]
      simp (disch := omega) only [i_X7_skewed_0, i_X7_skewed_1, i_X7_skewed_2, i_X7_skewed_3, i_X7_skewed_5, i_X7_skewed_6, i_X7_skewed_9, i_X7_skewed_10, i_X7_skewed_11, i_X7_skewed_12, i_X7_skewed_15, i_X7_skewed_16, i_X7_skewed_19, i_X7_skewed_20, i_X7_skewed_21, i_X7_skewed_22, i_X7_skewed_23, i_X7_skewed_26, i_X7_skewed_27, i_X7_skewed_28, i_X7_skewed_29, i_X7_skewed_33, i_X7_skewed_34, i_X7_skewed_35, i_X7_skewed_38, i_X7_skewed_32, i_X7_skewed_41, i_X7_skewed_42, i_X7_skewed_0_e, Option.toList_some, Option.toList_none, List.cons_append, List.nil_append, List.append_nil, ↓reduceIte, q_lt, Nat.lt_irrefl]
    · have ih := ih ()
      rw [show skd T (j + 1) = if nI (T 11 j) < skI T j then skd T j ||| nI 1 <<< (nI j &&& 31) else skd T j from rfl] at ih
      rw [i_X7_skewed_4]
      by_cases hc : nI (T 11 j) < skI T j
      · rw [if_pos hc] at ih
        simp (disch := omega) only [i_X7_skewed_0, i_X7_skewed_1, i_X7_skewed_2, i_X7_skewed_3, i_X7_skewed_5, i_X7_skewed_6, i_X7_skewed_9, i_X7_skewed_10, i_X7_skewed_11, i_X7_skewed_12, i_X7_skewed_15, i_X7_skewed_16, i_X7_skewed_19, i_X7_skewed_20, i_X7_skewed_21, i_X7_skewed_22, i_X7_skewed_23, i_X7_skewed_26, i_X7_skewed_27, i_X7_skewed_28, i_X7_skewed_29, i_X7_skewed_33, i_X7_skewed_34, i_X7_skewed_35, i_X7_skewed_38, i_X7_skewed_32, i_X7_skewed_41, i_X7_skewed_42, i_X7_skewed_0_e, Option.toList_some, Option.toList_none, List.cons_append, List.nil_append, List.append_nil, ↓reduceIte, q_lt, nI_add, hj, s_skew hR hT hj, hR.2.2.1 j hj, hc]
        exact ih
      · rw [if_neg hc] at ih
        simp (disch := omega) only [i_X7_skewed_0, i_X7_skewed_1, i_X7_skewed_2, i_X7_skewed_3, i_X7_skewed_5, i_X7_skewed_6, i_X7_skewed_9, i_X7_skewed_10, i_X7_skewed_11, i_X7_skewed_12, i_X7_skewed_15, i_X7_skewed_16, i_X7_skewed_19, i_X7_skewed_20, i_X7_skewed_21, i_X7_skewed_22, i_X7_skewed_23, i_X7_skewed_26, i_X7_skewed_27, i_X7_skewed_28, i_X7_skewed_29, i_X7_skewed_33, i_X7_skewed_34, i_X7_skewed_35, i_X7_skewed_38, i_X7_skewed_32, i_X7_skewed_41, i_X7_skewed_42, i_X7_skewed_0_e, Option.toList_some, Option.toList_none, List.cons_append, List.nil_append, List.append_nil, ↓reduceIte, q_lt, nI_add, hj, s_skew hR hT hj, hR.2.2.1 j hj, hc, or_0]
        exact ih
  simp only [i_X7_skewed_0, i_X7_skewed_1, i_X7_skewed_2, i_X7_skewed_3, i_X7_skewed_5, i_X7_skewed_6, i_X7_skewed_9, i_X7_skewed_10, i_X7_skewed_11, i_X7_skewed_12, i_X7_skewed_15, i_X7_skewed_16, i_X7_skewed_19, i_X7_skewed_20, i_X7_skewed_21, i_X7_skewed_22, i_X7_skewed_23, i_X7_skewed_26, i_X7_skewed_27, i_X7_skewed_28, i_X7_skewed_29, i_X7_skewed_33, i_X7_skewed_34, i_X7_skewed_35, i_X7_skewed_38, i_X7_skewed_32, i_X7_skewed_41, i_X7_skewed_42, i_X7_skewed_0_e, Option.toList_some, Option.toList_none, List.cons_append, List.nil_append, List.append_nil, ↓reduceIte]
  exact key 0 (Nat.zero_le _) ()
end MOF
