/-! changes that may be refused for the rates -/
def upB (T T' : Tr) (k : Nat) : Bool := cnB T k && !cnn T' k
def whyR (T T' : Tr) : Nat := if anyN (fst T') (T 10 0) then 5 else if anyN (upB T T') (T 10 0) then 6 else 0
def chk (S : St) (T' : Tr) (x : Int32) : Int32 × St := if whyR S.1 T' = 0 then (x, chgS S T') else (-3, refS S (whyR S.1 T'))
theorem anyN_iff {p : Nat → Bool} : ∀ n, anyN p n = true ↔ ∃ k, k < n ∧ p k = true
  | 0 => by simp [anyN]
  | n + 1 => by
    unfold anyN
    rw [Bool.or_eq_true, anyN_iff n]
    constructor
    · rintro (⟨k, hk, h⟩ | h)
      · exact ⟨k, by omega, h⟩
      · exact ⟨n, by omega, h⟩
    · rintro ⟨k, hk, h⟩
      by_cases hkn : k = n
      · right; rw [← hkn]; exact h
      · left; exact ⟨k, by omega, h⟩
theorem anyN_congr {p q : Nat → Bool} : ∀ n, (∀ k, k < n → p k = q k) → anyN p n = anyN q n
  | 0, _ => rfl
  | n + 1, h => by unfold anyN; rw [anyN_congr n (fun k hk => h k (by omega)), h n (by omega)]
theorem bts_any {p : Nat → Bool} : ∀ n, (bts p n = 0) = (anyN p n = false)
  | 0 => by simp [bts, anyN]
  | n + 1 => by
    unfold bts anyN
    have := bts_any (p := p) n
    have hp : 0 < 2 ^ n := Nat.two_pow_pos n
    by_cases h : p n = true
    · rw [if_pos h, h]
      apply propext
      constructor
      · intro q; omega
      · intro q; simp at q
    · rw [if_neg h, Nat.add_zero, this, Bool.eq_false_iff.mpr h, Bool.or_false]
theorem whyR_c (T T' : Tr) : whyR T T' = 0 ∨ whyR T T' = 5 ∨ whyR T T' = 6 := by
  unfold whyR
  split
  · simp
  · split <;> simp
theorem ok_chk {S : St} (h : OkS S) {T' : Tr} (hT : okT T') (hN : T' 10 0 = S.1 10 0) {x : Int32} : OkS (chk S T' x).2 := by
  unfold chk
  split
  · rename_i h0
    refine h.chg ⟨hT, fun k hk => ?_⟩
    rw [hN] at hk
    unfold whyR at h0
    cases ha : anyN (fst T') (S.1 10 0) with
    | true => rw [ha] at h0; simp at h0
    | false =>
      have : fst T' k = false := Bool.eq_false_iff.mpr (fun q => by
        have := (anyN_iff (p := fst T') (S.1 10 0)).mpr ⟨k, hk, q⟩
        rw [ha] at this
        cases this)
      unfold fst at this
      simp at this
      exact this
  · exact h.ref
section RTE
variable {X : pm_X} {d : Nat} {G : pm_H} {Q : Option Value → pm_H → Prop} {I A : Nat → Nat → Int32} {E : Nat → Nat → Int64} {J : Nat → Int32} {B : Nat → Nat → Int32} {T T' : Tr} {S : St}
theorem s_settles (hR : RelT (B 140) T') (hT : okT T') (h143 : RelT (B 143) S.1) (h24 : S.1 10 0 ≤ 24) (hO : RelOM J B S.2.1 S.2.2.1 S.2.2.2.1 S.2.2.2.2) (hN : T' 10 0 = S.1 10 0) (h0 : T' 0 = S.1 0) {x : Int32} (hQ : ∀ J' B', RelM J' B' (chk S T' x).2 → Q (some (.int (chk S T' x).1)) (pm_w I A E J' B')) : pm_call X (d + 5) mX7_settles [.ref 139, .int (nI (bts (cnB S.1) (S.1 10 0))), .int x] (pm_w I A E J B) Q := by
  have bad : ∀ c, c = whyR S.1 T' → c ≠ 0 → Q (some (.int (-3))) (pm_w I A E (upd J 8 (nI c)) (cpR B 140 143 246)) := by
    intro c hc hc0
    unfold chk at hQ
    rw [if_neg (by omega), ← hc] at hQ
    refine hQ _ _ (RelM.ref (S := S) ⟨RelT.congr h24 (fun k hk => cpR_at hk) h143, hO.fr ⟨rfl, rfl, rfl, rfl⟩ ⟨cpR_ne (by decide), cpR_ne (by decide), cpR_ne (by decide)⟩⟩)
  cases ha : anyN (fst T') (T' 10 0) with
  | true =>
    have hw : 5 = whyR S.1 T' := by unfold whyR; rw [← hN, ha]; rfl
    simp (disch := omega) only [i_X7_settles_0, i_X7_settles_1, i_X7_settles_4, i_X7_settles_7, i_X7_settles_8, i_X7_settles_28, i_X7_settles_29, i_X7_settles_30, i_X7_settles_33, i_X7_settles_34, i_X7_settles_37, i_X7_settles_38, i_X7_settles_39, i_X7_settles_42, i_X7_settles_43, i_X7_settles_44, i_X7_settles_47, i_X7_settles_48, i_X7_settles_11, i_X7_settles_12, i_X7_settles_13, i_X7_settles_16, i_X7_settles_17, i_X7_settles_18, i_X7_settles_19, i_X7_settles_22, i_X7_settles_24, i_X7_settles_27, i_X7_settles_0_e, Option.toList_some, Option.toList_none, List.cons_append, List.nil_append, List.append_nil, ↓reduceIte, s_isAnyTooFast hR hT, ha, bz_e0, reduceCtorEq, q_e0, Nat.reduceEqDiff, s_goesBack, s_refuse]
    exact bad 5 hw (by decide)
  | false =>
    have hb : ∀ q : Nat → Bool, bts q (S.1 10 0) < 2147483648 := fun q => Nat.lt_of_lt_of_le (bts_lt _ _) (Nat.le_trans (Nat.pow_le_pow_right (n := 2) (by decide) h24) (by decide))
    have e : anyN (fun j => cnB S.1 j && !bit (bts (cnB T') (T' 10 0)) j) (S.1 10 0) = anyN (upB S.1 T') (S.1 10 0) := by
      refine anyN_congr _ (fun j hj => ?_)
      rw [bit_bts (by omega)]
      unfold upB cnB
      rw [h0]
      cases decide (S.1 0 j = 5) <;> simp
    have e2 := bts_any (p := fun j => cnB S.1 j && !bit (bts (cnB T') (T' 10 0)) j) (S.1 10 0)
    rw [e] at e2
    have e3 := (q_e0 (hb (fun j => cnB S.1 j && !bit (bts (cnB T') (T' 10 0)) j))).trans e2
    simp (disch := omega) only [i_X7_settles_0, i_X7_settles_1, i_X7_settles_4, i_X7_settles_7, i_X7_settles_8, i_X7_settles_28, i_X7_settles_29, i_X7_settles_30, i_X7_settles_33, i_X7_settles_34, i_X7_settles_37, i_X7_settles_38, i_X7_settles_39, i_X7_settles_42, i_X7_settles_43, i_X7_settles_44, i_X7_settles_47, i_X7_settles_48, i_X7_settles_11, i_X7_settles_12, i_X7_settles_13, i_X7_settles_16, i_X7_settles_17, i_X7_settles_18, i_X7_settles_19, i_X7_settles_22, i_X7_settles_24, i_X7_settles_27, i_X7_settles_0_e, Option.toList_some, Option.toList_none, List.cons_append, List.nil_append, List.append_nil, ↓reduceIte, s_isAnyTooFast hR hT, ha, bz_e0, s_contents hR hT, and_not, e3]
    cases hu : anyN (upB S.1 T') (S.1 10 0) with
    | true =>
      have hw : 6 = whyR S.1 T' := by unfold whyR; rw [← hN, ha, hN, hu]; rfl
      simp (disch := omega) only [i_X7_settles_0, i_X7_settles_1, i_X7_settles_4, i_X7_settles_7, i_X7_settles_8, i_X7_settles_28, i_X7_settles_29, i_X7_settles_30, i_X7_settles_33, i_X7_settles_34, i_X7_settles_37, i_X7_settles_38, i_X7_settles_39, i_X7_settles_42, i_X7_settles_43, i_X7_settles_44, i_X7_settles_47, i_X7_settles_48, i_X7_settles_11, i_X7_settles_12, i_X7_settles_13, i_X7_settles_16, i_X7_settles_17, i_X7_settles_18, i_X7_settles_19, i_X7_settles_22, i_X7_settles_24, i_X7_settles_27, i_X7_settles_0_e, Option.toList_some, Option.toList_none, List.cons_append, List.nil_append, List.append_nil, ↓reduceIte, reduceCtorEq, q_e0, Nat.reduceEqDiff, s_goesBack, s_refuse]
      exact bad 6 hw (by decide)
    | false =>
      have hw : whyR S.1 T' = 0 := by unfold whyR; rw [← hN, ha, hN, hu]; rfl
      unfold chk at hQ
      rw [if_pos hw] at hQ
      simp (disch := omega) only [i_X7_settles_0, i_X7_settles_1, i_X7_settles_4, i_X7_settles_7, i_X7_settles_8, i_X7_settles_28, i_X7_settles_29, i_X7_settles_30, i_X7_settles_33, i_X7_settles_34, i_X7_settles_37, i_X7_settles_38, i_X7_settles_39, i_X7_settles_42, i_X7_settles_43, i_X7_settles_44, i_X7_settles_47, i_X7_settles_48, i_X7_settles_11, i_X7_settles_12, i_X7_settles_13, i_X7_settles_16, i_X7_settles_17, i_X7_settles_18, i_X7_settles_19, i_X7_settles_22, i_X7_settles_24, i_X7_settles_27, i_X7_settles_0_e, Option.toList_some, Option.toList_none, List.cons_append, List.nil_append, List.append_nil, ↓reduceIte, n0_e0]
      refine s_remM hR hO h143 h24 (fun J' B' h => ?_)
      simp (disch := omega) only [i_X7_settles_0, i_X7_settles_1, i_X7_settles_4, i_X7_settles_7, i_X7_settles_8, i_X7_settles_28, i_X7_settles_29, i_X7_settles_30, i_X7_settles_33, i_X7_settles_34, i_X7_settles_37, i_X7_settles_38, i_X7_settles_39, i_X7_settles_42, i_X7_settles_43, i_X7_settles_44, i_X7_settles_47, i_X7_settles_48, i_X7_settles_11, i_X7_settles_12, i_X7_settles_13, i_X7_settles_16, i_X7_settles_17, i_X7_settles_18, i_X7_settles_19, i_X7_settles_22, i_X7_settles_24, i_X7_settles_27, i_X7_settles_0_e, Option.toList_some, Option.toList_none, List.cons_append, List.nil_append, List.append_nil, ↓reduceIte]
      exact hQ J' B' h
theorem t_isContentO (hT : okT T) (h1 : RF1 E 37 (T 10 0) T) {k : Nat} (hk : k < T 10 0) (e5 : A 7 k = nI (T 5 k)) (e6 : A 8 k = nI (T 6 k)) : pm_call X (d + 1) mX0_isContent [.ref 37, .ref 1, .int (nI k)] (pm_w I A E J B) Q ↔ Q (some (.int (bz (cnn T k)))) (pm_w I A E J B) := by
  have h24 := hT.wf.2.1
  have b1 := nm_b hT hk
  have b2 := dn_b hT hk
  have s5 := hT.small hk (w := 5) (by omega) (by omega)
  have s6 := hT.small hk (w := 6) (by omega) (by omega)
  have p5 : T 5 k * dn T k ≤ 4000000 * 531441 := Nat.mul_le_mul s5 b2.2
  have p6 : T 6 k * dn T k ≤ 4000000 * 531441 := Nat.mul_le_mul s6 b2.2
  have f1 := (h1 k hk).1
  have f2 := (h1 k hk).2
  unfold cnn
  by_cases h2 : T 6 k * dn T k < nm T k
  · simp (disch := omega) only [i_X0_isContent_0, i_X0_isContent_1, i_X0_isContent_4, i_X0_isContent_5, i_X0_isContent_6, i_X0_isContent_7, i_X0_isContent_10, i_X0_isContent_11, i_X0_isContent_12, i_X0_isContent_13, i_X0_isContent_16, i_X0_isContent_17, i_X0_isContent_18, i_X0_isContent_19, i_X0_isContent_22, i_X0_isContent_25, i_X0_isContent_26, i_X0_isContent_29, i_X0_isContent_30, i_X0_isContent_31, i_X0_isContent_32, i_X0_isContent_35, i_X0_isContent_36, i_X0_isContent_37, i_X0_isContent_38, i_X0_isContent_39, i_X0_isContent_42, i_X0_isContent_43, i_X0_isContent_44, i_X0_isContent_45, i_X0_isContent_46, i_X0_isContent_49, i_X0_isContent_50, i_X0_isContent_54, i_X0_isContent_54b, i_X0_isContent_54c, i_X0_isContent_53, i_X0_isContent_0_e, i_X0_isContent_1b, i_X0_isContent_5b, i_X0_isContent_7b, i_X0_isContent_11b, i_X0_isContent_26b, i_X0_isContent_30b, i_X0_isContent_39b, i_X0_isContent_43b, Option.toList_some, Option.toList_none, List.cons_append, List.nil_append, List.append_nil, ↓reduceIte, f1, f2, e5, e6, l_of, t_isAbove, h2, bz_e0, decide_true, reduceCtorEq]
    simp [show ¬ nm T k ≤ T 6 k * dn T k from Nat.not_le.mpr h2]
  · by_cases h3 : nm T k < T 5 k * dn T k
    · simp (disch := omega) only [i_X0_isContent_0, i_X0_isContent_1, i_X0_isContent_4, i_X0_isContent_5, i_X0_isContent_6, i_X0_isContent_7, i_X0_isContent_10, i_X0_isContent_11, i_X0_isContent_12, i_X0_isContent_13, i_X0_isContent_16, i_X0_isContent_17, i_X0_isContent_18, i_X0_isContent_19, i_X0_isContent_22, i_X0_isContent_25, i_X0_isContent_26, i_X0_isContent_29, i_X0_isContent_30, i_X0_isContent_31, i_X0_isContent_32, i_X0_isContent_35, i_X0_isContent_36, i_X0_isContent_37, i_X0_isContent_38, i_X0_isContent_39, i_X0_isContent_42, i_X0_isContent_43, i_X0_isContent_44, i_X0_isContent_45, i_X0_isContent_46, i_X0_isContent_49, i_X0_isContent_50, i_X0_isContent_54, i_X0_isContent_54b, i_X0_isContent_54c, i_X0_isContent_53, i_X0_isContent_0_e, i_X0_isContent_1b, i_X0_isContent_5b, i_X0_isContent_7b, i_X0_isContent_11b, i_X0_isContent_26b, i_X0_isContent_30b, i_X0_isContent_39b, i_X0_isContent_43b, Option.toList_some, Option.toList_none, List.cons_append, List.nil_append, List.append_nil, ↓reduceIte, f1, f2, e5, e6, l_of, t_isAbove, h2, bz_e0, decide_false, lN_mul, lg_lt, l_lt, h3]
      simp [show ¬ T 5 k * dn T k ≤ nm T k from Nat.not_le.mpr h3]
    · simp (disch := omega) only [i_X0_isContent_0, i_X0_isContent_1, i_X0_isContent_4, i_X0_isContent_5, i_X0_isContent_6, i_X0_isContent_7, i_X0_isContent_10, i_X0_isContent_11, i_X0_isContent_12, i_X0_isContent_13, i_X0_isContent_16, i_X0_isContent_17, i_X0_isContent_18, i_X0_isContent_19, i_X0_isContent_22, i_X0_isContent_25, i_X0_isContent_26, i_X0_isContent_29, i_X0_isContent_30, i_X0_isContent_31, i_X0_isContent_32, i_X0_isContent_35, i_X0_isContent_36, i_X0_isContent_37, i_X0_isContent_38, i_X0_isContent_39, i_X0_isContent_42, i_X0_isContent_43, i_X0_isContent_44, i_X0_isContent_45, i_X0_isContent_46, i_X0_isContent_49, i_X0_isContent_50, i_X0_isContent_54, i_X0_isContent_54b, i_X0_isContent_54c, i_X0_isContent_53, i_X0_isContent_0_e, i_X0_isContent_1b, i_X0_isContent_5b, i_X0_isContent_7b, i_X0_isContent_11b, i_X0_isContent_26b, i_X0_isContent_30b, i_X0_isContent_39b, i_X0_isContent_43b, Option.toList_some, Option.toList_none, List.cons_append, List.nil_append, List.append_nil, ↓reduceIte, f1, f2, e5, e6, l_of, t_isAbove, h2, bz_e0, decide_false, lN_mul, lg_lt, l_lt, h3]
      simp [Nat.not_lt.mp h2, Nat.not_lt.mp h3]
theorem t_refR (hP : RelTP I A 1 T') (hT : okT T) (hT' : okT T') (h1 : RF1 E 37 (T 10 0) T) (h2 : RF1 E 47 (T' 10 0) T') (hN : T' 10 0 = T 10 0) (h0 : T' 0 = T 0) (h5 : T' 5 = T 5) (h6 : T' 6 = T 6) : pm_call X (d + 2) mX6_refusalOfRates [.ref 0] (pm_w I A E J B) Q ↔ Q (some (.int (nI (whyR T T')))) (pm_w I A E J B) := by
  have h24 := hT.wf.2.1
  have hsz : I 1 12 = nI (T 10 0) := by rw [← hN]; exact hP.2.1
  have key : ∀ m n, n + m = T 10 0 → anyN (fst T') n = false → (pm_wp X (d + 2) mX6_refusalOfRates 4 [.ref 0, .int (nI (if anyN (upB T T') n then 1 else 0)), .int (nI n)] [] (pm_w I A E J B) Q ↔ Q (some (.int (nI (whyR T T')))) (pm_w I A E J B)) := by
    intro m
    induction m with
    | zero =>
      intro n hn hf
      have : n = T 10 0 := by omega
      subst this
      unfold whyR
      rw [hf, i_X6_refusalOfRates_4]
      cases hu : anyN (upB T T') (T 10 0) <;> simp (disch := omega) only [i_X6_refusalOfRates_0, i_X6_refusalOfRates_1, i_X6_refusalOfRates_2, i_X6_refusalOfRates_3, i_X6_refusalOfRates_5, i_X6_refusalOfRates_6, i_X6_refusalOfRates_9, i_X6_refusalOfRates_12, i_X6_refusalOfRates_15, i_X6_refusalOfRates_16, i_X6_refusalOfRates_19, i_X6_refusalOfRates_22, i_X6_refusalOfRates_23, i_X6_refusalOfRates_24, i_X6_refusalOfRates_25, i_X6_refusalOfRates_28, i_X6_refusalOfRates_31, i_X6_refusalOfRates_32, i_X6_refusalOfRates_33, i_X6_refusalOfRates_36, i_X6_refusalOfRates_39, i_X6_refusalOfRates_42, i_X6_refusalOfRates_43, i_X6_refusalOfRates_44, i_X6_refusalOfRates_45, i_X6_refusalOfRates_48, i_X6_refusalOfRates_51, i_X6_refusalOfRates_52, i_X6_refusalOfRates_53, i_X6_refusalOfRates_54, i_X6_refusalOfRates_57, i_X6_refusalOfRates_58, i_X6_refusalOfRates_61, i_X6_refusalOfRates_62, i_X6_refusalOfRates_65, i_X6_refusalOfRates_66, i_X6_refusalOfRates_69, i_X6_refusalOfRates_72, i_X6_refusalOfRates_73, i_X6_refusalOfRates_76, i_X6_refusalOfRates_77, i_X6_refusalOfRates_80, i_X6_refusalOfRates_81, i_X6_refusalOfRates_84, i_X6_refusalOfRates_87, i_X6_refusalOfRates_88, i_X6_refusalOfRates_89, i_X6_refusalOfRates_92, i_X6_refusalOfRates_95, i_X6_refusalOfRates_96, i_X6_refusalOfRates_99, i_X6_refusalOfRates_101, i_X6_refusalOfRates_105, i_X6_refusalOfRates_104, i_X6_refusalOfRates_0_e, Option.toList_some, Option.toList_none, List.cons_append, List.nil_append, List.append_nil, ↓reduceIte, hsz, q_lt, Nat.lt_irrefl, n1_e0, n0_e0, reduceCtorEq]
    | succ m ih =>
      intro n hn hf
      have hn2 : n < T 10 0 := by omega
      have hn3 : n < T' 10 0 := by omega
      have b1 := nm_b hT' hn3
      have b2 := dn_b hT' hn3
      have f1 : E 48 n = lN (nm T' n) := (h2 n hn3).1
      have f2 : E 49 n = lN (dn T' n) := (h2 n hn3).2
      have e0 : A 2 n = nI (T 0 n) := by rw [← h0]; exact hP.2.2.2 0 n (by decide) hn3 (by omega)
      have e5 : A 7 n = nI (T 5 n) := by rw [← h5]; exact hP.2.2.2 5 n (by decide) hn3 (by omega)
      have e6 : A 8 n = nI (T 6 n) := by rw [← h6]; exact hP.2.2.2 6 n (by decide) hn3 (by omega)
      have hb := hT.kind hn2
      rw [i_X6_refusalOfRates_4]
      cases hfn : fst T' n with
      | true =>
        have ha : anyN (fst T') (T 10 0) = true := (anyN_iff _).mpr ⟨n, hn2, hfn⟩
        have hfn2 : 4000000 * dn T' n < nm T' n := by unfold fst at hfn; simpa using hfn
        unfold whyR
        rw [ha]
        simp (disch := omega) only [i_X6_refusalOfRates_0, i_X6_refusalOfRates_1, i_X6_refusalOfRates_2, i_X6_refusalOfRates_3, i_X6_refusalOfRates_5, i_X6_refusalOfRates_6, i_X6_refusalOfRates_9, i_X6_refusalOfRates_12, i_X6_refusalOfRates_15, i_X6_refusalOfRates_16, i_X6_refusalOfRates_19, i_X6_refusalOfRates_22, i_X6_refusalOfRates_23, i_X6_refusalOfRates_24, i_X6_refusalOfRates_25, i_X6_refusalOfRates_28, i_X6_refusalOfRates_31, i_X6_refusalOfRates_32, i_X6_refusalOfRates_33, i_X6_refusalOfRates_36, i_X6_refusalOfRates_39, i_X6_refusalOfRates_42, i_X6_refusalOfRates_43, i_X6_refusalOfRates_44, i_X6_refusalOfRates_45, i_X6_refusalOfRates_48, i_X6_refusalOfRates_51, i_X6_refusalOfRates_52, i_X6_refusalOfRates_53, i_X6_refusalOfRates_54, i_X6_refusalOfRates_57, i_X6_refusalOfRates_58, i_X6_refusalOfRates_61, i_X6_refusalOfRates_62, i_X6_refusalOfRates_65, i_X6_refusalOfRates_66, i_X6_refusalOfRates_69, i_X6_refusalOfRates_72, i_X6_refusalOfRates_73, i_X6_refusalOfRates_76, i_X6_refusalOfRates_77, i_X6_refusalOfRates_80, i_X6_refusalOfRates_81, i_X6_refusalOfRates_84, i_X6_refusalOfRates_87, i_X6_refusalOfRates_88, i_X6_refusalOfRates_89, i_X6_refusalOfRates_92, i_X6_refusalOfRates_95, i_X6_refusalOfRates_96, i_X6_refusalOfRates_99, i_X6_refusalOfRates_101, i_X6_refusalOfRates_105, i_X6_refusalOfRates_104, i_X6_refusalOfRates_0_e, Option.toList_some, Option.toList_none, List.cons_append, List.nil_append, List.append_nil, ↓reduceIte, hsz, q_lt, hn2, f1, f2, t_isAbove, hfn2, decide_true, bz_e0, reduceCtorEq]
      | false =>
        have hfn2 : ¬ 4000000 * dn T' n < nm T' n := by unfold fst at hfn; simpa using hfn
        have hf2 : anyN (fst T') (n + 1) = false := by unfold anyN; rw [hf, hfn]; rfl
        have ih2 := ih (n + 1) (by omega) hf2
        rw [show anyN (upB T T') (n + 1) = (anyN (upB T T') n || upB T T' n) from rfl] at ih2
        unfold upB cnB at ih2
        by_cases hk5 : T 0 n = 5
        · cases hc : cnn T n with
          | false =>
            rw [hc] at ih2
            simp (disch := omega) only [i_X6_refusalOfRates_0, i_X6_refusalOfRates_1, i_X6_refusalOfRates_2, i_X6_refusalOfRates_3, i_X6_refusalOfRates_5, i_X6_refusalOfRates_6, i_X6_refusalOfRates_9, i_X6_refusalOfRates_12, i_X6_refusalOfRates_15, i_X6_refusalOfRates_16, i_X6_refusalOfRates_19, i_X6_refusalOfRates_22, i_X6_refusalOfRates_23, i_X6_refusalOfRates_24, i_X6_refusalOfRates_25, i_X6_refusalOfRates_28, i_X6_refusalOfRates_31, i_X6_refusalOfRates_32, i_X6_refusalOfRates_33, i_X6_refusalOfRates_36, i_X6_refusalOfRates_39, i_X6_refusalOfRates_42, i_X6_refusalOfRates_43, i_X6_refusalOfRates_44, i_X6_refusalOfRates_45, i_X6_refusalOfRates_48, i_X6_refusalOfRates_51, i_X6_refusalOfRates_52, i_X6_refusalOfRates_53, i_X6_refusalOfRates_54, i_X6_refusalOfRates_57, i_X6_refusalOfRates_58, i_X6_refusalOfRates_61, i_X6_refusalOfRates_62, i_X6_refusalOfRates_65, i_X6_refusalOfRates_66, i_X6_refusalOfRates_69, i_X6_refusalOfRates_72, i_X6_refusalOfRates_73, i_X6_refusalOfRates_76, i_X6_refusalOfRates_77, i_X6_refusalOfRates_80, i_X6_refusalOfRates_81, i_X6_refusalOfRates_84, i_X6_refusalOfRates_87, i_X6_refusalOfRates_88, i_X6_refusalOfRates_89, i_X6_refusalOfRates_92, i_X6_refusalOfRates_95, i_X6_refusalOfRates_96, i_X6_refusalOfRates_99, i_X6_refusalOfRates_101, i_X6_refusalOfRates_105, i_X6_refusalOfRates_104, i_X6_refusalOfRates_0_e, Option.toList_some, Option.toList_none, List.cons_append, List.nil_append, List.append_nil, ↓reduceIte, hsz, q_lt, q_eq, hn2, f1, f2, t_isAbove, hfn2, decide_false, bz_e0, e0, hk5, t_isContentO hT h1 hn2 e5 e6, hc, nI_add, reduceCtorEq]
            simp only [Bool.and_false, Bool.false_and, Bool.or_false] at ih2
            exact ih2
          | true =>
            rw [hc] at ih2
            cases hc' : cnn T' n with
            | true =>
              rw [hc'] at ih2
              simp (disch := omega) only [i_X6_refusalOfRates_0, i_X6_refusalOfRates_1, i_X6_refusalOfRates_2, i_X6_refusalOfRates_3, i_X6_refusalOfRates_5, i_X6_refusalOfRates_6, i_X6_refusalOfRates_9, i_X6_refusalOfRates_12, i_X6_refusalOfRates_15, i_X6_refusalOfRates_16, i_X6_refusalOfRates_19, i_X6_refusalOfRates_22, i_X6_refusalOfRates_23, i_X6_refusalOfRates_24, i_X6_refusalOfRates_25, i_X6_refusalOfRates_28, i_X6_refusalOfRates_31, i_X6_refusalOfRates_32, i_X6_refusalOfRates_33, i_X6_refusalOfRates_36, i_X6_refusalOfRates_39, i_X6_refusalOfRates_42, i_X6_refusalOfRates_43, i_X6_refusalOfRates_44, i_X6_refusalOfRates_45, i_X6_refusalOfRates_48, i_X6_refusalOfRates_51, i_X6_refusalOfRates_52, i_X6_refusalOfRates_53, i_X6_refusalOfRates_54, i_X6_refusalOfRates_57, i_X6_refusalOfRates_58, i_X6_refusalOfRates_61, i_X6_refusalOfRates_62, i_X6_refusalOfRates_65, i_X6_refusalOfRates_66, i_X6_refusalOfRates_69, i_X6_refusalOfRates_72, i_X6_refusalOfRates_73, i_X6_refusalOfRates_76, i_X6_refusalOfRates_77, i_X6_refusalOfRates_80, i_X6_refusalOfRates_81, i_X6_refusalOfRates_84, i_X6_refusalOfRates_87, i_X6_refusalOfRates_88, i_X6_refusalOfRates_89, i_X6_refusalOfRates_92, i_X6_refusalOfRates_95, i_X6_refusalOfRates_96, i_X6_refusalOfRates_99, i_X6_refusalOfRates_101, i_X6_refusalOfRates_105, i_X6_refusalOfRates_104, i_X6_refusalOfRates_0_e, Option.toList_some, Option.toList_none, List.cons_append, List.nil_append, List.append_nil, ↓reduceIte, hsz, q_lt, q_eq, hn2, f1, f2, t_isAbove, hfn2, decide_false, bz_e0, e0, hk5, t_isContentO hT h1 hn2 e5 e6, hc, t_isContentb hP hT' h2 hn3, hc', nI_add, reduceCtorEq]
              simp only [Bool.not_true, Bool.and_false, Bool.or_false] at ih2
              exact ih2
            | false =>
              rw [hc'] at ih2
              simp (disch := omega) only [i_X6_refusalOfRates_0, i_X6_refusalOfRates_1, i_X6_refusalOfRates_2, i_X6_refusalOfRates_3, i_X6_refusalOfRates_5, i_X6_refusalOfRates_6, i_X6_refusalOfRates_9, i_X6_refusalOfRates_12, i_X6_refusalOfRates_15, i_X6_refusalOfRates_16, i_X6_refusalOfRates_19, i_X6_refusalOfRates_22, i_X6_refusalOfRates_23, i_X6_refusalOfRates_24, i_X6_refusalOfRates_25, i_X6_refusalOfRates_28, i_X6_refusalOfRates_31, i_X6_refusalOfRates_32, i_X6_refusalOfRates_33, i_X6_refusalOfRates_36, i_X6_refusalOfRates_39, i_X6_refusalOfRates_42, i_X6_refusalOfRates_43, i_X6_refusalOfRates_44, i_X6_refusalOfRates_45, i_X6_refusalOfRates_48, i_X6_refusalOfRates_51, i_X6_refusalOfRates_52, i_X6_refusalOfRates_53, i_X6_refusalOfRates_54, i_X6_refusalOfRates_57, i_X6_refusalOfRates_58, i_X6_refusalOfRates_61, i_X6_refusalOfRates_62, i_X6_refusalOfRates_65, i_X6_refusalOfRates_66, i_X6_refusalOfRates_69, i_X6_refusalOfRates_72, i_X6_refusalOfRates_73, i_X6_refusalOfRates_76, i_X6_refusalOfRates_77, i_X6_refusalOfRates_80, i_X6_refusalOfRates_81, i_X6_refusalOfRates_84, i_X6_refusalOfRates_87, i_X6_refusalOfRates_88, i_X6_refusalOfRates_89, i_X6_refusalOfRates_92, i_X6_refusalOfRates_95, i_X6_refusalOfRates_96, i_X6_refusalOfRates_99, i_X6_refusalOfRates_101, i_X6_refusalOfRates_105, i_X6_refusalOfRates_104, i_X6_refusalOfRates_0_e, Option.toList_some, Option.toList_none, List.cons_append, List.nil_append, List.append_nil, ↓reduceIte, hsz, q_lt, q_eq, hn2, f1, f2, t_isAbove, hfn2, decide_false, bz_e0, e0, hk5, t_isContentO hT h1 hn2 e5 e6, hc, t_isContentb hP hT' h2 hn3, hc', nI_add, reduceCtorEq]
              simp only [hk5, decide_true, Bool.not_false, Bool.and_true, Bool.or_true, if_true] at ih2
              exact ih2
        · simp (disch := omega) only [i_X6_refusalOfRates_0, i_X6_refusalOfRates_1, i_X6_refusalOfRates_2, i_X6_refusalOfRates_3, i_X6_refusalOfRates_5, i_X6_refusalOfRates_6, i_X6_refusalOfRates_9, i_X6_refusalOfRates_12, i_X6_refusalOfRates_15, i_X6_refusalOfRates_16, i_X6_refusalOfRates_19, i_X6_refusalOfRates_22, i_X6_refusalOfRates_23, i_X6_refusalOfRates_24, i_X6_refusalOfRates_25, i_X6_refusalOfRates_28, i_X6_refusalOfRates_31, i_X6_refusalOfRates_32, i_X6_refusalOfRates_33, i_X6_refusalOfRates_36, i_X6_refusalOfRates_39, i_X6_refusalOfRates_42, i_X6_refusalOfRates_43, i_X6_refusalOfRates_44, i_X6_refusalOfRates_45, i_X6_refusalOfRates_48, i_X6_refusalOfRates_51, i_X6_refusalOfRates_52, i_X6_refusalOfRates_53, i_X6_refusalOfRates_54, i_X6_refusalOfRates_57, i_X6_refusalOfRates_58, i_X6_refusalOfRates_61, i_X6_refusalOfRates_62, i_X6_refusalOfRates_65, i_X6_refusalOfRates_66, i_X6_refusalOfRates_69, i_X6_refusalOfRates_72, i_X6_refusalOfRates_73, i_X6_refusalOfRates_76, i_X6_refusalOfRates_77, i_X6_refusalOfRates_80, i_X6_refusalOfRates_81, i_X6_refusalOfRates_84, i_X6_refusalOfRates_87, i_X6_refusalOfRates_88, i_X6_refusalOfRates_89, i_X6_refusalOfRates_92, i_X6_refusalOfRates_95, i_X6_refusalOfRates_96, i_X6_refusalOfRates_99, i_X6_refusalOfRates_101, i_X6_refusalOfRates_105, i_X6_refusalOfRates_104, i_X6_refusalOfRates_0_e, Option.toList_some, Option.toList_none, List.cons_append, List.nil_append, List.append_nil, ↓reduceIte, hsz, q_lt, q_eq, hn2, f1, f2, t_isAbove, hfn2, decide_false, bz_e0, e0, hk5, nI_add, reduceCtorEq]
          simp only [hk5, decide_false, Bool.false_and, Bool.or_false] at ih2
          exact ih2
  simp only [i_X6_refusalOfRates_0, i_X6_refusalOfRates_1, i_X6_refusalOfRates_2, i_X6_refusalOfRates_3, i_X6_refusalOfRates_5, i_X6_refusalOfRates_6, i_X6_refusalOfRates_9, i_X6_refusalOfRates_12, i_X6_refusalOfRates_15, i_X6_refusalOfRates_16, i_X6_refusalOfRates_19, i_X6_refusalOfRates_22, i_X6_refusalOfRates_23, i_X6_refusalOfRates_24, i_X6_refusalOfRates_25, i_X6_refusalOfRates_28, i_X6_refusalOfRates_31, i_X6_refusalOfRates_32, i_X6_refusalOfRates_33, i_X6_refusalOfRates_36, i_X6_refusalOfRates_39, i_X6_refusalOfRates_42, i_X6_refusalOfRates_43, i_X6_refusalOfRates_44, i_X6_refusalOfRates_45, i_X6_refusalOfRates_48, i_X6_refusalOfRates_51, i_X6_refusalOfRates_52, i_X6_refusalOfRates_53, i_X6_refusalOfRates_54, i_X6_refusalOfRates_57, i_X6_refusalOfRates_58, i_X6_refusalOfRates_61, i_X6_refusalOfRates_62, i_X6_refusalOfRates_65, i_X6_refusalOfRates_66, i_X6_refusalOfRates_69, i_X6_refusalOfRates_72, i_X6_refusalOfRates_73, i_X6_refusalOfRates_76, i_X6_refusalOfRates_77, i_X6_refusalOfRates_80, i_X6_refusalOfRates_81, i_X6_refusalOfRates_84, i_X6_refusalOfRates_87, i_X6_refusalOfRates_88, i_X6_refusalOfRates_89, i_X6_refusalOfRates_92, i_X6_refusalOfRates_95, i_X6_refusalOfRates_96, i_X6_refusalOfRates_99, i_X6_refusalOfRates_101, i_X6_refusalOfRates_105, i_X6_refusalOfRates_104, i_X6_refusalOfRates_0_e, Option.toList_some, Option.toList_none, List.cons_append, List.nil_append, List.append_nil, ↓reduceIte]
  exact key (T 10 0) 0 (by omega) rfl
theorem t_finR {x : Int32} {A' : Nat → Nat → Int32} {I' : Nat → Nat → Int32} (hB : BegP I A E S) (hS : OkS S) (hP : RelTP I' A' 1 T') (hT : okT T') (hN : T' 10 0 = S.1 10 0) (h0 : T' 0 = S.1 0) (h5 : T' 5 = S.1 5) (h6 : T' 6 = S.1 6) (hI : ∀ c k, c ≠ 1 → I' c k = I c k) (hA : ∀ c, c ≤ 1 ∨ 12 < c → A' c = A c) (hQ : ∀ I' A' E', RelP I' A' E' (chk S T' x).2 → Q (some (.int (chk S T' x).1)) (pm_w I' A' E' J B)) : pm_call X (d + 5) mX6_finishRates [.ref 0, .int x] (pm_w I' A' E J B) Q := by
  have h24 := hS.1.1.wf.2.1
  simp only [i_X6_finishRates_0, i_X6_finishRates_1, i_X6_finishRates_4, i_X6_finishRates_5, i_X6_finishRates_8, i_X6_finishRates_11, i_X6_finishRates_12, i_X6_finishRates_15, i_X6_finishRates_16, i_X6_finishRates_17, i_X6_finishRates_20, i_X6_finishRates_21, i_X6_finishRates_24, i_X6_finishRates_25, i_X6_finishRates_28, i_X6_finishRates_31, i_X6_finishRates_32, i_X6_finishRates_33, i_X6_finishRates_36, i_X6_finishRates_37, i_X6_finishRates_38, i_X6_finishRates_39, i_X6_finishRates_42, i_X6_finishRates_0_e, Option.toList_some, Option.toList_none, List.cons_append, List.nil_append, List.append_nil, ↓reduceIte]
  refine t_readb hP hT (fun A2 E2 hF2 hA2 hE2 => ?_)
  have hP2 : RelTP I' A2 1 T' := hP.fr ⟨rfl, rfl⟩ (fun c a b => hA2 c (by omega))
  have hF : RF1 E2 37 (S.1 10 0) S.1 := fun k hk => by rw [hE2 _ (by omega), hE2 _ (by omega)]; exact hB.1.2.1.1 k hk
  have hAA : ∀ c, c ≤ 1 ∨ (12 < c ∧ c < 47) ∨ 56 < c → A2 c = A c := fun c hc => by rw [hA2 c (by omega), hA c (by omega)]
  simp only [i_X6_finishRates_0, i_X6_finishRates_1, i_X6_finishRates_4, i_X6_finishRates_5, i_X6_finishRates_8, i_X6_finishRates_11, i_X6_finishRates_12, i_X6_finishRates_15, i_X6_finishRates_16, i_X6_finishRates_17, i_X6_finishRates_20, i_X6_finishRates_21, i_X6_finishRates_24, i_X6_finishRates_25, i_X6_finishRates_28, i_X6_finishRates_31, i_X6_finishRates_32, i_X6_finishRates_33, i_X6_finishRates_36, i_X6_finishRates_37, i_X6_finishRates_38, i_X6_finishRates_39, i_X6_finishRates_42, i_X6_finishRates_0_e, Option.toList_some, Option.toList_none, List.cons_append, List.nil_append, List.append_nil, ↓reduceIte]
  rw [t_refR hP2 hS.1.1 hT hF hF2.1 hN h0 h5 h6]
  unfold chk at hQ
  have hPS : RelTP I' A2 13 S.1 := hB.2.fr ⟨hI _ _ (by omega), hI _ _ (by omega)⟩ (fun c a b => hAA c (by omega))
  have hO2 : RelO I' A2 S.2.1 S.2.2.1 S.2.2.2.1 S.2.2.2.2 := hB.1.2.2.fr (fun c k a => hI c k (by omega)) (fun c a => hAA c (by omega))
  by_cases hw : whyR S.1 T' = 0
  · rw [if_pos hw] at hQ
    rw [hw]
    simp only [i_X6_finishRates_0, i_X6_finishRates_1, i_X6_finishRates_4, i_X6_finishRates_5, i_X6_finishRates_8, i_X6_finishRates_11, i_X6_finishRates_12, i_X6_finishRates_15, i_X6_finishRates_16, i_X6_finishRates_17, i_X6_finishRates_20, i_X6_finishRates_21, i_X6_finishRates_24, i_X6_finishRates_25, i_X6_finishRates_28, i_X6_finishRates_31, i_X6_finishRates_32, i_X6_finishRates_33, i_X6_finishRates_36, i_X6_finishRates_37, i_X6_finishRates_38, i_X6_finishRates_39, i_X6_finishRates_42, i_X6_finishRates_0_e, Option.toList_some, Option.toList_none, List.cons_append, List.nil_append, List.append_nil, ↓reduceIte, n0_e0]
    refine t_finish hP2 hT hPS h24 hO2 (fun I3 A3 E3 h3 => ?_)
    simp only [i_X6_finishRates_0, i_X6_finishRates_1, i_X6_finishRates_4, i_X6_finishRates_5, i_X6_finishRates_8, i_X6_finishRates_11, i_X6_finishRates_12, i_X6_finishRates_15, i_X6_finishRates_16, i_X6_finishRates_17, i_X6_finishRates_20, i_X6_finishRates_21, i_X6_finishRates_24, i_X6_finishRates_25, i_X6_finishRates_28, i_X6_finishRates_31, i_X6_finishRates_32, i_X6_finishRates_33, i_X6_finishRates_36, i_X6_finishRates_37, i_X6_finishRates_38, i_X6_finishRates_39, i_X6_finishRates_42, i_X6_finishRates_0_e, Option.toList_some, Option.toList_none, List.cons_append, List.nil_append, List.append_nil, ↓reduceIte]
    exact hQ I3 A3 E3 h3
  · rw [if_neg hw] at hQ
    have hb := whyR_c S.1 T'
    simp (disch := omega) only [i_X6_finishRates_0, i_X6_finishRates_1, i_X6_finishRates_4, i_X6_finishRates_5, i_X6_finishRates_8, i_X6_finishRates_11, i_X6_finishRates_12, i_X6_finishRates_15, i_X6_finishRates_16, i_X6_finishRates_17, i_X6_finishRates_20, i_X6_finishRates_21, i_X6_finishRates_24, i_X6_finishRates_25, i_X6_finishRates_28, i_X6_finishRates_31, i_X6_finishRates_32, i_X6_finishRates_33, i_X6_finishRates_36, i_X6_finishRates_37, i_X6_finishRates_38, i_X6_finishRates_39, i_X6_finishRates_42, i_X6_finishRates_0_e, Option.toList_some, Option.toList_none, List.cons_append, List.nil_append, List.append_nil, ↓reduceIte, q_e0, hw]
    refine t_take (d := d + 4) (by rfl) (by rfl) (by decide) hPS h24 (fun I3 A3 hP3 hI3 hA3 => ?_)
    simp only [i_X6_finishRates_0, i_X6_finishRates_1, i_X6_finishRates_4, i_X6_finishRates_5, i_X6_finishRates_8, i_X6_finishRates_11, i_X6_finishRates_12, i_X6_finishRates_15, i_X6_finishRates_16, i_X6_finishRates_17, i_X6_finishRates_20, i_X6_finishRates_21, i_X6_finishRates_24, i_X6_finishRates_25, i_X6_finishRates_28, i_X6_finishRates_31, i_X6_finishRates_32, i_X6_finishRates_33, i_X6_finishRates_36, i_X6_finishRates_37, i_X6_finishRates_38, i_X6_finishRates_39, i_X6_finishRates_42, i_X6_finishRates_0_e, Option.toList_some, Option.toList_none, List.cons_append, List.nil_append, List.append_nil, ↓reduceIte, t_refuse]
    refine hQ _ A3 E2 (RelP.reason (S := S) ⟨hP3, ?_, hO2.fr (fun c k a => hI3 c k (by omega)) (fun c a => hA3 c (by omega))⟩)
    obtain ⟨f1, f2, f3, f4⟩ := hB.1.2.1
    have hAB : ∀ c, 37 ≤ c → c < 47 → A3 c = A c := fun c a b => by rw [hA3 c (by omega), hAA c (by omega)]
    exact ⟨hF, fun k hk => by rw [hAB _ (by omega) (by omega), hAB _ (by omega) (by omega)]; exact f2 k hk, fun k hk => by rw [hAB _ (by omega) (by omega), hAB _ (by omega) (by omega), hAB _ (by omega) (by omega)]; exact f3 k hk, fun k hk => by rw [hAB _ (by omega) (by omega), hAB _ (by omega) (by omega)]; exact f4 k hk⟩
end RTE
