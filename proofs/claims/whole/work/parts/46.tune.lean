/-! source and tune -/
theorem inR_lo {x : Int32} {lo hi : Nat} (hl : lo < 2147483648) (h : x < nI lo) : inR x lo hi = false := by
  rw [Int32.lt_iff_toInt_lt, nI_toInt hl] at h
  unfold inR
  simp only [Bool.and_eq_false_iff, decide_eq_false_iff_not]
  omega
theorem inR_hi {x : Int32} {lo hi : Nat} (hl : hi < 2147483648) (h : nI hi < x) : inR x lo hi = false := by
  rw [Int32.lt_iff_toInt_lt, nI_toInt hl] at h
  unfold inR
  simp only [Bool.and_eq_false_iff, decide_eq_false_iff_not]
  omega
theorem inR_mid {x : Int32} {lo hi : Nat} (hl : lo < 2147483648) (hh : hi < 2147483648) (h1 : ¬ x < nI lo) (h2 : ¬ nI hi < x) : inR x lo hi = true := by
  rw [Int32.lt_iff_toInt_lt, nI_toInt hl] at h1
  rw [Int32.lt_iff_toInt_lt, nI_toInt hh] at h2
  unfold inR
  simp only [Bool.and_eq_true, decide_eq_true_eq]
  omega
theorem inR_mid0 {x : Int32} {hi : Nat} (hh : hi < 2147483648) (h1 : ¬ x < 0) (h2 : ¬ nI hi < x) : inR x 0 hi = true := inR_mid (by decide) hh (by rw [nI_0]; exact h1) h2
def isNum (kd : Nat) (v : Int32) : Bool := if kd = 3 then inR v 0 4 else if kd = 4 then inR v 0 99 else inR v 1 9
def o_source (S : St) (x : Int32) : Int32 × St := if inR x 1 1000000 then chk S (up2 S.1 10 1 (xN x)) (nI (S.1 10 1)) else (-3, refS S 4)
def o_tune (S : St) (x v : Int32) : Int32 × St := if isN S.1 x then (if 1 ≤ S.1 0 (xN x) ∧ S.1 0 (xN x) ≤ 3 then (if isNum (S.1 0 (xN x)) v then chk S (up2 S.1 2 (xN x) (xN v)) (nI (S.1 2 (xN x))) else (-3, refS S 4)) else (-1, S)) else (-3, refS S 1)
theorem okT_src {T : Tr} (h : okT T) {v : Nat} (hv : 1 ≤ v ∧ v ≤ 1000000) : okT (up2 T 10 1 v) := by
  have n : ∀ w, w ≠ 10 → up2 T 10 1 v w = T w := fun w hw => up2_na _ _ hw
  have e10 : up2 T 10 1 v 10 0 = T 10 0 := up2_n _ _ (by omega)
  obtain ⟨w, b, s, l, nn, r, c⟩ := h
  have hw : wf (up2 T 10 1 v) := by unfold wf; rw [e10, n 1 (by decide)]; exact w
  refine ⟨hw, by rw [up2_s]; exact hv, by rw [n 0 (by decide), n 2 (by decide)]; exact s, by rw [n 11 (by decide)]; exact l, ?_, ?_, ?_⟩
  · rw [e10]
    intro k h1 h2
    unfold okN
    rw [n 0 (by decide), n 1 (by decide), n 2 (by decide), n 7 (by decide), dep_c (n 1 (by decide))]
    exact nn k h1 h2
  · rw [e10, n 0 (by decide), n 3 (by decide), n 4 (by decide), n 5 (by decide), n 6 (by decide), n 7 (by decide), n 8 (by decide), n 9 (by decide)]
    exact r
  · rw [e10, n 0 (by decide)]; exact c
theorem okT_tune {T : Tr} (h : okT T) {k v : Nat} (hk : 1 ≤ T 0 k ∧ T 0 k ≤ 3) (hv : (T 0 k = 3 → v ≤ 4) ∧ (T 0 k ≠ 3 → 1 ≤ v ∧ v ≤ 9)) : okT (up2 T 2 k v) := by
  have n : ∀ w, w ≠ 2 → up2 T 2 k v w = T w := fun w hw => up2_na _ _ hw
  obtain ⟨w, b, s, l, nn, r, c⟩ := h
  have hw : wf (up2 T 2 k v) := by unfold wf; rw [n 10 (by decide), n 1 (by decide)]; exact w
  refine ⟨hw, by rw [n 10 (by decide)]; exact b, ⟨by rw [n 0 (by decide)]; exact s.1, ?_⟩, by rw [n 11 (by decide)]; exact l, ?_, ?_, ?_⟩
  · rw [up2_n _ _ (by rintro ⟨_, rfl⟩; omega)]; exact s.2
  · rw [n 10 (by decide)]
    intro j h1 h2
    have q := nn j h1 h2
    unfold okN at q ⊢
    rw [n 0 (by decide), n 1 (by decide), n 7 (by decide), dep_c (n 1 (by decide))]
    by_cases hj : j = k
    · subst hj
      rw [up2_s]
      refine ⟨q.1, q.2.1, q.2.2.1, q.2.2.2.1, q.2.2.2.2.1, ?_, ?_, ?_, ?_⟩
      · by_cases h3 : T 0 j = 3
        · have := hv.1 h3; omega
        · have := hv.2 h3; omega
      · intro h12; exact hv.2 (by omega)
      · exact hv.1
      · intro h5; omega
    · rw [up2_n _ _ (by omega)]; exact q
  · rw [n 10 (by decide), n 0 (by decide), n 3 (by decide), n 4 (by decide), n 5 (by decide), n 6 (by decide), n 7 (by decide), n 8 (by decide), n 9 (by decide)]
    exact r
  · rw [n 10 (by decide), n 0 (by decide)]; exact c
theorem isNum_t {kd : Nat} {v : Int32} (h : isNum kd v = true) : ∃ u, v = nI u ∧ u ≤ 99 ∧ (kd = 3 → u ≤ 4) ∧ (kd ≠ 3 → kd ≠ 4 → 1 ≤ u ∧ u ≤ 9) := by
  unfold isNum at h
  split at h
  · obtain ⟨u, _, hu, rfl⟩ := inR_t (by decide) h
    exact ⟨u, rfl, by omega, fun _ => hu, fun a => absurd (by assumption) a⟩
  · split at h
    · obtain ⟨u, _, hu, rfl⟩ := inR_t (by decide) h
      exact ⟨u, rfl, by omega, fun a => absurd a (by assumption), fun _ a => absurd (by assumption) a⟩
    · obtain ⟨u, h1, hu, rfl⟩ := inR_t (by decide) h
      exact ⟨u, rfl, by omega, fun a => absurd a (by assumption), fun _ _ => ⟨h1, hu⟩⟩
theorem ok_source {S : St} (h : OkS S) {x : Int32} : OkS (o_source S x).2 := by
  unfold o_source
  split
  · rename_i hx
    obtain ⟨u, h1, hu, rfl⟩ := inR_t (by decide) hx
    rw [xN_n (by omega)]
    exact ok_chk h (okT_src h.1.1 ⟨h1, hu⟩) (up2_n _ _ (by omega))
  · exact h.ref
theorem ok_tune {S : St} (h : OkS S) {x v : Int32} : OkS (o_tune S x v).2 := by
  unfold o_tune
  split
  · split
    · rename_i hk
      split
      · rename_i hv
        obtain ⟨u, rfl, h1, h2, h3⟩ := isNum_t hv
        rw [xN_n (k := u) (by omega)]
        exact ok_chk h (okT_tune h.1.1 hk ⟨h2, fun a => h3 a (by omega)⟩) (by rw [up2_na _ _ (by omega)])
      · exact h.ref
    · exact h
  · exact h.ref
theorem RelT.src {f : Nat → Int32} {T : Tr} (h : RelT f T) {v : Nat} : RelT (upd f 0 (nI v)) (up2 T 10 1 v) := by
  have e : ∀ j, j ≠ 0 → upd f 0 (nI v) j = f j := fun j hj => by simp [upd, hj]
  refine ⟨by rw [up2_s]; simp [upd], ?_, fun g hg => ?_, ?_, fun j u hj hu hn => ?_⟩
  · rw [e 1 (by omega), up2_n _ _ (by omega)]; exact h.2.1
  · rw [e (2 + g) (by omega), up2_na _ _ (by omega)]; exact h.2.2.1 g hg
  · rw [e 7 (by omega)]; exact h.2.2.2.1
  · rw [up2_n _ _ (by omega)] at hj
    rw [up2_na _ _ (by omega), e _ (by omega)]; exact h.2.2.2.2 j u hj hu hn
theorem RelTP.src {I A : Nat → Nat → Int32} {T : Tr} (h : RelTP I A 1 T) {v : Nat} : RelTP (up2 I 1 11 (nI v)) A 1 (up2 T 10 1 v) := by
  refine ⟨by rw [up2_s, up2_s], ?_, fun q hq => ?_, fun u j hu hj hn => ?_⟩
  · rw [up2_n _ _ (by omega), up2_n _ _ (by omega)]; exact h.2.1
  · rw [up2_na T _ (by omega)]; exact h.2.2.1 q hq
  · rw [up2_n T _ (by omega)] at hj
    rw [up2_na T _ (by omega)]; exact h.2.2.2 u j hu hj hn
section TUN
variable {X : pm_X} {d : Nat} {G : pm_H} {Q : Option Value → pm_H → Prop} {I A : Nat → Nat → Int32} {E : Nat → Nat → Int64} {J : Nat → Int32} {B : Nat → Nat → Int32} {T T' : Tr} {S : St}
theorem s_isNumber {kd : Nat} {v : Int32} (hk : kd < 6) : pm_call X (d + 1) mX7_isNumber [.int (nI kd), .int v] G Q ↔ Q (some (.int (bz (isNum kd v)))) G := by
  unfold isNum
  by_cases h3 : kd = 3
  · simp (disch := omega) only [i_X7_isNumber_0, i_X7_isNumber_1, i_X7_isNumber_2, i_X7_isNumber_5, i_X7_isNumber_6, i_X7_isNumber_7, i_X7_isNumber_8, i_X7_isNumber_11, i_X7_isNumber_14, i_X7_isNumber_43, i_X7_isNumber_43b, i_X7_isNumber_43c, i_X7_isNumber_17, i_X7_isNumber_18, i_X7_isNumber_19, i_X7_isNumber_22, i_X7_isNumber_23, i_X7_isNumber_24, i_X7_isNumber_25, i_X7_isNumber_28, i_X7_isNumber_31, i_X7_isNumber_34, i_X7_isNumber_35, i_X7_isNumber_36, i_X7_isNumber_37, i_X7_isNumber_40, i_X7_isNumber_0_e, Option.toList_some, Option.toList_none, List.cons_append, List.nil_append, List.append_nil, ↓reduceIte, q_eq, h3, s_isInR]
  · by_cases h4 : kd = 4
    · simp (disch := omega) only [i_X7_isNumber_0, i_X7_isNumber_1, i_X7_isNumber_2, i_X7_isNumber_5, i_X7_isNumber_6, i_X7_isNumber_7, i_X7_isNumber_8, i_X7_isNumber_11, i_X7_isNumber_14, i_X7_isNumber_43, i_X7_isNumber_43b, i_X7_isNumber_43c, i_X7_isNumber_17, i_X7_isNumber_18, i_X7_isNumber_19, i_X7_isNumber_22, i_X7_isNumber_23, i_X7_isNumber_24, i_X7_isNumber_25, i_X7_isNumber_28, i_X7_isNumber_31, i_X7_isNumber_34, i_X7_isNumber_35, i_X7_isNumber_36, i_X7_isNumber_37, i_X7_isNumber_40, i_X7_isNumber_0_e, Option.toList_some, Option.toList_none, List.cons_append, List.nil_append, List.append_nil, ↓reduceIte, q_eq, h3, h4, s_isInR, Nat.reduceEqDiff]
    · simp (disch := omega) only [i_X7_isNumber_0, i_X7_isNumber_1, i_X7_isNumber_2, i_X7_isNumber_5, i_X7_isNumber_6, i_X7_isNumber_7, i_X7_isNumber_8, i_X7_isNumber_11, i_X7_isNumber_14, i_X7_isNumber_43, i_X7_isNumber_43b, i_X7_isNumber_43c, i_X7_isNumber_17, i_X7_isNumber_18, i_X7_isNumber_19, i_X7_isNumber_22, i_X7_isNumber_23, i_X7_isNumber_24, i_X7_isNumber_25, i_X7_isNumber_28, i_X7_isNumber_31, i_X7_isNumber_34, i_X7_isNumber_35, i_X7_isNumber_36, i_X7_isNumber_37, i_X7_isNumber_40, i_X7_isNumber_0_e, Option.toList_some, Option.toList_none, List.cons_append, List.nil_append, List.append_nil, ↓reduceIte, q_eq, h3, h4, s_isInR]
theorem t_isNumberOf {kd : Nat} {v : Int32} (hk : 1 ≤ kd ∧ kd ≤ 4) : pm_call X d mX6_isNumberOf [.int (nI kd), .int v] G Q ↔ Q (some (.int (bz (isNum kd v)))) G := by
  have a9 : ∀ c, c = 1 ∨ c = 2 → (pm_call X d mX6_isNumberOf [.int (nI c), .int v] G Q ↔ Q (some (.int (bz (inR v 1 9)))) G) := by
    intro c hc
    by_cases h1 : v < nI 1
    · rw [inR_lo (by decide) h1]
      rcases hc with rfl | rfl <;> simp (disch := omega) only [i_X6_isNumberOf_0, i_X6_isNumberOf_1_v1, i_X6_isNumberOf_1_v2, i_X6_isNumberOf_1_v3, i_X6_isNumberOf_1_v4, i_X6_isNumberOf_1_o, i_X6_isNumberOf_80, i_X6_isNumberOf_81, i_X6_isNumberOf_81b, i_X6_isNumberOf_81c, i_X6_isNumberOf_64, i_X6_isNumberOf_65, i_X6_isNumberOf_68, i_X6_isNumberOf_69, i_X6_isNumberOf_71, i_X6_isNumberOf_74, i_X6_isNumberOf_75, i_X6_isNumberOf_79, i_X6_isNumberOf_79b, i_X6_isNumberOf_79c, i_X6_isNumberOf_78, i_X6_isNumberOf_49, i_X6_isNumberOf_50, i_X6_isNumberOf_53, i_X6_isNumberOf_54, i_X6_isNumberOf_55, i_X6_isNumberOf_58, i_X6_isNumberOf_59, i_X6_isNumberOf_63, i_X6_isNumberOf_63b, i_X6_isNumberOf_63c, i_X6_isNumberOf_62, i_X6_isNumberOf_32, i_X6_isNumberOf_33, i_X6_isNumberOf_34, i_X6_isNumberOf_37, i_X6_isNumberOf_38, i_X6_isNumberOf_40, i_X6_isNumberOf_43, i_X6_isNumberOf_44, i_X6_isNumberOf_48, i_X6_isNumberOf_48b, i_X6_isNumberOf_48c, i_X6_isNumberOf_47, i_X6_isNumberOf_0_e, Option.toList_some, Option.toList_none, List.cons_append, List.nil_append, List.append_nil, ↓reduceIte, h1, bz_f]
    · by_cases h2 : nI 9 < v
      · rw [inR_hi (by decide) h2]
        rcases hc with rfl | rfl <;> simp (disch := omega) only [i_X6_isNumberOf_0, i_X6_isNumberOf_1_v1, i_X6_isNumberOf_1_v2, i_X6_isNumberOf_1_v3, i_X6_isNumberOf_1_v4, i_X6_isNumberOf_1_o, i_X6_isNumberOf_80, i_X6_isNumberOf_81, i_X6_isNumberOf_81b, i_X6_isNumberOf_81c, i_X6_isNumberOf_64, i_X6_isNumberOf_65, i_X6_isNumberOf_68, i_X6_isNumberOf_69, i_X6_isNumberOf_71, i_X6_isNumberOf_74, i_X6_isNumberOf_75, i_X6_isNumberOf_79, i_X6_isNumberOf_79b, i_X6_isNumberOf_79c, i_X6_isNumberOf_78, i_X6_isNumberOf_49, i_X6_isNumberOf_50, i_X6_isNumberOf_53, i_X6_isNumberOf_54, i_X6_isNumberOf_55, i_X6_isNumberOf_58, i_X6_isNumberOf_59, i_X6_isNumberOf_63, i_X6_isNumberOf_63b, i_X6_isNumberOf_63c, i_X6_isNumberOf_62, i_X6_isNumberOf_32, i_X6_isNumberOf_33, i_X6_isNumberOf_34, i_X6_isNumberOf_37, i_X6_isNumberOf_38, i_X6_isNumberOf_40, i_X6_isNumberOf_43, i_X6_isNumberOf_44, i_X6_isNumberOf_48, i_X6_isNumberOf_48b, i_X6_isNumberOf_48c, i_X6_isNumberOf_47, i_X6_isNumberOf_0_e, Option.toList_some, Option.toList_none, List.cons_append, List.nil_append, List.append_nil, ↓reduceIte, h1, h2, bz_f]
      · rw [inR_mid (by decide) (by decide) h1 h2]
        rcases hc with rfl | rfl <;> simp (disch := omega) only [i_X6_isNumberOf_0, i_X6_isNumberOf_1_v1, i_X6_isNumberOf_1_v2, i_X6_isNumberOf_1_v3, i_X6_isNumberOf_1_v4, i_X6_isNumberOf_1_o, i_X6_isNumberOf_80, i_X6_isNumberOf_81, i_X6_isNumberOf_81b, i_X6_isNumberOf_81c, i_X6_isNumberOf_64, i_X6_isNumberOf_65, i_X6_isNumberOf_68, i_X6_isNumberOf_69, i_X6_isNumberOf_71, i_X6_isNumberOf_74, i_X6_isNumberOf_75, i_X6_isNumberOf_79, i_X6_isNumberOf_79b, i_X6_isNumberOf_79c, i_X6_isNumberOf_78, i_X6_isNumberOf_49, i_X6_isNumberOf_50, i_X6_isNumberOf_53, i_X6_isNumberOf_54, i_X6_isNumberOf_55, i_X6_isNumberOf_58, i_X6_isNumberOf_59, i_X6_isNumberOf_63, i_X6_isNumberOf_63b, i_X6_isNumberOf_63c, i_X6_isNumberOf_62, i_X6_isNumberOf_32, i_X6_isNumberOf_33, i_X6_isNumberOf_34, i_X6_isNumberOf_37, i_X6_isNumberOf_38, i_X6_isNumberOf_40, i_X6_isNumberOf_43, i_X6_isNumberOf_44, i_X6_isNumberOf_48, i_X6_isNumberOf_48b, i_X6_isNumberOf_48c, i_X6_isNumberOf_47, i_X6_isNumberOf_0_e, Option.toList_some, Option.toList_none, List.cons_append, List.nil_append, List.append_nil, ↓reduceIte, h1, h2, bz_t]
  unfold isNum
  obtain ⟨hk1, hk2⟩ := hk
  match kd, hk1, hk2 with
  | 1, _, _ => exact a9 1 (Or.inl rfl)
  | 2, _, _ => exact a9 2 (Or.inr rfl)
  | 3, _, _ =>
    simp only [if_true]
    by_cases h1 : v < 0
    · rw [inR_neg h1]
      simp (disch := omega) only [i_X6_isNumberOf_0, i_X6_isNumberOf_1_v1, i_X6_isNumberOf_1_v2, i_X6_isNumberOf_1_v3, i_X6_isNumberOf_1_v4, i_X6_isNumberOf_1_o, i_X6_isNumberOf_80, i_X6_isNumberOf_81, i_X6_isNumberOf_81b, i_X6_isNumberOf_81c, i_X6_isNumberOf_64, i_X6_isNumberOf_65, i_X6_isNumberOf_68, i_X6_isNumberOf_69, i_X6_isNumberOf_71, i_X6_isNumberOf_74, i_X6_isNumberOf_75, i_X6_isNumberOf_79, i_X6_isNumberOf_79b, i_X6_isNumberOf_79c, i_X6_isNumberOf_78, i_X6_isNumberOf_49, i_X6_isNumberOf_50, i_X6_isNumberOf_53, i_X6_isNumberOf_54, i_X6_isNumberOf_55, i_X6_isNumberOf_58, i_X6_isNumberOf_59, i_X6_isNumberOf_63, i_X6_isNumberOf_63b, i_X6_isNumberOf_63c, i_X6_isNumberOf_62, i_X6_isNumberOf_32, i_X6_isNumberOf_33, i_X6_isNumberOf_34, i_X6_isNumberOf_37, i_X6_isNumberOf_38, i_X6_isNumberOf_40, i_X6_isNumberOf_43, i_X6_isNumberOf_44, i_X6_isNumberOf_48, i_X6_isNumberOf_48b, i_X6_isNumberOf_48c, i_X6_isNumberOf_47, i_X6_isNumberOf_0_e, Option.toList_some, Option.toList_none, List.cons_append, List.nil_append, List.append_nil, ↓reduceIte, h1, bz_f]
    · by_cases h2 : nI 4 < v
      · rw [inR_hi (by decide) h2]
        simp (disch := omega) only [i_X6_isNumberOf_0, i_X6_isNumberOf_1_v1, i_X6_isNumberOf_1_v2, i_X6_isNumberOf_1_v3, i_X6_isNumberOf_1_v4, i_X6_isNumberOf_1_o, i_X6_isNumberOf_80, i_X6_isNumberOf_81, i_X6_isNumberOf_81b, i_X6_isNumberOf_81c, i_X6_isNumberOf_64, i_X6_isNumberOf_65, i_X6_isNumberOf_68, i_X6_isNumberOf_69, i_X6_isNumberOf_71, i_X6_isNumberOf_74, i_X6_isNumberOf_75, i_X6_isNumberOf_79, i_X6_isNumberOf_79b, i_X6_isNumberOf_79c, i_X6_isNumberOf_78, i_X6_isNumberOf_49, i_X6_isNumberOf_50, i_X6_isNumberOf_53, i_X6_isNumberOf_54, i_X6_isNumberOf_55, i_X6_isNumberOf_58, i_X6_isNumberOf_59, i_X6_isNumberOf_63, i_X6_isNumberOf_63b, i_X6_isNumberOf_63c, i_X6_isNumberOf_62, i_X6_isNumberOf_32, i_X6_isNumberOf_33, i_X6_isNumberOf_34, i_X6_isNumberOf_37, i_X6_isNumberOf_38, i_X6_isNumberOf_40, i_X6_isNumberOf_43, i_X6_isNumberOf_44, i_X6_isNumberOf_48, i_X6_isNumberOf_48b, i_X6_isNumberOf_48c, i_X6_isNumberOf_47, i_X6_isNumberOf_0_e, Option.toList_some, Option.toList_none, List.cons_append, List.nil_append, List.append_nil, ↓reduceIte, h1, h2, bz_f]
      · rw [inR_mid0 (by decide) h1 h2]
        simp (disch := omega) only [i_X6_isNumberOf_0, i_X6_isNumberOf_1_v1, i_X6_isNumberOf_1_v2, i_X6_isNumberOf_1_v3, i_X6_isNumberOf_1_v4, i_X6_isNumberOf_1_o, i_X6_isNumberOf_80, i_X6_isNumberOf_81, i_X6_isNumberOf_81b, i_X6_isNumberOf_81c, i_X6_isNumberOf_64, i_X6_isNumberOf_65, i_X6_isNumberOf_68, i_X6_isNumberOf_69, i_X6_isNumberOf_71, i_X6_isNumberOf_74, i_X6_isNumberOf_75, i_X6_isNumberOf_79, i_X6_isNumberOf_79b, i_X6_isNumberOf_79c, i_X6_isNumberOf_78, i_X6_isNumberOf_49, i_X6_isNumberOf_50, i_X6_isNumberOf_53, i_X6_isNumberOf_54, i_X6_isNumberOf_55, i_X6_isNumberOf_58, i_X6_isNumberOf_59, i_X6_isNumberOf_63, i_X6_isNumberOf_63b, i_X6_isNumberOf_63c, i_X6_isNumberOf_62, i_X6_isNumberOf_32, i_X6_isNumberOf_33, i_X6_isNumberOf_34, i_X6_isNumberOf_37, i_X6_isNumberOf_38, i_X6_isNumberOf_40, i_X6_isNumberOf_43, i_X6_isNumberOf_44, i_X6_isNumberOf_48, i_X6_isNumberOf_48b, i_X6_isNumberOf_48c, i_X6_isNumberOf_47, i_X6_isNumberOf_0_e, Option.toList_some, Option.toList_none, List.cons_append, List.nil_append, List.append_nil, ↓reduceIte, h1, h2, bz_t]
  | 4, _, _ =>
    simp only [show ¬ (4 = 3) by decide, if_true, if_false]
    by_cases h1 : v < 0
    · rw [inR_neg h1]
      simp (disch := omega) only [i_X6_isNumberOf_0, i_X6_isNumberOf_1_v1, i_X6_isNumberOf_1_v2, i_X6_isNumberOf_1_v3, i_X6_isNumberOf_1_v4, i_X6_isNumberOf_1_o, i_X6_isNumberOf_80, i_X6_isNumberOf_81, i_X6_isNumberOf_81b, i_X6_isNumberOf_81c, i_X6_isNumberOf_64, i_X6_isNumberOf_65, i_X6_isNumberOf_68, i_X6_isNumberOf_69, i_X6_isNumberOf_71, i_X6_isNumberOf_74, i_X6_isNumberOf_75, i_X6_isNumberOf_79, i_X6_isNumberOf_79b, i_X6_isNumberOf_79c, i_X6_isNumberOf_78, i_X6_isNumberOf_49, i_X6_isNumberOf_50, i_X6_isNumberOf_53, i_X6_isNumberOf_54, i_X6_isNumberOf_55, i_X6_isNumberOf_58, i_X6_isNumberOf_59, i_X6_isNumberOf_63, i_X6_isNumberOf_63b, i_X6_isNumberOf_63c, i_X6_isNumberOf_62, i_X6_isNumberOf_32, i_X6_isNumberOf_33, i_X6_isNumberOf_34, i_X6_isNumberOf_37, i_X6_isNumberOf_38, i_X6_isNumberOf_40, i_X6_isNumberOf_43, i_X6_isNumberOf_44, i_X6_isNumberOf_48, i_X6_isNumberOf_48b, i_X6_isNumberOf_48c, i_X6_isNumberOf_47, i_X6_isNumberOf_0_e, Option.toList_some, Option.toList_none, List.cons_append, List.nil_append, List.append_nil, ↓reduceIte, h1, bz_f]
    · by_cases h2 : nI 99 < v
      · rw [inR_hi (by decide) h2]
        simp (disch := omega) only [i_X6_isNumberOf_0, i_X6_isNumberOf_1_v1, i_X6_isNumberOf_1_v2, i_X6_isNumberOf_1_v3, i_X6_isNumberOf_1_v4, i_X6_isNumberOf_1_o, i_X6_isNumberOf_80, i_X6_isNumberOf_81, i_X6_isNumberOf_81b, i_X6_isNumberOf_81c, i_X6_isNumberOf_64, i_X6_isNumberOf_65, i_X6_isNumberOf_68, i_X6_isNumberOf_69, i_X6_isNumberOf_71, i_X6_isNumberOf_74, i_X6_isNumberOf_75, i_X6_isNumberOf_79, i_X6_isNumberOf_79b, i_X6_isNumberOf_79c, i_X6_isNumberOf_78, i_X6_isNumberOf_49, i_X6_isNumberOf_50, i_X6_isNumberOf_53, i_X6_isNumberOf_54, i_X6_isNumberOf_55, i_X6_isNumberOf_58, i_X6_isNumberOf_59, i_X6_isNumberOf_63, i_X6_isNumberOf_63b, i_X6_isNumberOf_63c, i_X6_isNumberOf_62, i_X6_isNumberOf_32, i_X6_isNumberOf_33, i_X6_isNumberOf_34, i_X6_isNumberOf_37, i_X6_isNumberOf_38, i_X6_isNumberOf_40, i_X6_isNumberOf_43, i_X6_isNumberOf_44, i_X6_isNumberOf_48, i_X6_isNumberOf_48b, i_X6_isNumberOf_48c, i_X6_isNumberOf_47, i_X6_isNumberOf_0_e, Option.toList_some, Option.toList_none, List.cons_append, List.nil_append, List.append_nil, ↓reduceIte, h1, h2, bz_f]
      · rw [inR_mid0 (by decide) h1 h2]
        simp (disch := omega) only [i_X6_isNumberOf_0, i_X6_isNumberOf_1_v1, i_X6_isNumberOf_1_v2, i_X6_isNumberOf_1_v3, i_X6_isNumberOf_1_v4, i_X6_isNumberOf_1_o, i_X6_isNumberOf_80, i_X6_isNumberOf_81, i_X6_isNumberOf_81b, i_X6_isNumberOf_81c, i_X6_isNumberOf_64, i_X6_isNumberOf_65, i_X6_isNumberOf_68, i_X6_isNumberOf_69, i_X6_isNumberOf_71, i_X6_isNumberOf_74, i_X6_isNumberOf_75, i_X6_isNumberOf_79, i_X6_isNumberOf_79b, i_X6_isNumberOf_79c, i_X6_isNumberOf_78, i_X6_isNumberOf_49, i_X6_isNumberOf_50, i_X6_isNumberOf_53, i_X6_isNumberOf_54, i_X6_isNumberOf_55, i_X6_isNumberOf_58, i_X6_isNumberOf_59, i_X6_isNumberOf_63, i_X6_isNumberOf_63b, i_X6_isNumberOf_63c, i_X6_isNumberOf_62, i_X6_isNumberOf_32, i_X6_isNumberOf_33, i_X6_isNumberOf_34, i_X6_isNumberOf_37, i_X6_isNumberOf_38, i_X6_isNumberOf_40, i_X6_isNumberOf_43, i_X6_isNumberOf_44, i_X6_isNumberOf_48, i_X6_isNumberOf_48b, i_X6_isNumberOf_48c, i_X6_isNumberOf_47, i_X6_isNumberOf_0_e, Option.toList_some, Option.toList_none, List.cons_append, List.nil_append, List.append_nil, ↓reduceIte, h1, h2, bz_t]
theorem m_source (hM : RelM J B S) (hS : OkS S) {x : Int32} (hQ : ∀ J' B', RelM J' B' (o_source S x).2 → Q (some (.int (o_source S x).1)) (pm_w I A E J' B')) : pm_call X (d + 6) mX7_source [.ref 139, .int x] (pm_w I A E J B) Q := by
  have hT := hS.1.1
  have h24 := hT.wf.2.1
  unfold o_source at hQ
  cases hx : inR x 1 1000000 with
  | false =>
    rw [hx] at hQ
    simp (disch := omega) only [i_X7_source_0, i_X7_source_1, i_X7_source_2, i_X7_source_3, i_X7_source_6, i_X7_source_9, i_X7_source_12, i_X7_source_13, i_X7_source_14, i_X7_source_17, i_X7_source_18, i_X7_source_19, i_X7_source_22, i_X7_source_23, i_X7_source_26, i_X7_source_27, i_X7_source_28, i_X7_source_31, i_X7_source_32, i_X7_source_33, i_X7_source_34, i_X7_source_35, i_X7_source_38, i_X7_source_39, i_X7_source_40, i_X7_source_41, i_X7_source_42, i_X7_source_43, i_X7_source_44, i_X7_source_47, i_X7_source_0_e, Option.toList_some, Option.toList_none, List.cons_append, List.nil_append, List.append_nil, ↓reduceIte, s_isInR, hx, bz_e0, s_refuse]
    exact hQ _ B hM.ref
  | true =>
    rw [hx] at hQ
    have hx2 := hx
    obtain ⟨u, h1, hu, rfl⟩ := inR_t (by decide) hx2
    rw [xN_n (by omega)] at hQ
    obtain ⟨hK, h143⟩ := hM.kept h24
    simp (disch := omega) only [i_X7_source_0, i_X7_source_1, i_X7_source_2, i_X7_source_3, i_X7_source_6, i_X7_source_9, i_X7_source_12, i_X7_source_13, i_X7_source_14, i_X7_source_17, i_X7_source_18, i_X7_source_19, i_X7_source_22, i_X7_source_23, i_X7_source_26, i_X7_source_27, i_X7_source_28, i_X7_source_31, i_X7_source_32, i_X7_source_33, i_X7_source_34, i_X7_source_35, i_X7_source_38, i_X7_source_39, i_X7_source_40, i_X7_source_41, i_X7_source_42, i_X7_source_43, i_X7_source_44, i_X7_source_47, i_X7_source_0_e, Option.toList_some, Option.toList_none, List.cons_append, List.nil_append, List.append_nil, ↓reduceIte, s_isInR, hx, bz_e0, reduceCtorEq, s_keeps, s_contents hK.1 hT, hK.1.1]
    refine s_settles (S := S) (T' := up2 S.1 10 1 u) ?_ (okT_src hT ⟨h1, hu⟩) ?_ h24 (hK.2.fr ⟨rfl, rfl, rfl, rfl⟩ ⟨up2_na _ _ (by omega), up2_na _ _ (by omega), up2_na _ _ (by omega)⟩) (up2_n _ _ (by omega)) (up2_na _ _ (by omega)) (fun J' B' h => ?_)
    · rw [up2_row]; exact hK.1.src
    · rw [up2_na _ _ (by omega)]; exact h143
    · simp (disch := omega) only [i_X7_source_0, i_X7_source_1, i_X7_source_2, i_X7_source_3, i_X7_source_6, i_X7_source_9, i_X7_source_12, i_X7_source_13, i_X7_source_14, i_X7_source_17, i_X7_source_18, i_X7_source_19, i_X7_source_22, i_X7_source_23, i_X7_source_26, i_X7_source_27, i_X7_source_28, i_X7_source_31, i_X7_source_32, i_X7_source_33, i_X7_source_34, i_X7_source_35, i_X7_source_38, i_X7_source_39, i_X7_source_40, i_X7_source_41, i_X7_source_42, i_X7_source_43, i_X7_source_44, i_X7_source_47, i_X7_source_0_e, Option.toList_some, Option.toList_none, List.cons_append, List.nil_append, List.append_nil, ↓reduceIte]
      exact hQ J' B' h
theorem p_source (hM : RelP I A E S) (hS : OkS S) {x : Int32} (hQ : ∀ I' A' E', RelP I' A' E' (o_source S x).2 → Q (some (.int (o_source S x).1)) (pm_w I' A' E' J B)) : pm_call X (d + 6) mX6_source [.ref 0, .int x] (pm_w I A E J B) Q := by
  have hT := hS.1.1
  have h24 := hT.wf.2.1
  unfold o_source at hQ
  by_cases h1 : x < nI 1
  · rw [inR_lo (by decide) h1] at hQ
    simp (disch := omega) only [i_X6_source_0, i_X6_source_1, i_X6_source_2, i_X6_source_5, i_X6_source_6, i_X6_source_8, i_X6_source_17, i_X6_source_18, i_X6_source_21, i_X6_source_24, i_X6_source_25, i_X6_source_26, i_X6_source_29, i_X6_source_30, i_X6_source_33, i_X6_source_34, i_X6_source_37, i_X6_source_38, i_X6_source_39, i_X6_source_42, i_X6_source_11, i_X6_source_12, i_X6_source_13, i_X6_source_16, i_X6_source_0_e, Option.toList_some, Option.toList_none, List.cons_append, List.nil_append, List.append_nil, ↓reduceIte, h1, t_refuse]
    exact hQ _ A E hM.reason
  · by_cases h2 : nI 1000000 < x
    · rw [inR_hi (by decide) h2] at hQ
      simp (disch := omega) only [i_X6_source_0, i_X6_source_1, i_X6_source_2, i_X6_source_5, i_X6_source_6, i_X6_source_8, i_X6_source_17, i_X6_source_18, i_X6_source_21, i_X6_source_24, i_X6_source_25, i_X6_source_26, i_X6_source_29, i_X6_source_30, i_X6_source_33, i_X6_source_34, i_X6_source_37, i_X6_source_38, i_X6_source_39, i_X6_source_42, i_X6_source_11, i_X6_source_12, i_X6_source_13, i_X6_source_16, i_X6_source_0_e, Option.toList_some, Option.toList_none, List.cons_append, List.nil_append, List.append_nil, ↓reduceIte, h1, h2, t_refuse]
      exact hQ _ A E hM.reason
    · have hx := inR_mid (by decide) (by decide) h1 h2
      rw [hx] at hQ
      obtain ⟨u, g1, hu, rfl⟩ := inR_t (by decide) hx
      rw [xN_n (by omega)] at hQ
      simp (disch := omega) only [i_X6_source_0, i_X6_source_1, i_X6_source_2, i_X6_source_5, i_X6_source_6, i_X6_source_8, i_X6_source_17, i_X6_source_18, i_X6_source_21, i_X6_source_24, i_X6_source_25, i_X6_source_26, i_X6_source_29, i_X6_source_30, i_X6_source_33, i_X6_source_34, i_X6_source_37, i_X6_source_38, i_X6_source_39, i_X6_source_42, i_X6_source_11, i_X6_source_12, i_X6_source_13, i_X6_source_16, i_X6_source_0_e, Option.toList_some, Option.toList_none, List.cons_append, List.nil_append, List.append_nil, ↓reduceIte, h1, h2, hM.1.1]
      refine t_beginP (d := d + 4) hM h24 (fun I1 A1 hB => ?_)
      simp (disch := omega) only [i_X6_source_0, i_X6_source_1, i_X6_source_2, i_X6_source_5, i_X6_source_6, i_X6_source_8, i_X6_source_17, i_X6_source_18, i_X6_source_21, i_X6_source_24, i_X6_source_25, i_X6_source_26, i_X6_source_29, i_X6_source_30, i_X6_source_33, i_X6_source_34, i_X6_source_37, i_X6_source_38, i_X6_source_39, i_X6_source_42, i_X6_source_11, i_X6_source_12, i_X6_source_13, i_X6_source_16, i_X6_source_0_e, Option.toList_some, Option.toList_none, List.cons_append, List.nil_append, List.append_nil, ↓reduceIte]
      refine t_finR hB hS hB.1.1.src (okT_src hT ⟨g1, hu⟩) (up2_n _ _ (by omega)) (up2_na _ _ (by omega)) (up2_na _ _ (by omega)) (up2_na _ _ (by omega)) (fun c k hc => by rw [up2_na _ _ hc]) (fun _ _ => rfl) (fun I2 A2 E2 h => ?_)
      simp (disch := omega) only [i_X6_source_0, i_X6_source_1, i_X6_source_2, i_X6_source_5, i_X6_source_6, i_X6_source_8, i_X6_source_17, i_X6_source_18, i_X6_source_21, i_X6_source_24, i_X6_source_25, i_X6_source_26, i_X6_source_29, i_X6_source_30, i_X6_source_33, i_X6_source_34, i_X6_source_37, i_X6_source_38, i_X6_source_39, i_X6_source_42, i_X6_source_11, i_X6_source_12, i_X6_source_13, i_X6_source_16, i_X6_source_0_e, Option.toList_some, Option.toList_none, List.cons_append, List.nil_append, List.append_nil, ↓reduceIte]
      exact hQ I2 A2 E2 h
theorem m_tune (hM : RelM J B S) (hS : OkS S) {x v : Int32} (hQ : ∀ J' B', RelM J' B' (o_tune S x v).2 → Q (some (.int (o_tune S x v).1)) (pm_w I A E J' B')) : pm_call X (d + 6) mX7_tune [.ref 139, .int x, .int v] (pm_w I A E J B) Q := by
  have hT := hS.1.1
  have h24 := hT.wf.2.1
  unfold o_tune at hQ
  cases hx : isN S.1 x with
  | false =>
    rw [hx] at hQ
    simp (disch := omega) only [i_X7_tune_0, i_X7_tune_1, i_X7_tune_2, i_X7_tune_5, i_X7_tune_8, i_X7_tune_9, i_X7_tune_10, i_X7_tune_13, i_X7_tune_14, i_X7_tune_15, i_X7_tune_16, i_X7_tune_17, i_X7_tune_20, i_X7_tune_21, i_X7_tune_22, i_X7_tune_23, i_X7_tune_24, i_X7_tune_27, i_X7_tune_30, i_X7_tune_33, i_X7_tune_34, i_X7_tune_35, i_X7_tune_36, i_X7_tune_37, i_X7_tune_40, i_X7_tune_43, i_X7_tune_44, i_X7_tune_45, i_X7_tune_48, i_X7_tune_49, i_X7_tune_50, i_X7_tune_53, i_X7_tune_54, i_X7_tune_57, i_X7_tune_59, i_X7_tune_60, i_X7_tune_61, i_X7_tune_62, i_X7_tune_65, i_X7_tune_67, i_X7_tune_68, i_X7_tune_69, i_X7_tune_70, i_X7_tune_71, i_X7_tune_72, i_X7_tune_75, i_X7_tune_76, i_X7_tune_78, i_X7_tune_80, i_X7_tune_83, i_X7_tune_0_e, Option.toList_some, Option.toList_none, List.cons_append, List.nil_append, List.append_nil, ↓reduceIte, s_isN hM.1 hT.wf, hx, bz_e0, s_refuse]
    exact hQ _ B hM.ref
  | true =>
    rw [hx] at hQ
    obtain ⟨k, hk, rfl⟩ := isN_t hT.wf hx
    have hb := hT.kind hk
    rw [xN_n (by omega)] at hQ
    by_cases hk3 : 1 ≤ S.1 0 k ∧ S.1 0 k ≤ 3
    · rw [if_pos rfl, if_pos hk3] at hQ
      have hr : inR (nI (S.1 0 k)) 1 3 = true := by rw [inR_n (by omega)]; simp [hk3]
      cases hv : isNum (S.1 0 k) v with
      | false =>
        rw [hv] at hQ
        simp (disch := omega) only [i_X7_tune_0, i_X7_tune_1, i_X7_tune_2, i_X7_tune_5, i_X7_tune_8, i_X7_tune_9, i_X7_tune_10, i_X7_tune_13, i_X7_tune_14, i_X7_tune_15, i_X7_tune_16, i_X7_tune_17, i_X7_tune_20, i_X7_tune_21, i_X7_tune_22, i_X7_tune_23, i_X7_tune_24, i_X7_tune_27, i_X7_tune_30, i_X7_tune_33, i_X7_tune_34, i_X7_tune_35, i_X7_tune_36, i_X7_tune_37, i_X7_tune_40, i_X7_tune_43, i_X7_tune_44, i_X7_tune_45, i_X7_tune_48, i_X7_tune_49, i_X7_tune_50, i_X7_tune_53, i_X7_tune_54, i_X7_tune_57, i_X7_tune_59, i_X7_tune_60, i_X7_tune_61, i_X7_tune_62, i_X7_tune_65, i_X7_tune_67, i_X7_tune_68, i_X7_tune_69, i_X7_tune_70, i_X7_tune_71, i_X7_tune_72, i_X7_tune_75, i_X7_tune_76, i_X7_tune_78, i_X7_tune_80, i_X7_tune_83, i_X7_tune_0_e, Option.toList_some, Option.toList_none, List.cons_append, List.nil_append, List.append_nil, ↓reduceIte, s_isN hM.1 hT.wf, hx, bz_e0, s_refuse, reduceCtorEq, s_nT hM.1 h24, s_isInR, hr, s_isNumber, hv]
        exact hQ _ B hM.ref
      | true =>
        rw [hv] at hQ
        obtain ⟨u, rfl, g1, g2, g3⟩ := isNum_t hv
        rw [xN_n (by omega)] at hQ
        obtain ⟨hK, h143⟩ := hM.kept h24
        simp (disch := omega) only [i_X7_tune_0, i_X7_tune_1, i_X7_tune_2, i_X7_tune_5, i_X7_tune_8, i_X7_tune_9, i_X7_tune_10, i_X7_tune_13, i_X7_tune_14, i_X7_tune_15, i_X7_tune_16, i_X7_tune_17, i_X7_tune_20, i_X7_tune_21, i_X7_tune_22, i_X7_tune_23, i_X7_tune_24, i_X7_tune_27, i_X7_tune_30, i_X7_tune_33, i_X7_tune_34, i_X7_tune_35, i_X7_tune_36, i_X7_tune_37, i_X7_tune_40, i_X7_tune_43, i_X7_tune_44, i_X7_tune_45, i_X7_tune_48, i_X7_tune_49, i_X7_tune_50, i_X7_tune_53, i_X7_tune_54, i_X7_tune_57, i_X7_tune_59, i_X7_tune_60, i_X7_tune_61, i_X7_tune_62, i_X7_tune_65, i_X7_tune_67, i_X7_tune_68, i_X7_tune_69, i_X7_tune_70, i_X7_tune_71, i_X7_tune_72, i_X7_tune_75, i_X7_tune_76, i_X7_tune_78, i_X7_tune_80, i_X7_tune_83, i_X7_tune_0_e, Option.toList_some, Option.toList_none, List.cons_append, List.nil_append, List.append_nil, ↓reduceIte, s_isN hM.1 hT.wf, hx, bz_e0, reduceCtorEq, s_nT hM.1 h24, s_isInR, hr, s_isNumber, hv, s_keeps, s_contents hK.1 hT, s_nT hK.1 h24, s_put]
        simp (disch := omega) only [l_of, l_toI]
        have hO2 : RelOM J (up2 (cpR B 143 140 246) 140 (6 + 10 * k + 2) (nI u)) S.2.1 S.2.2.1 S.2.2.2.1 S.2.2.2.2 := hK.2.fr ⟨rfl, rfl, rfl, rfl⟩ ⟨up2_na _ _ (by omega), up2_na _ _ (by omega), up2_na _ _ (by omega)⟩
        refine s_settles (S := S) (T' := up2 S.1 2 k u) ?_ (okT_tune hT hk3 ⟨g2, fun a => g3 a (by omega)⟩) ?_ h24 hO2 (by rw [up2_na _ _ (by omega)]) (up2_na _ _ (by omega)) (fun J' B' h => ?_)
        · rw [up2_row]; exact hK.1.set (by decide) (by decide)
        · rw [up2_na _ _ (by omega)]; exact h143
        · simp (disch := omega) only [i_X7_tune_0, i_X7_tune_1, i_X7_tune_2, i_X7_tune_5, i_X7_tune_8, i_X7_tune_9, i_X7_tune_10, i_X7_tune_13, i_X7_tune_14, i_X7_tune_15, i_X7_tune_16, i_X7_tune_17, i_X7_tune_20, i_X7_tune_21, i_X7_tune_22, i_X7_tune_23, i_X7_tune_24, i_X7_tune_27, i_X7_tune_30, i_X7_tune_33, i_X7_tune_34, i_X7_tune_35, i_X7_tune_36, i_X7_tune_37, i_X7_tune_40, i_X7_tune_43, i_X7_tune_44, i_X7_tune_45, i_X7_tune_48, i_X7_tune_49, i_X7_tune_50, i_X7_tune_53, i_X7_tune_54, i_X7_tune_57, i_X7_tune_59, i_X7_tune_60, i_X7_tune_61, i_X7_tune_62, i_X7_tune_65, i_X7_tune_67, i_X7_tune_68, i_X7_tune_69, i_X7_tune_70, i_X7_tune_71, i_X7_tune_72, i_X7_tune_75, i_X7_tune_76, i_X7_tune_78, i_X7_tune_80, i_X7_tune_83, i_X7_tune_0_e, Option.toList_some, Option.toList_none, List.cons_append, List.nil_append, List.append_nil, ↓reduceIte]
          exact hQ J' B' h
    · rw [if_pos rfl, if_neg hk3] at hQ
      have hr : inR (nI (S.1 0 k)) 1 3 = false := by rw [inR_n (by omega)]; simp; omega
      simp (disch := omega) only [i_X7_tune_0, i_X7_tune_1, i_X7_tune_2, i_X7_tune_5, i_X7_tune_8, i_X7_tune_9, i_X7_tune_10, i_X7_tune_13, i_X7_tune_14, i_X7_tune_15, i_X7_tune_16, i_X7_tune_17, i_X7_tune_20, i_X7_tune_21, i_X7_tune_22, i_X7_tune_23, i_X7_tune_24, i_X7_tune_27, i_X7_tune_30, i_X7_tune_33, i_X7_tune_34, i_X7_tune_35, i_X7_tune_36, i_X7_tune_37, i_X7_tune_40, i_X7_tune_43, i_X7_tune_44, i_X7_tune_45, i_X7_tune_48, i_X7_tune_49, i_X7_tune_50, i_X7_tune_53, i_X7_tune_54, i_X7_tune_57, i_X7_tune_59, i_X7_tune_60, i_X7_tune_61, i_X7_tune_62, i_X7_tune_65, i_X7_tune_67, i_X7_tune_68, i_X7_tune_69, i_X7_tune_70, i_X7_tune_71, i_X7_tune_72, i_X7_tune_75, i_X7_tune_76, i_X7_tune_78, i_X7_tune_80, i_X7_tune_83, i_X7_tune_0_e, Option.toList_some, Option.toList_none, List.cons_append, List.nil_append, List.append_nil, ↓reduceIte, s_isN hM.1 hT.wf, hx, bz_e0, reduceCtorEq, s_nT hM.1 h24, s_isInR, hr]
      exact hQ J B hM
theorem p_tune (hM : RelP I A E S) (hS : OkS S) {x v : Int32} (hQ : ∀ I' A' E', RelP I' A' E' (o_tune S x v).2 → Q (some (.int (o_tune S x v).1)) (pm_w I' A' E' J B)) : pm_call X (d + 6) mX6_tune [.ref 0, .int x, .int v] (pm_w I A E J B) Q := by
  have hT := hS.1.1
  have h24 := hT.wf.2.1
  unfold o_tune at hQ
  cases hx : isN S.1 x with
  | false =>
    rw [hx] at hQ
    simp (disch := omega) only [i_X6_tune_0, i_X6_tune_1, i_X6_tune_2, i_X6_tune_5, i_X6_tune_8, i_X6_tune_9, i_X6_tune_10, i_X6_tune_13, i_X6_tune_14, i_X6_tune_15, i_X6_tune_18, i_X6_tune_21, i_X6_tune_22, i_X6_tune_23, i_X6_tune_24, i_X6_tune_25, i_X6_tune_26, i_X6_tune_29, i_X6_tune_30, i_X6_tune_31, i_X6_tune_34, i_X6_tune_35, i_X6_tune_36, i_X6_tune_39, i_X6_tune_40, i_X6_tune_41, i_X6_tune_42, i_X6_tune_43, i_X6_tune_46, i_X6_tune_49, i_X6_tune_50, i_X6_tune_51, i_X6_tune_54, i_X6_tune_55, i_X6_tune_56, i_X6_tune_59, i_X6_tune_62, i_X6_tune_63, i_X6_tune_64, i_X6_tune_66, i_X6_tune_67, i_X6_tune_70, i_X6_tune_71, i_X6_tune_74, i_X6_tune_77, i_X6_tune_78, i_X6_tune_79, i_X6_tune_80, i_X6_tune_81, i_X6_tune_83, i_X6_tune_86, i_X6_tune_0_e, Option.toList_some, Option.toList_none, List.cons_append, List.nil_append, List.append_nil, ↓reduceIte, t_isN hM.1 hT.wf, hx, bz_e0, t_refuse]
    exact hQ _ A E hM.reason
  | true =>
    rw [hx] at hQ
    obtain ⟨k, hk, rfl⟩ := isN_t hT.wf hx
    have hb := hT.kind hk
    have e0 : A 2 k = nI (S.1 0 k) := hM.1.2.2.2 0 k (by decide) hk (by omega)
    have e2 : A 4 k = nI (S.1 2 k) := hM.1.2.2.2 2 k (by decide) hk (by omega)
    rw [xN_n (by omega)] at hQ
    by_cases hk3 : 1 ≤ S.1 0 k ∧ S.1 0 k ≤ 3
    · rw [if_pos rfl, if_pos hk3] at hQ
      have pre : (pm_wp X (d + 6) mX6_tune 41 [.ref 0, .int (nI k), .int v, .int (nI (S.1 0 k)), pm_U] [] (pm_w I A E J B) Q) → pm_call X (d + 6) mX6_tune [.ref 0, .int (nI k), .int v] (pm_w I A E J B) Q := by
        intro go
        by_cases a1 : S.1 0 k = 1
        · rw [a1] at go
          simp (disch := omega) only [i_X6_tune_0, i_X6_tune_1, i_X6_tune_2, i_X6_tune_5, i_X6_tune_8, i_X6_tune_9, i_X6_tune_10, i_X6_tune_13, i_X6_tune_14, i_X6_tune_15, i_X6_tune_18, i_X6_tune_21, i_X6_tune_22, i_X6_tune_23, i_X6_tune_24, i_X6_tune_25, i_X6_tune_26, i_X6_tune_29, i_X6_tune_30, i_X6_tune_31, i_X6_tune_34, i_X6_tune_35, i_X6_tune_36, i_X6_tune_39, i_X6_tune_40, i_X6_tune_42, i_X6_tune_43, i_X6_tune_46, i_X6_tune_49, i_X6_tune_50, i_X6_tune_51, i_X6_tune_54, i_X6_tune_55, i_X6_tune_56, i_X6_tune_59, i_X6_tune_62, i_X6_tune_63, i_X6_tune_64, i_X6_tune_66, i_X6_tune_67, i_X6_tune_70, i_X6_tune_71, i_X6_tune_74, i_X6_tune_77, i_X6_tune_78, i_X6_tune_79, i_X6_tune_80, i_X6_tune_81, i_X6_tune_83, i_X6_tune_86, i_X6_tune_0_e, Option.toList_some, Option.toList_none, List.cons_append, List.nil_append, List.append_nil, ↓reduceIte, t_isN hM.1 hT.wf, hx, bz_e0, reduceCtorEq, e0, q_eq, a1]
          exact go
        · by_cases a2 : S.1 0 k = 2
          · rw [a2] at go
            simp (disch := omega) only [i_X6_tune_0, i_X6_tune_1, i_X6_tune_2, i_X6_tune_5, i_X6_tune_8, i_X6_tune_9, i_X6_tune_10, i_X6_tune_13, i_X6_tune_14, i_X6_tune_15, i_X6_tune_18, i_X6_tune_21, i_X6_tune_22, i_X6_tune_23, i_X6_tune_24, i_X6_tune_25, i_X6_tune_26, i_X6_tune_29, i_X6_tune_30, i_X6_tune_31, i_X6_tune_34, i_X6_tune_35, i_X6_tune_36, i_X6_tune_39, i_X6_tune_40, i_X6_tune_42, i_X6_tune_43, i_X6_tune_46, i_X6_tune_49, i_X6_tune_50, i_X6_tune_51, i_X6_tune_54, i_X6_tune_55, i_X6_tune_56, i_X6_tune_59, i_X6_tune_62, i_X6_tune_63, i_X6_tune_64, i_X6_tune_66, i_X6_tune_67, i_X6_tune_70, i_X6_tune_71, i_X6_tune_74, i_X6_tune_77, i_X6_tune_78, i_X6_tune_79, i_X6_tune_80, i_X6_tune_81, i_X6_tune_83, i_X6_tune_86, i_X6_tune_0_e, Option.toList_some, Option.toList_none, List.cons_append, List.nil_append, List.append_nil, ↓reduceIte, t_isN hM.1 hT.wf, hx, bz_e0, reduceCtorEq, e0, q_eq, a2, Nat.reduceEqDiff]
            exact go
          · have a3 : S.1 0 k = 3 := by omega
            rw [a3] at go
            simp (disch := omega) only [i_X6_tune_0, i_X6_tune_1, i_X6_tune_2, i_X6_tune_5, i_X6_tune_8, i_X6_tune_9, i_X6_tune_10, i_X6_tune_13, i_X6_tune_14, i_X6_tune_15, i_X6_tune_18, i_X6_tune_21, i_X6_tune_22, i_X6_tune_23, i_X6_tune_24, i_X6_tune_25, i_X6_tune_26, i_X6_tune_29, i_X6_tune_30, i_X6_tune_31, i_X6_tune_34, i_X6_tune_35, i_X6_tune_36, i_X6_tune_39, i_X6_tune_40, i_X6_tune_42, i_X6_tune_43, i_X6_tune_46, i_X6_tune_49, i_X6_tune_50, i_X6_tune_51, i_X6_tune_54, i_X6_tune_55, i_X6_tune_56, i_X6_tune_59, i_X6_tune_62, i_X6_tune_63, i_X6_tune_64, i_X6_tune_66, i_X6_tune_67, i_X6_tune_70, i_X6_tune_71, i_X6_tune_74, i_X6_tune_77, i_X6_tune_78, i_X6_tune_79, i_X6_tune_80, i_X6_tune_81, i_X6_tune_83, i_X6_tune_86, i_X6_tune_0_e, Option.toList_some, Option.toList_none, List.cons_append, List.nil_append, List.append_nil, ↓reduceIte, t_isN hM.1 hT.wf, hx, bz_e0, reduceCtorEq, e0, q_eq, a3, Nat.reduceEqDiff]
            exact go
      refine pre ?_
      cases hv : isNum (S.1 0 k) v with
      | false =>
        rw [hv] at hQ
        simp (disch := omega) only [i_X6_tune_0, i_X6_tune_1, i_X6_tune_2, i_X6_tune_5, i_X6_tune_8, i_X6_tune_9, i_X6_tune_10, i_X6_tune_13, i_X6_tune_14, i_X6_tune_15, i_X6_tune_18, i_X6_tune_21, i_X6_tune_22, i_X6_tune_23, i_X6_tune_24, i_X6_tune_25, i_X6_tune_26, i_X6_tune_29, i_X6_tune_30, i_X6_tune_31, i_X6_tune_34, i_X6_tune_35, i_X6_tune_36, i_X6_tune_39, i_X6_tune_40, i_X6_tune_41, i_X6_tune_42, i_X6_tune_43, i_X6_tune_46, i_X6_tune_49, i_X6_tune_50, i_X6_tune_51, i_X6_tune_54, i_X6_tune_55, i_X6_tune_56, i_X6_tune_59, i_X6_tune_62, i_X6_tune_63, i_X6_tune_64, i_X6_tune_66, i_X6_tune_67, i_X6_tune_70, i_X6_tune_71, i_X6_tune_74, i_X6_tune_77, i_X6_tune_78, i_X6_tune_79, i_X6_tune_80, i_X6_tune_81, i_X6_tune_83, i_X6_tune_86, i_X6_tune_0_e, Option.toList_some, Option.toList_none, List.cons_append, List.nil_append, List.append_nil, ↓reduceIte, t_isNumberOf, hv, bz_e0, t_refuse]
        exact hQ _ A E hM.reason
      | true =>
        rw [hv] at hQ
        obtain ⟨u, rfl, g1, g2, g3⟩ := isNum_t hv
        rw [xN_n (by omega)] at hQ
        simp (disch := omega) only [i_X6_tune_0, i_X6_tune_1, i_X6_tune_2, i_X6_tune_5, i_X6_tune_8, i_X6_tune_9, i_X6_tune_10, i_X6_tune_13, i_X6_tune_14, i_X6_tune_15, i_X6_tune_18, i_X6_tune_21, i_X6_tune_22, i_X6_tune_23, i_X6_tune_24, i_X6_tune_25, i_X6_tune_26, i_X6_tune_29, i_X6_tune_30, i_X6_tune_31, i_X6_tune_34, i_X6_tune_35, i_X6_tune_36, i_X6_tune_39, i_X6_tune_40, i_X6_tune_41, i_X6_tune_42, i_X6_tune_43, i_X6_tune_46, i_X6_tune_49, i_X6_tune_50, i_X6_tune_51, i_X6_tune_54, i_X6_tune_55, i_X6_tune_56, i_X6_tune_59, i_X6_tune_62, i_X6_tune_63, i_X6_tune_64, i_X6_tune_66, i_X6_tune_67, i_X6_tune_70, i_X6_tune_71, i_X6_tune_74, i_X6_tune_77, i_X6_tune_78, i_X6_tune_79, i_X6_tune_80, i_X6_tune_81, i_X6_tune_83, i_X6_tune_86, i_X6_tune_0_e, Option.toList_some, Option.toList_none, List.cons_append, List.nil_append, List.append_nil, ↓reduceIte, t_isNumberOf, hv, bz_e0, reduceCtorEq, e2]
        refine t_beginP (d := d + 4) hM h24 (fun I1 A1 hB => ?_)
        simp (disch := omega) only [i_X6_tune_0, i_X6_tune_1, i_X6_tune_2, i_X6_tune_5, i_X6_tune_8, i_X6_tune_9, i_X6_tune_10, i_X6_tune_13, i_X6_tune_14, i_X6_tune_15, i_X6_tune_18, i_X6_tune_21, i_X6_tune_22, i_X6_tune_23, i_X6_tune_24, i_X6_tune_25, i_X6_tune_26, i_X6_tune_29, i_X6_tune_30, i_X6_tune_31, i_X6_tune_34, i_X6_tune_35, i_X6_tune_36, i_X6_tune_39, i_X6_tune_40, i_X6_tune_41, i_X6_tune_42, i_X6_tune_43, i_X6_tune_46, i_X6_tune_49, i_X6_tune_50, i_X6_tune_51, i_X6_tune_54, i_X6_tune_55, i_X6_tune_56, i_X6_tune_59, i_X6_tune_62, i_X6_tune_63, i_X6_tune_64, i_X6_tune_66, i_X6_tune_67, i_X6_tune_70, i_X6_tune_71, i_X6_tune_74, i_X6_tune_77, i_X6_tune_78, i_X6_tune_79, i_X6_tune_80, i_X6_tune_81, i_X6_tune_83, i_X6_tune_86, i_X6_tune_0_e, Option.toList_some, Option.toList_none, List.cons_append, List.nil_append, List.append_nil, ↓reduceIte]
        refine t_finR hB hS (hB.1.1.set (w := 2) (by decide)) (okT_tune hT hk3 ⟨g2, fun a => g3 a (by omega)⟩) (by rw [up2_na _ _ (by omega)]) (up2_na _ _ (by omega)) (up2_na _ _ (by omega)) (up2_na _ _ (by omega)) (fun _ _ _ => rfl) (fun c a => up2_na _ _ (by omega)) (fun I2 A2 E2 h => ?_)
        simp (disch := omega) only [i_X6_tune_0, i_X6_tune_1, i_X6_tune_2, i_X6_tune_5, i_X6_tune_8, i_X6_tune_9, i_X6_tune_10, i_X6_tune_13, i_X6_tune_14, i_X6_tune_15, i_X6_tune_18, i_X6_tune_21, i_X6_tune_22, i_X6_tune_23, i_X6_tune_24, i_X6_tune_25, i_X6_tune_26, i_X6_tune_29, i_X6_tune_30, i_X6_tune_31, i_X6_tune_34, i_X6_tune_35, i_X6_tune_36, i_X6_tune_39, i_X6_tune_40, i_X6_tune_41, i_X6_tune_42, i_X6_tune_43, i_X6_tune_46, i_X6_tune_49, i_X6_tune_50, i_X6_tune_51, i_X6_tune_54, i_X6_tune_55, i_X6_tune_56, i_X6_tune_59, i_X6_tune_62, i_X6_tune_63, i_X6_tune_64, i_X6_tune_66, i_X6_tune_67, i_X6_tune_70, i_X6_tune_71, i_X6_tune_74, i_X6_tune_77, i_X6_tune_78, i_X6_tune_79, i_X6_tune_80, i_X6_tune_81, i_X6_tune_83, i_X6_tune_86, i_X6_tune_0_e, Option.toList_some, Option.toList_none, List.cons_append, List.nil_append, List.append_nil, ↓reduceIte]
        exact hQ I2 A2 E2 h
    · rw [if_pos rfl, if_neg hk3] at hQ
      have a1 : ¬ S.1 0 k = 1 := by omega
      have a2 : ¬ S.1 0 k = 2 := by omega
      have a3 : ¬ S.1 0 k = 3 := by omega
      simp (disch := omega) only [i_X6_tune_0, i_X6_tune_1, i_X6_tune_2, i_X6_tune_5, i_X6_tune_8, i_X6_tune_9, i_X6_tune_10, i_X6_tune_13, i_X6_tune_14, i_X6_tune_15, i_X6_tune_18, i_X6_tune_21, i_X6_tune_22, i_X6_tune_23, i_X6_tune_24, i_X6_tune_25, i_X6_tune_26, i_X6_tune_29, i_X6_tune_30, i_X6_tune_31, i_X6_tune_34, i_X6_tune_35, i_X6_tune_36, i_X6_tune_39, i_X6_tune_40, i_X6_tune_41, i_X6_tune_42, i_X6_tune_43, i_X6_tune_46, i_X6_tune_49, i_X6_tune_50, i_X6_tune_51, i_X6_tune_54, i_X6_tune_55, i_X6_tune_56, i_X6_tune_59, i_X6_tune_62, i_X6_tune_63, i_X6_tune_64, i_X6_tune_66, i_X6_tune_67, i_X6_tune_70, i_X6_tune_71, i_X6_tune_74, i_X6_tune_77, i_X6_tune_78, i_X6_tune_79, i_X6_tune_80, i_X6_tune_81, i_X6_tune_83, i_X6_tune_86, i_X6_tune_0_e, Option.toList_some, Option.toList_none, List.cons_append, List.nil_append, List.append_nil, ↓reduceIte, t_isN hM.1 hT.wf, hx, bz_e0, reduceCtorEq, e0, q_eq, a1, a2, a3]
      exact hQ I A E hM
end TUN
