/-! what lies below, gathered from the last node on -/
def udn (T : Tr) (n o k : Nat) : Bool := ph T (fun k b => (decide (T 1 k = o) && decide (n < k)) || b) false k
theorem udn_s {T : Tr} (hw : wf T) {n o k : Nat} (hk : 0 < k) (hN : k < T 10 0) : udn T n o k = ((decide (T 1 k = o) && decide (n < k)) || udn T n o (T 1 k)) := ph_s hw hk hN
theorem udn_0 {T : Tr} (hw : wf T) {o : Nat} : ∀ k, k < T 10 0 → udn T 0 o k = und T o k := by
  refine ph_ind hw rfl (fun k h0 hN ih => ?_)
  rw [udn_s hw h0 hN, und_s hw h0 hN, ih]
  simp [h0]
theorem udn_top {T : Tr} (hw : wf T) {o : Nat} : ∀ k, k < T 10 0 → udn T (T 10 0 - 1) o k = false := by
  refine ph_ind hw rfl (fun k h0 hN ih => ?_)
  rw [udn_s hw h0 hN, ih]
  simp
  intro _
  omega
theorem udn_self {T : Tr} (hw : wf T) {n : Nat} : ∀ k, k < T 10 0 → udn T n n k = und T n k := by
  refine ph_ind hw rfl (fun k h0 hN ih => ?_)
  rw [udn_s hw h0 hN, und_s hw h0 hN, ih]
  have hp := hw.2.2 k h0 hN
  by_cases h : T 1 k = n
  · simp [h]; omega
  · simp [h]
theorem udn_step {T : Tr} (hw : wf T) {n o : Nat} (hn0 : 0 < n) (hn : n < T 10 0) : ∀ k, k < T 10 0 → udn T (n - 1) o k = (udn T n o k || (decide (T 1 n = o) && (decide (k = n) || und T n k))) := by
  refine ph_ind hw ?_ (fun k h0 hN ih => ?_)
  · have : ¬ 0 = n := by omega
    simp [udn, und, ph_0, this]
  · rw [udn_s hw h0 hN, udn_s hw h0 hN, und_s hw h0 hN, ih]
    have hp := hw.2.2 k h0 hN
    by_cases hkn : k = n
    · subst hkn
      have e1 : decide (k - 1 < k) = true := by simp; omega
      have e2 : decide (T 1 k = k) = false := by simp; omega
      have e3 : und T k (T 1 k) = false := und_ge hw (by omega) (by omega)
      rw [e1, e2, e3]
      simp
      rw [Bool.or_comm]
    · have e1 : decide (n - 1 < k) = decide (n < k) := decide_eq_decide.mpr (by omega)
      have e2 : decide (k = n) = false := by simp [hkn]
      rw [e1, e2]
      simp [Bool.or_assoc]
theorem bts_or2 {p q : Nat → Bool} {n : Nat} : bts p n ||| bts q n = bts (fun k => p k || q k) n := by
  apply Nat.eq_of_testBit_eq
  intro i
  rw [Nat.testBit_or, bts_tb, bts_tb, bts_tb]
  by_cases h : i < n <;> simp [h]
theorem bts_one {n m : Nat} (h : m < n) : bts (fun k => decide (k = m)) n = 2 ^ m := by
  apply Nat.eq_of_testBit_eq
  intro i
  rw [bts_tb, Nat.testBit_two_pow]
  by_cases hi : i = m
  · subst hi; simp [h]
  · have : (m = i) = False := eq_false (fun q => hi q.symm)
    simp [hi, this]
theorem bts_0 {n : Nat} : bts (fun _ => false) n = 0 := by
  induction n with
  | zero => rfl
  | succ n ih => unfold bts; rw [ih]; rfl
theorem cnt_pt {p q : Nat → Bool} {m : Nat} {b : Bool} : ∀ n, m < n → p m = false → (∀ k, k < n → q k = (p k || (b && decide (k = m)))) → cnt q n = cnt p n + (if b then 1 else 0)
  | 0, h, _, _ => by omega
  | n + 1, h, hm, hq => by
    unfold cnt
    by_cases hmn : m = n
    · subst hmn
      have e : cnt q m = cnt p m := cnt_congr m (fun k hk => by
        rw [hq k (by omega), show decide (k = m) = false from by simp; omega]
        simp)
      rw [e, hq m (by omega), hm]
      cases b <;> simp
    · rw [cnt_pt n (by omega) hm (fun k hk => hq k (by omega)), hq n (by omega)]
      have : ¬ n = m := by omega
      simp [this]
      omega
def chP (T : Tr) (n o k : Nat) : Bool := decide (n < k) && decide (T 1 k = o)
def lvP (T : Tr) (n o k : Nat) : Bool := decide (T 0 k = 5) && udn T n o k
def rqP (T : Tr) (n o k : Nat) : Bool := decide (T 0 k = 5) && decide (T 8 k = 1) && udn T n o k
section PLC
variable {X : pm_X} {d : Nat} {G : pm_H} {Q : Option Value → pm_H → Prop} {I A : Nat → Nat → Int32} {E : Nat → Nat → Int64} {J : Nat → Int32} {B : Nat → Nat → Int32} {T : Tr}
theorem arr_s (hT : okT T) {n : Nat} (h0 : 0 < n) (hn : n < T 10 0) : arr T n = arr T (T 1 n) + T 3 n + T 9 n := by
  have e : del T n = del T (T 1 n) + T 3 n := ph_s hT.wf h0 hn
  have hp := (hT.2.2.2.2.1 n h0 hn).2.2.2.1
  have h9 := (hT.2.2.2.2.2.1 n hn).2.2.2.2.2.2.2
  unfold arr
  rw [e, if_neg hp]
  split
  · omega
  · next h => rw [(h9 h).2]; omega
theorem t_readPathsa (hP : RelTP I A 1 T) (hT : okT T) (hQ : ∀ A', RF2 A' 37 (T 10 0) T → (∀ a, a ≠ 40 → a ≠ 41 → A' a = A a) → Q none (pm_w I A' E J B)) : pm_call X d mX0_readPaths [.ref 37, .ref 1] (pm_w I A E J B) Q := by
  have h24 := hT.wf.2.1
  have h1 := hT.wf.1
  have pT : ∀ w k, w < 10 → k < T 10 0 → (w ≠ 1 ∨ 0 < k) → A (1 + (w + 1)) k = nI (T w k) := hP.2.2.2
  have key : ∀ m n, 0 < n → n + m = T 10 0 → ∀ (A1 : Nat → Nat → Int32), RF2 A1 37 n T → (∀ a, a ≠ 40 → a ≠ 41 → A1 a = A a) → ∀ v3, pm_wp X d mX0_readPaths 21 [.ref 37, .ref 1, .int (nI n), v3] [] (pm_w I A1 E J B) Q := by
    intro m
    induction m with
    | zero =>
      intro n h0 hn A1 hE hF v3
      have : n = T 10 0 := by omega
      subst this
      rw [i_X0_readPaths_21]
      simp (disch := omega) only [i_X0_readPaths_0, i_X0_readPaths_1, i_X0_readPaths_4, i_X0_readPaths_5, i_X0_readPaths_6, i_X0_readPaths_7, i_X0_readPaths_8, i_X0_readPaths_11, i_X0_readPaths_12, i_X0_readPaths_13, i_X0_readPaths_16, i_X0_readPaths_17, i_X0_readPaths_18, i_X0_readPaths_19, i_X0_readPaths_20, i_X0_readPaths_22, i_X0_readPaths_23, i_X0_readPaths_26, i_X0_readPaths_29, i_X0_readPaths_30, i_X0_readPaths_33, i_X0_readPaths_34, i_X0_readPaths_35, i_X0_readPaths_36, i_X0_readPaths_37, i_X0_readPaths_40, i_X0_readPaths_41, i_X0_readPaths_42, i_X0_readPaths_45, i_X0_readPaths_46, i_X0_readPaths_47, i_X0_readPaths_48, i_X0_readPaths_49, i_X0_readPaths_50, i_X0_readPaths_51, i_X0_readPaths_54, i_X0_readPaths_55, i_X0_readPaths_56, i_X0_readPaths_59, i_X0_readPaths_60, i_X0_readPaths_61, i_X0_readPaths_62, i_X0_readPaths_65, i_X0_readPaths_66, i_X0_readPaths_67, i_X0_readPaths_68, i_X0_readPaths_69, i_X0_readPaths_72, i_X0_readPaths_73, i_X0_readPaths_74, i_X0_readPaths_75, i_X0_readPaths_76, i_X0_readPaths_79, i_X0_readPaths_82, i_X0_readPaths_0_e, i_X0_readPaths_1b, i_X0_readPaths_6b, i_X0_readPaths_8b, i_X0_readPaths_18b, i_X0_readPaths_37b, i_X0_readPaths_42b, i_X0_readPaths_46b, i_X0_readPaths_49b, i_X0_readPaths_51b, i_X0_readPaths_56b, i_X0_readPaths_60b, i_X0_readPaths_75b, Option.toList_some, Option.toList_none, List.cons_append, List.nil_append, List.append_nil, ↓reduceIte, q_lt, hP.2.1, Nat.lt_irrefl]
      exact hQ A1 hE hF
    | succ m ih =>
      intro n h0 hn A1 hE hF v3
      have hn2 : n < T 10 0 := by omega
      have hp := hT.wf.2.2 n h0 hn2
      have e1 : A1 3 n = nI (T 1 n) := by rw [hF 3 (by decide) (by decide)]; exact pT 1 n (by omega) hn2 (by omega)
      have e3 : A1 5 n = nI (T 3 n) := by rw [hF 5 (by decide) (by decide)]; exact pT 3 n (by omega) hn2 (by omega)
      have e9 : A1 11 n = nI (T 9 n) := by rw [hF 11 (by decide) (by decide)]; exact pT 9 n (by omega) hn2 (by omega)
      have f1 := (hE (T 1 n) hp).1
      have f2 := (hE (T 1 n) hp).2
      have n1 : dep T (T 1 n) + 1 = dep T n := (ph_s hT.wf h0 hn2).symm
      have n2 := (arr_s hT h0 hn2).symm
      have u1 : ∀ x, up2 A1 40 n x 41 (T 1 n) = nI (arr T (T 1 n)) := fun x => by rw [up2_na _ _ (by decide)]; exact f2
      have u2 : ∀ x, up2 A1 40 n x 5 n = nI (T 3 n) := fun x => by rw [up2_na _ _ (by decide)]; exact e3
      have u3 : ∀ x, up2 A1 40 n x 11 n = nI (T 9 n) := fun x => by rw [up2_na _ _ (by decide)]; exact e9
      rw [i_X0_readPaths_21]
      simp (disch := omega) only [i_X0_readPaths_0, i_X0_readPaths_1, i_X0_readPaths_4, i_X0_readPaths_5, i_X0_readPaths_6, i_X0_readPaths_7, i_X0_readPaths_8, i_X0_readPaths_11, i_X0_readPaths_12, i_X0_readPaths_13, i_X0_readPaths_16, i_X0_readPaths_17, i_X0_readPaths_18, i_X0_readPaths_19, i_X0_readPaths_20, i_X0_readPaths_22, i_X0_readPaths_23, i_X0_readPaths_26, i_X0_readPaths_29, i_X0_readPaths_30, i_X0_readPaths_33, i_X0_readPaths_34, i_X0_readPaths_35, i_X0_readPaths_36, i_X0_readPaths_37, i_X0_readPaths_40, i_X0_readPaths_41, i_X0_readPaths_42, i_X0_readPaths_45, i_X0_readPaths_46, i_X0_readPaths_47, i_X0_readPaths_48, i_X0_readPaths_49, i_X0_readPaths_50, i_X0_readPaths_51, i_X0_readPaths_54, i_X0_readPaths_55, i_X0_readPaths_56, i_X0_readPaths_59, i_X0_readPaths_60, i_X0_readPaths_61, i_X0_readPaths_62, i_X0_readPaths_65, i_X0_readPaths_66, i_X0_readPaths_67, i_X0_readPaths_68, i_X0_readPaths_69, i_X0_readPaths_72, i_X0_readPaths_73, i_X0_readPaths_74, i_X0_readPaths_75, i_X0_readPaths_76, i_X0_readPaths_79, i_X0_readPaths_82, i_X0_readPaths_0_e, i_X0_readPaths_1b, i_X0_readPaths_6b, i_X0_readPaths_8b, i_X0_readPaths_18b, i_X0_readPaths_37b, i_X0_readPaths_42b, i_X0_readPaths_46b, i_X0_readPaths_49b, i_X0_readPaths_51b, i_X0_readPaths_56b, i_X0_readPaths_60b, i_X0_readPaths_75b, Option.toList_some, Option.toList_none, List.cons_append, List.nil_append, List.append_nil, ↓reduceIte, q_lt, hP.2.1, hn2, e1, e3, e9, f1, f2, nI_add, u1, u2, u3, n1, n2]
      refine ih (n + 1) (by omega) (by omega) _ (fun k hk => ?_) (fun a h1 h2 => ?_) _
      · by_cases hkn : k = n
        · subst hkn
          simp [up2]
        · have := hE k (by omega)
          simp [up2, hkn, this]
      · rw [up2_na _ _ h2, up2_na _ _ h1, hF a h1 h2]
  have e3 : A 5 0 = nI (T 3 0) := pT 3 0 (by omega) (by omega) (by omega)
  have u0 : ∀ x, up2 A 40 0 x 5 0 = nI (T 3 0) := fun x => by rw [up2_na _ _ (by decide)]; exact e3
  simp (disch := omega) only [i_X0_readPaths_0, i_X0_readPaths_1, i_X0_readPaths_4, i_X0_readPaths_5, i_X0_readPaths_6, i_X0_readPaths_7, i_X0_readPaths_8, i_X0_readPaths_11, i_X0_readPaths_12, i_X0_readPaths_13, i_X0_readPaths_16, i_X0_readPaths_17, i_X0_readPaths_18, i_X0_readPaths_19, i_X0_readPaths_20, i_X0_readPaths_22, i_X0_readPaths_23, i_X0_readPaths_26, i_X0_readPaths_29, i_X0_readPaths_30, i_X0_readPaths_33, i_X0_readPaths_34, i_X0_readPaths_35, i_X0_readPaths_36, i_X0_readPaths_37, i_X0_readPaths_40, i_X0_readPaths_41, i_X0_readPaths_42, i_X0_readPaths_45, i_X0_readPaths_46, i_X0_readPaths_47, i_X0_readPaths_48, i_X0_readPaths_49, i_X0_readPaths_50, i_X0_readPaths_51, i_X0_readPaths_54, i_X0_readPaths_55, i_X0_readPaths_56, i_X0_readPaths_59, i_X0_readPaths_60, i_X0_readPaths_61, i_X0_readPaths_62, i_X0_readPaths_65, i_X0_readPaths_66, i_X0_readPaths_67, i_X0_readPaths_68, i_X0_readPaths_69, i_X0_readPaths_72, i_X0_readPaths_73, i_X0_readPaths_74, i_X0_readPaths_75, i_X0_readPaths_76, i_X0_readPaths_79, i_X0_readPaths_82, i_X0_readPaths_0_e, i_X0_readPaths_1b, i_X0_readPaths_6b, i_X0_readPaths_8b, i_X0_readPaths_18b, i_X0_readPaths_37b, i_X0_readPaths_42b, i_X0_readPaths_46b, i_X0_readPaths_49b, i_X0_readPaths_51b, i_X0_readPaths_56b, i_X0_readPaths_60b, i_X0_readPaths_75b, Option.toList_some, Option.toList_none, List.cons_append, List.nil_append, List.append_nil, ↓reduceIte, u0]
  refine key (T 10 0 - 1) 1 (by omega) (by omega) _ (fun k hk => ?_) (fun a h1 h2 => ?_) _
  · have : k = 0 := by omega
    subst this
    have e : arr T 0 = T 3 0 := by unfold arr; rw [hT.2.2.1.1]; simp [del, ph_0]
    rw [e]
    simp [up2, dep, ph_0]
  · rw [up2_na _ _ h2, up2_na _ _ h1]
theorem t_readPathsb (hP : RelTP I A 1 T) (hT : okT T) (hQ : ∀ A', RF2 A' 47 (T 10 0) T → (∀ a, a ≠ 50 → a ≠ 51 → A' a = A a) → Q none (pm_w I A' E J B)) : pm_call X d mX0_readPaths [.ref 47, .ref 1] (pm_w I A E J B) Q := by
  have h24 := hT.wf.2.1
  have h1 := hT.wf.1
  have pT : ∀ w k, w < 10 → k < T 10 0 → (w ≠ 1 ∨ 0 < k) → A (1 + (w + 1)) k = nI (T w k) := hP.2.2.2
  have key : ∀ m n, 0 < n → n + m = T 10 0 → ∀ (A1 : Nat → Nat → Int32), RF2 A1 47 n T → (∀ a, a ≠ 50 → a ≠ 51 → A1 a = A a) → ∀ v3, pm_wp X d mX0_readPaths 21 [.ref 47, .ref 1, .int (nI n), v3] [] (pm_w I A1 E J B) Q := by
    intro m
    induction m with
    | zero =>
      intro n h0 hn A1 hE hF v3
      have : n = T 10 0 := by omega
      subst this
      rw [i_X0_readPaths_21]
      simp (disch := omega) only [i_X0_readPaths_0, i_X0_readPaths_1, i_X0_readPaths_4, i_X0_readPaths_5, i_X0_readPaths_6, i_X0_readPaths_7, i_X0_readPaths_8, i_X0_readPaths_11, i_X0_readPaths_12, i_X0_readPaths_13, i_X0_readPaths_16, i_X0_readPaths_17, i_X0_readPaths_18, i_X0_readPaths_19, i_X0_readPaths_20, i_X0_readPaths_22, i_X0_readPaths_23, i_X0_readPaths_26, i_X0_readPaths_29, i_X0_readPaths_30, i_X0_readPaths_33, i_X0_readPaths_34, i_X0_readPaths_35, i_X0_readPaths_36, i_X0_readPaths_37, i_X0_readPaths_40, i_X0_readPaths_41, i_X0_readPaths_42, i_X0_readPaths_45, i_X0_readPaths_46, i_X0_readPaths_47, i_X0_readPaths_48, i_X0_readPaths_49, i_X0_readPaths_50, i_X0_readPaths_51, i_X0_readPaths_54, i_X0_readPaths_55, i_X0_readPaths_56, i_X0_readPaths_59, i_X0_readPaths_60, i_X0_readPaths_61, i_X0_readPaths_62, i_X0_readPaths_65, i_X0_readPaths_66, i_X0_readPaths_67, i_X0_readPaths_68, i_X0_readPaths_69, i_X0_readPaths_72, i_X0_readPaths_73, i_X0_readPaths_74, i_X0_readPaths_75, i_X0_readPaths_76, i_X0_readPaths_79, i_X0_readPaths_82, i_X0_readPaths_0_e, i_X0_readPaths_1b, i_X0_readPaths_6b, i_X0_readPaths_8b, i_X0_readPaths_18b, i_X0_readPaths_37b, i_X0_readPaths_42b, i_X0_readPaths_46b, i_X0_readPaths_49b, i_X0_readPaths_51b, i_X0_readPaths_56b, i_X0_readPaths_60b, i_X0_readPaths_75b, Option.toList_some, Option.toList_none, List.cons_append, List.nil_append, List.append_nil, ↓reduceIte, q_lt, hP.2.1, Nat.lt_irrefl]
      exact hQ A1 hE hF
    | succ m ih =>
      intro n h0 hn A1 hE hF v3
      have hn2 : n < T 10 0 := by omega
      have hp := hT.wf.2.2 n h0 hn2
      have e1 : A1 3 n = nI (T 1 n) := by rw [hF 3 (by decide) (by decide)]; exact pT 1 n (by omega) hn2 (by omega)
      have e3 : A1 5 n = nI (T 3 n) := by rw [hF 5 (by decide) (by decide)]; exact pT 3 n (by omega) hn2 (by omega)
      have e9 : A1 11 n = nI (T 9 n) := by rw [hF 11 (by decide) (by decide)]; exact pT 9 n (by omega) hn2 (by omega)
      have f1 := (hE (T 1 n) hp).1
      have f2 := (hE (T 1 n) hp).2
      have n1 : dep T (T 1 n) + 1 = dep T n := (ph_s hT.wf h0 hn2).symm
      have n2 := (arr_s hT h0 hn2).symm
      have u1 : ∀ x, up2 A1 50 n x 51 (T 1 n) = nI (arr T (T 1 n)) := fun x => by rw [up2_na _ _ (by decide)]; exact f2
      have u2 : ∀ x, up2 A1 50 n x 5 n = nI (T 3 n) := fun x => by rw [up2_na _ _ (by decide)]; exact e3
      have u3 : ∀ x, up2 A1 50 n x 11 n = nI (T 9 n) := fun x => by rw [up2_na _ _ (by decide)]; exact e9
      rw [i_X0_readPaths_21]
      simp (disch := omega) only [i_X0_readPaths_0, i_X0_readPaths_1, i_X0_readPaths_4, i_X0_readPaths_5, i_X0_readPaths_6, i_X0_readPaths_7, i_X0_readPaths_8, i_X0_readPaths_11, i_X0_readPaths_12, i_X0_readPaths_13, i_X0_readPaths_16, i_X0_readPaths_17, i_X0_readPaths_18, i_X0_readPaths_19, i_X0_readPaths_20, i_X0_readPaths_22, i_X0_readPaths_23, i_X0_readPaths_26, i_X0_readPaths_29, i_X0_readPaths_30, i_X0_readPaths_33, i_X0_readPaths_34, i_X0_readPaths_35, i_X0_readPaths_36, i_X0_readPaths_37, i_X0_readPaths_40, i_X0_readPaths_41, i_X0_readPaths_42, i_X0_readPaths_45, i_X0_readPaths_46, i_X0_readPaths_47, i_X0_readPaths_48, i_X0_readPaths_49, i_X0_readPaths_50, i_X0_readPaths_51, i_X0_readPaths_54, i_X0_readPaths_55, i_X0_readPaths_56, i_X0_readPaths_59, i_X0_readPaths_60, i_X0_readPaths_61, i_X0_readPaths_62, i_X0_readPaths_65, i_X0_readPaths_66, i_X0_readPaths_67, i_X0_readPaths_68, i_X0_readPaths_69, i_X0_readPaths_72, i_X0_readPaths_73, i_X0_readPaths_74, i_X0_readPaths_75, i_X0_readPaths_76, i_X0_readPaths_79, i_X0_readPaths_82, i_X0_readPaths_0_e, i_X0_readPaths_1b, i_X0_readPaths_6b, i_X0_readPaths_8b, i_X0_readPaths_18b, i_X0_readPaths_37b, i_X0_readPaths_42b, i_X0_readPaths_46b, i_X0_readPaths_49b, i_X0_readPaths_51b, i_X0_readPaths_56b, i_X0_readPaths_60b, i_X0_readPaths_75b, Option.toList_some, Option.toList_none, List.cons_append, List.nil_append, List.append_nil, ↓reduceIte, q_lt, hP.2.1, hn2, e1, e3, e9, f1, f2, nI_add, u1, u2, u3, n1, n2]
      refine ih (n + 1) (by omega) (by omega) _ (fun k hk => ?_) (fun a h1 h2 => ?_) _
      · by_cases hkn : k = n
        · subst hkn
          simp [up2]
        · have := hE k (by omega)
          simp [up2, hkn, this]
      · rw [up2_na _ _ h2, up2_na _ _ h1, hF a h1 h2]
  have e3 : A 5 0 = nI (T 3 0) := pT 3 0 (by omega) (by omega) (by omega)
  have u0 : ∀ x, up2 A 50 0 x 5 0 = nI (T 3 0) := fun x => by rw [up2_na _ _ (by decide)]; exact e3
  simp (disch := omega) only [i_X0_readPaths_0, i_X0_readPaths_1, i_X0_readPaths_4, i_X0_readPaths_5, i_X0_readPaths_6, i_X0_readPaths_7, i_X0_readPaths_8, i_X0_readPaths_11, i_X0_readPaths_12, i_X0_readPaths_13, i_X0_readPaths_16, i_X0_readPaths_17, i_X0_readPaths_18, i_X0_readPaths_19, i_X0_readPaths_20, i_X0_readPaths_22, i_X0_readPaths_23, i_X0_readPaths_26, i_X0_readPaths_29, i_X0_readPaths_30, i_X0_readPaths_33, i_X0_readPaths_34, i_X0_readPaths_35, i_X0_readPaths_36, i_X0_readPaths_37, i_X0_readPaths_40, i_X0_readPaths_41, i_X0_readPaths_42, i_X0_readPaths_45, i_X0_readPaths_46, i_X0_readPaths_47, i_X0_readPaths_48, i_X0_readPaths_49, i_X0_readPaths_50, i_X0_readPaths_51, i_X0_readPaths_54, i_X0_readPaths_55, i_X0_readPaths_56, i_X0_readPaths_59, i_X0_readPaths_60, i_X0_readPaths_61, i_X0_readPaths_62, i_X0_readPaths_65, i_X0_readPaths_66, i_X0_readPaths_67, i_X0_readPaths_68, i_X0_readPaths_69, i_X0_readPaths_72, i_X0_readPaths_73, i_X0_readPaths_74, i_X0_readPaths_75, i_X0_readPaths_76, i_X0_readPaths_79, i_X0_readPaths_82, i_X0_readPaths_0_e, i_X0_readPaths_1b, i_X0_readPaths_6b, i_X0_readPaths_8b, i_X0_readPaths_18b, i_X0_readPaths_37b, i_X0_readPaths_42b, i_X0_readPaths_46b, i_X0_readPaths_49b, i_X0_readPaths_51b, i_X0_readPaths_56b, i_X0_readPaths_60b, i_X0_readPaths_75b, Option.toList_some, Option.toList_none, List.cons_append, List.nil_append, List.append_nil, ↓reduceIte, u0]
  refine key (T 10 0 - 1) 1 (by omega) (by omega) _ (fun k hk => ?_) (fun a h1 h2 => ?_) _
  · have : k = 0 := by omega
    subst this
    have e : arr T 0 = T 3 0 := by unfold arr; rw [hT.2.2.1.1]; simp [del, ph_0]
    rw [e]
    simp [up2, dep, ph_0]
  · rw [up2_na _ _ h2, up2_na _ _ h1]
theorem t_readBelowa (hP : RelTP I A 1 T) (hT : okT T) (hQ : ∀ A', RF3 A' 37 T → (∀ a, a ≠ 42 → a ≠ 43 → a ≠ 44 → A' a = A a) → Q none (pm_w I A' E J B)) : pm_call X d mX0_readBelow [.ref 37, .ref 1] (pm_w I A E J B) Q := by
  have h24 := hT.wf.2.1
  have h1 := hT.wf.1
  have hw := hT.wf
  have pT : ∀ w k, w < 10 → k < T 10 0 → (w ≠ 1 ∨ 0 < k) → A (1 + (w + 1)) k = nI (T w k) := hP.2.2.2
  have key2 : ∀ n, n < T 10 0 → ∀ (A1 : Nat → Nat → Int32), (∀ o, o < T 10 0 → A1 42 o = nI (cnt (chP T n o) (T 10 0)) ∧ A1 43 o = nI (bts (lvP T n o) (T 10 0)) ∧ A1 44 o = nI (bts (rqP T n o) (T 10 0))) → (∀ a, a ≠ 42 → a ≠ 43 → a ≠ 44 → A1 a = A a) → ∀ v3 v4, pm_wp X d mX0_readBelow 44 [.ref 37, .ref 1, .int (nI n), v3, v4] [] (pm_w I A1 E J B) Q := by
    intro n
    induction n with
    | zero =>
      intro hn A1 hE hF v3 v4
      rw [i_X0_readBelow_44]
      simp (disch := omega) only [i_X0_readBelow_0, i_X0_readBelow_1, i_X0_readBelow_3, i_X0_readBelow_4, i_X0_readBelow_7, i_X0_readBelow_10, i_X0_readBelow_11, i_X0_readBelow_14, i_X0_readBelow_15, i_X0_readBelow_16, i_X0_readBelow_17, i_X0_readBelow_18, i_X0_readBelow_21, i_X0_readBelow_22, i_X0_readBelow_23, i_X0_readBelow_24, i_X0_readBelow_25, i_X0_readBelow_28, i_X0_readBelow_29, i_X0_readBelow_30, i_X0_readBelow_31, i_X0_readBelow_34, i_X0_readBelow_37, i_X0_readBelow_38, i_X0_readBelow_41, i_X0_readBelow_42, i_X0_readBelow_43, i_X0_readBelow_45, i_X0_readBelow_48, i_X0_readBelow_49, i_X0_readBelow_52, i_X0_readBelow_53, i_X0_readBelow_54, i_X0_readBelow_55, i_X0_readBelow_56, i_X0_readBelow_59, i_X0_readBelow_60, i_X0_readBelow_61, i_X0_readBelow_62, i_X0_readBelow_65, i_X0_readBelow_66, i_X0_readBelow_67, i_X0_readBelow_68, i_X0_readBelow_72, i_X0_readBelow_74, i_X0_readBelow_75, i_X0_readBelow_78, i_X0_readBelow_79, i_X0_readBelow_80, i_X0_readBelow_81, i_X0_readBelow_82, i_X0_readBelow_83, i_X0_readBelow_84, i_X0_readBelow_85, i_X0_readBelow_88, i_X0_readBelow_89, i_X0_readBelow_90, i_X0_readBelow_91, i_X0_readBelow_92, i_X0_readBelow_95, i_X0_readBelow_96, i_X0_readBelow_97, i_X0_readBelow_99, i_X0_readBelow_100, i_X0_readBelow_101, i_X0_readBelow_102, i_X0_readBelow_103, i_X0_readBelow_106, i_X0_readBelow_107, i_X0_readBelow_108, i_X0_readBelow_109, i_X0_readBelow_110, i_X0_readBelow_113, i_X0_readBelow_114, i_X0_readBelow_115, i_X0_readBelow_116, i_X0_readBelow_119, i_X0_readBelow_120, i_X0_readBelow_121, i_X0_readBelow_122, i_X0_readBelow_125, i_X0_readBelow_127, i_X0_readBelow_131, i_X0_readBelow_132, i_X0_readBelow_133, i_X0_readBelow_134, i_X0_readBelow_137, i_X0_readBelow_130, i_X0_readBelow_71, i_X0_readBelow_140, i_X0_readBelow_0_e, i_X0_readBelow_11b, i_X0_readBelow_16b, i_X0_readBelow_18b, i_X0_readBelow_23b, i_X0_readBelow_25b, i_X0_readBelow_30b, i_X0_readBelow_75b, i_X0_readBelow_80b, i_X0_readBelow_83b, i_X0_readBelow_85b, i_X0_readBelow_90b, i_X0_readBelow_92b, i_X0_readBelow_96b, i_X0_readBelow_101b, i_X0_readBelow_103b, i_X0_readBelow_108b, i_X0_readBelow_110b, i_X0_readBelow_114b, i_X0_readBelow_133b, Option.toList_some, Option.toList_none, List.cons_append, List.nil_append, List.append_nil, ↓reduceIte, q_pos, Nat.lt_irrefl]
      refine hQ A1 (fun k hk => ?_) hF
      obtain ⟨g1, g2, g3⟩ := hE k hk
      refine ⟨g1, ?_, ?_⟩
      · rw [g2]; congr 1; exact bts_congr _ (fun j hj => by unfold lvP lvB; rw [udn_0 hw j hj])
      · rw [g3]; congr 1; exact bts_congr _ (fun j hj => by unfold rqP rqB; rw [udn_0 hw j hj])
    | succ n ih =>
      intro hn A1 hE hF v3 v4
      have h0 : 0 < n + 1 := by omega
      have hp := hw.2.2 (n + 1) h0 hn
      have e0 : A1 2 (n + 1) = nI (T 0 (n + 1)) := by rw [hF 2 (by decide) (by decide) (by decide)]; exact pT 0 _ (by omega) hn (by omega)
      have e1 : A1 3 (n + 1) = nI (T 1 (n + 1)) := by rw [hF 3 (by decide) (by decide) (by decide)]; exact pT 1 _ (by omega) hn (by omega)
      have e8 : A1 10 (n + 1) = nI (T 8 (n + 1)) := by rw [hF 10 (by decide) (by decide) (by decide)]; exact pT 8 _ (by omega) hn (by omega)
      have s0 := hT.small hn (w := 0) (by omega) (by omega)
      have s8 := hT.small hn (w := 8) (by omega) (by omega)
      obtain ⟨f1, f2, f3⟩ := hE (T 1 (n + 1)) (by omega)
      obtain ⟨_, k2, k3⟩ := hE (n + 1) hn
      have m1 : q_sub1 (a := n + 1) (by omega) = q_sub1 (a := n + 1) (by omega) := rfl
      have st : ∀ o j, j < T 10 0 → udn T n o j = (udn T (n + 1) o j || (decide (T 1 (n + 1) = o) && (decide (j = n + 1) || und T (n + 1) j))) := fun o j hj => udn_step hw h0 hn j hj
      have c1 : ∀ o, cnt (chP T n o) (T 10 0) = cnt (chP T (n + 1) o) (T 10 0) + (if decide (T 1 (n + 1) = o) then 1 else 0) := fun o => by
        refine cnt_pt (m := n + 1) (T 10 0) hn (by simp [chP]) (fun k hk => ?_)
        unfold chP
        by_cases hk1 : k = n + 1
        · subst hk1; simp
        · rw [show decide (k = n + 1) = false from by simp [hk1], show decide (n < k) = decide (n + 1 < k) from decide_eq_decide.mpr (by omega)]; simp
      have own : ∀ (b : Bool), (if b then 2 ^ (n + 1) else 0) = bts (fun k => b && decide (k = n + 1)) (T 10 0) := fun b => by
        cases b with
        | true => simp only [if_true, Bool.true_and]; exact (bts_one hn).symm
        | false => simp only [Bool.false_eq_true, if_false, Bool.false_and]; exact bts_0.symm
      have c2 : bts (lvP T (n + 1) (T 1 (n + 1))) (T 10 0) ||| (bts (lvP T (n + 1) (n + 1)) (T 10 0) ||| (if decide (T 0 (n + 1) = 5) then 2 ^ (n + 1) else 0)) = bts (lvP T n (T 1 (n + 1))) (T 10 0) := by
        rw [own, bts_or2, bts_or2]
        refine bts_congr _ (fun j hj => ?_)
        unfold lvP
        rw [udn_self hw j hj, st _ j hj]
        by_cases hj1 : j = n + 1
        · subst hj1; simp; cases decide (T 0 (n + 1) = 5) <;> simp
        · rw [show decide (j = n + 1) = false from by simp [hj1]]; cases decide (T 0 j = 5) <;> simp
      have c3 : bts (rqP T (n + 1) (T 1 (n + 1))) (T 10 0) ||| (bts (rqP T (n + 1) (n + 1)) (T 10 0) ||| (if decide (T 0 (n + 1) = 5) && decide (T 8 (n + 1) = 1) then 2 ^ (n + 1) else 0)) = bts (rqP T n (T 1 (n + 1))) (T 10 0) := by
        rw [own, bts_or2, bts_or2]
        refine bts_congr _ (fun j hj => ?_)
        unfold rqP
        rw [udn_self hw j hj, st _ j hj]
        by_cases hj1 : j = n + 1
        · subst hj1; simp; cases decide (T 0 (n + 1) = 5) <;> cases decide (T 8 (n + 1) = 1) <;> simp
        · rw [show decide (j = n + 1) = false from by simp [hj1]]; cases decide (T 0 j = 5) <;> cases decide (T 8 j = 1) <;> simp
      have fin : ∀ v3 v4, pm_wp X d mX0_readBelow 44 [.ref 37, .ref 1, .int (nI n), v3, v4] [] (pm_w I (up2 (up2 (up2 A1 42 (T 1 (n + 1)) (nI (cnt (chP T n (T 1 (n + 1))) (T 10 0)))) 43 (T 1 (n + 1)) (nI (bts (lvP T n (T 1 (n + 1))) (T 10 0)))) 44 (T 1 (n + 1)) (nI (bts (rqP T n (T 1 (n + 1))) (T 10 0)))) E J B) Q := by
        refine ih (by omega) _ (fun o ho => ?_) (fun a h1 h2 h3 => ?_)
        · by_cases hop : o = T 1 (n + 1)
          · subst hop
            simp [up2]
          · obtain ⟨g1, g2, g3⟩ := hE o ho
            have hop2 : decide (T 1 (n + 1) = o) = false := by simp; exact fun q => hop q.symm
            refine ⟨?_, ?_, ?_⟩
            · rw [up2_na _ _ (by decide), up2_na _ _ (by decide), up2_n _ _ (by simp [hop]), g1, c1 o, hop2]; rfl
            · rw [up2_na _ _ (by decide), up2_n _ _ (by simp [hop]), up2_na _ _ (by decide), g2]; congr 1; exact bts_congr _ (fun j hj => by unfold lvP; rw [st o j hj, hop2]; simp)
            · rw [up2_n _ _ (by simp [hop]), up2_na _ _ (by decide), up2_na _ _ (by decide), g3]; congr 1; exact bts_congr _ (fun j hj => by unfold rqP; rw [st o j hj, hop2]; simp)
        · rw [up2_na _ _ h3, up2_na _ _ h2, up2_na _ _ h1, hF a h1 h2 h3]
      have c1' : cnt (chP T (n + 1) (T 1 (n + 1))) (T 10 0) + 1 = cnt (chP T n (T 1 (n + 1))) (T 10 0) := by rw [c1]; simp
      have u2 : ∀ x, up2 A1 42 (T 1 (n + 1)) x 43 = A1 43 := fun x => up2_na _ _ (by decide)
      have u3 : ∀ x y, up2 (up2 A1 42 (T 1 (n + 1)) x) 43 (T 1 (n + 1)) y 44 = A1 44 := fun x y => by rw [up2_na _ _ (by decide), up2_na _ _ (by decide)]
      have u8 : ∀ x y, up2 (up2 A1 42 (T 1 (n + 1)) x) 43 (T 1 (n + 1)) y 10 = A1 10 := fun x y => by rw [up2_na _ _ (by decide), up2_na _ _ (by decide)]
      rw [i_X0_readBelow_44]
      by_cases h5 : T 0 (n + 1) = 5
      · by_cases h8 : T 8 (n + 1) = 1
        · simp only [h5, h8, decide_true, Bool.and_true, if_true] at c2 c3
          simp (disch := omega) only [i_X0_readBelow_0, i_X0_readBelow_1, i_X0_readBelow_3, i_X0_readBelow_4, i_X0_readBelow_7, i_X0_readBelow_10, i_X0_readBelow_11, i_X0_readBelow_14, i_X0_readBelow_15, i_X0_readBelow_16, i_X0_readBelow_17, i_X0_readBelow_18, i_X0_readBelow_21, i_X0_readBelow_22, i_X0_readBelow_23, i_X0_readBelow_24, i_X0_readBelow_25, i_X0_readBelow_28, i_X0_readBelow_29, i_X0_readBelow_30, i_X0_readBelow_31, i_X0_readBelow_34, i_X0_readBelow_37, i_X0_readBelow_38, i_X0_readBelow_41, i_X0_readBelow_42, i_X0_readBelow_43, i_X0_readBelow_45, i_X0_readBelow_48, i_X0_readBelow_49, i_X0_readBelow_52, i_X0_readBelow_53, i_X0_readBelow_54, i_X0_readBelow_55, i_X0_readBelow_56, i_X0_readBelow_59, i_X0_readBelow_60, i_X0_readBelow_61, i_X0_readBelow_62, i_X0_readBelow_65, i_X0_readBelow_66, i_X0_readBelow_67, i_X0_readBelow_68, i_X0_readBelow_72, i_X0_readBelow_74, i_X0_readBelow_75, i_X0_readBelow_78, i_X0_readBelow_79, i_X0_readBelow_80, i_X0_readBelow_81, i_X0_readBelow_82, i_X0_readBelow_83, i_X0_readBelow_84, i_X0_readBelow_85, i_X0_readBelow_88, i_X0_readBelow_89, i_X0_readBelow_90, i_X0_readBelow_91, i_X0_readBelow_92, i_X0_readBelow_95, i_X0_readBelow_96, i_X0_readBelow_97, i_X0_readBelow_99, i_X0_readBelow_100, i_X0_readBelow_101, i_X0_readBelow_102, i_X0_readBelow_103, i_X0_readBelow_106, i_X0_readBelow_107, i_X0_readBelow_108, i_X0_readBelow_109, i_X0_readBelow_110, i_X0_readBelow_113, i_X0_readBelow_114, i_X0_readBelow_115, i_X0_readBelow_116, i_X0_readBelow_119, i_X0_readBelow_120, i_X0_readBelow_121, i_X0_readBelow_122, i_X0_readBelow_125, i_X0_readBelow_127, i_X0_readBelow_131, i_X0_readBelow_132, i_X0_readBelow_133, i_X0_readBelow_134, i_X0_readBelow_137, i_X0_readBelow_130, i_X0_readBelow_71, i_X0_readBelow_140, i_X0_readBelow_0_e, i_X0_readBelow_11b, i_X0_readBelow_16b, i_X0_readBelow_18b, i_X0_readBelow_23b, i_X0_readBelow_25b, i_X0_readBelow_30b, i_X0_readBelow_75b, i_X0_readBelow_80b, i_X0_readBelow_83b, i_X0_readBelow_85b, i_X0_readBelow_90b, i_X0_readBelow_92b, i_X0_readBelow_96b, i_X0_readBelow_101b, i_X0_readBelow_103b, i_X0_readBelow_108b, i_X0_readBelow_110b, i_X0_readBelow_114b, i_X0_readBelow_133b, Option.toList_some, Option.toList_none, List.cons_append, List.nil_append, List.append_nil, ↓reduceIte, q_pos, q_eq, h0, e0, e1, e8, f1, f2, f3, k2, k3, u2, u3, u8, h5, h8, nI_add, nI_or, q_shl1, q_sub1, c1', c2, c3, Nat.add_sub_cancel]
          exact fin _ _
        · simp only [h5, h8, decide_true, decide_false, Bool.and_false, Bool.false_eq_true, if_true, if_false] at c2 c3
          simp (disch := omega) only [i_X0_readBelow_0, i_X0_readBelow_1, i_X0_readBelow_3, i_X0_readBelow_4, i_X0_readBelow_7, i_X0_readBelow_10, i_X0_readBelow_11, i_X0_readBelow_14, i_X0_readBelow_15, i_X0_readBelow_16, i_X0_readBelow_17, i_X0_readBelow_18, i_X0_readBelow_21, i_X0_readBelow_22, i_X0_readBelow_23, i_X0_readBelow_24, i_X0_readBelow_25, i_X0_readBelow_28, i_X0_readBelow_29, i_X0_readBelow_30, i_X0_readBelow_31, i_X0_readBelow_34, i_X0_readBelow_37, i_X0_readBelow_38, i_X0_readBelow_41, i_X0_readBelow_42, i_X0_readBelow_43, i_X0_readBelow_45, i_X0_readBelow_48, i_X0_readBelow_49, i_X0_readBelow_52, i_X0_readBelow_53, i_X0_readBelow_54, i_X0_readBelow_55, i_X0_readBelow_56, i_X0_readBelow_59, i_X0_readBelow_60, i_X0_readBelow_61, i_X0_readBelow_62, i_X0_readBelow_65, i_X0_readBelow_66, i_X0_readBelow_67, i_X0_readBelow_68, i_X0_readBelow_72, i_X0_readBelow_74, i_X0_readBelow_75, i_X0_readBelow_78, i_X0_readBelow_79, i_X0_readBelow_80, i_X0_readBelow_81, i_X0_readBelow_82, i_X0_readBelow_83, i_X0_readBelow_84, i_X0_readBelow_85, i_X0_readBelow_88, i_X0_readBelow_89, i_X0_readBelow_90, i_X0_readBelow_91, i_X0_readBelow_92, i_X0_readBelow_95, i_X0_readBelow_96, i_X0_readBelow_97, i_X0_readBelow_99, i_X0_readBelow_100, i_X0_readBelow_101, i_X0_readBelow_102, i_X0_readBelow_103, i_X0_readBelow_106, i_X0_readBelow_107, i_X0_readBelow_108, i_X0_readBelow_109, i_X0_readBelow_110, i_X0_readBelow_113, i_X0_readBelow_114, i_X0_readBelow_115, i_X0_readBelow_116, i_X0_readBelow_119, i_X0_readBelow_120, i_X0_readBelow_121, i_X0_readBelow_122, i_X0_readBelow_125, i_X0_readBelow_127, i_X0_readBelow_131, i_X0_readBelow_132, i_X0_readBelow_133, i_X0_readBelow_134, i_X0_readBelow_137, i_X0_readBelow_130, i_X0_readBelow_71, i_X0_readBelow_140, i_X0_readBelow_0_e, i_X0_readBelow_11b, i_X0_readBelow_16b, i_X0_readBelow_18b, i_X0_readBelow_23b, i_X0_readBelow_25b, i_X0_readBelow_30b, i_X0_readBelow_75b, i_X0_readBelow_80b, i_X0_readBelow_83b, i_X0_readBelow_85b, i_X0_readBelow_90b, i_X0_readBelow_92b, i_X0_readBelow_96b, i_X0_readBelow_101b, i_X0_readBelow_103b, i_X0_readBelow_108b, i_X0_readBelow_110b, i_X0_readBelow_114b, i_X0_readBelow_133b, Option.toList_some, Option.toList_none, List.cons_append, List.nil_append, List.append_nil, ↓reduceIte, q_pos, q_eq, h0, e0, e1, e8, f1, f2, f3, k2, k3, u2, u3, u8, h5, h8, nI_add, nI_or, q_shl1, q_sub1, c1', c2, c3, Nat.add_sub_cancel]
          exact fin _ _
      · simp only [h5, decide_false, Bool.false_and, Bool.false_eq_true, if_false] at c2 c3
        by_cases h8 : T 8 (n + 1) = 1
        · simp (disch := omega) only [i_X0_readBelow_0, i_X0_readBelow_1, i_X0_readBelow_3, i_X0_readBelow_4, i_X0_readBelow_7, i_X0_readBelow_10, i_X0_readBelow_11, i_X0_readBelow_14, i_X0_readBelow_15, i_X0_readBelow_16, i_X0_readBelow_17, i_X0_readBelow_18, i_X0_readBelow_21, i_X0_readBelow_22, i_X0_readBelow_23, i_X0_readBelow_24, i_X0_readBelow_25, i_X0_readBelow_28, i_X0_readBelow_29, i_X0_readBelow_30, i_X0_readBelow_31, i_X0_readBelow_34, i_X0_readBelow_37, i_X0_readBelow_38, i_X0_readBelow_41, i_X0_readBelow_42, i_X0_readBelow_43, i_X0_readBelow_45, i_X0_readBelow_48, i_X0_readBelow_49, i_X0_readBelow_52, i_X0_readBelow_53, i_X0_readBelow_54, i_X0_readBelow_55, i_X0_readBelow_56, i_X0_readBelow_59, i_X0_readBelow_60, i_X0_readBelow_61, i_X0_readBelow_62, i_X0_readBelow_65, i_X0_readBelow_66, i_X0_readBelow_67, i_X0_readBelow_68, i_X0_readBelow_72, i_X0_readBelow_74, i_X0_readBelow_75, i_X0_readBelow_78, i_X0_readBelow_79, i_X0_readBelow_80, i_X0_readBelow_81, i_X0_readBelow_82, i_X0_readBelow_83, i_X0_readBelow_84, i_X0_readBelow_85, i_X0_readBelow_88, i_X0_readBelow_89, i_X0_readBelow_90, i_X0_readBelow_91, i_X0_readBelow_92, i_X0_readBelow_95, i_X0_readBelow_96, i_X0_readBelow_97, i_X0_readBelow_99, i_X0_readBelow_100, i_X0_readBelow_101, i_X0_readBelow_102, i_X0_readBelow_103, i_X0_readBelow_106, i_X0_readBelow_107, i_X0_readBelow_108, i_X0_readBelow_109, i_X0_readBelow_110, i_X0_readBelow_113, i_X0_readBelow_114, i_X0_readBelow_115, i_X0_readBelow_116, i_X0_readBelow_119, i_X0_readBelow_120, i_X0_readBelow_121, i_X0_readBelow_122, i_X0_readBelow_125, i_X0_readBelow_127, i_X0_readBelow_131, i_X0_readBelow_132, i_X0_readBelow_133, i_X0_readBelow_134, i_X0_readBelow_137, i_X0_readBelow_130, i_X0_readBelow_71, i_X0_readBelow_140, i_X0_readBelow_0_e, i_X0_readBelow_11b, i_X0_readBelow_16b, i_X0_readBelow_18b, i_X0_readBelow_23b, i_X0_readBelow_25b, i_X0_readBelow_30b, i_X0_readBelow_75b, i_X0_readBelow_80b, i_X0_readBelow_83b, i_X0_readBelow_85b, i_X0_readBelow_90b, i_X0_readBelow_92b, i_X0_readBelow_96b, i_X0_readBelow_101b, i_X0_readBelow_103b, i_X0_readBelow_108b, i_X0_readBelow_110b, i_X0_readBelow_114b, i_X0_readBelow_133b, Option.toList_some, Option.toList_none, List.cons_append, List.nil_append, List.append_nil, ↓reduceIte, q_pos, q_eq, h0, e0, e1, e8, f1, f2, f3, k2, k3, u2, u3, u8, h5, h8, nI_add, nI_or, q_sub1, c1', c2, c3, Nat.add_sub_cancel]
          exact fin _ _
        · simp (disch := omega) only [i_X0_readBelow_0, i_X0_readBelow_1, i_X0_readBelow_3, i_X0_readBelow_4, i_X0_readBelow_7, i_X0_readBelow_10, i_X0_readBelow_11, i_X0_readBelow_14, i_X0_readBelow_15, i_X0_readBelow_16, i_X0_readBelow_17, i_X0_readBelow_18, i_X0_readBelow_21, i_X0_readBelow_22, i_X0_readBelow_23, i_X0_readBelow_24, i_X0_readBelow_25, i_X0_readBelow_28, i_X0_readBelow_29, i_X0_readBelow_30, i_X0_readBelow_31, i_X0_readBelow_34, i_X0_readBelow_37, i_X0_readBelow_38, i_X0_readBelow_41, i_X0_readBelow_42, i_X0_readBelow_43, i_X0_readBelow_45, i_X0_readBelow_48, i_X0_readBelow_49, i_X0_readBelow_52, i_X0_readBelow_53, i_X0_readBelow_54, i_X0_readBelow_55, i_X0_readBelow_56, i_X0_readBelow_59, i_X0_readBelow_60, i_X0_readBelow_61, i_X0_readBelow_62, i_X0_readBelow_65, i_X0_readBelow_66, i_X0_readBelow_67, i_X0_readBelow_68, i_X0_readBelow_72, i_X0_readBelow_74, i_X0_readBelow_75, i_X0_readBelow_78, i_X0_readBelow_79, i_X0_readBelow_80, i_X0_readBelow_81, i_X0_readBelow_82, i_X0_readBelow_83, i_X0_readBelow_84, i_X0_readBelow_85, i_X0_readBelow_88, i_X0_readBelow_89, i_X0_readBelow_90, i_X0_readBelow_91, i_X0_readBelow_92, i_X0_readBelow_95, i_X0_readBelow_96, i_X0_readBelow_97, i_X0_readBelow_99, i_X0_readBelow_100, i_X0_readBelow_101, i_X0_readBelow_102, i_X0_readBelow_103, i_X0_readBelow_106, i_X0_readBelow_107, i_X0_readBelow_108, i_X0_readBelow_109, i_X0_readBelow_110, i_X0_readBelow_113, i_X0_readBelow_114, i_X0_readBelow_115, i_X0_readBelow_116, i_X0_readBelow_119, i_X0_readBelow_120, i_X0_readBelow_121, i_X0_readBelow_122, i_X0_readBelow_125, i_X0_readBelow_127, i_X0_readBelow_131, i_X0_readBelow_132, i_X0_readBelow_133, i_X0_readBelow_134, i_X0_readBelow_137, i_X0_readBelow_130, i_X0_readBelow_71, i_X0_readBelow_140, i_X0_readBelow_0_e, i_X0_readBelow_11b, i_X0_readBelow_16b, i_X0_readBelow_18b, i_X0_readBelow_23b, i_X0_readBelow_25b, i_X0_readBelow_30b, i_X0_readBelow_75b, i_X0_readBelow_80b, i_X0_readBelow_83b, i_X0_readBelow_85b, i_X0_readBelow_90b, i_X0_readBelow_92b, i_X0_readBelow_96b, i_X0_readBelow_101b, i_X0_readBelow_103b, i_X0_readBelow_108b, i_X0_readBelow_110b, i_X0_readBelow_114b, i_X0_readBelow_133b, Option.toList_some, Option.toList_none, List.cons_append, List.nil_append, List.append_nil, ↓reduceIte, q_pos, q_eq, h0, e0, e1, e8, f1, f2, f3, k2, k3, u2, u3, u8, h5, h8, nI_add, nI_or, q_sub1, c1', c2, c3, Nat.add_sub_cancel]
          exact fin _ _
  have key1 : ∀ m n, n + m = T 10 0 → ∀ (A1 : Nat → Nat → Int32), (∀ o, o < n → A1 42 o = nI 0 ∧ A1 43 o = nI 0 ∧ A1 44 o = nI 0) → (∀ a, a ≠ 42 → a ≠ 43 → a ≠ 44 → A1 a = A a) → ∀ v3 v4, pm_wp X d mX0_readBelow 2 [.ref 37, .ref 1, .int (nI n), v3, v4] [] (pm_w I A1 E J B) Q := by
    intro m
    induction m with
    | zero =>
      intro n hn A1 hE hF v3 v4
      have : n = T 10 0 := by omega
      subst this
      rw [i_X0_readBelow_2]
      simp (disch := omega) only [i_X0_readBelow_0, i_X0_readBelow_1, i_X0_readBelow_3, i_X0_readBelow_4, i_X0_readBelow_7, i_X0_readBelow_10, i_X0_readBelow_11, i_X0_readBelow_14, i_X0_readBelow_15, i_X0_readBelow_16, i_X0_readBelow_17, i_X0_readBelow_18, i_X0_readBelow_21, i_X0_readBelow_22, i_X0_readBelow_23, i_X0_readBelow_24, i_X0_readBelow_25, i_X0_readBelow_28, i_X0_readBelow_29, i_X0_readBelow_30, i_X0_readBelow_31, i_X0_readBelow_34, i_X0_readBelow_37, i_X0_readBelow_38, i_X0_readBelow_41, i_X0_readBelow_42, i_X0_readBelow_43, i_X0_readBelow_45, i_X0_readBelow_48, i_X0_readBelow_49, i_X0_readBelow_52, i_X0_readBelow_53, i_X0_readBelow_54, i_X0_readBelow_55, i_X0_readBelow_56, i_X0_readBelow_59, i_X0_readBelow_60, i_X0_readBelow_61, i_X0_readBelow_62, i_X0_readBelow_65, i_X0_readBelow_66, i_X0_readBelow_67, i_X0_readBelow_68, i_X0_readBelow_72, i_X0_readBelow_74, i_X0_readBelow_75, i_X0_readBelow_78, i_X0_readBelow_79, i_X0_readBelow_80, i_X0_readBelow_81, i_X0_readBelow_82, i_X0_readBelow_83, i_X0_readBelow_84, i_X0_readBelow_85, i_X0_readBelow_88, i_X0_readBelow_89, i_X0_readBelow_90, i_X0_readBelow_91, i_X0_readBelow_92, i_X0_readBelow_95, i_X0_readBelow_96, i_X0_readBelow_97, i_X0_readBelow_99, i_X0_readBelow_100, i_X0_readBelow_101, i_X0_readBelow_102, i_X0_readBelow_103, i_X0_readBelow_106, i_X0_readBelow_107, i_X0_readBelow_108, i_X0_readBelow_109, i_X0_readBelow_110, i_X0_readBelow_113, i_X0_readBelow_114, i_X0_readBelow_115, i_X0_readBelow_116, i_X0_readBelow_119, i_X0_readBelow_120, i_X0_readBelow_121, i_X0_readBelow_122, i_X0_readBelow_125, i_X0_readBelow_127, i_X0_readBelow_131, i_X0_readBelow_132, i_X0_readBelow_133, i_X0_readBelow_134, i_X0_readBelow_137, i_X0_readBelow_130, i_X0_readBelow_71, i_X0_readBelow_140, i_X0_readBelow_0_e, i_X0_readBelow_11b, i_X0_readBelow_16b, i_X0_readBelow_18b, i_X0_readBelow_23b, i_X0_readBelow_25b, i_X0_readBelow_30b, i_X0_readBelow_75b, i_X0_readBelow_80b, i_X0_readBelow_83b, i_X0_readBelow_85b, i_X0_readBelow_90b, i_X0_readBelow_92b, i_X0_readBelow_96b, i_X0_readBelow_101b, i_X0_readBelow_103b, i_X0_readBelow_108b, i_X0_readBelow_110b, i_X0_readBelow_114b, i_X0_readBelow_133b, Option.toList_some, Option.toList_none, List.cons_append, List.nil_append, List.append_nil, ↓reduceIte, q_lt, hP.2.1, Nat.lt_irrefl, pk_sub]
      refine key2 (T 10 0 - 1) (by omega) A1 (fun o ho => ?_) hF _ _
      obtain ⟨g1, g2, g3⟩ := hE o ho
      refine ⟨?_, ?_, ?_⟩
      · rw [g1, cnt_0 _ (fun k hk => by unfold chP; simp; omega)]
      · rw [g2, show bts (lvP T (T 10 0 - 1) o) (T 10 0) = bts (fun _ => false) (T 10 0) from bts_congr _ (fun j hj => by unfold lvP; rw [udn_top hw j hj]; simp), bts_0]
      · rw [g3, show bts (rqP T (T 10 0 - 1) o) (T 10 0) = bts (fun _ => false) (T 10 0) from bts_congr _ (fun j hj => by unfold rqP; rw [udn_top hw j hj]; simp), bts_0]
    | succ m ih =>
      intro n hn A1 hE hF v3 v4
      have hn2 : n < T 10 0 := by omega
      rw [i_X0_readBelow_2]
      simp (disch := omega) only [i_X0_readBelow_0, i_X0_readBelow_1, i_X0_readBelow_3, i_X0_readBelow_4, i_X0_readBelow_7, i_X0_readBelow_10, i_X0_readBelow_11, i_X0_readBelow_14, i_X0_readBelow_15, i_X0_readBelow_16, i_X0_readBelow_17, i_X0_readBelow_18, i_X0_readBelow_21, i_X0_readBelow_22, i_X0_readBelow_23, i_X0_readBelow_24, i_X0_readBelow_25, i_X0_readBelow_28, i_X0_readBelow_29, i_X0_readBelow_30, i_X0_readBelow_31, i_X0_readBelow_34, i_X0_readBelow_37, i_X0_readBelow_38, i_X0_readBelow_41, i_X0_readBelow_42, i_X0_readBelow_43, i_X0_readBelow_45, i_X0_readBelow_48, i_X0_readBelow_49, i_X0_readBelow_52, i_X0_readBelow_53, i_X0_readBelow_54, i_X0_readBelow_55, i_X0_readBelow_56, i_X0_readBelow_59, i_X0_readBelow_60, i_X0_readBelow_61, i_X0_readBelow_62, i_X0_readBelow_65, i_X0_readBelow_66, i_X0_readBelow_67, i_X0_readBelow_68, i_X0_readBelow_72, i_X0_readBelow_74, i_X0_readBelow_75, i_X0_readBelow_78, i_X0_readBelow_79, i_X0_readBelow_80, i_X0_readBelow_81, i_X0_readBelow_82, i_X0_readBelow_83, i_X0_readBelow_84, i_X0_readBelow_85, i_X0_readBelow_88, i_X0_readBelow_89, i_X0_readBelow_90, i_X0_readBelow_91, i_X0_readBelow_92, i_X0_readBelow_95, i_X0_readBelow_96, i_X0_readBelow_97, i_X0_readBelow_99, i_X0_readBelow_100, i_X0_readBelow_101, i_X0_readBelow_102, i_X0_readBelow_103, i_X0_readBelow_106, i_X0_readBelow_107, i_X0_readBelow_108, i_X0_readBelow_109, i_X0_readBelow_110, i_X0_readBelow_113, i_X0_readBelow_114, i_X0_readBelow_115, i_X0_readBelow_116, i_X0_readBelow_119, i_X0_readBelow_120, i_X0_readBelow_121, i_X0_readBelow_122, i_X0_readBelow_125, i_X0_readBelow_127, i_X0_readBelow_131, i_X0_readBelow_132, i_X0_readBelow_133, i_X0_readBelow_134, i_X0_readBelow_137, i_X0_readBelow_130, i_X0_readBelow_71, i_X0_readBelow_140, i_X0_readBelow_0_e, i_X0_readBelow_11b, i_X0_readBelow_16b, i_X0_readBelow_18b, i_X0_readBelow_23b, i_X0_readBelow_25b, i_X0_readBelow_30b, i_X0_readBelow_75b, i_X0_readBelow_80b, i_X0_readBelow_83b, i_X0_readBelow_85b, i_X0_readBelow_90b, i_X0_readBelow_92b, i_X0_readBelow_96b, i_X0_readBelow_101b, i_X0_readBelow_103b, i_X0_readBelow_108b, i_X0_readBelow_110b, i_X0_readBelow_114b, i_X0_readBelow_133b, Option.toList_some, Option.toList_none, List.cons_append, List.nil_append, List.append_nil, ↓reduceIte, q_lt, hP.2.1, hn2, nI_add]
      refine ih (n + 1) (by omega) _ (fun o ho => ?_) (fun a h1 h2 h3 => ?_) _ _
      · by_cases hon : o = n
        · subst hon; simp [up2]
        · have := hE o (by omega)
          simp [up2, hon, this]
      · rw [up2_na _ _ h3, up2_na _ _ h2, up2_na _ _ h1, hF a h1 h2 h3]
  simp (disch := omega) only [i_X0_readBelow_0, i_X0_readBelow_1, i_X0_readBelow_3, i_X0_readBelow_4, i_X0_readBelow_7, i_X0_readBelow_10, i_X0_readBelow_11, i_X0_readBelow_14, i_X0_readBelow_15, i_X0_readBelow_16, i_X0_readBelow_17, i_X0_readBelow_18, i_X0_readBelow_21, i_X0_readBelow_22, i_X0_readBelow_23, i_X0_readBelow_24, i_X0_readBelow_25, i_X0_readBelow_28, i_X0_readBelow_29, i_X0_readBelow_30, i_X0_readBelow_31, i_X0_readBelow_34, i_X0_readBelow_37, i_X0_readBelow_38, i_X0_readBelow_41, i_X0_readBelow_42, i_X0_readBelow_43, i_X0_readBelow_45, i_X0_readBelow_48, i_X0_readBelow_49, i_X0_readBelow_52, i_X0_readBelow_53, i_X0_readBelow_54, i_X0_readBelow_55, i_X0_readBelow_56, i_X0_readBelow_59, i_X0_readBelow_60, i_X0_readBelow_61, i_X0_readBelow_62, i_X0_readBelow_65, i_X0_readBelow_66, i_X0_readBelow_67, i_X0_readBelow_68, i_X0_readBelow_72, i_X0_readBelow_74, i_X0_readBelow_75, i_X0_readBelow_78, i_X0_readBelow_79, i_X0_readBelow_80, i_X0_readBelow_81, i_X0_readBelow_82, i_X0_readBelow_83, i_X0_readBelow_84, i_X0_readBelow_85, i_X0_readBelow_88, i_X0_readBelow_89, i_X0_readBelow_90, i_X0_readBelow_91, i_X0_readBelow_92, i_X0_readBelow_95, i_X0_readBelow_96, i_X0_readBelow_97, i_X0_readBelow_99, i_X0_readBelow_100, i_X0_readBelow_101, i_X0_readBelow_102, i_X0_readBelow_103, i_X0_readBelow_106, i_X0_readBelow_107, i_X0_readBelow_108, i_X0_readBelow_109, i_X0_readBelow_110, i_X0_readBelow_113, i_X0_readBelow_114, i_X0_readBelow_115, i_X0_readBelow_116, i_X0_readBelow_119, i_X0_readBelow_120, i_X0_readBelow_121, i_X0_readBelow_122, i_X0_readBelow_125, i_X0_readBelow_127, i_X0_readBelow_131, i_X0_readBelow_132, i_X0_readBelow_133, i_X0_readBelow_134, i_X0_readBelow_137, i_X0_readBelow_130, i_X0_readBelow_71, i_X0_readBelow_140, i_X0_readBelow_0_e, i_X0_readBelow_11b, i_X0_readBelow_16b, i_X0_readBelow_18b, i_X0_readBelow_23b, i_X0_readBelow_25b, i_X0_readBelow_30b, i_X0_readBelow_75b, i_X0_readBelow_80b, i_X0_readBelow_83b, i_X0_readBelow_85b, i_X0_readBelow_90b, i_X0_readBelow_92b, i_X0_readBelow_96b, i_X0_readBelow_101b, i_X0_readBelow_103b, i_X0_readBelow_108b, i_X0_readBelow_110b, i_X0_readBelow_114b, i_X0_readBelow_133b, Option.toList_some, Option.toList_none, List.cons_append, List.nil_append, List.append_nil, ↓reduceIte]
  exact key1 (T 10 0) 0 (by omega) A (fun o ho => by omega) (fun _ _ _ _ => rfl) _ _
theorem t_readBelowb (hP : RelTP I A 1 T) (hT : okT T) (hQ : ∀ A', RF3 A' 47 T → (∀ a, a ≠ 52 → a ≠ 53 → a ≠ 54 → A' a = A a) → Q none (pm_w I A' E J B)) : pm_call X d mX0_readBelow [.ref 47, .ref 1] (pm_w I A E J B) Q := by
  have h24 := hT.wf.2.1
  have h1 := hT.wf.1
  have hw := hT.wf
  have pT : ∀ w k, w < 10 → k < T 10 0 → (w ≠ 1 ∨ 0 < k) → A (1 + (w + 1)) k = nI (T w k) := hP.2.2.2
  have key2 : ∀ n, n < T 10 0 → ∀ (A1 : Nat → Nat → Int32), (∀ o, o < T 10 0 → A1 52 o = nI (cnt (chP T n o) (T 10 0)) ∧ A1 53 o = nI (bts (lvP T n o) (T 10 0)) ∧ A1 54 o = nI (bts (rqP T n o) (T 10 0))) → (∀ a, a ≠ 52 → a ≠ 53 → a ≠ 54 → A1 a = A a) → ∀ v3 v4, pm_wp X d mX0_readBelow 44 [.ref 47, .ref 1, .int (nI n), v3, v4] [] (pm_w I A1 E J B) Q := by
    intro n
    induction n with
    | zero =>
      intro hn A1 hE hF v3 v4
      rw [i_X0_readBelow_44]
      simp (disch := omega) only [i_X0_readBelow_0, i_X0_readBelow_1, i_X0_readBelow_3, i_X0_readBelow_4, i_X0_readBelow_7, i_X0_readBelow_10, i_X0_readBelow_11, i_X0_readBelow_14, i_X0_readBelow_15, i_X0_readBelow_16, i_X0_readBelow_17, i_X0_readBelow_18, i_X0_readBelow_21, i_X0_readBelow_22, i_X0_readBelow_23, i_X0_readBelow_24, i_X0_readBelow_25, i_X0_readBelow_28, i_X0_readBelow_29, i_X0_readBelow_30, i_X0_readBelow_31, i_X0_readBelow_34, i_X0_readBelow_37, i_X0_readBelow_38, i_X0_readBelow_41, i_X0_readBelow_42, i_X0_readBelow_43, i_X0_readBelow_45, i_X0_readBelow_48, i_X0_readBelow_49, i_X0_readBelow_52, i_X0_readBelow_53, i_X0_readBelow_54, i_X0_readBelow_55, i_X0_readBelow_56, i_X0_readBelow_59, i_X0_readBelow_60, i_X0_readBelow_61, i_X0_readBelow_62, i_X0_readBelow_65, i_X0_readBelow_66, i_X0_readBelow_67, i_X0_readBelow_68, i_X0_readBelow_72, i_X0_readBelow_74, i_X0_readBelow_75, i_X0_readBelow_78, i_X0_readBelow_79, i_X0_readBelow_80, i_X0_readBelow_81, i_X0_readBelow_82, i_X0_readBelow_83, i_X0_readBelow_84, i_X0_readBelow_85, i_X0_readBelow_88, i_X0_readBelow_89, i_X0_readBelow_90, i_X0_readBelow_91, i_X0_readBelow_92, i_X0_readBelow_95, i_X0_readBelow_96, i_X0_readBelow_97, i_X0_readBelow_99, i_X0_readBelow_100, i_X0_readBelow_101, i_X0_readBelow_102, i_X0_readBelow_103, i_X0_readBelow_106, i_X0_readBelow_107, i_X0_readBelow_108, i_X0_readBelow_109, i_X0_readBelow_110, i_X0_readBelow_113, i_X0_readBelow_114, i_X0_readBelow_115, i_X0_readBelow_116, i_X0_readBelow_119, i_X0_readBelow_120, i_X0_readBelow_121, i_X0_readBelow_122, i_X0_readBelow_125, i_X0_readBelow_127, i_X0_readBelow_131, i_X0_readBelow_132, i_X0_readBelow_133, i_X0_readBelow_134, i_X0_readBelow_137, i_X0_readBelow_130, i_X0_readBelow_71, i_X0_readBelow_140, i_X0_readBelow_0_e, i_X0_readBelow_11b, i_X0_readBelow_16b, i_X0_readBelow_18b, i_X0_readBelow_23b, i_X0_readBelow_25b, i_X0_readBelow_30b, i_X0_readBelow_75b, i_X0_readBelow_80b, i_X0_readBelow_83b, i_X0_readBelow_85b, i_X0_readBelow_90b, i_X0_readBelow_92b, i_X0_readBelow_96b, i_X0_readBelow_101b, i_X0_readBelow_103b, i_X0_readBelow_108b, i_X0_readBelow_110b, i_X0_readBelow_114b, i_X0_readBelow_133b, Option.toList_some, Option.toList_none, List.cons_append, List.nil_append, List.append_nil, ↓reduceIte, q_pos, Nat.lt_irrefl]
      refine hQ A1 (fun k hk => ?_) hF
      obtain ⟨g1, g2, g3⟩ := hE k hk
      refine ⟨g1, ?_, ?_⟩
      · rw [g2]; congr 1; exact bts_congr _ (fun j hj => by unfold lvP lvB; rw [udn_0 hw j hj])
      · rw [g3]; congr 1; exact bts_congr _ (fun j hj => by unfold rqP rqB; rw [udn_0 hw j hj])
    | succ n ih =>
      intro hn A1 hE hF v3 v4
      have h0 : 0 < n + 1 := by omega
      have hp := hw.2.2 (n + 1) h0 hn
      have e0 : A1 2 (n + 1) = nI (T 0 (n + 1)) := by rw [hF 2 (by decide) (by decide) (by decide)]; exact pT 0 _ (by omega) hn (by omega)
      have e1 : A1 3 (n + 1) = nI (T 1 (n + 1)) := by rw [hF 3 (by decide) (by decide) (by decide)]; exact pT 1 _ (by omega) hn (by omega)
      have e8 : A1 10 (n + 1) = nI (T 8 (n + 1)) := by rw [hF 10 (by decide) (by decide) (by decide)]; exact pT 8 _ (by omega) hn (by omega)
      have s0 := hT.small hn (w := 0) (by omega) (by omega)
      have s8 := hT.small hn (w := 8) (by omega) (by omega)
      obtain ⟨f1, f2, f3⟩ := hE (T 1 (n + 1)) (by omega)
      obtain ⟨_, k2, k3⟩ := hE (n + 1) hn
      have m1 : q_sub1 (a := n + 1) (by omega) = q_sub1 (a := n + 1) (by omega) := rfl
      have st : ∀ o j, j < T 10 0 → udn T n o j = (udn T (n + 1) o j || (decide (T 1 (n + 1) = o) && (decide (j = n + 1) || und T (n + 1) j))) := fun o j hj => udn_step hw h0 hn j hj
      have c1 : ∀ o, cnt (chP T n o) (T 10 0) = cnt (chP T (n + 1) o) (T 10 0) + (if decide (T 1 (n + 1) = o) then 1 else 0) := fun o => by
        refine cnt_pt (m := n + 1) (T 10 0) hn (by simp [chP]) (fun k hk => ?_)
        unfold chP
        by_cases hk1 : k = n + 1
        · subst hk1; simp
        · rw [show decide (k = n + 1) = false from by simp [hk1], show decide (n < k) = decide (n + 1 < k) from decide_eq_decide.mpr (by omega)]; simp
      have own : ∀ (b : Bool), (if b then 2 ^ (n + 1) else 0) = bts (fun k => b && decide (k = n + 1)) (T 10 0) := fun b => by
        cases b with
        | true => simp only [if_true, Bool.true_and]; exact (bts_one hn).symm
        | false => simp only [Bool.false_eq_true, if_false, Bool.false_and]; exact bts_0.symm
      have c2 : bts (lvP T (n + 1) (T 1 (n + 1))) (T 10 0) ||| (bts (lvP T (n + 1) (n + 1)) (T 10 0) ||| (if decide (T 0 (n + 1) = 5) then 2 ^ (n + 1) else 0)) = bts (lvP T n (T 1 (n + 1))) (T 10 0) := by
        rw [own, bts_or2, bts_or2]
        refine bts_congr _ (fun j hj => ?_)
        unfold lvP
        rw [udn_self hw j hj, st _ j hj]
        by_cases hj1 : j = n + 1
        · subst hj1; simp; cases decide (T 0 (n + 1) = 5) <;> simp
        · rw [show decide (j = n + 1) = false from by simp [hj1]]; cases decide (T 0 j = 5) <;> simp
      have c3 : bts (rqP T (n + 1) (T 1 (n + 1))) (T 10 0) ||| (bts (rqP T (n + 1) (n + 1)) (T 10 0) ||| (if decide (T 0 (n + 1) = 5) && decide (T 8 (n + 1) = 1) then 2 ^ (n + 1) else 0)) = bts (rqP T n (T 1 (n + 1))) (T 10 0) := by
        rw [own, bts_or2, bts_or2]
        refine bts_congr _ (fun j hj => ?_)
        unfold rqP
        rw [udn_self hw j hj, st _ j hj]
        by_cases hj1 : j = n + 1
        · subst hj1; simp; cases decide (T 0 (n + 1) = 5) <;> cases decide (T 8 (n + 1) = 1) <;> simp
        · rw [show decide (j = n + 1) = false from by simp [hj1]]; cases decide (T 0 j = 5) <;> cases decide (T 8 j = 1) <;> simp
      have fin : ∀ v3 v4, pm_wp X d mX0_readBelow 44 [.ref 47, .ref 1, .int (nI n), v3, v4] [] (pm_w I (up2 (up2 (up2 A1 52 (T 1 (n + 1)) (nI (cnt (chP T n (T 1 (n + 1))) (T 10 0)))) 53 (T 1 (n + 1)) (nI (bts (lvP T n (T 1 (n + 1))) (T 10 0)))) 54 (T 1 (n + 1)) (nI (bts (rqP T n (T 1 (n + 1))) (T 10 0)))) E J B) Q := by
        refine ih (by omega) _ (fun o ho => ?_) (fun a h1 h2 h3 => ?_)
        · by_cases hop : o = T 1 (n + 1)
          · subst hop
            simp [up2]
          · obtain ⟨g1, g2, g3⟩ := hE o ho
            have hop2 : decide (T 1 (n + 1) = o) = false := by simp; exact fun q => hop q.symm
            refine ⟨?_, ?_, ?_⟩
            · rw [up2_na _ _ (by decide), up2_na _ _ (by decide), up2_n _ _ (by simp [hop]), g1, c1 o, hop2]; rfl
            · rw [up2_na _ _ (by decide), up2_n _ _ (by simp [hop]), up2_na _ _ (by decide), g2]; congr 1; exact bts_congr _ (fun j hj => by unfold lvP; rw [st o j hj, hop2]; simp)
            · rw [up2_n _ _ (by simp [hop]), up2_na _ _ (by decide), up2_na _ _ (by decide), g3]; congr 1; exact bts_congr _ (fun j hj => by unfold rqP; rw [st o j hj, hop2]; simp)
        · rw [up2_na _ _ h3, up2_na _ _ h2, up2_na _ _ h1, hF a h1 h2 h3]
      have c1' : cnt (chP T (n + 1) (T 1 (n + 1))) (T 10 0) + 1 = cnt (chP T n (T 1 (n + 1))) (T 10 0) := by rw [c1]; simp
      have u2 : ∀ x, up2 A1 52 (T 1 (n + 1)) x 53 = A1 53 := fun x => up2_na _ _ (by decide)
      have u3 : ∀ x y, up2 (up2 A1 52 (T 1 (n + 1)) x) 53 (T 1 (n + 1)) y 54 = A1 54 := fun x y => by rw [up2_na _ _ (by decide), up2_na _ _ (by decide)]
      have u8 : ∀ x y, up2 (up2 A1 52 (T 1 (n + 1)) x) 53 (T 1 (n + 1)) y 10 = A1 10 := fun x y => by rw [up2_na _ _ (by decide), up2_na _ _ (by decide)]
      rw [i_X0_readBelow_44]
      by_cases h5 : T 0 (n + 1) = 5
      · by_cases h8 : T 8 (n + 1) = 1
        · simp only [h5, h8, decide_true, Bool.and_true, if_true] at c2 c3
          simp (disch := omega) only [i_X0_readBelow_0, i_X0_readBelow_1, i_X0_readBelow_3, i_X0_readBelow_4, i_X0_readBelow_7, i_X0_readBelow_10, i_X0_readBelow_11, i_X0_readBelow_14, i_X0_readBelow_15, i_X0_readBelow_16, i_X0_readBelow_17, i_X0_readBelow_18, i_X0_readBelow_21, i_X0_readBelow_22, i_X0_readBelow_23, i_X0_readBelow_24, i_X0_readBelow_25, i_X0_readBelow_28, i_X0_readBelow_29, i_X0_readBelow_30, i_X0_readBelow_31, i_X0_readBelow_34, i_X0_readBelow_37, i_X0_readBelow_38, i_X0_readBelow_41, i_X0_readBelow_42, i_X0_readBelow_43, i_X0_readBelow_45, i_X0_readBelow_48, i_X0_readBelow_49, i_X0_readBelow_52, i_X0_readBelow_53, i_X0_readBelow_54, i_X0_readBelow_55, i_X0_readBelow_56, i_X0_readBelow_59, i_X0_readBelow_60, i_X0_readBelow_61, i_X0_readBelow_62, i_X0_readBelow_65, i_X0_readBelow_66, i_X0_readBelow_67, i_X0_readBelow_68, i_X0_readBelow_72, i_X0_readBelow_74, i_X0_readBelow_75, i_X0_readBelow_78, i_X0_readBelow_79, i_X0_readBelow_80, i_X0_readBelow_81, i_X0_readBelow_82, i_X0_readBelow_83, i_X0_readBelow_84, i_X0_readBelow_85, i_X0_readBelow_88, i_X0_readBelow_89, i_X0_readBelow_90, i_X0_readBelow_91, i_X0_readBelow_92, i_X0_readBelow_95, i_X0_readBelow_96, i_X0_readBelow_97, i_X0_readBelow_99, i_X0_readBelow_100, i_X0_readBelow_101, i_X0_readBelow_102, i_X0_readBelow_103, i_X0_readBelow_106, i_X0_readBelow_107, i_X0_readBelow_108, i_X0_readBelow_109, i_X0_readBelow_110, i_X0_readBelow_113, i_X0_readBelow_114, i_X0_readBelow_115, i_X0_readBelow_116, i_X0_readBelow_119, i_X0_readBelow_120, i_X0_readBelow_121, i_X0_readBelow_122, i_X0_readBelow_125, i_X0_readBelow_127, i_X0_readBelow_131, i_X0_readBelow_132, i_X0_readBelow_133, i_X0_readBelow_134, i_X0_readBelow_137, i_X0_readBelow_130, i_X0_readBelow_71, i_X0_readBelow_140, i_X0_readBelow_0_e, i_X0_readBelow_11b, i_X0_readBelow_16b, i_X0_readBelow_18b, i_X0_readBelow_23b, i_X0_readBelow_25b, i_X0_readBelow_30b, i_X0_readBelow_75b, i_X0_readBelow_80b, i_X0_readBelow_83b, i_X0_readBelow_85b, i_X0_readBelow_90b, i_X0_readBelow_92b, i_X0_readBelow_96b, i_X0_readBelow_101b, i_X0_readBelow_103b, i_X0_readBelow_108b, i_X0_readBelow_110b, i_X0_readBelow_114b, i_X0_readBelow_133b, Option.toList_some, Option.toList_none, List.cons_append, List.nil_append, List.append_nil, ↓reduceIte, q_pos, q_eq, h0, e0, e1, e8, f1, f2, f3, k2, k3, u2, u3, u8, h5, h8, nI_add, nI_or, q_shl1, q_sub1, c1', c2, c3, Nat.add_sub_cancel]
          exact fin _ _
        · simp only [h5, h8, decide_true, decide_false, Bool.and_false, Bool.false_eq_true, if_true, if_false] at c2 c3
          simp (disch := omega) only [i_X0_readBelow_0, i_X0_readBelow_1, i_X0_readBelow_3, i_X0_readBelow_4, i_X0_readBelow_7, i_X0_readBelow_10, i_X0_readBelow_11, i_X0_readBelow_14, i_X0_readBelow_15, i_X0_readBelow_16, i_X0_readBelow_17, i_X0_readBelow_18, i_X0_readBelow_21, i_X0_readBelow_22, i_X0_readBelow_23, i_X0_readBelow_24, i_X0_readBelow_25, i_X0_readBelow_28, i_X0_readBelow_29, i_X0_readBelow_30, i_X0_readBelow_31, i_X0_readBelow_34, i_X0_readBelow_37, i_X0_readBelow_38, i_X0_readBelow_41, i_X0_readBelow_42, i_X0_readBelow_43, i_X0_readBelow_45, i_X0_readBelow_48, i_X0_readBelow_49, i_X0_readBelow_52, i_X0_readBelow_53, i_X0_readBelow_54, i_X0_readBelow_55, i_X0_readBelow_56, i_X0_readBelow_59, i_X0_readBelow_60, i_X0_readBelow_61, i_X0_readBelow_62, i_X0_readBelow_65, i_X0_readBelow_66, i_X0_readBelow_67, i_X0_readBelow_68, i_X0_readBelow_72, i_X0_readBelow_74, i_X0_readBelow_75, i_X0_readBelow_78, i_X0_readBelow_79, i_X0_readBelow_80, i_X0_readBelow_81, i_X0_readBelow_82, i_X0_readBelow_83, i_X0_readBelow_84, i_X0_readBelow_85, i_X0_readBelow_88, i_X0_readBelow_89, i_X0_readBelow_90, i_X0_readBelow_91, i_X0_readBelow_92, i_X0_readBelow_95, i_X0_readBelow_96, i_X0_readBelow_97, i_X0_readBelow_99, i_X0_readBelow_100, i_X0_readBelow_101, i_X0_readBelow_102, i_X0_readBelow_103, i_X0_readBelow_106, i_X0_readBelow_107, i_X0_readBelow_108, i_X0_readBelow_109, i_X0_readBelow_110, i_X0_readBelow_113, i_X0_readBelow_114, i_X0_readBelow_115, i_X0_readBelow_116, i_X0_readBelow_119, i_X0_readBelow_120, i_X0_readBelow_121, i_X0_readBelow_122, i_X0_readBelow_125, i_X0_readBelow_127, i_X0_readBelow_131, i_X0_readBelow_132, i_X0_readBelow_133, i_X0_readBelow_134, i_X0_readBelow_137, i_X0_readBelow_130, i_X0_readBelow_71, i_X0_readBelow_140, i_X0_readBelow_0_e, i_X0_readBelow_11b, i_X0_readBelow_16b, i_X0_readBelow_18b, i_X0_readBelow_23b, i_X0_readBelow_25b, i_X0_readBelow_30b, i_X0_readBelow_75b, i_X0_readBelow_80b, i_X0_readBelow_83b, i_X0_readBelow_85b, i_X0_readBelow_90b, i_X0_readBelow_92b, i_X0_readBelow_96b, i_X0_readBelow_101b, i_X0_readBelow_103b, i_X0_readBelow_108b, i_X0_readBelow_110b, i_X0_readBelow_114b, i_X0_readBelow_133b, Option.toList_some, Option.toList_none, List.cons_append, List.nil_append, List.append_nil, ↓reduceIte, q_pos, q_eq, h0, e0, e1, e8, f1, f2, f3, k2, k3, u2, u3, u8, h5, h8, nI_add, nI_or, q_shl1, q_sub1, c1', c2, c3, Nat.add_sub_cancel]
          exact fin _ _
      · simp only [h5, decide_false, Bool.false_and, Bool.false_eq_true, if_false] at c2 c3
        by_cases h8 : T 8 (n + 1) = 1
        · simp (disch := omega) only [i_X0_readBelow_0, i_X0_readBelow_1, i_X0_readBelow_3, i_X0_readBelow_4, i_X0_readBelow_7, i_X0_readBelow_10, i_X0_readBelow_11, i_X0_readBelow_14, i_X0_readBelow_15, i_X0_readBelow_16, i_X0_readBelow_17, i_X0_readBelow_18, i_X0_readBelow_21, i_X0_readBelow_22, i_X0_readBelow_23, i_X0_readBelow_24, i_X0_readBelow_25, i_X0_readBelow_28, i_X0_readBelow_29, i_X0_readBelow_30, i_X0_readBelow_31, i_X0_readBelow_34, i_X0_readBelow_37, i_X0_readBelow_38, i_X0_readBelow_41, i_X0_readBelow_42, i_X0_readBelow_43, i_X0_readBelow_45, i_X0_readBelow_48, i_X0_readBelow_49, i_X0_readBelow_52, i_X0_readBelow_53, i_X0_readBelow_54, i_X0_readBelow_55, i_X0_readBelow_56, i_X0_readBelow_59, i_X0_readBelow_60, i_X0_readBelow_61, i_X0_readBelow_62, i_X0_readBelow_65, i_X0_readBelow_66, i_X0_readBelow_67, i_X0_readBelow_68, i_X0_readBelow_72, i_X0_readBelow_74, i_X0_readBelow_75, i_X0_readBelow_78, i_X0_readBelow_79, i_X0_readBelow_80, i_X0_readBelow_81, i_X0_readBelow_82, i_X0_readBelow_83, i_X0_readBelow_84, i_X0_readBelow_85, i_X0_readBelow_88, i_X0_readBelow_89, i_X0_readBelow_90, i_X0_readBelow_91, i_X0_readBelow_92, i_X0_readBelow_95, i_X0_readBelow_96, i_X0_readBelow_97, i_X0_readBelow_99, i_X0_readBelow_100, i_X0_readBelow_101, i_X0_readBelow_102, i_X0_readBelow_103, i_X0_readBelow_106, i_X0_readBelow_107, i_X0_readBelow_108, i_X0_readBelow_109, i_X0_readBelow_110, i_X0_readBelow_113, i_X0_readBelow_114, i_X0_readBelow_115, i_X0_readBelow_116, i_X0_readBelow_119, i_X0_readBelow_120, i_X0_readBelow_121, i_X0_readBelow_122, i_X0_readBelow_125, i_X0_readBelow_127, i_X0_readBelow_131, i_X0_readBelow_132, i_X0_readBelow_133, i_X0_readBelow_134, i_X0_readBelow_137, i_X0_readBelow_130, i_X0_readBelow_71, i_X0_readBelow_140, i_X0_readBelow_0_e, i_X0_readBelow_11b, i_X0_readBelow_16b, i_X0_readBelow_18b, i_X0_readBelow_23b, i_X0_readBelow_25b, i_X0_readBelow_30b, i_X0_readBelow_75b, i_X0_readBelow_80b, i_X0_readBelow_83b, i_X0_readBelow_85b, i_X0_readBelow_90b, i_X0_readBelow_92b, i_X0_readBelow_96b, i_X0_readBelow_101b, i_X0_readBelow_103b, i_X0_readBelow_108b, i_X0_readBelow_110b, i_X0_readBelow_114b, i_X0_readBelow_133b, Option.toList_some, Option.toList_none, List.cons_append, List.nil_append, List.append_nil, ↓reduceIte, q_pos, q_eq, h0, e0, e1, e8, f1, f2, f3, k2, k3, u2, u3, u8, h5, h8, nI_add, nI_or, q_sub1, c1', c2, c3, Nat.add_sub_cancel]
          exact fin _ _
        · simp (disch := omega) only [i_X0_readBelow_0, i_X0_readBelow_1, i_X0_readBelow_3, i_X0_readBelow_4, i_X0_readBelow_7, i_X0_readBelow_10, i_X0_readBelow_11, i_X0_readBelow_14, i_X0_readBelow_15, i_X0_readBelow_16, i_X0_readBelow_17, i_X0_readBelow_18, i_X0_readBelow_21, i_X0_readBelow_22, i_X0_readBelow_23, i_X0_readBelow_24, i_X0_readBelow_25, i_X0_readBelow_28, i_X0_readBelow_29, i_X0_readBelow_30, i_X0_readBelow_31, i_X0_readBelow_34, i_X0_readBelow_37, i_X0_readBelow_38, i_X0_readBelow_41, i_X0_readBelow_42, i_X0_readBelow_43, i_X0_readBelow_45, i_X0_readBelow_48, i_X0_readBelow_49, i_X0_readBelow_52, i_X0_readBelow_53, i_X0_readBelow_54, i_X0_readBelow_55, i_X0_readBelow_56, i_X0_readBelow_59, i_X0_readBelow_60, i_X0_readBelow_61, i_X0_readBelow_62, i_X0_readBelow_65, i_X0_readBelow_66, i_X0_readBelow_67, i_X0_readBelow_68, i_X0_readBelow_72, i_X0_readBelow_74, i_X0_readBelow_75, i_X0_readBelow_78, i_X0_readBelow_79, i_X0_readBelow_80, i_X0_readBelow_81, i_X0_readBelow_82, i_X0_readBelow_83, i_X0_readBelow_84, i_X0_readBelow_85, i_X0_readBelow_88, i_X0_readBelow_89, i_X0_readBelow_90, i_X0_readBelow_91, i_X0_readBelow_92, i_X0_readBelow_95, i_X0_readBelow_96, i_X0_readBelow_97, i_X0_readBelow_99, i_X0_readBelow_100, i_X0_readBelow_101, i_X0_readBelow_102, i_X0_readBelow_103, i_X0_readBelow_106, i_X0_readBelow_107, i_X0_readBelow_108, i_X0_readBelow_109, i_X0_readBelow_110, i_X0_readBelow_113, i_X0_readBelow_114, i_X0_readBelow_115, i_X0_readBelow_116, i_X0_readBelow_119, i_X0_readBelow_120, i_X0_readBelow_121, i_X0_readBelow_122, i_X0_readBelow_125, i_X0_readBelow_127, i_X0_readBelow_131, i_X0_readBelow_132, i_X0_readBelow_133, i_X0_readBelow_134, i_X0_readBelow_137, i_X0_readBelow_130, i_X0_readBelow_71, i_X0_readBelow_140, i_X0_readBelow_0_e, i_X0_readBelow_11b, i_X0_readBelow_16b, i_X0_readBelow_18b, i_X0_readBelow_23b, i_X0_readBelow_25b, i_X0_readBelow_30b, i_X0_readBelow_75b, i_X0_readBelow_80b, i_X0_readBelow_83b, i_X0_readBelow_85b, i_X0_readBelow_90b, i_X0_readBelow_92b, i_X0_readBelow_96b, i_X0_readBelow_101b, i_X0_readBelow_103b, i_X0_readBelow_108b, i_X0_readBelow_110b, i_X0_readBelow_114b, i_X0_readBelow_133b, Option.toList_some, Option.toList_none, List.cons_append, List.nil_append, List.append_nil, ↓reduceIte, q_pos, q_eq, h0, e0, e1, e8, f1, f2, f3, k2, k3, u2, u3, u8, h5, h8, nI_add, nI_or, q_sub1, c1', c2, c3, Nat.add_sub_cancel]
          exact fin _ _
  have key1 : ∀ m n, n + m = T 10 0 → ∀ (A1 : Nat → Nat → Int32), (∀ o, o < n → A1 52 o = nI 0 ∧ A1 53 o = nI 0 ∧ A1 54 o = nI 0) → (∀ a, a ≠ 52 → a ≠ 53 → a ≠ 54 → A1 a = A a) → ∀ v3 v4, pm_wp X d mX0_readBelow 2 [.ref 47, .ref 1, .int (nI n), v3, v4] [] (pm_w I A1 E J B) Q := by
    intro m
    induction m with
    | zero =>
      intro n hn A1 hE hF v3 v4
      have : n = T 10 0 := by omega
      subst this
      rw [i_X0_readBelow_2]
      simp (disch := omega) only [i_X0_readBelow_0, i_X0_readBelow_1, i_X0_readBelow_3, i_X0_readBelow_4, i_X0_readBelow_7, i_X0_readBelow_10, i_X0_readBelow_11, i_X0_readBelow_14, i_X0_readBelow_15, i_X0_readBelow_16, i_X0_readBelow_17, i_X0_readBelow_18, i_X0_readBelow_21, i_X0_readBelow_22, i_X0_readBelow_23, i_X0_readBelow_24, i_X0_readBelow_25, i_X0_readBelow_28, i_X0_readBelow_29, i_X0_readBelow_30, i_X0_readBelow_31, i_X0_readBelow_34, i_X0_readBelow_37, i_X0_readBelow_38, i_X0_readBelow_41, i_X0_readBelow_42, i_X0_readBelow_43, i_X0_readBelow_45, i_X0_readBelow_48, i_X0_readBelow_49, i_X0_readBelow_52, i_X0_readBelow_53, i_X0_readBelow_54, i_X0_readBelow_55, i_X0_readBelow_56, i_X0_readBelow_59, i_X0_readBelow_60, i_X0_readBelow_61, i_X0_readBelow_62, i_X0_readBelow_65, i_X0_readBelow_66, i_X0_readBelow_67, i_X0_readBelow_68, i_X0_readBelow_72, i_X0_readBelow_74, i_X0_readBelow_75, i_X0_readBelow_78, i_X0_readBelow_79, i_X0_readBelow_80, i_X0_readBelow_81, i_X0_readBelow_82, i_X0_readBelow_83, i_X0_readBelow_84, i_X0_readBelow_85, i_X0_readBelow_88, i_X0_readBelow_89, i_X0_readBelow_90, i_X0_readBelow_91, i_X0_readBelow_92, i_X0_readBelow_95, i_X0_readBelow_96, i_X0_readBelow_97, i_X0_readBelow_99, i_X0_readBelow_100, i_X0_readBelow_101, i_X0_readBelow_102, i_X0_readBelow_103, i_X0_readBelow_106, i_X0_readBelow_107, i_X0_readBelow_108, i_X0_readBelow_109, i_X0_readBelow_110, i_X0_readBelow_113, i_X0_readBelow_114, i_X0_readBelow_115, i_X0_readBelow_116, i_X0_readBelow_119, i_X0_readBelow_120, i_X0_readBelow_121, i_X0_readBelow_122, i_X0_readBelow_125, i_X0_readBelow_127, i_X0_readBelow_131, i_X0_readBelow_132, i_X0_readBelow_133, i_X0_readBelow_134, i_X0_readBelow_137, i_X0_readBelow_130, i_X0_readBelow_71, i_X0_readBelow_140, i_X0_readBelow_0_e, i_X0_readBelow_11b, i_X0_readBelow_16b, i_X0_readBelow_18b, i_X0_readBelow_23b, i_X0_readBelow_25b, i_X0_readBelow_30b, i_X0_readBelow_75b, i_X0_readBelow_80b, i_X0_readBelow_83b, i_X0_readBelow_85b, i_X0_readBelow_90b, i_X0_readBelow_92b, i_X0_readBelow_96b, i_X0_readBelow_101b, i_X0_readBelow_103b, i_X0_readBelow_108b, i_X0_readBelow_110b, i_X0_readBelow_114b, i_X0_readBelow_133b, Option.toList_some, Option.toList_none, List.cons_append, List.nil_append, List.append_nil, ↓reduceIte, q_lt, hP.2.1, Nat.lt_irrefl, pk_sub]
      refine key2 (T 10 0 - 1) (by omega) A1 (fun o ho => ?_) hF _ _
      obtain ⟨g1, g2, g3⟩ := hE o ho
      refine ⟨?_, ?_, ?_⟩
      · rw [g1, cnt_0 _ (fun k hk => by unfold chP; simp; omega)]
      · rw [g2, show bts (lvP T (T 10 0 - 1) o) (T 10 0) = bts (fun _ => false) (T 10 0) from bts_congr _ (fun j hj => by unfold lvP; rw [udn_top hw j hj]; simp), bts_0]
      · rw [g3, show bts (rqP T (T 10 0 - 1) o) (T 10 0) = bts (fun _ => false) (T 10 0) from bts_congr _ (fun j hj => by unfold rqP; rw [udn_top hw j hj]; simp), bts_0]
    | succ m ih =>
      intro n hn A1 hE hF v3 v4
      have hn2 : n < T 10 0 := by omega
      rw [i_X0_readBelow_2]
      simp (disch := omega) only [i_X0_readBelow_0, i_X0_readBelow_1, i_X0_readBelow_3, i_X0_readBelow_4, i_X0_readBelow_7, i_X0_readBelow_10, i_X0_readBelow_11, i_X0_readBelow_14, i_X0_readBelow_15, i_X0_readBelow_16, i_X0_readBelow_17, i_X0_readBelow_18, i_X0_readBelow_21, i_X0_readBelow_22, i_X0_readBelow_23, i_X0_readBelow_24, i_X0_readBelow_25, i_X0_readBelow_28, i_X0_readBelow_29, i_X0_readBelow_30, i_X0_readBelow_31, i_X0_readBelow_34, i_X0_readBelow_37, i_X0_readBelow_38, i_X0_readBelow_41, i_X0_readBelow_42, i_X0_readBelow_43, i_X0_readBelow_45, i_X0_readBelow_48, i_X0_readBelow_49, i_X0_readBelow_52, i_X0_readBelow_53, i_X0_readBelow_54, i_X0_readBelow_55, i_X0_readBelow_56, i_X0_readBelow_59, i_X0_readBelow_60, i_X0_readBelow_61, i_X0_readBelow_62, i_X0_readBelow_65, i_X0_readBelow_66, i_X0_readBelow_67, i_X0_readBelow_68, i_X0_readBelow_72, i_X0_readBelow_74, i_X0_readBelow_75, i_X0_readBelow_78, i_X0_readBelow_79, i_X0_readBelow_80, i_X0_readBelow_81, i_X0_readBelow_82, i_X0_readBelow_83, i_X0_readBelow_84, i_X0_readBelow_85, i_X0_readBelow_88, i_X0_readBelow_89, i_X0_readBelow_90, i_X0_readBelow_91, i_X0_readBelow_92, i_X0_readBelow_95, i_X0_readBelow_96, i_X0_readBelow_97, i_X0_readBelow_99, i_X0_readBelow_100, i_X0_readBelow_101, i_X0_readBelow_102, i_X0_readBelow_103, i_X0_readBelow_106, i_X0_readBelow_107, i_X0_readBelow_108, i_X0_readBelow_109, i_X0_readBelow_110, i_X0_readBelow_113, i_X0_readBelow_114, i_X0_readBelow_115, i_X0_readBelow_116, i_X0_readBelow_119, i_X0_readBelow_120, i_X0_readBelow_121, i_X0_readBelow_122, i_X0_readBelow_125, i_X0_readBelow_127, i_X0_readBelow_131, i_X0_readBelow_132, i_X0_readBelow_133, i_X0_readBelow_134, i_X0_readBelow_137, i_X0_readBelow_130, i_X0_readBelow_71, i_X0_readBelow_140, i_X0_readBelow_0_e, i_X0_readBelow_11b, i_X0_readBelow_16b, i_X0_readBelow_18b, i_X0_readBelow_23b, i_X0_readBelow_25b, i_X0_readBelow_30b, i_X0_readBelow_75b, i_X0_readBelow_80b, i_X0_readBelow_83b, i_X0_readBelow_85b, i_X0_readBelow_90b, i_X0_readBelow_92b, i_X0_readBelow_96b, i_X0_readBelow_101b, i_X0_readBelow_103b, i_X0_readBelow_108b, i_X0_readBelow_110b, i_X0_readBelow_114b, i_X0_readBelow_133b, Option.toList_some, Option.toList_none, List.cons_append, List.nil_append, List.append_nil, ↓reduceIte, q_lt, hP.2.1, hn2, nI_add]
      refine ih (n + 1) (by omega) _ (fun o ho => ?_) (fun a h1 h2 h3 => ?_) _ _
      · by_cases hon : o = n
        · subst hon; simp [up2]
        · have := hE o (by omega)
          simp [up2, hon, this]
      · rw [up2_na _ _ h3, up2_na _ _ h2, up2_na _ _ h1, hF a h1 h2 h3]
  simp (disch := omega) only [i_X0_readBelow_0, i_X0_readBelow_1, i_X0_readBelow_3, i_X0_readBelow_4, i_X0_readBelow_7, i_X0_readBelow_10, i_X0_readBelow_11, i_X0_readBelow_14, i_X0_readBelow_15, i_X0_readBelow_16, i_X0_readBelow_17, i_X0_readBelow_18, i_X0_readBelow_21, i_X0_readBelow_22, i_X0_readBelow_23, i_X0_readBelow_24, i_X0_readBelow_25, i_X0_readBelow_28, i_X0_readBelow_29, i_X0_readBelow_30, i_X0_readBelow_31, i_X0_readBelow_34, i_X0_readBelow_37, i_X0_readBelow_38, i_X0_readBelow_41, i_X0_readBelow_42, i_X0_readBelow_43, i_X0_readBelow_45, i_X0_readBelow_48, i_X0_readBelow_49, i_X0_readBelow_52, i_X0_readBelow_53, i_X0_readBelow_54, i_X0_readBelow_55, i_X0_readBelow_56, i_X0_readBelow_59, i_X0_readBelow_60, i_X0_readBelow_61, i_X0_readBelow_62, i_X0_readBelow_65, i_X0_readBelow_66, i_X0_readBelow_67, i_X0_readBelow_68, i_X0_readBelow_72, i_X0_readBelow_74, i_X0_readBelow_75, i_X0_readBelow_78, i_X0_readBelow_79, i_X0_readBelow_80, i_X0_readBelow_81, i_X0_readBelow_82, i_X0_readBelow_83, i_X0_readBelow_84, i_X0_readBelow_85, i_X0_readBelow_88, i_X0_readBelow_89, i_X0_readBelow_90, i_X0_readBelow_91, i_X0_readBelow_92, i_X0_readBelow_95, i_X0_readBelow_96, i_X0_readBelow_97, i_X0_readBelow_99, i_X0_readBelow_100, i_X0_readBelow_101, i_X0_readBelow_102, i_X0_readBelow_103, i_X0_readBelow_106, i_X0_readBelow_107, i_X0_readBelow_108, i_X0_readBelow_109, i_X0_readBelow_110, i_X0_readBelow_113, i_X0_readBelow_114, i_X0_readBelow_115, i_X0_readBelow_116, i_X0_readBelow_119, i_X0_readBelow_120, i_X0_readBelow_121, i_X0_readBelow_122, i_X0_readBelow_125, i_X0_readBelow_127, i_X0_readBelow_131, i_X0_readBelow_132, i_X0_readBelow_133, i_X0_readBelow_134, i_X0_readBelow_137, i_X0_readBelow_130, i_X0_readBelow_71, i_X0_readBelow_140, i_X0_readBelow_0_e, i_X0_readBelow_11b, i_X0_readBelow_16b, i_X0_readBelow_18b, i_X0_readBelow_23b, i_X0_readBelow_25b, i_X0_readBelow_30b, i_X0_readBelow_75b, i_X0_readBelow_80b, i_X0_readBelow_83b, i_X0_readBelow_85b, i_X0_readBelow_90b, i_X0_readBelow_92b, i_X0_readBelow_96b, i_X0_readBelow_101b, i_X0_readBelow_103b, i_X0_readBelow_108b, i_X0_readBelow_110b, i_X0_readBelow_114b, i_X0_readBelow_133b, Option.toList_some, Option.toList_none, List.cons_append, List.nil_append, List.append_nil, ↓reduceIte]
  exact key1 (T 10 0) 0 (by omega) A (fun o ho => by omega) (fun _ _ _ _ => rfl) _ _
end PLC
