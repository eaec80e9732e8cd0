/-! groups -/
def ofg (T : Tr) (g k : Nat) : Bool := decide (T 0 k = 5) && decide (T 2 k = g)
def og (T : Tr) (g k : Nat) : Bool := ofg T g k && rn T k
def ogr (T : Tr) (ra : Bool) (g k : Nat) : Bool := ofg T g k && (!ra || rn T k)
def bet (T : Tr) (b : Bool) (f n : Nat) : Bool := if b then decide (arr T f < arr T n) else decide (arr T n < arr T f)
/-- of the leaves of a group that run, among the first n nodes, the one with the greatest arrival, or the least one -/
def lat (T : Tr) (g : Nat) (b : Bool) : Nat → Option Nat
  | 0 => none
  | n + 1 => if og T g n then (match lat T g b n with
    | none => some n
    | some f => if bet T b f n then some n else some f) else lat T g b n
def oI (o : Option Nat) : Int32 := match o with
  | none => -5
  | some k => nI k
theorem lat_lt {T : Tr} {g : Nat} {b : Bool} : ∀ n f, lat T g b n = some f → f < n ∧ og T g f = true
  | 0, f, h => by simp [lat] at h
  | n + 1, f, h => by
    unfold lat at h
    by_cases ho : og T g n = true
    · rw [if_pos ho] at h
      cases hl : lat T g b n with
      | none => rw [hl] at h; simp at h; subst h; exact ⟨by omega, ho⟩
      | some f2 =>
        rw [hl] at h
        have := lat_lt n f2 hl
        simp only at h
        split at h
        · cases h; exact ⟨by omega, ho⟩
        · cases h; exact ⟨by omega, this.2⟩
    · rw [if_neg ho] at h
      have := lat_lt n f h
      exact ⟨by omega, this.2⟩
theorem lat_none {T : Tr} {g : Nat} {b : Bool} : ∀ n, lat T g b n = none → ∀ k, k < n → og T g k = false
  | 0, _, k, hk => by omega
  | n + 1, h, k, hk => by
    unfold lat at h
    by_cases ho : og T g n = true
    · rw [if_pos ho] at h
      cases hl : lat T g b n with
      | none => rw [hl] at h; simp at h
      | some f2 => rw [hl] at h; simp only at h; split at h <;> cases h
    · rw [if_neg ho] at h
      by_cases hkn : k = n
      · subst hkn; simpa using ho
      · exact lat_none n h k (by omega)
theorem lat_both {T : Tr} {g : Nat} {b : Bool} {n : Nat} : lat T g b n = none ↔ lat T g (!b) n = none := by
  have key : ∀ b, lat T g b n = none → lat T g (!b) n = none := fun b h => by
    cases h2 : lat T g (!b) n with
    | none => rfl
    | some f => have := lat_lt n f h2; rw [lat_none n h f this.1] at this; exact absurd this.2 (by decide)
  exact ⟨key b, fun h => by have := key (!b) h; rwa [Bool.not_not] at this⟩
def skI (T : Tr) (g : Nat) : Int32 := match lat T g true (T 10 0), lat T g false (T 10 0) with
  | some a, some b => nI (arr T a) - nI (arr T b)
  | _, _ => nI 0
def grN (T : Tr) (g k : Nat) : Nat := if og T g k then (match lat T g true (T 10 0) with
  | some a => arr T a - (T 11 g + arr T k)
  | none => 0) else 0
def mndB (T : Tr) (g k : Nat) : Bool := decide (T 9 k + grN T g k ≤ 99)
def allN (p : Nat → Bool) : Nat → Bool
  | 0 => true
  | n + 1 => allN p n && p n
theorem allN_iff {p : Nat → Bool} : ∀ n, allN p n = true ↔ ∀ k, k < n → p k = true
  | 0 => by simp [allN]
  | n + 1 => by
    unfold allN
    rw [Bool.and_eq_true, allN_iff n]
    constructor
    · rintro ⟨h1, h2⟩ k hk
      rcases Nat.lt_or_ge k n with h | h
      · exact h1 k h
      · rw [show k = n by omega]; exact h2
    · intro h; exact ⟨fun k hk => h k (by omega), h n (by omega)⟩
def mnd (T : Tr) (g : Nat) : Option Nat := if allN (mndB T g) (T 10 0) then some (sumN (grN T g) (T 10 0)) else none
theorem del_b {T : Tr} (hT : okT T) : ∀ k, k < T 10 0 → del T k ≤ 99 * (dep T k + 1) := by
  refine ph_ind hT.wf ?_ (fun k h0 hN ih => ?_)
  · have := (hT.2.2.2.2.2.1 0 (by have := hT.wf.1; omega)).1
    show T 3 0 ≤ 99 * (0 + 1)
    omega
  · have e1 : del T k = del T (T 1 k) + T 3 k := ph_s hT.wf h0 hN
    have e2 : dep T k = dep T (T 1 k) + 1 := ph_s hT.wf h0 hN
    have := (hT.2.2.2.2.2.1 k hN).1
    omega
theorem arr_b {T : Tr} (hT : okT T) {k : Nat} (hk : k < T 10 0) : arr T k ≤ 800 := by
  have h1 := del_b hT k hk
  have h2 := hT.dep hk
  have h3 := (hT.2.2.2.2.2.1 k hk).2.2.2.2.2.2.1
  unfold arr
  split <;> omega
theorem grN_b {T : Tr} (hT : okT T) {g k : Nat} : grN T g k ≤ 800 := by
  unfold grN
  split
  · cases hl : lat T g true (T 10 0) with
    | none => simp
    | some a => have := arr_b hT (lat_lt _ _ hl).1; simp only; omega
  · omega
theorem q_gr {a l b : Nat} (ha : a ≤ 1000) (hl : l ≤ 1000) (hb : b ≤ 1000) : (nI a - nI l - nI b < 0) = (a < l + b) ∧ (l + b ≤ a → nI a - nI l - nI b = nI (a - (l + b))) := by
  have e : (nI a - nI l - nI b).toInt = (a : Int) - l - b := by
    rw [Int32.toInt_sub, Int32.toInt_sub, nI_toInt (by omega), nI_toInt (by omega), nI_toInt (by omega)]
    rw [Int.bmod_eq_of_le (n := (a : Int) - l) (by omega) (by omega)]
    rw [Int.bmod_eq_of_le (by omega) (by omega)]
  refine ⟨propext ?_, fun h => ?_⟩
  · rw [Int32.lt_iff_toInt_lt, e]
    show _ < (0 : Int) ↔ _
    omega
  · rw [← Int32.toInt_inj, e, nI_toInt (by omega)]
    omega
section MOE
variable {X : pm_X} {d : Nat} {G : pm_H} {Q : Option Value → pm_H → Prop} {I A : Nat → Nat → Int32} {E : Nat → Nat → Int64} {J : Nat → Int32} {B : Nat → Nat → Int32} {T : Tr}
theorem s_isOf (hR : RelT (B 140) T) (hT : okT T) {k g : Nat} (hk : k < T 10 0) (hg : g < 4) {ra : Bool} : pm_call X (d + 5) mX7_isOf [.ref 139, .int (nI k), .int (nI g), .int (bz ra)] (pm_w I A E J B) Q ↔ Q (some (.int (bz (ogr T ra g k)))) (pm_w I A E J B) := by
  have h24 := hT.wf.2.1
  have s0 := hT.small hk (w := 0) (by omega) (by omega)
  have s2 := hT.small hk (w := 2) (by omega) (by omega)
  unfold ogr ofg
  by_cases h5 : T 0 k = 5
  · by_cases h2 : T 2 k = g
    · cases ra with
      | false => simp (disch := omega) only [i_X7_isOf_0, i_X7_isOf_1, i_X7_isOf_2, i_X7_isOf_3, i_X7_isOf_6, i_X7_isOf_7, i_X7_isOf_10, i_X7_isOf_11, i_X7_isOf_12, i_X7_isOf_13, i_X7_isOf_16, i_X7_isOf_17, i_X7_isOf_20, i_X7_isOf_21, i_X7_isOf_24, i_X7_isOf_25, i_X7_isOf_26, i_X7_isOf_29, i_X7_isOf_32, i_X7_isOf_33, i_X7_isOf_37, i_X7_isOf_37b, i_X7_isOf_37c, i_X7_isOf_36, i_X7_isOf_0_e, Option.toList_some, Option.toList_none, List.cons_append, List.nil_append, List.append_nil, ↓reduceIte, q_lt, q_eq, q_neg, q_pos, q_e0, nI_add, pk_mul, pk_sub, q_add1, l_of, l_toI, l_lt, l_eq, lN_mul, lN_add, lg_lt, lg_gt, lg_e0, bz_e0, bz_t, bz_f, s_nT hR h24, h5, h2]; simp [bz_t]
      | true =>
        cases hr : rn T k with
        | false => simp (disch := omega) only [i_X7_isOf_0, i_X7_isOf_1, i_X7_isOf_2, i_X7_isOf_3, i_X7_isOf_6, i_X7_isOf_7, i_X7_isOf_10, i_X7_isOf_11, i_X7_isOf_12, i_X7_isOf_13, i_X7_isOf_16, i_X7_isOf_17, i_X7_isOf_20, i_X7_isOf_21, i_X7_isOf_24, i_X7_isOf_25, i_X7_isOf_26, i_X7_isOf_29, i_X7_isOf_32, i_X7_isOf_33, i_X7_isOf_37, i_X7_isOf_37b, i_X7_isOf_37c, i_X7_isOf_36, i_X7_isOf_0_e, Option.toList_some, Option.toList_none, List.cons_append, List.nil_append, List.append_nil, ↓reduceIte, q_lt, q_eq, q_neg, q_pos, q_e0, nI_add, pk_mul, pk_sub, q_add1, l_of, l_toI, l_lt, l_eq, lN_mul, lN_add, lg_lt, lg_gt, lg_e0, bz_e0, bz_t, bz_f, s_nT hR h24, h5, h2, s_runs hR hT hk, hr, reduceCtorEq]; simp [bz_f]
        | true => simp (disch := omega) only [i_X7_isOf_0, i_X7_isOf_1, i_X7_isOf_2, i_X7_isOf_3, i_X7_isOf_6, i_X7_isOf_7, i_X7_isOf_10, i_X7_isOf_11, i_X7_isOf_12, i_X7_isOf_13, i_X7_isOf_16, i_X7_isOf_17, i_X7_isOf_20, i_X7_isOf_21, i_X7_isOf_24, i_X7_isOf_25, i_X7_isOf_26, i_X7_isOf_29, i_X7_isOf_32, i_X7_isOf_33, i_X7_isOf_37, i_X7_isOf_37b, i_X7_isOf_37c, i_X7_isOf_36, i_X7_isOf_0_e, Option.toList_some, Option.toList_none, List.cons_append, List.nil_append, List.append_nil, ↓reduceIte, q_lt, q_eq, q_neg, q_pos, q_e0, nI_add, pk_mul, pk_sub, q_add1, l_of, l_toI, l_lt, l_eq, lN_mul, lN_add, lg_lt, lg_gt, lg_e0, bz_e0, bz_t, bz_f, s_nT hR h24, h5, h2, s_runs hR hT hk, hr, reduceCtorEq]; simp [bz_t]
    · simp (disch := omega) only [i_X7_isOf_0, i_X7_isOf_1, i_X7_isOf_2, i_X7_isOf_3, i_X7_isOf_6, i_X7_isOf_7, i_X7_isOf_10, i_X7_isOf_11, i_X7_isOf_12, i_X7_isOf_13, i_X7_isOf_16, i_X7_isOf_17, i_X7_isOf_20, i_X7_isOf_21, i_X7_isOf_24, i_X7_isOf_25, i_X7_isOf_26, i_X7_isOf_29, i_X7_isOf_32, i_X7_isOf_33, i_X7_isOf_37, i_X7_isOf_37b, i_X7_isOf_37c, i_X7_isOf_36, i_X7_isOf_0_e, Option.toList_some, Option.toList_none, List.cons_append, List.nil_append, List.append_nil, ↓reduceIte, q_lt, q_eq, q_neg, q_pos, q_e0, nI_add, pk_mul, pk_sub, q_add1, l_of, l_toI, l_lt, l_eq, lN_mul, lN_add, lg_lt, lg_gt, lg_e0, bz_e0, bz_t, bz_f, s_nT hR h24, h5, h2]; simp [bz_f, h2]
  · simp (disch := omega) only [i_X7_isOf_0, i_X7_isOf_1, i_X7_isOf_2, i_X7_isOf_3, i_X7_isOf_6, i_X7_isOf_7, i_X7_isOf_10, i_X7_isOf_11, i_X7_isOf_12, i_X7_isOf_13, i_X7_isOf_16, i_X7_isOf_17, i_X7_isOf_20, i_X7_isOf_21, i_X7_isOf_24, i_X7_isOf_25, i_X7_isOf_26, i_X7_isOf_29, i_X7_isOf_32, i_X7_isOf_33, i_X7_isOf_37, i_X7_isOf_37b, i_X7_isOf_37c, i_X7_isOf_36, i_X7_isOf_0_e, Option.toList_some, Option.toList_none, List.cons_append, List.nil_append, List.append_nil, ↓reduceIte, q_lt, q_eq, q_neg, q_pos, q_e0, nI_add, pk_mul, pk_sub, q_add1, l_of, l_toI, l_lt, l_eq, lN_mul, lN_add, lg_lt, lg_gt, lg_e0, bz_e0, bz_t, bz_f, s_nT hR h24, h5]; simp [bz_f, h5]
theorem s_isOfT (hR : RelT (B 140) T) (hT : okT T) {k g : Nat} (hk : k < T 10 0) (hg : g < 4) : pm_call X (d + 5) mX7_isOf [.ref 139, .int (nI k), .int (nI g), .int (nI 1)] (pm_w I A E J B) Q ↔ Q (some (.int (bz (og T g k)))) (pm_w I A E J B) := by
  have := s_isOf (X := X) (d := d) (Q := Q) (I := I) (A := A) (E := E) (J := J) (ra := true) hR hT hk hg
  rw [show ogr T true g k = og T g k from by simp [ogr, og]] at this
  exact this
theorem s_leavesOf (hR : RelT (B 140) T) (hT : okT T) {g : Nat} (hg : g < 4) {ra : Bool} : pm_call X (d + 6) mX7_leavesOf [.ref 139, .int (nI g), .int (bz ra)] (pm_w I A E J B) Q ↔ Q (some (.int (nI (cnt (ogr T ra g) (T 10 0))))) (pm_w I A E J B) := by
  have h24 := hT.wf.2.1
  have key : ∀ j, j ≤ T 10 0 → ∀ _ : Unit, pm_wp X (d + 6) mX7_leavesOf 5 [.ref 139, .int (nI g), .int (bz ra), .int (nI (cnt (ogr T ra g) j)), .int (nI j)] [] (pm_w I A E J B) Q ↔ Q (some (.int (nI (cnt (ogr T ra g) (T 10 0))))) (pm_w I A E J B) := by
    refine loop_r (fun _ => ?_) (fun j hj ih _ => ?_)
    · rw [i_X7_leavesOf_5]
      simp (disch := omega) only [i_X7_leavesOf_0, i_X7_leavesOf_1, i_X7_leavesOf_2, i_X7_leavesOf_3, i_X7_leavesOf_7, i_X7_leavesOf_8, i_X7_leavesOf_11, i_X7_leavesOf_12, i_X7_leavesOf_13, i_X7_leavesOf_16, i_X7_leavesOf_17, i_X7_leavesOf_18, i_X7_leavesOf_20, i_X7_leavesOf_21, i_X7_leavesOf_22, i_X7_leavesOf_25, i_X7_leavesOf_28, i_X7_leavesOf_29, i_X7_leavesOf_33, i_X7_leavesOf_34, i_X7_leavesOf_35, i_X7_leavesOf_38, i_X7_leavesOf_32, i_X7_leavesOf_41, i_X7_leavesOf_42, i_X7_leavesOf_0_e, Option.toList_some, Option.toList_none, List.cons_append, List.nil_append, List.append_nil, ↓reduceIte, q_lt, hR.2.1, Nat.lt_irrefl]
    · have ih := ih ()
      have e1 : cnt (ogr T ra g) (j + 1) = cnt (ogr T ra g) j + (if ogr T ra g j then 1 else 0) := rfl
      rw [e1] at ih
      rw [i_X7_leavesOf_5]
      cases ho : ogr T ra g j with
      | false =>
        rw [ho] at ih
        simp (disch := omega) only [i_X7_leavesOf_0, i_X7_leavesOf_1, i_X7_leavesOf_2, i_X7_leavesOf_3, i_X7_leavesOf_7, i_X7_leavesOf_8, i_X7_leavesOf_11, i_X7_leavesOf_12, i_X7_leavesOf_13, i_X7_leavesOf_16, i_X7_leavesOf_17, i_X7_leavesOf_18, i_X7_leavesOf_20, i_X7_leavesOf_21, i_X7_leavesOf_22, i_X7_leavesOf_25, i_X7_leavesOf_28, i_X7_leavesOf_29, i_X7_leavesOf_33, i_X7_leavesOf_34, i_X7_leavesOf_35, i_X7_leavesOf_38, i_X7_leavesOf_32, i_X7_leavesOf_41, i_X7_leavesOf_42, i_X7_leavesOf_0_e, Option.toList_some, Option.toList_none, List.cons_append, List.nil_append, List.append_nil, ↓reduceIte, q_lt, nI_add, bz_e0, hR.2.1, hj, s_isOf hR hT hj hg, ho, reduceCtorEq]
        exact ih
      | true =>
        rw [ho] at ih
        simp (disch := omega) only [i_X7_leavesOf_0, i_X7_leavesOf_1, i_X7_leavesOf_2, i_X7_leavesOf_3, i_X7_leavesOf_7, i_X7_leavesOf_8, i_X7_leavesOf_11, i_X7_leavesOf_12, i_X7_leavesOf_13, i_X7_leavesOf_16, i_X7_leavesOf_17, i_X7_leavesOf_18, i_X7_leavesOf_20, i_X7_leavesOf_21, i_X7_leavesOf_22, i_X7_leavesOf_25, i_X7_leavesOf_28, i_X7_leavesOf_29, i_X7_leavesOf_33, i_X7_leavesOf_34, i_X7_leavesOf_35, i_X7_leavesOf_38, i_X7_leavesOf_32, i_X7_leavesOf_41, i_X7_leavesOf_42, i_X7_leavesOf_0_e, Option.toList_some, Option.toList_none, List.cons_append, List.nil_append, List.append_nil, ↓reduceIte, q_lt, nI_add, bz_e0, hR.2.1, hj, s_isOf hR hT hj hg, ho, reduceCtorEq]
        exact ih
  simp only [i_X7_leavesOf_0, i_X7_leavesOf_1, i_X7_leavesOf_2, i_X7_leavesOf_3, i_X7_leavesOf_7, i_X7_leavesOf_8, i_X7_leavesOf_11, i_X7_leavesOf_12, i_X7_leavesOf_13, i_X7_leavesOf_16, i_X7_leavesOf_17, i_X7_leavesOf_18, i_X7_leavesOf_20, i_X7_leavesOf_21, i_X7_leavesOf_22, i_X7_leavesOf_25, i_X7_leavesOf_28, i_X7_leavesOf_29, i_X7_leavesOf_33, i_X7_leavesOf_34, i_X7_leavesOf_35, i_X7_leavesOf_38, i_X7_leavesOf_32, i_X7_leavesOf_41, i_X7_leavesOf_42, i_X7_leavesOf_0_e, Option.toList_some, Option.toList_none, List.cons_append, List.nil_append, List.append_nil, ↓reduceIte]
  exact key 0 (Nat.zero_le _) ()
theorem s_latest (hR : RelT (B 140) T) (hT : okT T) {g : Nat} (hg : g < 4) {b : Bool} : pm_call X (d + 6) mX7_latest [.ref 139, .int (nI g), .int (bz b)] (pm_w I A E J B) Q ↔ Q (some (.int (oI (lat T g b (T 10 0))))) (pm_w I A E J B) := by
  have h24 := hT.wf.2.1
  have key : ∀ j, j ≤ T 10 0 → ∀ v, pm_wp X (d + 6) mX7_latest 6 [.ref 139, .int (nI g), .int (bz b), .int (oI (lat T g b j)), .int (nI j), v] [] (pm_w I A E J B) Q ↔ Q (some (.int (oI (lat T g b (T 10 0))))) (pm_w I A E J B) := by
    refine loop_r (fun v => ?_) (fun j hj ih v => ?_)
    · rw [i_X7_latest_6]
      simp (disch := omega) only [i_X7_latest_0, i_X7_latest_2, i_X7_latest_3, i_X7_latest_4, i_X7_latest_8, i_X7_latest_9, i_X7_latest_12, i_X7_latest_13, i_X7_latest_14, i_X7_latest_17, i_X7_latest_18, i_X7_latest_20, i_X7_latest_21, i_X7_latest_22, i_X7_latest_25, i_X7_latest_28, i_X7_latest_29, i_X7_latest_31, i_X7_latest_34, i_X7_latest_35, i_X7_latest_69, i_X7_latest_71, i_X7_latest_73, i_X7_latest_76, i_X7_latest_78, i_X7_latest_82, i_X7_latest_81, i_X7_latest_38, i_X7_latest_39, i_X7_latest_42, i_X7_latest_43, i_X7_latest_45, i_X7_latest_48, i_X7_latest_49, i_X7_latest_50, i_X7_latest_53, i_X7_latest_54, i_X7_latest_57, i_X7_latest_58, i_X7_latest_59, i_X7_latest_62, i_X7_latest_63, i_X7_latest_65, i_X7_latest_68, i_X7_latest_83, i_X7_latest_86, i_X7_latest_89, i_X7_latest_90, i_X7_latest_0_e, Option.toList_some, Option.toList_none, List.cons_append, List.nil_append, List.append_nil, ↓reduceIte, q_lt, hR.2.1, Nat.lt_irrefl]
    · have e1 : lat T g b (j + 1) = if og T g j then (match lat T g b j with
        | none => some j
        | some f => if bet T b f j then some j else some f) else lat T g b j := rfl
      rw [e1] at ih
      rw [i_X7_latest_6]
      cases ho : og T g j with
      | false =>
        rw [ho] at ih
        simp (disch := omega) only [i_X7_latest_0, i_X7_latest_2, i_X7_latest_3, i_X7_latest_4, i_X7_latest_8, i_X7_latest_9, i_X7_latest_12, i_X7_latest_13, i_X7_latest_14, i_X7_latest_17, i_X7_latest_18, i_X7_latest_20, i_X7_latest_21, i_X7_latest_22, i_X7_latest_25, i_X7_latest_28, i_X7_latest_29, i_X7_latest_31, i_X7_latest_34, i_X7_latest_35, i_X7_latest_69, i_X7_latest_71, i_X7_latest_73, i_X7_latest_76, i_X7_latest_78, i_X7_latest_82, i_X7_latest_81, i_X7_latest_38, i_X7_latest_39, i_X7_latest_42, i_X7_latest_43, i_X7_latest_45, i_X7_latest_48, i_X7_latest_49, i_X7_latest_50, i_X7_latest_53, i_X7_latest_54, i_X7_latest_57, i_X7_latest_58, i_X7_latest_59, i_X7_latest_62, i_X7_latest_63, i_X7_latest_65, i_X7_latest_68, i_X7_latest_83, i_X7_latest_86, i_X7_latest_89, i_X7_latest_90, i_X7_latest_0_e, Option.toList_some, Option.toList_none, List.cons_append, List.nil_append, List.append_nil, ↓reduceIte, q_lt, nI_add, bz_e0, hR.2.1, hj, s_isOfT hR hT hj hg, ho, reduceCtorEq]
        exact ih _
      | true =>
        rw [ho] at ih
        have aj := arr_b hT hj
        cases hl : lat T g b j with
        | none =>
          rw [hl] at ih
          simp (disch := omega) only [i_X7_latest_0, i_X7_latest_2, i_X7_latest_3, i_X7_latest_4, i_X7_latest_8, i_X7_latest_9, i_X7_latest_12, i_X7_latest_13, i_X7_latest_14, i_X7_latest_17, i_X7_latest_18, i_X7_latest_20, i_X7_latest_21, i_X7_latest_22, i_X7_latest_25, i_X7_latest_28, i_X7_latest_29, i_X7_latest_31, i_X7_latest_34, i_X7_latest_35, i_X7_latest_69, i_X7_latest_71, i_X7_latest_73, i_X7_latest_76, i_X7_latest_78, i_X7_latest_82, i_X7_latest_81, i_X7_latest_38, i_X7_latest_39, i_X7_latest_42, i_X7_latest_43, i_X7_latest_45, i_X7_latest_48, i_X7_latest_49, i_X7_latest_50, i_X7_latest_53, i_X7_latest_54, i_X7_latest_57, i_X7_latest_58, i_X7_latest_59, i_X7_latest_62, i_X7_latest_63, i_X7_latest_65, i_X7_latest_68, i_X7_latest_83, i_X7_latest_86, i_X7_latest_89, i_X7_latest_90, i_X7_latest_0_e, Option.toList_some, Option.toList_none, List.cons_append, List.nil_append, List.append_nil, ↓reduceIte, q_lt, q_pos, nI_add, bz_e0, hR.2.1, hj, s_isOfT hR hT hj hg, ho, reduceCtorEq, oI, show (0 < 1) = True from by decide]
          exact ih _
        | some f =>
          have hf := (lat_lt _ _ hl).1
          have af := arr_b hT (k := f) (by omega)
          rw [hl] at ih
          cases b with
          | true =>
            by_cases hb : arr T f < arr T j
            · simp only [bet, hb, decide_true, if_true] at ih
              simp (disch := first | omega | decide) only [i_X7_latest_0, i_X7_latest_2, i_X7_latest_3, i_X7_latest_4, i_X7_latest_8, i_X7_latest_9, i_X7_latest_12, i_X7_latest_13, i_X7_latest_14, i_X7_latest_17, i_X7_latest_18, i_X7_latest_20, i_X7_latest_21, i_X7_latest_22, i_X7_latest_25, i_X7_latest_28, i_X7_latest_29, i_X7_latest_31, i_X7_latest_34, i_X7_latest_35, i_X7_latest_69, i_X7_latest_71, i_X7_latest_73, i_X7_latest_76, i_X7_latest_78, i_X7_latest_82, i_X7_latest_81, i_X7_latest_38, i_X7_latest_39, i_X7_latest_42, i_X7_latest_43, i_X7_latest_45, i_X7_latest_48, i_X7_latest_49, i_X7_latest_50, i_X7_latest_53, i_X7_latest_54, i_X7_latest_57, i_X7_latest_58, i_X7_latest_59, i_X7_latest_62, i_X7_latest_63, i_X7_latest_65, i_X7_latest_68, i_X7_latest_83, i_X7_latest_86, i_X7_latest_89, i_X7_latest_90, i_X7_latest_0_e, Option.toList_some, Option.toList_none, List.cons_append, List.nil_append, List.append_nil, ↓reduceIte, q_lt, q_pos, q_em, pk_sub, nI_add, bz_e0, hR.2.1, hj, s_isOfT hR hT hj hg, ho, reduceCtorEq, oI, s_arrival hR hT hj, s_arrival hR hT (show f < T 10 0 by omega), show 0 < arr T j - arr T f by omega]
              exact ih _
            · simp only [bet, hb, decide_false, if_true, if_false, Bool.false_eq_true] at ih
              have hx : ¬ 0 < nI (arr T j) - nI (arr T f) := by
                rcases Nat.lt_or_ge (arr T j) (arr T f) with h | h
                · have := pk_sneg (a := arr T j) (b := arr T f) (by omega) h
                  exact fun q => absurd (Int32.lt_trans this q) (Int32.lt_irrefl)
                · rw [show arr T j = arr T f by omega, pk_sub (Nat.le_refl _), Nat.sub_self, nI_0]; exact Int32.lt_irrefl
              simp (disch := first | omega | decide) only [i_X7_latest_0, i_X7_latest_2, i_X7_latest_3, i_X7_latest_4, i_X7_latest_8, i_X7_latest_9, i_X7_latest_12, i_X7_latest_13, i_X7_latest_14, i_X7_latest_17, i_X7_latest_18, i_X7_latest_20, i_X7_latest_21, i_X7_latest_22, i_X7_latest_25, i_X7_latest_28, i_X7_latest_29, i_X7_latest_31, i_X7_latest_34, i_X7_latest_35, i_X7_latest_69, i_X7_latest_71, i_X7_latest_73, i_X7_latest_76, i_X7_latest_78, i_X7_latest_82, i_X7_latest_81, i_X7_latest_38, i_X7_latest_39, i_X7_latest_42, i_X7_latest_43, i_X7_latest_45, i_X7_latest_48, i_X7_latest_49, i_X7_latest_50, i_X7_latest_53, i_X7_latest_54, i_X7_latest_57, i_X7_latest_58, i_X7_latest_59, i_X7_latest_62, i_X7_latest_63, i_X7_latest_65, i_X7_latest_68, i_X7_latest_83, i_X7_latest_86, i_X7_latest_89, i_X7_latest_90, i_X7_latest_0_e, Option.toList_some, Option.toList_none, List.cons_append, List.nil_append, List.append_nil, ↓reduceIte, q_lt, q_em, nI_add, bz_e0, hR.2.1, hj, s_isOfT hR hT hj hg, ho, reduceCtorEq, oI, s_arrival hR hT hj, s_arrival hR hT (show f < T 10 0 by omega), hx]
              exact ih _
          | false =>
            by_cases hb : arr T j < arr T f
            · simp only [bet, hb, decide_true, if_true, if_false, Bool.false_eq_true] at ih
              simp (disch := first | omega | decide) only [i_X7_latest_0, i_X7_latest_2, i_X7_latest_3, i_X7_latest_4, i_X7_latest_8, i_X7_latest_9, i_X7_latest_12, i_X7_latest_13, i_X7_latest_14, i_X7_latest_17, i_X7_latest_18, i_X7_latest_20, i_X7_latest_21, i_X7_latest_22, i_X7_latest_25, i_X7_latest_28, i_X7_latest_29, i_X7_latest_31, i_X7_latest_34, i_X7_latest_35, i_X7_latest_69, i_X7_latest_71, i_X7_latest_73, i_X7_latest_76, i_X7_latest_78, i_X7_latest_82, i_X7_latest_81, i_X7_latest_38, i_X7_latest_39, i_X7_latest_42, i_X7_latest_43, i_X7_latest_45, i_X7_latest_48, i_X7_latest_49, i_X7_latest_50, i_X7_latest_53, i_X7_latest_54, i_X7_latest_57, i_X7_latest_58, i_X7_latest_59, i_X7_latest_62, i_X7_latest_63, i_X7_latest_65, i_X7_latest_68, i_X7_latest_83, i_X7_latest_86, i_X7_latest_89, i_X7_latest_90, i_X7_latest_0_e, Option.toList_some, Option.toList_none, List.cons_append, List.nil_append, List.append_nil, ↓reduceIte, q_lt, q_pos, q_em, pk_sub, nI_add, bz_e0, hR.2.1, hj, s_isOfT hR hT hj hg, ho, reduceCtorEq, oI, s_arrival hR hT hj, s_arrival hR hT (show f < T 10 0 by omega), show 0 < arr T f - arr T j by omega]
              exact ih _
            · simp only [bet, hb, decide_false, if_true, if_false, Bool.false_eq_true] at ih
              have hx : ¬ 0 < nI (arr T f) - nI (arr T j) := by
                rcases Nat.lt_or_ge (arr T f) (arr T j) with h | h
                · have := pk_sneg (a := arr T f) (b := arr T j) (by omega) h
                  exact fun q => absurd (Int32.lt_trans this q) (Int32.lt_irrefl)
                · rw [show arr T f = arr T j by omega, pk_sub (Nat.le_refl _), Nat.sub_self, nI_0]; exact Int32.lt_irrefl
              simp (disch := first | omega | decide) only [i_X7_latest_0, i_X7_latest_2, i_X7_latest_3, i_X7_latest_4, i_X7_latest_8, i_X7_latest_9, i_X7_latest_12, i_X7_latest_13, i_X7_latest_14, i_X7_latest_17, i_X7_latest_18, i_X7_latest_20, i_X7_latest_21, i_X7_latest_22, i_X7_latest_25, i_X7_latest_28, i_X7_latest_29, i_X7_latest_31, i_X7_latest_34, i_X7_latest_35, i_X7_latest_69, i_X7_latest_71, i_X7_latest_73, i_X7_latest_76, i_X7_latest_78, i_X7_latest_82, i_X7_latest_81, i_X7_latest_38, i_X7_latest_39, i_X7_latest_42, i_X7_latest_43, i_X7_latest_45, i_X7_latest_48, i_X7_latest_49, i_X7_latest_50, i_X7_latest_53, i_X7_latest_54, i_X7_latest_57, i_X7_latest_58, i_X7_latest_59, i_X7_latest_62, i_X7_latest_63, i_X7_latest_65, i_X7_latest_68, i_X7_latest_83, i_X7_latest_86, i_X7_latest_89, i_X7_latest_90, i_X7_latest_0_e, Option.toList_some, Option.toList_none, List.cons_append, List.nil_append, List.append_nil, ↓reduceIte, q_lt, q_em, nI_add, bz_e0, hR.2.1, hj, s_isOfT hR hT hj hg, ho, reduceCtorEq, oI, s_arrival hR hT hj, s_arrival hR hT (show f < T 10 0 by omega), hx]
              exact ih _
  simp only [i_X7_latest_0, i_X7_latest_2, i_X7_latest_3, i_X7_latest_4, i_X7_latest_8, i_X7_latest_9, i_X7_latest_12, i_X7_latest_13, i_X7_latest_14, i_X7_latest_17, i_X7_latest_18, i_X7_latest_20, i_X7_latest_21, i_X7_latest_22, i_X7_latest_25, i_X7_latest_28, i_X7_latest_29, i_X7_latest_31, i_X7_latest_34, i_X7_latest_35, i_X7_latest_69, i_X7_latest_71, i_X7_latest_73, i_X7_latest_76, i_X7_latest_78, i_X7_latest_82, i_X7_latest_81, i_X7_latest_38, i_X7_latest_39, i_X7_latest_42, i_X7_latest_43, i_X7_latest_45, i_X7_latest_48, i_X7_latest_49, i_X7_latest_50, i_X7_latest_53, i_X7_latest_54, i_X7_latest_57, i_X7_latest_58, i_X7_latest_59, i_X7_latest_62, i_X7_latest_63, i_X7_latest_65, i_X7_latest_68, i_X7_latest_83, i_X7_latest_86, i_X7_latest_89, i_X7_latest_90, i_X7_latest_0_e, Option.toList_some, Option.toList_none, List.cons_append, List.nil_append, List.append_nil, ↓reduceIte]
  exact key 0 (Nat.zero_le _) _
theorem s_latestT (hR : RelT (B 140) T) (hT : okT T) {g : Nat} (hg : g < 4) : pm_call X (d + 6) mX7_latest [.ref 139, .int (nI g), .int (nI 1)] (pm_w I A E J B) Q ↔ Q (some (.int (oI (lat T g true (T 10 0))))) (pm_w I A E J B) := s_latest (b := true) hR hT hg
theorem s_latestF (hR : RelT (B 140) T) (hT : okT T) {g : Nat} (hg : g < 4) : pm_call X (d + 6) mX7_latest [.ref 139, .int (nI g), .int (nI 0)] (pm_w I A E J B) Q ↔ Q (some (.int (oI (lat T g false (T 10 0))))) (pm_w I A E J B) := s_latest (b := false) hR hT hg
theorem s_skew (hR : RelT (B 140) T) (hT : okT T) {g : Nat} (hg : g < 4) : pm_call X (d + 7) mX7_skew [.ref 139, .int (nI g)] (pm_w I A E J B) Q ↔ Q (some (.int (skI T g))) (pm_w I A E J B) := by
  have h24 := hT.wf.2.1
  unfold skI
  cases h1 : lat T g true (T 10 0) with
  | none =>
    simp (disch := first | omega | decide) only [i_X7_skew_0, i_X7_skew_1, i_X7_skew_2, i_X7_skew_3, i_X7_skew_6, i_X7_skew_7, i_X7_skew_8, i_X7_skew_10, i_X7_skew_13, i_X7_skew_14, i_X7_skew_33, i_X7_skew_17, i_X7_skew_18, i_X7_skew_19, i_X7_skew_22, i_X7_skew_23, i_X7_skew_24, i_X7_skew_25, i_X7_skew_26, i_X7_skew_29, i_X7_skew_32, i_X7_skew_0_e, Option.toList_some, Option.toList_none, List.cons_append, List.nil_append, List.append_nil, ↓reduceIte, s_latestT hR hT hg, h1, oI]
  | some a =>
    have ha := (lat_lt _ _ h1).1
    cases h2 : lat T g false (T 10 0) with
    | none => rw [lat_both] at h2; rw [Bool.not_false, h1] at h2; cases h2
    | some b =>
      have hb := (lat_lt _ _ h2).1
      simp (disch := first | omega | decide) only [i_X7_skew_0, i_X7_skew_1, i_X7_skew_2, i_X7_skew_3, i_X7_skew_6, i_X7_skew_7, i_X7_skew_8, i_X7_skew_10, i_X7_skew_13, i_X7_skew_14, i_X7_skew_33, i_X7_skew_17, i_X7_skew_18, i_X7_skew_19, i_X7_skew_22, i_X7_skew_23, i_X7_skew_24, i_X7_skew_25, i_X7_skew_26, i_X7_skew_29, i_X7_skew_32, i_X7_skew_0_e, Option.toList_some, Option.toList_none, List.cons_append, List.nil_append, List.append_nil, ↓reduceIte, s_latestT hR hT hg, s_latestF hR hT hg, h1, h2, oI, q_em, s_arrival hR hT ha, s_arrival hR hT hb]
theorem s_growth (hR : RelT (B 140) T) (hT : okT T) {k g : Nat} (hk : k < T 10 0) (hg : g < 4) : pm_call X (d + 7) mX7_growth [.ref 139, .int (nI k), .int (nI g)] (pm_w I A E J B) Q ↔ Q (some (.int (nI (grN T g k)))) (pm_w I A E J B) := by
  have h24 := hT.wf.2.1
  unfold grN
  cases ho : og T g k with
  | false =>
    simp (disch := first | omega | decide) only [i_X7_growth_0, i_X7_growth_1, i_X7_growth_2, i_X7_growth_3, i_X7_growth_4, i_X7_growth_7, i_X7_growth_10, i_X7_growth_11, i_X7_growth_12, i_X7_growth_13, i_X7_growth_14, i_X7_growth_17, i_X7_growth_20, i_X7_growth_21, i_X7_growth_24, i_X7_growth_25, i_X7_growth_26, i_X7_growth_27, i_X7_growth_28, i_X7_growth_29, i_X7_growth_30, i_X7_growth_31, i_X7_growth_34, i_X7_growth_35, i_X7_growth_39, i_X7_growth_40, i_X7_growth_41, i_X7_growth_44, i_X7_growth_45, i_X7_growth_49, i_X7_growth_48, i_X7_growth_38, i_X7_growth_0_e, Option.toList_some, Option.toList_none, List.cons_append, List.nil_append, List.append_nil, ↓reduceIte, q_lt, q_eq, q_neg, q_pos, q_e0, nI_add, pk_mul, pk_sub, q_add1, l_of, l_toI, l_lt, l_eq, lN_mul, lN_add, lg_lt, lg_gt, lg_e0, bz_e0, bz_t, bz_f, s_isOfT hR hT hk hg, ho, reduceCtorEq]
  | true =>
    cases h1 : lat T g true (T 10 0) with
    | none => rw [lat_none _ h1 k hk] at ho; cases ho
    | some a =>
      have ha := (lat_lt _ _ h1).1
      have hl := hT.2.2.2.1 g hg
      have aa := arr_b hT ha
      have ak := arr_b hT hk
      obtain ⟨e1, e2⟩ := q_gr (a := arr T a) (l := T 11 g) (b := arr T k) (by omega) (by omega) (by omega)
      by_cases hc : arr T a < T 11 g + arr T k
      · simp (disch := first | omega | decide) only [i_X7_growth_0, i_X7_growth_1, i_X7_growth_2, i_X7_growth_3, i_X7_growth_4, i_X7_growth_7, i_X7_growth_10, i_X7_growth_11, i_X7_growth_12, i_X7_growth_13, i_X7_growth_14, i_X7_growth_17, i_X7_growth_20, i_X7_growth_21, i_X7_growth_24, i_X7_growth_25, i_X7_growth_26, i_X7_growth_27, i_X7_growth_28, i_X7_growth_29, i_X7_growth_30, i_X7_growth_31, i_X7_growth_34, i_X7_growth_35, i_X7_growth_39, i_X7_growth_40, i_X7_growth_41, i_X7_growth_44, i_X7_growth_45, i_X7_growth_49, i_X7_growth_48, i_X7_growth_38, i_X7_growth_0_e, Option.toList_some, Option.toList_none, List.cons_append, List.nil_append, List.append_nil, ↓reduceIte, nI_add, bz_e0, s_isOfT hR hT hk hg, ho, reduceCtorEq, s_latestT hR hT hg, h1, oI, s_arrival hR hT ha, s_arrival hR hT hk, hR.2.2.1 g hg, e1, hc]
        rw [Nat.sub_eq_zero_of_le (by omega)]
      · simp (disch := first | omega | decide) only [i_X7_growth_0, i_X7_growth_1, i_X7_growth_2, i_X7_growth_3, i_X7_growth_4, i_X7_growth_7, i_X7_growth_10, i_X7_growth_11, i_X7_growth_12, i_X7_growth_13, i_X7_growth_14, i_X7_growth_17, i_X7_growth_20, i_X7_growth_21, i_X7_growth_24, i_X7_growth_25, i_X7_growth_26, i_X7_growth_27, i_X7_growth_28, i_X7_growth_29, i_X7_growth_30, i_X7_growth_31, i_X7_growth_34, i_X7_growth_35, i_X7_growth_39, i_X7_growth_40, i_X7_growth_41, i_X7_growth_44, i_X7_growth_45, i_X7_growth_49, i_X7_growth_48, i_X7_growth_38, i_X7_growth_0_e, Option.toList_some, Option.toList_none, List.cons_append, List.nil_append, List.append_nil, ↓reduceIte, nI_add, bz_e0, s_isOfT hR hT hk hg, ho, reduceCtorEq, s_latestT hR hT hg, h1, oI, s_arrival hR hT ha, s_arrival hR hT hk, hR.2.2.1 g hg, e1, hc]
        rw [e2 (by omega)]
def monI (T : Tr) (g : Nat) : Int32 := oI (mnd T g)
theorem s_mending (hR : RelT (B 140) T) (hT : okT T) {g : Nat} (hg : g < 4) : pm_call X (d + 8) mX7_mending [.ref 139, .int (nI g)] (pm_w I A E J B) Q ↔ Q (some (.int (monI T g))) (pm_w I A E J B) := by
  have h24 := hT.wf.2.1
  have key : ∀ j, j ≤ T 10 0 → ∀ v, pm_wp X (d + 8) mX7_mending 7 [.ref 139, .int (nI g), .int (nI (sumN (grN T g) j)), .int (bz (allN (mndB T g) j)), .int (nI j), v] [] (pm_w I A E J B) Q ↔ Q (some (.int (monI T g))) (pm_w I A E J B) := by
    refine loop_r (fun v => ?_) (fun j hj ih v => ?_)
    · rw [i_X7_mending_7]
      unfold monI mnd
      cases ha : allN (mndB T g) (T 10 0) with
      | false => simp (disch := omega) only [i_X7_mending_0, i_X7_mending_1, i_X7_mending_2, i_X7_mending_3, i_X7_mending_4, i_X7_mending_5, i_X7_mending_9, i_X7_mending_10, i_X7_mending_13, i_X7_mending_14, i_X7_mending_15, i_X7_mending_18, i_X7_mending_19, i_X7_mending_21, i_X7_mending_22, i_X7_mending_25, i_X7_mending_27, i_X7_mending_28, i_X7_mending_31, i_X7_mending_33, i_X7_mending_36, i_X7_mending_37, i_X7_mending_39, i_X7_mending_41, i_X7_mending_44, i_X7_mending_46, i_X7_mending_47, i_X7_mending_49, i_X7_mending_52, i_X7_mending_53, i_X7_mending_57, i_X7_mending_58, i_X7_mending_59, i_X7_mending_61, i_X7_mending_62, i_X7_mending_63, i_X7_mending_66, i_X7_mending_56, i_X7_mending_69, i_X7_mending_70, i_X7_mending_73, i_X7_mending_74, i_X7_mending_79, i_X7_mending_77, i_X7_mending_0_e, Option.toList_some, Option.toList_none, List.cons_append, List.nil_append, List.append_nil, ↓reduceIte, q_lt, hR.2.1, Nat.lt_irrefl, bz_e0, oI]; simp
      | true => simp (disch := omega) only [i_X7_mending_0, i_X7_mending_1, i_X7_mending_2, i_X7_mending_3, i_X7_mending_4, i_X7_mending_5, i_X7_mending_9, i_X7_mending_10, i_X7_mending_13, i_X7_mending_14, i_X7_mending_15, i_X7_mending_18, i_X7_mending_19, i_X7_mending_21, i_X7_mending_22, i_X7_mending_25, i_X7_mending_27, i_X7_mending_28, i_X7_mending_31, i_X7_mending_33, i_X7_mending_36, i_X7_mending_37, i_X7_mending_39, i_X7_mending_41, i_X7_mending_44, i_X7_mending_46, i_X7_mending_47, i_X7_mending_49, i_X7_mending_52, i_X7_mending_53, i_X7_mending_57, i_X7_mending_58, i_X7_mending_59, i_X7_mending_61, i_X7_mending_62, i_X7_mending_63, i_X7_mending_66, i_X7_mending_56, i_X7_mending_69, i_X7_mending_70, i_X7_mending_73, i_X7_mending_74, i_X7_mending_79, i_X7_mending_77, i_X7_mending_0_e, Option.toList_some, Option.toList_none, List.cons_append, List.nil_append, List.append_nil, ↓reduceIte, q_lt, hR.2.1, Nat.lt_irrefl, bz_e0, oI]; simp
    · have e1 : sumN (grN T g) (j + 1) = sumN (grN T g) j + grN T g j := rfl
      have e2 : allN (mndB T g) (j + 1) = (allN (mndB T g) j && mndB T g j) := rfl
      rw [e1, e2] at ih
      rw [i_X7_mending_7]
      have hg8 := grN_b hT (g := g) (k := j)
      have p9 := (hT.2.2.2.2.2.1 j hj).2.2.2.2.2.2.1
      cases ha : allN (mndB T g) j with
      | false =>
        rw [ha, Bool.false_and] at ih
        simp (disch := first | omega | decide) only [i_X7_mending_0, i_X7_mending_1, i_X7_mending_2, i_X7_mending_3, i_X7_mending_4, i_X7_mending_5, i_X7_mending_9, i_X7_mending_10, i_X7_mending_13, i_X7_mending_14, i_X7_mending_15, i_X7_mending_18, i_X7_mending_19, i_X7_mending_21, i_X7_mending_22, i_X7_mending_25, i_X7_mending_27, i_X7_mending_28, i_X7_mending_31, i_X7_mending_33, i_X7_mending_36, i_X7_mending_37, i_X7_mending_39, i_X7_mending_41, i_X7_mending_44, i_X7_mending_46, i_X7_mending_47, i_X7_mending_49, i_X7_mending_52, i_X7_mending_53, i_X7_mending_57, i_X7_mending_58, i_X7_mending_59, i_X7_mending_61, i_X7_mending_62, i_X7_mending_63, i_X7_mending_66, i_X7_mending_56, i_X7_mending_69, i_X7_mending_70, i_X7_mending_73, i_X7_mending_74, i_X7_mending_79, i_X7_mending_77, i_X7_mending_0_e, Option.toList_some, Option.toList_none, List.cons_append, List.nil_append, List.append_nil, ↓reduceIte, q_lt, nI_add, hR.2.1, hj, bz_e0, s_growth hR hT hj hg]
        exact ih _
      | true =>
        rw [ha, Bool.true_and, mndB] at ih
        by_cases h0 : grN T g j = 0
        · rw [show decide (T 9 j + grN T g j ≤ 99) = true from by simp; omega] at ih
          simp (disch := first | omega | decide) only [i_X7_mending_0, i_X7_mending_1, i_X7_mending_2, i_X7_mending_3, i_X7_mending_4, i_X7_mending_5, i_X7_mending_9, i_X7_mending_10, i_X7_mending_13, i_X7_mending_14, i_X7_mending_15, i_X7_mending_18, i_X7_mending_19, i_X7_mending_21, i_X7_mending_22, i_X7_mending_25, i_X7_mending_27, i_X7_mending_28, i_X7_mending_31, i_X7_mending_33, i_X7_mending_36, i_X7_mending_37, i_X7_mending_39, i_X7_mending_41, i_X7_mending_44, i_X7_mending_46, i_X7_mending_47, i_X7_mending_49, i_X7_mending_52, i_X7_mending_53, i_X7_mending_57, i_X7_mending_58, i_X7_mending_59, i_X7_mending_61, i_X7_mending_62, i_X7_mending_63, i_X7_mending_66, i_X7_mending_56, i_X7_mending_69, i_X7_mending_70, i_X7_mending_73, i_X7_mending_74, i_X7_mending_79, i_X7_mending_77, i_X7_mending_0_e, Option.toList_some, Option.toList_none, List.cons_append, List.nil_append, List.append_nil, ↓reduceIte, q_lt, q_e0, nI_add, hR.2.1, hj, bz_e0, s_growth hR hT hj hg, h0, reduceCtorEq]
          rw [h0] at ih
          exact ih _
        · by_cases h9 : 99 < T 9 j + grN T g j
          · rw [show decide (T 9 j + grN T g j ≤ 99) = false from by simp; omega] at ih
            simp (disch := first | omega | decide) only [i_X7_mending_0, i_X7_mending_1, i_X7_mending_2, i_X7_mending_3, i_X7_mending_4, i_X7_mending_5, i_X7_mending_9, i_X7_mending_10, i_X7_mending_13, i_X7_mending_14, i_X7_mending_15, i_X7_mending_18, i_X7_mending_19, i_X7_mending_21, i_X7_mending_22, i_X7_mending_25, i_X7_mending_27, i_X7_mending_28, i_X7_mending_31, i_X7_mending_33, i_X7_mending_36, i_X7_mending_37, i_X7_mending_39, i_X7_mending_41, i_X7_mending_44, i_X7_mending_46, i_X7_mending_47, i_X7_mending_49, i_X7_mending_52, i_X7_mending_53, i_X7_mending_57, i_X7_mending_58, i_X7_mending_59, i_X7_mending_61, i_X7_mending_62, i_X7_mending_63, i_X7_mending_66, i_X7_mending_56, i_X7_mending_69, i_X7_mending_70, i_X7_mending_73, i_X7_mending_74, i_X7_mending_79, i_X7_mending_77, i_X7_mending_0_e, Option.toList_some, Option.toList_none, List.cons_append, List.nil_append, List.append_nil, ↓reduceIte, q_lt, q_e0, nI_add, hR.2.1, hj, bz_e0, s_growth hR hT hj hg, h0, reduceCtorEq, s_nT hR h24, h9]
            exact ih _
          · rw [show decide (T 9 j + grN T g j ≤ 99) = true from by simp; omega] at ih
            simp (disch := first | omega | decide) only [i_X7_mending_0, i_X7_mending_1, i_X7_mending_2, i_X7_mending_3, i_X7_mending_4, i_X7_mending_5, i_X7_mending_9, i_X7_mending_10, i_X7_mending_13, i_X7_mending_14, i_X7_mending_15, i_X7_mending_18, i_X7_mending_19, i_X7_mending_21, i_X7_mending_22, i_X7_mending_25, i_X7_mending_27, i_X7_mending_28, i_X7_mending_31, i_X7_mending_33, i_X7_mending_36, i_X7_mending_37, i_X7_mending_39, i_X7_mending_41, i_X7_mending_44, i_X7_mending_46, i_X7_mending_47, i_X7_mending_49, i_X7_mending_52, i_X7_mending_53, i_X7_mending_57, i_X7_mending_58, i_X7_mending_59, i_X7_mending_61, i_X7_mending_62, i_X7_mending_63, i_X7_mending_66, i_X7_mending_56, i_X7_mending_69, i_X7_mending_70, i_X7_mending_73, i_X7_mending_74, i_X7_mending_79, i_X7_mending_77, i_X7_mending_0_e, Option.toList_some, Option.toList_none, List.cons_append, List.nil_append, List.append_nil, ↓reduceIte, q_lt, q_e0, nI_add, hR.2.1, hj, bz_e0, s_growth hR hT hj hg, h0, reduceCtorEq, s_nT hR h24, h9]
            exact ih _
  simp only [i_X7_mending_0, i_X7_mending_1, i_X7_mending_2, i_X7_mending_3, i_X7_mending_4, i_X7_mending_5, i_X7_mending_9, i_X7_mending_10, i_X7_mending_13, i_X7_mending_14, i_X7_mending_15, i_X7_mending_18, i_X7_mending_19, i_X7_mending_21, i_X7_mending_22, i_X7_mending_25, i_X7_mending_27, i_X7_mending_28, i_X7_mending_31, i_X7_mending_33, i_X7_mending_36, i_X7_mending_37, i_X7_mending_39, i_X7_mending_41, i_X7_mending_44, i_X7_mending_46, i_X7_mending_47, i_X7_mending_49, i_X7_mending_52, i_X7_mending_53, i_X7_mending_57, i_X7_mending_58, i_X7_mending_59, i_X7_mending_61, i_X7_mending_62, i_X7_mending_63, i_X7_mending_66, i_X7_mending_56, i_X7_mending_69, i_X7_mending_70, i_X7_mending_73, i_X7_mending_74, i_X7_mending_79, i_X7_mending_77, i_X7_mending_0_e, Option.toList_some, Option.toList_none, List.cons_append, List.nil_append, List.append_nil, ↓reduceIte]
  exact key 0 (Nat.zero_le _) _
def chB (T : Tr) (o k : Nat) : Bool := decide (0 < k) && decide (T 1 k = o)
def chn (T : Tr) (o : Nat) : Nat := cnt (chB T o) (T 10 0)
theorem s_children (hR : RelT (B 140) T) (hT : okT T) {o : Nat} (ho : o < T 10 0) : pm_call X (d + 1) mX7_children [.ref 139, .int (nI o)] (pm_w I A E J B) Q ↔ Q (some (.int (nI (chn T o)))) (pm_w I A E J B) := by
  have h24 := hT.wf.2.1
  have h1 := hT.wf.1
  have key : ∀ j, j ≤ T 10 0 → ∀ _ : Unit, 0 < j → (pm_wp X (d + 1) mX7_children 4 [.ref 139, .int (nI o), .int (nI (cnt (chB T o) j)), .int (nI j)] [] (pm_w I A E J B) Q ↔ Q (some (.int (nI (chn T o)))) (pm_w I A E J B)) := by
    have key2 : ∀ j, j ≤ T 10 0 → ∀ _ : Unit, (0 < j → (pm_wp X (d + 1) mX7_children 4 [.ref 139, .int (nI o), .int (nI (cnt (chB T o) j)), .int (nI j)] [] (pm_w I A E J B) Q ↔ Q (some (.int (nI (chn T o)))) (pm_w I A E J B))) ↔ True := by
      refine loop_r (fun _ => ?_) (fun j hj ih _ => ?_)
      · simp only [iff_true]
        intro _
        rw [i_X7_children_4]
        simp (disch := omega) only [i_X7_children_0, i_X7_children_1, i_X7_children_2, i_X7_children_3, i_X7_children_5, i_X7_children_6, i_X7_children_9, i_X7_children_10, i_X7_children_11, i_X7_children_14, i_X7_children_15, i_X7_children_16, i_X7_children_17, i_X7_children_18, i_X7_children_21, i_X7_children_22, i_X7_children_25, i_X7_children_26, i_X7_children_30, i_X7_children_31, i_X7_children_32, i_X7_children_35, i_X7_children_29, i_X7_children_38, i_X7_children_39, i_X7_children_0_e, Option.toList_some, Option.toList_none, List.cons_append, List.nil_append, List.append_nil, ↓reduceIte, q_lt, hR.2.1, Nat.lt_irrefl, chn]
      · simp only [iff_true] at ih ⊢
        intro h0
        have ih := ih () (by omega)
        have e1 : cnt (chB T o) (j + 1) = cnt (chB T o) j + (if chB T o j then 1 else 0) := rfl
        rw [e1, chB] at ih
        rw [i_X7_children_4]
        have hp := hT.wf.2.2 j h0 hj
        by_cases hc : T 1 j = o
        · simp only [h0, hc, decide_true, Bool.and_true, if_true] at ih
          simp (disch := omega) only [i_X7_children_0, i_X7_children_1, i_X7_children_2, i_X7_children_3, i_X7_children_5, i_X7_children_6, i_X7_children_9, i_X7_children_10, i_X7_children_11, i_X7_children_14, i_X7_children_15, i_X7_children_16, i_X7_children_17, i_X7_children_18, i_X7_children_21, i_X7_children_22, i_X7_children_25, i_X7_children_26, i_X7_children_30, i_X7_children_31, i_X7_children_32, i_X7_children_35, i_X7_children_29, i_X7_children_38, i_X7_children_39, i_X7_children_0_e, Option.toList_some, Option.toList_none, List.cons_append, List.nil_append, List.append_nil, ↓reduceIte, q_lt, q_eq, nI_add, hR.2.1, hj, s_nT hR h24, hc]
          exact ih
        · simp only [hc, decide_false, Bool.and_false, if_false, Bool.false_eq_true] at ih
          simp (disch := omega) only [i_X7_children_0, i_X7_children_1, i_X7_children_2, i_X7_children_3, i_X7_children_5, i_X7_children_6, i_X7_children_9, i_X7_children_10, i_X7_children_11, i_X7_children_14, i_X7_children_15, i_X7_children_16, i_X7_children_17, i_X7_children_18, i_X7_children_21, i_X7_children_22, i_X7_children_25, i_X7_children_26, i_X7_children_30, i_X7_children_31, i_X7_children_32, i_X7_children_35, i_X7_children_29, i_X7_children_38, i_X7_children_39, i_X7_children_0_e, Option.toList_some, Option.toList_none, List.cons_append, List.nil_append, List.append_nil, ↓reduceIte, q_lt, q_eq, nI_add, hR.2.1, hj, s_nT hR h24, hc]
          exact ih
    intro j hj u h0
    exact (key2 j hj u).mpr trivial h0
  simp only [i_X7_children_0, i_X7_children_1, i_X7_children_2, i_X7_children_3, i_X7_children_5, i_X7_children_6, i_X7_children_9, i_X7_children_10, i_X7_children_11, i_X7_children_14, i_X7_children_15, i_X7_children_16, i_X7_children_17, i_X7_children_18, i_X7_children_21, i_X7_children_22, i_X7_children_25, i_X7_children_26, i_X7_children_30, i_X7_children_31, i_X7_children_32, i_X7_children_35, i_X7_children_29, i_X7_children_38, i_X7_children_39, i_X7_children_0_e, Option.toList_some, Option.toList_none, List.cons_append, List.nil_append, List.append_nil, ↓reduceIte]
  have := key 1 h1 () (by omega)
  rw [show cnt (chB T o) 1 = 0 from by simp [cnt, chB]] at this
  exact this
end MOE
