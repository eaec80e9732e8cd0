/-! numbers -/
theorem q_lt {a b : Nat} (ha : a < 2147483648) (hb : b < 2147483648) : (nI a < nI b) = (a < b) := propext (nI_ltI ha hb)
theorem q_eq {a b : Nat} (ha : a < 2147483648) (hb : b < 2147483648) : (nI a = nI b) = (a = b) := propext (nI_eq ha hb)
theorem q_neg {a : Nat} (ha : a < 2147483648) : (nI a < 0) = False := eq_false (nI_pos ha)
theorem q_pos {a : Nat} (ha : a < 2147483648) : (0 < nI a) = (0 < a) := by rw [← nI_0]; exact q_lt (by decide) ha
theorem q_e0 {a : Nat} (ha : a < 2147483648) : (nI a = 0) = (a = 0) := by rw [← nI_0]; exact q_eq ha (by decide)
theorem q_add1 {a : Nat} : nI a + 1 = nI (a + 1) := nI_1 a
theorem q_sub1 {a : Nat} (h : 0 < a) : nI a + (-1) = nI (a - 1) := by
  obtain ⟨b, rfl⟩ : ∃ b, a = b + 1 := ⟨a - 1, by omega⟩
  rw [pk_m1]; rfl
theorem q_em {a : Nat} (ha : a < 2147483648) {m : Int32} (hm : m < 0) : (nI a = m) = False := eq_false (fun h => nI_pos ha (h ▸ hm))
theorem bz_t : bz true = nI 1 := rfl
theorem bz_f : bz false = nI 0 := rfl
theorem bz_e0 {c : Bool} : (bz c = 0) = (c = false) := by cases c <;> simp [bz] <;> decide
theorem bz_01 {c : Bool} : bz c = 0 ∨ bz c = 1 := by cases c <;> decide
theorem bz_nI {c : Bool} : bz c = nI (if c then 1 else 0) := by cases c <;> rfl
/-- longs -/
theorem l_lt {a b : Nat} (ha : a < 9223372036854775808) (hb : b < 9223372036854775808) : (lN a < lN b) = (a < b) := propext (pk_lLT ha hb)
theorem l_le {a b : Nat} (ha : a < 9223372036854775808) (hb : b < 9223372036854775808) : (lN a ≤ lN b) = (a ≤ b) := propext (pk_lLE ha hb)
theorem l_eq {a b : Nat} (ha : a < 9223372036854775808) (hb : b < 9223372036854775808) : (lN a = lN b) = (a = b) := propext (pk_lEQ ha hb)
theorem l_of {a : Nat} (ha : a < 2147483648) : (nI a).toInt64 = lN a := nI_l ha
theorem l_toI {a : Nat} : (lN a).toInt32 = nI a := lN_i a
theorem l_0 : (0 : Int64) = lN 0 := by decide +kernel
theorem l_ne0 {a : Nat} (ha : a < 9223372036854775808) (h0 : 0 < a) : ¬ lN a = 0 := by
  rw [l_0, l_eq ha (by decide)]; omega
theorem lg_lt {p q : Int64} : (lg_cmp p q < 0) = (p < q) := propext (by
  unfold lg_cmp
  simp only [gt_iff_lt, Int64.lt_iff_toInt_lt, ← Int64.toInt_inj]
  repeat' split
  all_goals (constructor <;> intro hh <;> first | omega | decide | exact absurd hh (by decide)))
theorem lg_gt {p q : Int64} : (0 < lg_cmp p q) = (q < p) := propext (by
  unfold lg_cmp
  simp only [gt_iff_lt, Int64.lt_iff_toInt_lt, ← Int64.toInt_inj]
  repeat' split
  all_goals (constructor <;> intro hh <;> first | omega | decide | exact absurd hh (by decide)))
theorem lg_e0 {p q : Int64} : (lg_cmp p q = 0) = (p = q) := propext (by
  unfold lg_cmp
  simp only [gt_iff_lt, Int64.lt_iff_toInt_lt, ← Int64.toInt_inj]
  repeat' split
  all_goals (constructor <;> intro hh <;> first | omega | decide | exact absurd hh (by decide)))
/-- a whole number within bounds -/
def inR (x : Int32) (lo hi : Nat) : Bool := decide ((lo : Int) ≤ x.toInt) && decide (x.toInt ≤ (hi : Int))
theorem inR_n {k lo hi : Nat} (hk : k < 2147483648) : inR (nI k) lo hi = (decide (lo ≤ k) && decide (k ≤ hi)) := by
  unfold inR
  rw [nI_toInt hk]
  congr 1
  · exact decide_eq_decide.mpr (by omega)
  · exact decide_eq_decide.mpr (by omega)
theorem inR_neg {x : Int32} {lo hi : Nat} (h : x < 0) : inR x lo hi = false := by
  have : x.toInt < 0 := by simpa [Int32.lt_iff_toInt_lt] using h
  unfold inR
  simp only [Bool.and_eq_false_iff, decide_eq_false_iff_not]
  omega
theorem inR_big {x : Int32} {lo hi n : Nat} (h : nI n ≤ x) (hn : n < 2147483648) (hh : hi < n) : inR x lo hi = false := by
  have : (n : Int) ≤ x.toInt := by rw [← nI_toInt hn]; exact Int32.le_iff_toInt_le.mp h
  unfold inR
  simp only [Bool.and_eq_false_iff, decide_eq_false_iff_not]
  omega
theorem inR_t {x : Int32} {lo hi : Nat} (hh : hi < 2147483648) (h : inR x lo hi = true) : ∃ k, lo ≤ k ∧ k ≤ hi ∧ x = nI k := by
  unfold inR at h
  simp only [Bool.and_eq_true, decide_eq_true_eq] at h
  refine ⟨x.toInt.toNat, by omega, by omega, ?_⟩
  rw [← Int32.toInt_inj, nI_toInt (by omega)]
  omega
theorem x_toL {x : Int32} : (x.toInt64).toInt = x.toInt := Int32.toInt_toInt64 x
theorem inR_long {x : Int32} {a b : Nat} (ha : a < 2147483648) (hb : b < 2147483648) : (decide (lN a ≤ x.toInt64) && decide (x.toInt64 ≤ lN b)) = inR x a b := by
  unfold inR
  congr 1
  · refine decide_eq_decide.mpr ?_
    rw [Int64.le_iff_toInt_le, lN_toInt ha, x_toL]
  · refine decide_eq_decide.mpr ?_
    rw [Int64.le_iff_toInt_le, lN_toInt hb, x_toL]
/-- a run of the pure machine is one run -/
theorem pm_det {X : pm_X} {d : Nat} {z : pm_M} {vs : List Value} {G G' : pm_H} {r : Option Value} (h : pm_call X d z vs G (fun r' G'' => r' = r ∧ G'' = G')) (Q : Option Value → pm_H → Prop) : pm_call X d z vs G Q ↔ Q r G' := by
  obtain ⟨n, r1, G1, h1, rfl, rfl⟩ := h
  constructor
  · rintro ⟨m, r2, G2, h2, h3⟩
    have e1 := pm_run_le X (Nat.le_add_right n m) h1
    have e2 := pm_run_le X (Nat.le_add_left m n) h2
    rw [e1] at e2
    cases e2
    exact h3
  · intro q
    exact ⟨n, r1, G1, h1, q⟩
