/-! the law's loop -/
theorem q_end {L i : Nat} (hL : L ≤ 3584) (hi : i ≤ 4000) : (nI L - nI 7 < nI i) = (L < i + 7) := propext (by
  rw [Int32.lt_iff_toInt_lt, pk_sub_toInt (by omega) (by decide), nI_toInt (by omega)]
  omega)
theorem and_31 (x : Int32) : ∃ k, k < 32 ∧ x &&& nI 31 = nI k := by
  have e : x = nI x.toBitVec.toNat := by
    apply Int32.toBitVec_inj.mp
    simp only [nI, Int32.toBitVec_ofNat', BitVec.ofNat_toNat]
    simp
  refine ⟨x.toBitVec.toNat &&& 31, ?_, ?_⟩
  · have : x.toBitVec.toNat &&& 31 ≤ 31 := Nat.and_le_right
    omega
  · conv => lhs; rw [e]
    rw [nI_and]
theorem pm_w_len {I A : Nat → Nat → Int32} {E : Nat → Nat → Int64} {J : Nat → Int32} {B : Nat → Nat → Int32} : (pm_w I A E J B).length = 147 := by
  unfold pm_w
  rw [List.length_mapIdx]
  rfl
def pm_szS (c : (Nat × Nat) ⊕ (Nat × List (Option Nat))) : Nat := match c with
  | .inl (_, n) => n
  | .inr (c, _) => pm_N c
theorem pm_w_sl {I A : Nat → Nat → Int32} {E : Nat → Nat → Int64} {J : Nat → Int32} {B : Nat → Nat → Int32} : pm_sl (pm_w I A E J B) ≤ 7302249 := by
  have e : ∀ (l : List ((Nat × Nat) ⊕ (Nat × List (Option Nat)))) (k : Nat → Nat), ((l.mapIdx (fun a c => pm_mk I A E J B (k a) c)).map pm_sz) = l.map pm_szS := by
    intro l
    induction l with
    | nil => intro k; rfl
    | cons c l ih =>
      intro k
      rw [List.mapIdx_cons, List.map_cons, List.map_cons]
      congr 1
      · cases c with
        | inl q =>
          obtain ⟨t, n⟩ := q
          unfold pm_mk
          simp only
          split
          · rfl
          · split <;> rfl
        | inr q => obtain ⟨ci, fl⟩ := q; rfl
      · exact ih (fun a => k (a + 1))
  unfold pm_sl pm_w
  rw [e pm_S (fun a => a)]
  decide +kernel
section LOO
variable {X : pm_X} {d : Nat} {u : UInt32} {Q : Option Value → pm_H → Prop}
theorem law_loop (hX : X.1 ≤ 3584) (hQ : ∀ (I A : Nat → Nat → Int32) (E : Nat → Nat → Int64) (J : Nat → Int32) (B : Nat → Nat → Int32), Q (some (.int (bz true))) (pm_w I A E J B)) : ∀ n i, X.1 ≤ i + n → i ≤ 4000 → ∀ (I A : Nat → Nat → Int32) (E : Nat → Nat → Int64) (J : Nat → Int32) (B : Nat → Nat → Int32) (S : St), RelP I A E S → RelM J B S → OkS S → pm_wp X (d + 60) mL_law 18 [.float u, .ref 0, .ref 139, .int (nI i)] [] (pm_w I A E J B) Q := by
  have exit : ∀ i, i ≤ 4000 → X.1 < i + 7 → ∀ (I A : Nat → Nat → Int32) (E : Nat → Nat → Int64) (J : Nat → Int32) (B : Nat → Nat → Int32), pm_wp X (d + 60) mL_law 18 [.float u, .ref 0, .ref 139, .int (nI i)] [] (pm_w I A E J B) Q := by
    intro i hi hc I A E J B
    simp (disch := omega) only [i_L_law_18, i_L_law_19, i_L_law_20, i_L_law_21, i_L_law_23, i_L_law_24, i_L_law_968, i_L_law_969b, q_end, hc, Option.toList_some, Option.toList_none, List.cons_append, List.nil_append, List.append_nil, ↓reduceIte]
    exact hQ I A E J B
  intro n
  induction n with
  | zero =>
    intro i h1 h2 I A E J B S hP hM hS
    exact exit i h2 (by omega) I A E J B
  | succ n ih =>
    intro i h1 h2 I A E J B S hP hM hS
    by_cases hc : X.1 < i + 7
    · exact exit i h2 hc I A E J B
    · have hi : i + 7 ≤ X.1 := by omega
      have hN : lwN X d u i Q := fun I' A' E' J' B' S' hP' hM' hS' => by
        simp only [i_L_law_962, i_L_law_965, nI_add]
        exact ih (i + 7) (by omega) (by omega) I' A' E' J' B' S' hP' hM' hS'
      simp (disch := omega) only [i_L_law_18, i_L_law_19, i_L_law_20, i_L_law_21, i_L_law_23, i_L_law_24, i_L_law_27, i_L_law_28, i_L_law_29, i_L_law_30, i_L_law_32, q_end, hc, Option.toList_some, Option.toList_none, List.cons_append, List.nil_append, List.append_nil, ↓reduceIte]
      obtain ⟨k, hk, e⟩ := and_31 (X.2 i)
      rw [e]
      match k, hk with
      | 0, _ => rw [i_L_law_33_v0]; exact l_source hP hM hS hi hX hN
      | 1, _ => rw [i_L_law_33_v1]; exact l_add hP hM hS hi hX hN
      | 2, _ => rw [i_L_law_33_v2]; exact l_leaf hP hM hS hi hX hN
      | 3, _ => rw [i_L_law_33_v3]; exact l_set hP hM hS hi hX hN
      | 4, _ => rw [i_L_law_33_v4]; exact l_tune hP hM hS hi hX hN
      | 5, _ => rw [i_L_law_33_v5]; exact l_request hP hM hS hi hX hN
      | 6, _ => rw [i_L_law_33_v6]; exact l_limit hP hM hS hi hX hN
      | 7, _ => rw [i_L_law_33_v7]; exact l_remove hP hM hS hi hX hN
      | 8, _ => rw [i_L_law_33_v8]; exact l_mend hP hM hS hi hX hN
      | 9, _ => rw [i_L_law_33_v9]; exact l_shed hP hM hS hi hX hN
      | 10, _ => rw [i_L_law_33_v10]; exact l_wouldShed hP hM hS hi hX hN
      | 11, _ => rw [i_L_law_33_v11]; exact l_feed hP hM hS hi hX hN
      | 12, _ => rw [i_L_law_33_v12]; exact l_lay hP hM hS hi hX hN
      | 13, _ => rw [i_L_law_33_v13]; exact l_reason hP hM hS hi hX hN
      | 14, _ => rw [i_L_law_33_v14]; exact l_rate hP hM hS hi hX hN
      | 15, _ => rw [i_L_law_33_v15]; exact l_again hP hM hS hi hX hN
      | 16, _ => rw [i_L_law_33_v16]; exact l_node hP hM hS hi hX hN
      | 17, _ => rw [i_L_law_33_v17]; exact l_ofLeaf hP hM hS hi hX hN
      | 18, _ => rw [i_L_law_33_v18]; exact l_ofGroup hP hM hS hi hX hN
      | 19, _ => rw [i_L_law_33_v19]; exact l_power hP hM hS hi hX hN
      | 20, _ => rw [i_L_law_33_v20]; exact l_way hP hM hS hi hX hN
      | 21, _ => rw [i_L_law_33_v21]; exact l_ranked hP hM hS hi hX hN
      | 22, _ => rw [i_L_law_33_v22]; exact l_account hP hM hS hi hX hN
      | 23, _ => rw [i_L_law_33_v23]; exact l_back hP hM hS hi hX hN
      | 24, _ => rw [i_L_law_33_v24]; exact l_image hP hM hS hi hX hN
      | 25, _ => rw [i_L_law_33_v25]; exact l_undo hP hM hS hi hX hN
      | 26, _ => rw [i_L_law_33_v26]; exact l_count hP hM hS hi hX hN
      | 27, _ => rw [i_L_law_33_o (Or.inr (by rw [nI_toInt (by decide)]; decide))]; exact hN I A E J B S hP hM hS
      | 28, _ => rw [i_L_law_33_o (Or.inr (by rw [nI_toInt (by decide)]; decide))]; exact hN I A E J B S hP hM hS
      | 29, _ => rw [i_L_law_33_o (Or.inr (by rw [nI_toInt (by decide)]; decide))]; exact hN I A E J B S hP hM hS
      | 30, _ => rw [i_L_law_33_o (Or.inr (by rw [nI_toInt (by decide)]; decide))]; exact hN I A E J B S hP hM hS
      | 31, _ => rw [i_L_law_33_o (Or.inr (by rw [nI_toInt (by decide)]; decide))]; exact hN I A E J B S hP hM hS
      | k + 32, hk => exact absurd hk (by omega)
end LOO
