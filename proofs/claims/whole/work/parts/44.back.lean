/-! back, image, undo -/
def o_back (S : St) : Int32 × St := match S.2.1.getLast? with
  | none => (-3, S)
  | some t => (nI (S.2.1.length - 1), (t, S.2.1.dropLast, S.2.2))
def o_image (S : St) : Int32 × St := (nI (S.1 10 0), (S.1, S.2.1, some S.1, S.2.2.2))
def o_undo (S : St) : Int32 × St := match S.2.2.1 with
  | none => (-3, S)
  | some t => (nI (t 10 0), (t, [], some t, S.2.2.2))
theorem ok_back {S : St} (h : OkS S) : OkS (o_back S).2 := by
  unfold o_back
  cases hl : S.2.1.getLast? with
  | none => exact h
  | some t => exact ⟨h.2.1 t (List.mem_of_getLast? hl), fun q hq => h.2.1 q ((List.dropLast_sublist _).mem hq), h.2.2⟩
theorem ok_image {S : St} (h : OkS S) : OkS (o_image S).2 := ⟨h.1, h.2.1, fun t ht => by cases ht; exact h.1⟩
theorem ok_undo {S : St} (h : OkS S) : OkS (o_undo S).2 := by
  unfold o_undo
  cases hl : S.2.2.1 with
  | none => exact h
  | some t => exact ⟨h.2.2 t hl, fun q hq => by simp at hq, fun q hq => by cases hq; exact h.2.2 t hl⟩
def cqR (B : Nat → Nat → Int32) (m n : Nat) : Nat → Nat → Int32 := fun a k => if a = 140 ∧ k < n then B 141 (246 * m + k) else B a k
theorem cqR_s {B : Nat → Nat → Int32} {m n : Nat} : up2 (cqR B m n) 140 n (B 141 (246 * m + n)) = cqR B m (n + 1) := by
  funext a k
  unfold up2 cqR
  by_cases ha : a = 140
  · subst ha
    by_cases hk : k = n
    · subst hk; simp
    · by_cases hl : k < n
      · simp [hk, hl, show k < n + 1 by omega]
      · simp [hk, hl, show ¬ k < n + 1 by omega]
  · simp [ha]
theorem getLast_at {α : Type} {l : List α} {t : α} (h : l.getLast? = some t) : l ≠ [] ∧ l[l.length - 1]? = some t := by
  constructor
  · rintro rfl; simp at h
  · rw [List.getLast?_eq_getElem?] at h; exact h
theorem dropLast_at {α : Type} {l : List α} {i : Nat} {t : α} (h : l.dropLast[i]? = some t) : i < l.length - 1 ∧ l[i]? = some t := by
  have h1 := (List.getElem?_eq_some_iff.mp h).1
  rw [List.length_dropLast] at h1
  refine ⟨h1, ?_⟩
  rw [List.getElem?_dropLast] at h
  rwa [if_pos h1] at h
section BCK
variable {X : pm_X} {d : Nat} {G : pm_H} {Q : Option Value → pm_H → Prop} {I A : Nat → Nat → Int32} {E : Nat → Nat → Int64} {J : Nat → Int32} {B : Nat → Nat → Int32} {S : St}
theorem m_back (hM : RelM J B S) (hQ : ∀ J' B', RelM J' B' (o_back S).2 → Q (some (.int (o_back S).1)) (pm_w I A E J' B')) : pm_call X d mX7_back [.ref 139] (pm_w I A E J B) Q := by
  obtain ⟨hl6, hJ, hr⟩ := hM.2.1
  unfold o_back at hQ
  cases hl : S.2.1.getLast? with
  | none =>
    rw [hl] at hQ
    have : S.2.1 = [] := List.getLast?_eq_none_iff.mp hl
    rw [this] at hJ
    simp (disch := omega) only [i_X7_back_0, i_X7_back_1, i_X7_back_4, i_X7_back_7, i_X7_back_9, i_X7_back_10, i_X7_back_11, i_X7_back_12, i_X7_back_15, i_X7_back_16, i_X7_back_17, i_X7_back_20, i_X7_back_21, i_X7_back_23, i_X7_back_26, i_X7_back_29, i_X7_back_30, i_X7_back_33, i_X7_back_34, i_X7_back_35, i_X7_back_38, i_X7_back_41, i_X7_back_42, i_X7_back_45, i_X7_back_46, i_X7_back_47, i_X7_back_48, i_X7_back_49, i_X7_back_50, i_X7_back_53, i_X7_back_56, i_X7_back_57, i_X7_back_60, i_X7_back_0_e, Option.toList_some, Option.toList_none, List.cons_append, List.nil_append, List.append_nil, ↓reduceIte, hJ, List.length_nil, n0_e0]
    exact hQ J B hM
  | some t =>
    rw [hl] at hQ
    obtain ⟨hne, hat⟩ := getLast_at hl
    have hpos : 0 < S.2.1.length := List.length_pos_iff.mpr hne
    have hp0 : ¬ S.2.1.length = 0 := by omega
    have hJ5 : upd J 2 (nI (S.2.1.length - 1)) 2 = nI (S.2.1.length - 1) := by simp [upd]
    have key : ∀ j, j ≤ 246 → ∀ _ : Unit, pm_wp X d mX7_back 22 [.ref 139, .int (nI j)] [] (pm_w I A E (upd J 2 (nI (S.2.1.length - 1))) (cqR B (S.2.1.length - 1) j)) Q ↔ Q (some (.int (nI (S.2.1.length - 1)))) (pm_w I A E (upd J 2 (nI (S.2.1.length - 1))) (cqR B (S.2.1.length - 1) 246)) := by
      refine loop_r (fun _ => ?_) (fun j hj ih _ => ?_)
      · rw [i_X7_back_22]
        simp (disch := omega) only [i_X7_back_0, i_X7_back_1, i_X7_back_4, i_X7_back_7, i_X7_back_9, i_X7_back_10, i_X7_back_11, i_X7_back_12, i_X7_back_15, i_X7_back_16, i_X7_back_17, i_X7_back_20, i_X7_back_21, i_X7_back_23, i_X7_back_26, i_X7_back_29, i_X7_back_30, i_X7_back_33, i_X7_back_34, i_X7_back_35, i_X7_back_38, i_X7_back_41, i_X7_back_42, i_X7_back_45, i_X7_back_46, i_X7_back_47, i_X7_back_48, i_X7_back_49, i_X7_back_50, i_X7_back_53, i_X7_back_56, i_X7_back_57, i_X7_back_60, i_X7_back_0_e, Option.toList_some, Option.toList_none, List.cons_append, List.nil_append, List.append_nil, ↓reduceIte, q_lt, Nat.lt_irrefl, hJ5]
      · rw [i_X7_back_22]
        have e : cqR B (S.2.1.length - 1) j 141 (246 * (S.2.1.length - 1) + j) = B 141 (246 * (S.2.1.length - 1) + j) := by simp [cqR]
        simp (disch := omega) only [i_X7_back_0, i_X7_back_1, i_X7_back_4, i_X7_back_7, i_X7_back_9, i_X7_back_10, i_X7_back_11, i_X7_back_12, i_X7_back_15, i_X7_back_16, i_X7_back_17, i_X7_back_20, i_X7_back_21, i_X7_back_23, i_X7_back_26, i_X7_back_29, i_X7_back_30, i_X7_back_33, i_X7_back_34, i_X7_back_35, i_X7_back_38, i_X7_back_41, i_X7_back_42, i_X7_back_45, i_X7_back_46, i_X7_back_47, i_X7_back_48, i_X7_back_49, i_X7_back_50, i_X7_back_53, i_X7_back_56, i_X7_back_57, i_X7_back_60, i_X7_back_0_e, Option.toList_some, Option.toList_none, List.cons_append, List.nil_append, List.append_nil, ↓reduceIte, q_lt, hj, nI_add, pk_mul, hJ5, e, cqR_s]
        exact ih ()
    simp (disch := omega) only [i_X7_back_0, i_X7_back_1, i_X7_back_4, i_X7_back_7, i_X7_back_9, i_X7_back_10, i_X7_back_11, i_X7_back_12, i_X7_back_15, i_X7_back_16, i_X7_back_17, i_X7_back_20, i_X7_back_21, i_X7_back_23, i_X7_back_26, i_X7_back_29, i_X7_back_30, i_X7_back_33, i_X7_back_34, i_X7_back_35, i_X7_back_38, i_X7_back_41, i_X7_back_42, i_X7_back_45, i_X7_back_46, i_X7_back_47, i_X7_back_48, i_X7_back_49, i_X7_back_50, i_X7_back_53, i_X7_back_56, i_X7_back_57, i_X7_back_60, i_X7_back_0_e, Option.toList_some, Option.toList_none, List.cons_append, List.nil_append, List.append_nil, ↓reduceIte, hJ, q_e0, hp0, pk_sub]
    have k0 := key 0 (by decide) ()
    rw [show cqR B (S.2.1.length - 1) 0 = B from by funext a k; simp [cqR]] at k0
    rw [k0]
    have hB : ∀ a, a ≠ 140 → cqR B (S.2.1.length - 1) 246 a = B a := fun a ha => by funext k; simp [cqR, ha]
    have ht := hr _ t hat
    refine hQ _ _ ⟨RelT.congr ht.1 (fun k hk => ?_) ht.2, ⟨?_, ?_, fun i q hi => ?_⟩, ?_, ?_, ?_⟩
    · simp [cqR, hk]
    · rw [List.length_dropLast]; omega
    · rw [List.length_dropLast]; exact hJ5
    · rw [hB 141 (by decide)]; exact hr i q (dropLast_at hi).2
    · have := hM.2.2.1
      show RelSM _ _ S.2.2.1
      cases hs : S.2.2.1 with
      | none => rw [hs] at this; exact this
      | some t => rw [hs] at this; exact ⟨this.1, this.2.1, by rw [hB 142 (by decide)]; exact this.2.2⟩
    · exact ⟨hM.2.2.2.1.1, hM.2.2.2.1.2.1, by rw [hB 144 (by decide)]; exact hM.2.2.2.1.2.2⟩
    · exact hM.2.2.2.2
theorem m_image (hM : RelM J B S) (h24 : S.1 10 0 ≤ 24) (hQ : ∀ J' B', RelM J' B' (o_image S).2 → Q (some (.int (o_image S).1)) (pm_w I A E J' B')) : pm_call X d mX7_image [.ref 139] (pm_w I A E J B) Q := by
  have key : ∀ j, j ≤ 246 → ∀ _ : Unit, pm_wp X d mX7_image 7 [.ref 139, .int (nI j)] [] (pm_w I A E (upd J 4 (bz true)) (cpR B 142 140 j)) Q ↔ Q (some (.int (B 140 1))) (pm_w I A E (upd J 4 (bz true)) (cpR B 142 140 246)) := by
    refine loop_r (fun _ => ?_) (fun j hj ih _ => ?_)
    · rw [i_X7_image_7]
      have e : cpR B 142 140 246 140 1 = B 140 1 := by rw [cpR_ne (by decide)]
      simp (disch := omega) only [i_X7_image_0, i_X7_image_1, i_X7_image_2, i_X7_image_2b, i_X7_image_2c, i_X7_image_5, i_X7_image_6, i_X7_image_8, i_X7_image_11, i_X7_image_14, i_X7_image_15, i_X7_image_18, i_X7_image_19, i_X7_image_20, i_X7_image_23, i_X7_image_24, i_X7_image_25, i_X7_image_26, i_X7_image_29, i_X7_image_32, i_X7_image_33, i_X7_image_36, i_X7_image_37, i_X7_image_38, i_X7_image_0_e, Option.toList_some, Option.toList_none, List.cons_append, List.nil_append, List.append_nil, ↓reduceIte, q_lt, Nat.lt_irrefl, e]
    · rw [i_X7_image_7]
      have e : cpR B 142 140 j 140 j = B 140 j := by rw [cpR_ne (by decide)]
      simp (disch := omega) only [i_X7_image_0, i_X7_image_1, i_X7_image_2, i_X7_image_2b, i_X7_image_2c, i_X7_image_5, i_X7_image_6, i_X7_image_8, i_X7_image_11, i_X7_image_14, i_X7_image_15, i_X7_image_18, i_X7_image_19, i_X7_image_20, i_X7_image_23, i_X7_image_24, i_X7_image_25, i_X7_image_26, i_X7_image_29, i_X7_image_32, i_X7_image_33, i_X7_image_36, i_X7_image_37, i_X7_image_38, i_X7_image_0_e, Option.toList_some, Option.toList_none, List.cons_append, List.nil_append, List.append_nil, ↓reduceIte, q_lt, hj, nI_add, e, cpR_s]
      exact ih ()
  simp only [i_X7_image_0, i_X7_image_1, i_X7_image_2, i_X7_image_2b, i_X7_image_2c, i_X7_image_5, i_X7_image_6, i_X7_image_8, i_X7_image_11, i_X7_image_14, i_X7_image_15, i_X7_image_18, i_X7_image_19, i_X7_image_20, i_X7_image_23, i_X7_image_24, i_X7_image_25, i_X7_image_26, i_X7_image_29, i_X7_image_32, i_X7_image_33, i_X7_image_36, i_X7_image_37, i_X7_image_38, i_X7_image_0_e, Option.toList_some, Option.toList_none, List.cons_append, List.nil_append, List.append_nil, ↓reduceIte]
  have k0 := key 0 (by decide) ()
  rw [cpR_0] at k0
  rw [k0, hM.1.2.1]
  refine hQ _ _ ⟨by rw [cpR_ne (by decide)]; exact hM.1, ⟨hM.2.1.1, hM.2.1.2.1, by rw [cpR_ne (by decide)]; exact hM.2.1.2.2⟩, ⟨rfl, h24, RelT.congr h24 (fun k hk => cpR_at hk) hM.1⟩, ⟨hM.2.2.2.1.1, hM.2.2.2.1.2.1, by rw [cpR_ne (by decide)]; exact hM.2.2.2.1.2.2⟩, hM.2.2.2.2⟩
theorem m_undo (hM : RelM J B S) (hQ : ∀ J' B', RelM J' B' (o_undo S).2 → Q (some (.int (o_undo S).1)) (pm_w I A E J' B')) : pm_call X d mX7_undo [.ref 139] (pm_w I A E J B) Q := by
  have hs := hM.2.2.1
  unfold o_undo at hQ
  cases hl : S.2.2.1 with
  | none =>
    rw [hl] at hQ hs
    have h4 : J 4 = bz false := hs
    simp (disch := omega) only [i_X7_undo_0, i_X7_undo_1, i_X7_undo_4, i_X7_undo_7, i_X7_undo_9, i_X7_undo_10, i_X7_undo_11, i_X7_undo_13, i_X7_undo_16, i_X7_undo_19, i_X7_undo_20, i_X7_undo_23, i_X7_undo_24, i_X7_undo_25, i_X7_undo_28, i_X7_undo_29, i_X7_undo_30, i_X7_undo_31, i_X7_undo_34, i_X7_undo_37, i_X7_undo_38, i_X7_undo_39, i_X7_undo_42, i_X7_undo_43, i_X7_undo_46, i_X7_undo_47, i_X7_undo_48, i_X7_undo_0_e, Option.toList_some, Option.toList_none, List.cons_append, List.nil_append, List.append_nil, ↓reduceIte, h4, bz_e0]
    exact hQ J B hM
  | some t =>
    rw [hl] at hQ hs
    obtain ⟨h4, h24, ht⟩ := hs
    have key : ∀ j, j ≤ 246 → ∀ _ : Unit, pm_wp X d mX7_undo 12 [.ref 139, .int (nI j)] [] (pm_w I A E J (cpR B 140 142 j)) Q ↔ Q (some (.int (B 142 1))) (pm_w I A E (upd J 2 (nI 0)) (cpR B 140 142 246)) := by
      refine loop_r (fun _ => ?_) (fun j hj ih _ => ?_)
      · rw [i_X7_undo_12]
        have e : cpR B 140 142 246 140 1 = B 142 1 := cpR_at (by decide)
        simp (disch := omega) only [i_X7_undo_0, i_X7_undo_1, i_X7_undo_4, i_X7_undo_7, i_X7_undo_9, i_X7_undo_10, i_X7_undo_11, i_X7_undo_13, i_X7_undo_16, i_X7_undo_19, i_X7_undo_20, i_X7_undo_23, i_X7_undo_24, i_X7_undo_25, i_X7_undo_28, i_X7_undo_29, i_X7_undo_30, i_X7_undo_31, i_X7_undo_34, i_X7_undo_37, i_X7_undo_38, i_X7_undo_39, i_X7_undo_42, i_X7_undo_43, i_X7_undo_46, i_X7_undo_47, i_X7_undo_48, i_X7_undo_0_e, Option.toList_some, Option.toList_none, List.cons_append, List.nil_append, List.append_nil, ↓reduceIte, q_lt, Nat.lt_irrefl, e]
      · rw [i_X7_undo_12]
        have e : cpR B 140 142 j 142 j = B 142 j := by rw [cpR_ne (by decide)]
        simp (disch := omega) only [i_X7_undo_0, i_X7_undo_1, i_X7_undo_4, i_X7_undo_7, i_X7_undo_9, i_X7_undo_10, i_X7_undo_11, i_X7_undo_13, i_X7_undo_16, i_X7_undo_19, i_X7_undo_20, i_X7_undo_23, i_X7_undo_24, i_X7_undo_25, i_X7_undo_28, i_X7_undo_29, i_X7_undo_30, i_X7_undo_31, i_X7_undo_34, i_X7_undo_37, i_X7_undo_38, i_X7_undo_39, i_X7_undo_42, i_X7_undo_43, i_X7_undo_46, i_X7_undo_47, i_X7_undo_48, i_X7_undo_0_e, Option.toList_some, Option.toList_none, List.cons_append, List.nil_append, List.append_nil, ↓reduceIte, q_lt, hj, nI_add, e, cpR_s]
        exact ih ()
    simp (disch := omega) only [i_X7_undo_0, i_X7_undo_1, i_X7_undo_4, i_X7_undo_7, i_X7_undo_9, i_X7_undo_10, i_X7_undo_11, i_X7_undo_13, i_X7_undo_16, i_X7_undo_19, i_X7_undo_20, i_X7_undo_23, i_X7_undo_24, i_X7_undo_25, i_X7_undo_28, i_X7_undo_29, i_X7_undo_30, i_X7_undo_31, i_X7_undo_34, i_X7_undo_37, i_X7_undo_38, i_X7_undo_39, i_X7_undo_42, i_X7_undo_43, i_X7_undo_46, i_X7_undo_47, i_X7_undo_48, i_X7_undo_0_e, Option.toList_some, Option.toList_none, List.cons_append, List.nil_append, List.append_nil, ↓reduceIte, h4, bz_e0, reduceCtorEq]
    have k0 := key 0 (by decide) ()
    rw [cpR_0] at k0
    rw [k0, ht.2.1]
    refine hQ _ _ ⟨RelT.congr h24 (fun k hk => cpR_at hk) ht, ⟨by simp, by simp [upd], fun i q hi => by simp at hi⟩, ⟨h4, h24, by rw [cpR_ne (by decide)]; exact ht⟩, ⟨hM.2.2.2.1.1, hM.2.2.2.1.2.1, by rw [cpR_ne (by decide)]; exact hM.2.2.2.1.2.2⟩, hM.2.2.2.2⟩
theorem t_rdP (hP : RelTP I A 1 S.1) (hT : okT S.1) (hO : RelO I A S.2.1 S.2.2.1 S.2.2.2.1 S.2.2.2.2) (hQ : ∀ A' E', RelP I A' E' S → Q none (pm_w I A' E' J B)) : pm_call X (d + 3) mX0_read [.ref 37, .ref 1] (pm_w I A E J B) Q :=
  t_reada hP hT (fun A' E' h1 h2 _ => hQ A' E' ⟨hP.fr ⟨rfl, rfl⟩ (fun c a b => h2 c (by omega)), h1, hO.fr (fun _ _ _ => rfl) (fun c a => h2 c (by omega))⟩)
theorem p_back (hM : RelP I A E S) (hS : OkS S) (hQ : ∀ I' A' E', RelP I' A' E' (o_back S).2 → Q (some (.int (o_back S).1)) (pm_w I' A' E' J B)) : pm_call X (d + 4) mX6_back [.ref 0] (pm_w I A E J B) Q := by
  obtain ⟨hl6, hJ, m, hm, hm2, hr⟩ := hM.2.2.1
  have hok := ok_back hS
  unfold o_back at hQ hok
  cases hl : S.2.1.getLast? with
  | none =>
    rw [hl] at hQ
    have : S.2.1 = [] := List.getLast?_eq_none_iff.mp hl
    rw [this] at hJ
    simp (disch := omega) only [i_X6_back_0, i_X6_back_1, i_X6_back_4, i_X6_back_5, i_X6_back_8, i_X6_back_11, i_X6_back_14, i_X6_back_16, i_X6_back_17, i_X6_back_18, i_X6_back_21, i_X6_back_22, i_X6_back_25, i_X6_back_28, i_X6_back_29, i_X6_back_32, i_X6_back_35, i_X6_back_0_e, Option.toList_some, Option.toList_none, List.cons_append, List.nil_append, List.append_nil, ↓reduceIte, i_X1_pop_0, i_X1_pop_1, i_X1_pop_4, i_X1_pop_7, i_X1_pop_8, i_X1_pop_8b, i_X1_pop_8c, i_X1_pop_9, i_X1_pop_10, i_X1_pop_11, i_X1_pop_14, i_X1_pop_15, i_X1_pop_18, i_X1_pop_19, i_X1_pop_22, i_X1_pop_23, i_X1_pop_24, i_X1_pop_27, i_X1_pop_30, i_X1_pop_31, i_X1_pop_34, i_X1_pop_35, i_X1_pop_36, i_X1_pop_40, i_X1_pop_43, i_X1_pop_44, i_X1_pop_45, i_X1_pop_48, i_X1_pop_49, i_X1_pop_50, i_X1_pop_53, i_X1_pop_54, i_X1_pop_54b, i_X1_pop_54c, i_X1_pop_39, i_X1_pop_0_e, Option.toList_some, Option.toList_none, List.cons_append, List.nil_append, List.append_nil, ↓reduceIte, hJ, List.length_nil, n0_e0]
    exact hQ I A E hM
  | some t =>
    rw [hl] at hQ hok
    obtain ⟨hne, hat⟩ := getLast_at hl
    have hpos : 0 < S.2.1.length := List.length_pos_iff.mpr hne
    have hp0 : ¬ S.2.1.length = 0 := by omega
    have ht := hr _ t hat
    rw [show (m + 7 + (S.2.1.length - 1) - S.2.1.length) % 6 = m by omega] at ht
    simp (disch := first | omega | assumption) only [i_X6_back_0, i_X6_back_1, i_X6_back_4, i_X6_back_5, i_X6_back_8, i_X6_back_11, i_X6_back_14, i_X6_back_16, i_X6_back_17, i_X6_back_18, i_X6_back_21, i_X6_back_22, i_X6_back_25, i_X6_back_28, i_X6_back_29, i_X6_back_32, i_X6_back_35, i_X6_back_0_e, Option.toList_some, Option.toList_none, List.cons_append, List.nil_append, List.append_nil, ↓reduceIte, i_X1_pop_0, i_X1_pop_1, i_X1_pop_4, i_X1_pop_7, i_X1_pop_8, i_X1_pop_8b, i_X1_pop_8c, i_X1_pop_9, i_X1_pop_10, i_X1_pop_11, i_X1_pop_14, i_X1_pop_15, i_X1_pop_18, i_X1_pop_19, i_X1_pop_22, i_X1_pop_23, i_X1_pop_24, i_X1_pop_27, i_X1_pop_30, i_X1_pop_31, i_X1_pop_34, i_X1_pop_35, i_X1_pop_36, i_X1_pop_40, i_X1_pop_43, i_X1_pop_44, i_X1_pop_45, i_X1_pop_48, i_X1_pop_49, i_X1_pop_50, i_X1_pop_53, i_X1_pop_54, i_X1_pop_54b, i_X1_pop_54c, i_X1_pop_39, i_X1_pop_0_e, Option.toList_some, Option.toList_none, List.cons_append, List.nil_append, List.append_nil, ↓reduceIte, hJ, q_e0, hp0, hm2]
    refine t_take (d := d + 2) (by rfl) (isT_k hm) (by omega) ht hok.1.1.wf.2.1 (fun I1 A1 hP1 hI1 hA1 => ?_)
    have g1 : I1 57 1 = nI m := by rw [hI1 57 1 (by omega)]; exact hm2
    have g2 : I1 57 2 = nI S.2.1.length := by rw [hI1 57 2 (by omega)]; exact hJ
    have fin : ∀ m', m' < 6 → m' = (m + 5) % 6 → pm_call X (d + 3) mX0_read [.ref 37, .ref 1] (pm_w (up2 (up2 I1 57 1 (nI m')) 57 2 (nI (S.2.1.length - 1))) A1 E J B) (fun r G' => pm_wp X (d + 4) mX6_back 28 [.ref 0] r.toList G' Q) := by
      intro m' hm' hme
      refine t_rdP (d := d) (S := (t, S.2.1.dropLast, S.2.2)) (hP1.fr ⟨?_, ?_⟩ (fun _ _ _ => rfl)) hok.1.1 ⟨⟨?_, ?_, m', hm', ?_, fun i q hi => ?_⟩, ?_, ?_, ?_⟩ (fun A2 E2 h2 => ?_)
      · rw [up2_na _ _ (by omega), up2_na _ _ (by omega)]
      · rw [up2_na _ _ (by omega), up2_na _ _ (by omega)]
      · rw [List.length_dropLast]; omega
      · rw [List.length_dropLast]; exact up2_s _ _ _ _
      · rw [up2_n _ _ (by omega)]; exact up2_s _ _ _ _
      · obtain ⟨i1, i2⟩ := dropLast_at hi
        rw [List.length_dropLast, show (m' + 7 + i - (S.2.1.length - 1)) % 6 = (m + 7 + i - S.2.1.length) % 6 by omega]
        refine (hr i q i2).fr ⟨?_, ?_⟩ (fun c a b => hA1 c (by omega))
        · rw [up2_na _ _ (by omega), up2_na _ _ (by omega), hI1 _ _ (by omega)]
        · rw [up2_na _ _ (by omega), up2_na _ _ (by omega), hI1 _ _ (by omega)]
      · exact hM.2.2.2.1.fr (fun k => by rw [up2_na _ _ (by omega), up2_na _ _ (by omega), hI1 _ _ (by omega)]) (fun k => by rw [up2_na _ _ (by omega), up2_na _ _ (by omega), hI1 _ _ (by omega)]) (fun c a b => hA1 c (by omega))
      · exact hM.2.2.2.2.1.fr (by rw [up2_na _ _ (by omega), up2_na _ _ (by omega), hI1 _ _ (by omega)]) (hA1 132 (by omega))
      · rw [up2_na _ _ (by omega), up2_na _ _ (by omega), hI1 _ _ (by omega)]; exact hM.2.2.2.2.2
      · have e := h2.2.2.1.2.1
        rw [List.length_dropLast] at e
        simp (disch := omega) only [i_X6_back_0, i_X6_back_1, i_X6_back_4, i_X6_back_5, i_X6_back_8, i_X6_back_11, i_X6_back_14, i_X6_back_16, i_X6_back_17, i_X6_back_18, i_X6_back_21, i_X6_back_22, i_X6_back_25, i_X6_back_28, i_X6_back_29, i_X6_back_32, i_X6_back_35, i_X6_back_0_e, Option.toList_some, Option.toList_none, List.cons_append, List.nil_append, List.append_nil, ↓reduceIte, e]
        exact hQ _ A2 E2 h2
    by_cases hm0 : 0 < m
    · have u2 : up2 I1 57 1 (nI (m - 1)) 57 2 = nI S.2.1.length := by rw [up2_n _ _ (by omega)]; exact g2
      simp (disch := first | omega | assumption) only [i_X6_back_0, i_X6_back_1, i_X6_back_4, i_X6_back_5, i_X6_back_8, i_X6_back_11, i_X6_back_14, i_X6_back_16, i_X6_back_17, i_X6_back_18, i_X6_back_21, i_X6_back_22, i_X6_back_25, i_X6_back_29, i_X6_back_32, i_X6_back_35, i_X6_back_0_e, Option.toList_some, Option.toList_none, List.cons_append, List.nil_append, List.append_nil, ↓reduceIte, i_X1_pop_0, i_X1_pop_1, i_X1_pop_4, i_X1_pop_7, i_X1_pop_8, i_X1_pop_8b, i_X1_pop_8c, i_X1_pop_9, i_X1_pop_10, i_X1_pop_11, i_X1_pop_14, i_X1_pop_15, i_X1_pop_18, i_X1_pop_19, i_X1_pop_22, i_X1_pop_23, i_X1_pop_24, i_X1_pop_27, i_X1_pop_30, i_X1_pop_31, i_X1_pop_34, i_X1_pop_35, i_X1_pop_36, i_X1_pop_40, i_X1_pop_43, i_X1_pop_44, i_X1_pop_45, i_X1_pop_48, i_X1_pop_49, i_X1_pop_50, i_X1_pop_53, i_X1_pop_54, i_X1_pop_54b, i_X1_pop_54c, i_X1_pop_39, i_X1_pop_0_e, Option.toList_some, Option.toList_none, List.cons_append, List.nil_append, List.append_nil, ↓reduceIte, g1, q_pos, hm0, pk_sub, u2, n1_e0, bz_e0, reduceCtorEq]
      exact fin (m - 1) (by omega) (by omega)
    · have u2 : up2 I1 57 1 (nI 5) 57 2 = nI S.2.1.length := by rw [up2_n _ _ (by omega)]; exact g2
      simp (disch := first | omega | assumption) only [i_X6_back_0, i_X6_back_1, i_X6_back_4, i_X6_back_5, i_X6_back_8, i_X6_back_11, i_X6_back_14, i_X6_back_16, i_X6_back_17, i_X6_back_18, i_X6_back_21, i_X6_back_22, i_X6_back_25, i_X6_back_29, i_X6_back_32, i_X6_back_35, i_X6_back_0_e, Option.toList_some, Option.toList_none, List.cons_append, List.nil_append, List.append_nil, ↓reduceIte, i_X1_pop_0, i_X1_pop_1, i_X1_pop_4, i_X1_pop_7, i_X1_pop_8, i_X1_pop_8b, i_X1_pop_8c, i_X1_pop_9, i_X1_pop_10, i_X1_pop_11, i_X1_pop_14, i_X1_pop_15, i_X1_pop_18, i_X1_pop_19, i_X1_pop_22, i_X1_pop_23, i_X1_pop_24, i_X1_pop_27, i_X1_pop_30, i_X1_pop_31, i_X1_pop_34, i_X1_pop_35, i_X1_pop_36, i_X1_pop_40, i_X1_pop_43, i_X1_pop_44, i_X1_pop_45, i_X1_pop_48, i_X1_pop_49, i_X1_pop_50, i_X1_pop_53, i_X1_pop_54, i_X1_pop_54b, i_X1_pop_54c, i_X1_pop_39, i_X1_pop_0_e, Option.toList_some, Option.toList_none, List.cons_append, List.nil_append, List.append_nil, ↓reduceIte, g1, q_pos, hm0, pk_sub, u2, n1_e0, bz_e0, reduceCtorEq]
      exact fin 5 (by omega) (by omega)
theorem p_image (hM : RelP I A E S) (hS : OkS S) (hQ : ∀ I' A' E', RelP I' A' E' (o_image S).2 → Q (some (.int (o_image S).1)) (pm_w I' A' E' J B)) : pm_call X (d + 1) mX6_image [.ref 0] (pm_w I A E J B) Q := by
  simp only [i_X6_image_0, i_X6_image_1, i_X6_image_4, i_X6_image_5, i_X6_image_8, i_X6_image_11, i_X6_image_12, i_X6_image_13, i_X6_image_13b, i_X6_image_13c, i_X6_image_16, i_X6_image_17, i_X6_image_20, i_X6_image_23, i_X6_image_0_e, Option.toList_some, Option.toList_none, List.cons_append, List.nil_append, List.append_nil, ↓reduceIte]
  refine t_take (d := d) (by rfl) (by rfl) (by decide) hM.1 hS.1.1.wf.2.1 (fun I1 A1 hP1 hI1 hA1 => ?_)
  have e : up2 I1 0 9 (bz true) 1 12 = nI (S.1 10 0) := by rw [up2_na _ _ (by omega), hI1 _ _ (by omega)]; exact hM.1.2.1
  simp only [i_X6_image_0, i_X6_image_1, i_X6_image_4, i_X6_image_5, i_X6_image_8, i_X6_image_11, i_X6_image_12, i_X6_image_13, i_X6_image_13b, i_X6_image_13c, i_X6_image_16, i_X6_image_17, i_X6_image_20, i_X6_image_23, i_X6_image_0_e, Option.toList_some, Option.toList_none, List.cons_append, List.nil_append, List.append_nil, ↓reduceIte, e]
  obtain ⟨f1, f2, f3, f4⟩ := hM.2.1
  refine hQ _ A1 E ⟨hM.1.fr ⟨by rw [up2_na _ _ (by omega), hI1 _ _ (by omega)], by rw [up2_na _ _ (by omega), hI1 _ _ (by omega)]⟩ (fun c a b => hA1 c (by omega)), ⟨f1, fun k hk => by rw [hA1 _ (by omega), hA1 _ (by omega)]; exact f2 k hk, fun k hk => by rw [hA1 _ (by omega), hA1 _ (by omega), hA1 _ (by omega)]; exact f3 k hk, fun k hk => by rw [hA1 _ (by omega), hA1 _ (by omega)]; exact f4 k hk⟩, hM.2.2.1.fr (fun c k a b => by rw [up2_na _ _ (by omega), hI1 _ _ (by omega)]) (fun c a b => hA1 c (by omega)), ⟨up2_s _ _ _ _, hP1.fr ⟨by rw [up2_na _ _ (by omega)], by rw [up2_na _ _ (by omega)]⟩ (fun _ _ _ => rfl)⟩, hM.2.2.2.2.1.fr (by rw [up2_na _ _ (by omega), hI1 _ _ (by omega)]) (hA1 _ (by omega)), ?_⟩
  rw [up2_n _ _ (by omega), hI1 _ _ (by omega)]
  exact hM.2.2.2.2.2
theorem p_undo (hM : RelP I A E S) (hS : OkS S) (hQ : ∀ I' A' E', RelP I' A' E' (o_undo S).2 → Q (some (.int (o_undo S).1)) (pm_w I' A' E' J B)) : pm_call X (d + 4) mX6_undo [.ref 0] (pm_w I A E J B) Q := by
  have hs := hM.2.2.2.1
  have hok := ok_undo hS
  unfold o_undo at hQ hok
  cases hl : S.2.2.1 with
  | none =>
    rw [hl] at hQ hs
    have h4 : I 0 9 = bz false := hs
    simp (disch := omega) only [i_X6_undo_0, i_X6_undo_1, i_X6_undo_4, i_X6_undo_7, i_X6_undo_9, i_X6_undo_10, i_X6_undo_11, i_X6_undo_14, i_X6_undo_15, i_X6_undo_18, i_X6_undo_21, i_X6_undo_22, i_X6_undo_25, i_X6_undo_26, i_X6_undo_29, i_X6_undo_32, i_X6_undo_33, i_X6_undo_36, i_X6_undo_37, i_X6_undo_40, i_X6_undo_41, i_X6_undo_44, i_X6_undo_47, i_X6_undo_0_e, Option.toList_some, Option.toList_none, List.cons_append, List.nil_append, List.append_nil, ↓reduceIte, h4, bz_e0]
    exact hQ I A E hM
  | some t =>
    rw [hl] at hQ hs hok
    obtain ⟨h4, ht⟩ := hs
    obtain ⟨_, _, m, hm, hm2, _⟩ := hM.2.2.1
    simp (disch := omega) only [i_X6_undo_0, i_X6_undo_1, i_X6_undo_4, i_X6_undo_7, i_X6_undo_9, i_X6_undo_10, i_X6_undo_11, i_X6_undo_14, i_X6_undo_15, i_X6_undo_18, i_X6_undo_21, i_X6_undo_22, i_X6_undo_25, i_X6_undo_26, i_X6_undo_29, i_X6_undo_32, i_X6_undo_33, i_X6_undo_36, i_X6_undo_37, i_X6_undo_40, i_X6_undo_41, i_X6_undo_44, i_X6_undo_47, i_X6_undo_0_e, Option.toList_some, Option.toList_none, List.cons_append, List.nil_append, List.append_nil, ↓reduceIte, h4, bz_e0, reduceCtorEq]
    refine t_take (d := d + 3) (by rfl) (by rfl) (by decide) ht hok.1.1.wf.2.1 (fun I1 A1 hP1 hI1 hA1 => ?_)
    simp (disch := omega) only [i_X6_undo_0, i_X6_undo_1, i_X6_undo_4, i_X6_undo_7, i_X6_undo_9, i_X6_undo_10, i_X6_undo_11, i_X6_undo_14, i_X6_undo_15, i_X6_undo_18, i_X6_undo_21, i_X6_undo_22, i_X6_undo_25, i_X6_undo_26, i_X6_undo_29, i_X6_undo_32, i_X6_undo_33, i_X6_undo_36, i_X6_undo_37, i_X6_undo_40, i_X6_undo_41, i_X6_undo_44, i_X6_undo_47, i_X6_undo_0_e, Option.toList_some, Option.toList_none, List.cons_append, List.nil_append, List.append_nil, ↓reduceIte]
    refine t_reada hP1 hok.1.1 (fun A2 E2 h2 hA2 hE2 => ?_)
    have e : up2 I1 57 2 (nI 0) 1 12 = nI (t 10 0) := by rw [up2_na _ _ (by omega)]; exact hP1.2.1
    simp (disch := omega) only [i_X6_undo_0, i_X6_undo_1, i_X6_undo_4, i_X6_undo_7, i_X6_undo_9, i_X6_undo_10, i_X6_undo_11, i_X6_undo_14, i_X6_undo_15, i_X6_undo_18, i_X6_undo_21, i_X6_undo_22, i_X6_undo_25, i_X6_undo_26, i_X6_undo_29, i_X6_undo_32, i_X6_undo_33, i_X6_undo_36, i_X6_undo_37, i_X6_undo_40, i_X6_undo_41, i_X6_undo_44, i_X6_undo_47, i_X6_undo_0_e, Option.toList_some, Option.toList_none, List.cons_append, List.nil_append, List.append_nil, ↓reduceIte, e]
    refine hQ _ A2 E2 ⟨hP1.fr ⟨by rw [up2_na _ _ (by omega)], by rw [up2_na _ _ (by omega)]⟩ (fun c a b => hA2 c (by omega)), h2, ⟨by simp, up2_s _ _ _ _, m, hm, ?_, fun i q hi => by simp at hi⟩, ⟨?_, ?_⟩, hM.2.2.2.2.1.fr (by rw [up2_na _ _ (by omega), hI1 _ _ (by omega)]) (by rw [hA2 _ (by omega), hA1 _ (by omega)]), ?_⟩
    · rw [up2_n _ _ (by omega), hI1 _ _ (by omega)]; exact hm2
    · rw [up2_na _ _ (by omega), hI1 _ _ (by omega)]; exact h4
    · exact ht.fr ⟨by rw [up2_na _ _ (by omega), hI1 _ _ (by omega)], by rw [up2_na _ _ (by omega), hI1 _ _ (by omega)]⟩ (fun c a b => by rw [hA2 _ (by omega), hA1 _ (by omega)])
    · rw [up2_na _ _ (by omega), hI1 _ _ (by omega)]; exact hM.2.2.2.2.2
end BCK
