def o_add (S : St) (x kd v : Int32) : Int32 × St := if inR kd 1 4 then (if whyN S.1 x (xN kd) v = 0 then (nI (S.1 10 0), chgS S (addT S.1 (xN x) (xN kd) (xN v) 0 0 0 0)) else (-3, refS S (whyN S.1 x (xN kd) v))) else (-1, S)
def o_leaf (S : St) (x g lo hi pr : Int32) : Int32 × St := if inR g 0 3 then (if whyL S.1 x lo hi pr = 0 then (nI (S.1 10 0), chgS S (addT S.1 (xN x) 5 (xN g) (xN lo) (xN hi) (xN pr) 1)) else (-3, refS S (whyL S.1 x lo hi pr))) else (-1, S)
theorem okA_l {T : Tr} (h : okT T) {x lo hi pr : Int32} {g : Nat} (hg : g ≤ 3) (hw : whyL T x lo hi pr = 0) : ∃ p l u r, x = nI p ∧ lo = nI l ∧ hi = nI u ∧ pr = nI r ∧ p < 24 ∧ l ≤ u ∧ u ≤ 4000000 ∧ r ≤ 9 ∧ okA T p 5 g l u r 1 := by
  unfold whyL at hw
  split at hw
  · rename_i hp
    split at hw
    · omega
    · rename_i h10
      split at hw
      · rename_i hb
        obtain ⟨p, rfl, a, b, c, e⟩ := whyP_t h.wf hp
        obtain ⟨l, u, r, rfl, rfl, rfl, k1, k2, k3, k4⟩ := bnd_t hb
        rw [lvs_all h] at h10
        have := h.2.2.2.2.2.2
        exact ⟨p, l, u, r, rfl, rfl, rfl, rfl, by omega, k1, k2, k4, a, b, c, e, by omega, by omega, by omega, fun q => by omega, fun q => by omega, fun _ => ⟨hg, k3, by omega⟩, k1, k2, k4, by omega, fun q => absurd rfl q⟩
      · omega
  · omega
theorem ok_add {S : St} (h : OkS S) {x kd v : Int32} : OkS (o_add S x kd v).2 := by
  have h24 := h.1.1.wf.2.1
  unfold o_add
  split
  · rename_i hk
    obtain ⟨c, h1, h2, rfl⟩ := inR_t (by decide) hk
    rw [xN_n (k := c) (by omega)]
    split
    · rename_i hw
      unfold whyN at hw
      split at hw
      · rename_i hp
        split at hw
        · rename_i hv
          split at hw
          · omega
          · rename_i hf
            obtain ⟨p, u, rfl, rfl, hu, hpN, ha⟩ := okA_n h.1.1 ⟨h1, h2⟩ hp hv
            rw [xN_n (k := p) (by omega), xN_n (k := u) (by omega)] at hf ⊢
            exact h.chg (okP_add h.1 ha (Bool.eq_false_iff.mpr hf))
        · omega
      · omega
    · exact h.ref
  · exact h
theorem ok_leaf {S : St} (h : OkS S) {x g lo hi pr : Int32} : OkS (o_leaf S x g lo hi pr).2 := by
  unfold o_leaf
  split
  · rename_i hk
    obtain ⟨c, h1, h2, rfl⟩ := inR_t (by decide) hk
    rw [xN_n (k := c) (by omega)]
    split
    · rename_i hw
      obtain ⟨p, l, u, r, rfl, rfl, rfl, rfl, hp, k1, k2, k4, ha⟩ := okA_l h.1.1 h2 hw
      rw [xN_n (k := p) (by omega), xN_n (k := l) (by omega), xN_n (k := u) (by omega), xN_n (k := r) (by omega)]
      refine h.chg (okP_add h.1 ha ?_)
      rw [fst_new h.1.1 h.1.2 ha]
      rfl
    · exact h.ref
  · exact h
theorem whyN_c (T : Tr) (x v : Int32) (kd : Nat) : whyN T x kd v ≤ 5 := by
  have := whyP_c T x
  unfold whyN
  split
  · split
    · split <;> omega
    · omega
  · omega
theorem whyL_c (T : Tr) (x lo hi pr : Int32) : whyL T x lo hi pr ≤ 4 := by
  have := whyP_c T x
  unfold whyL
  split
  · split
    · omega
    · split <;> omega
  · omega
section ADP
variable {X : pm_X} {d : Nat} {G : pm_H} {Q : Option Value → pm_H → Prop} {I A : Nat → Nat → Int32} {E : Nat → Nat → Int64} {J : Nat → Int32} {B : Nat → Nat → Int32} {T T' : Tr} {S : St}
theorem m_add (hM : RelM J B S) (hS : OkS S) {x kd v : Int32} (hQ : ∀ J' B', RelM J' B' (o_add S x kd v).2 → Q (some (.int (o_add S x kd v).1)) (pm_w I A E J' B')) : pm_call X (d + 5) mX7_add [.ref 139, .int x, .int kd, .int v] (pm_w I A E J B) Q := by
  have hT := hS.1.1
  have h24 := hT.wf.2.1
  unfold o_add at hQ
  cases hk : inR kd 1 4 with
  | false =>
    rw [hk] at hQ
    simp (disch := omega) only [i_X7_add_0, i_X7_add_1, i_X7_add_2, i_X7_add_3, i_X7_add_6, i_X7_add_9, i_X7_add_12, i_X7_add_13, i_X7_add_14, i_X7_add_15, i_X7_add_18, i_X7_add_19, i_X7_add_20, i_X7_add_21, i_X7_add_22, i_X7_add_23, i_X7_add_26, i_X7_add_29, i_X7_add_0_e, Option.toList_some, Option.toList_none, List.cons_append, List.nil_append, List.append_nil, ↓reduceIte, s_isInR, hk, bz_e0]
    exact hQ J B hM
  | true =>
    rw [hk] at hQ
    have hk2 := hk
    obtain ⟨c, h1, h2, rfl⟩ := inR_t (by decide) hk2
    rw [xN_n (k := c) (by omega)] at hQ
    obtain ⟨hK, h143⟩ := hM.kept h24
    simp (disch := omega) only [i_X7_add_0, i_X7_add_1, i_X7_add_2, i_X7_add_3, i_X7_add_6, i_X7_add_9, i_X7_add_12, i_X7_add_13, i_X7_add_14, i_X7_add_15, i_X7_add_18, i_X7_add_19, i_X7_add_20, i_X7_add_21, i_X7_add_22, i_X7_add_23, i_X7_add_26, i_X7_add_29, i_X7_add_0_e, Option.toList_some, Option.toList_none, List.cons_append, List.nil_append, List.append_nil, ↓reduceIte, s_isInR, hk, bz_e0, reduceCtorEq, s_keeps]
    refine s_tryAdd hK.1 hT ⟨h1, h2⟩ (fun hw B1 r1 r2 => ?_) (fun hw B1 r1 r2 => ?_)
    · rw [hw] at hQ
      simp (disch := omega) only [i_X7_add_0, i_X7_add_1, i_X7_add_2, i_X7_add_3, i_X7_add_6, i_X7_add_9, i_X7_add_12, i_X7_add_13, i_X7_add_14, i_X7_add_15, i_X7_add_18, i_X7_add_19, i_X7_add_20, i_X7_add_21, i_X7_add_22, i_X7_add_23, i_X7_add_26, i_X7_add_29, i_X7_add_0_e, Option.toList_some, Option.toList_none, List.cons_append, List.nil_append, List.append_nil, ↓reduceIte, i_X7_added_0, i_X7_added_1, i_X7_added_4, i_X7_added_5, i_X7_added_6, i_X7_added_8, i_X7_added_9, i_X7_added_12, i_X7_added_13, i_X7_added_14, i_X7_added_17, i_X7_added_18, i_X7_added_0_e, Option.toList_some, Option.toList_none, List.cons_append, List.nil_append, List.append_nil, ↓reduceIte, q_neg]
      refine s_remM (T0 := S.1) r1 (hK.2.fr ⟨rfl, rfl, rfl, rfl⟩ ⟨r2 _ (by decide), r2 _ (by decide), r2 _ (by decide)⟩) (by rw [r2 _ (by decide)]; exact h143) h24 (fun J' B' h => ?_)
      simp (disch := omega) only [i_X7_add_0, i_X7_add_1, i_X7_add_2, i_X7_add_3, i_X7_add_6, i_X7_add_9, i_X7_add_12, i_X7_add_13, i_X7_add_14, i_X7_add_15, i_X7_add_18, i_X7_add_19, i_X7_add_20, i_X7_add_21, i_X7_add_22, i_X7_add_23, i_X7_add_26, i_X7_add_29, i_X7_add_0_e, Option.toList_some, Option.toList_none, List.cons_append, List.nil_append, List.append_nil, ↓reduceIte, i_X7_added_0, i_X7_added_1, i_X7_added_4, i_X7_added_5, i_X7_added_6, i_X7_added_8, i_X7_added_9, i_X7_added_12, i_X7_added_13, i_X7_added_14, i_X7_added_17, i_X7_added_18, i_X7_added_0_e, Option.toList_some, Option.toList_none, List.cons_append, List.nil_append, List.append_nil, ↓reduceIte]
      exact hQ J' B' h
    · have q := q_why (c := whyN S.1 x c v) (by have := whyN_c S.1 x v c; omega)
      rw [if_pos rfl, if_neg hw] at hQ
      simp (disch := omega) only [i_X7_add_0, i_X7_add_1, i_X7_add_2, i_X7_add_3, i_X7_add_6, i_X7_add_9, i_X7_add_12, i_X7_add_13, i_X7_add_14, i_X7_add_15, i_X7_add_18, i_X7_add_19, i_X7_add_20, i_X7_add_21, i_X7_add_22, i_X7_add_23, i_X7_add_26, i_X7_add_29, i_X7_add_0_e, Option.toList_some, Option.toList_none, List.cons_append, List.nil_append, List.append_nil, ↓reduceIte, i_X7_added_0, i_X7_added_1, i_X7_added_4, i_X7_added_5, i_X7_added_6, i_X7_added_8, i_X7_added_9, i_X7_added_12, i_X7_added_13, i_X7_added_14, i_X7_added_17, i_X7_added_18, i_X7_added_0_e, Option.toList_some, Option.toList_none, List.cons_append, List.nil_append, List.append_nil, ↓reduceIte, q.1, q.2, s_refuse]
      exact hQ _ _ (RelM.ref (S := S) ⟨r1, hK.2.fr ⟨rfl, rfl, rfl, rfl⟩ ⟨r2 _ (by decide), r2 _ (by decide), r2 _ (by decide)⟩⟩)
theorem t_whyP (hP : RelTP I A 1 T) (hF : RelF A E 37 T) (hT : okT T) {x : Int32} : pm_call X (d + 1) mX6_refusalOfPlace [.ref 0, .int x] (pm_w I A E J B) Q ↔ Q (some (.int (nI (whyP T x)))) (pm_w I A E J B) := by
  have h24 := hT.wf.2.1
  unfold whyP
  cases hx : isN T x with
  | false => simp (disch := omega) only [i_X6_refusalOfPlace_0, i_X6_refusalOfPlace_1, i_X6_refusalOfPlace_2, i_X6_refusalOfPlace_5, i_X6_refusalOfPlace_8, i_X6_refusalOfPlace_9, i_X6_refusalOfPlace_12, i_X6_refusalOfPlace_15, i_X6_refusalOfPlace_16, i_X6_refusalOfPlace_17, i_X6_refusalOfPlace_18, i_X6_refusalOfPlace_23, i_X6_refusalOfPlace_24, i_X6_refusalOfPlace_27, i_X6_refusalOfPlace_30, i_X6_refusalOfPlace_31, i_X6_refusalOfPlace_32, i_X6_refusalOfPlace_34, i_X6_refusalOfPlace_37, i_X6_refusalOfPlace_38, i_X6_refusalOfPlace_39, i_X6_refusalOfPlace_40, i_X6_refusalOfPlace_43, i_X6_refusalOfPlace_46, i_X6_refusalOfPlace_48, i_X6_refusalOfPlace_51, i_X6_refusalOfPlace_52, i_X6_refusalOfPlace_56, i_X6_refusalOfPlace_55, i_X6_refusalOfPlace_21, i_X6_refusalOfPlace_22, i_X6_refusalOfPlace_0_e, Option.toList_some, Option.toList_none, List.cons_append, List.nil_append, List.append_nil, ↓reduceIte, t_isN hP hT.wf, hx, bz_e0, Bool.false_and, reduceCtorEq]
  | true =>
    have hx2 := hx
    obtain ⟨k, hk, rfl⟩ := isN_t hT.wf hx2
    have hd := hT.dep hk
    have hb := hT.kind hk
    have e0 : A 2 k = nI (T 0 k) := hP.2.2.2 0 k (by decide) hk (by omega)
    have f5 : A 40 k = nI (dep T k) := (hF.2.1 k hk).1
    rw [xN_n (by omega)]
    by_cases h5 : T 0 k = 5
    · simp (disch := omega) only [i_X6_refusalOfPlace_0, i_X6_refusalOfPlace_1, i_X6_refusalOfPlace_2, i_X6_refusalOfPlace_5, i_X6_refusalOfPlace_8, i_X6_refusalOfPlace_9, i_X6_refusalOfPlace_12, i_X6_refusalOfPlace_15, i_X6_refusalOfPlace_16, i_X6_refusalOfPlace_17, i_X6_refusalOfPlace_18, i_X6_refusalOfPlace_23, i_X6_refusalOfPlace_24, i_X6_refusalOfPlace_27, i_X6_refusalOfPlace_30, i_X6_refusalOfPlace_31, i_X6_refusalOfPlace_32, i_X6_refusalOfPlace_34, i_X6_refusalOfPlace_37, i_X6_refusalOfPlace_38, i_X6_refusalOfPlace_39, i_X6_refusalOfPlace_40, i_X6_refusalOfPlace_43, i_X6_refusalOfPlace_46, i_X6_refusalOfPlace_48, i_X6_refusalOfPlace_51, i_X6_refusalOfPlace_52, i_X6_refusalOfPlace_56, i_X6_refusalOfPlace_55, i_X6_refusalOfPlace_21, i_X6_refusalOfPlace_22, i_X6_refusalOfPlace_0_e, Option.toList_some, Option.toList_none, List.cons_append, List.nil_append, List.append_nil, ↓reduceIte, t_isN hP hT.wf, hx, bz_e0, e0, q_eq, h5, decide_true, Bool.not_true, Bool.and_false, reduceCtorEq]
    · by_cases h6 : 6 ≤ dep T k
      · have : ¬ dep T k < 6 := by omega
        simp (disch := omega) only [i_X6_refusalOfPlace_0, i_X6_refusalOfPlace_1, i_X6_refusalOfPlace_2, i_X6_refusalOfPlace_5, i_X6_refusalOfPlace_8, i_X6_refusalOfPlace_9, i_X6_refusalOfPlace_12, i_X6_refusalOfPlace_15, i_X6_refusalOfPlace_16, i_X6_refusalOfPlace_17, i_X6_refusalOfPlace_18, i_X6_refusalOfPlace_23, i_X6_refusalOfPlace_24, i_X6_refusalOfPlace_27, i_X6_refusalOfPlace_30, i_X6_refusalOfPlace_31, i_X6_refusalOfPlace_32, i_X6_refusalOfPlace_34, i_X6_refusalOfPlace_37, i_X6_refusalOfPlace_38, i_X6_refusalOfPlace_39, i_X6_refusalOfPlace_40, i_X6_refusalOfPlace_43, i_X6_refusalOfPlace_46, i_X6_refusalOfPlace_48, i_X6_refusalOfPlace_51, i_X6_refusalOfPlace_52, i_X6_refusalOfPlace_56, i_X6_refusalOfPlace_55, i_X6_refusalOfPlace_21, i_X6_refusalOfPlace_22, i_X6_refusalOfPlace_0_e, Option.toList_some, Option.toList_none, List.cons_append, List.nil_append, List.append_nil, ↓reduceIte, t_isN hP hT.wf, hx, bz_e0, e0, q_eq, q_lt, f5, this, h6, h5, decide_false, Bool.not_false, Bool.and_true, reduceCtorEq]
      · have : dep T k < 6 := by omega
        by_cases hN : T 10 0 = 24
        · have h7 : ¬ T 10 0 < 24 := by omega
          simp (disch := omega) only [i_X6_refusalOfPlace_0, i_X6_refusalOfPlace_1, i_X6_refusalOfPlace_2, i_X6_refusalOfPlace_5, i_X6_refusalOfPlace_8, i_X6_refusalOfPlace_9, i_X6_refusalOfPlace_12, i_X6_refusalOfPlace_15, i_X6_refusalOfPlace_16, i_X6_refusalOfPlace_17, i_X6_refusalOfPlace_18, i_X6_refusalOfPlace_23, i_X6_refusalOfPlace_24, i_X6_refusalOfPlace_27, i_X6_refusalOfPlace_30, i_X6_refusalOfPlace_31, i_X6_refusalOfPlace_32, i_X6_refusalOfPlace_34, i_X6_refusalOfPlace_37, i_X6_refusalOfPlace_38, i_X6_refusalOfPlace_39, i_X6_refusalOfPlace_40, i_X6_refusalOfPlace_43, i_X6_refusalOfPlace_46, i_X6_refusalOfPlace_48, i_X6_refusalOfPlace_51, i_X6_refusalOfPlace_52, i_X6_refusalOfPlace_56, i_X6_refusalOfPlace_55, i_X6_refusalOfPlace_21, i_X6_refusalOfPlace_22, i_X6_refusalOfPlace_0_e, Option.toList_some, Option.toList_none, List.cons_append, List.nil_append, List.append_nil, ↓reduceIte, t_isN hP hT.wf, hx, bz_e0, e0, q_eq, q_lt, f5, this, h6, h5, hP.2.1, h7, hN, Nat.lt_irrefl, decide_false, Bool.not_false, Bool.and_true, reduceCtorEq]
        · have h7 : T 10 0 < 24 := by omega
          simp (disch := omega) only [i_X6_refusalOfPlace_0, i_X6_refusalOfPlace_1, i_X6_refusalOfPlace_2, i_X6_refusalOfPlace_5, i_X6_refusalOfPlace_8, i_X6_refusalOfPlace_9, i_X6_refusalOfPlace_12, i_X6_refusalOfPlace_15, i_X6_refusalOfPlace_16, i_X6_refusalOfPlace_17, i_X6_refusalOfPlace_18, i_X6_refusalOfPlace_23, i_X6_refusalOfPlace_24, i_X6_refusalOfPlace_27, i_X6_refusalOfPlace_30, i_X6_refusalOfPlace_31, i_X6_refusalOfPlace_32, i_X6_refusalOfPlace_34, i_X6_refusalOfPlace_37, i_X6_refusalOfPlace_38, i_X6_refusalOfPlace_39, i_X6_refusalOfPlace_40, i_X6_refusalOfPlace_43, i_X6_refusalOfPlace_46, i_X6_refusalOfPlace_48, i_X6_refusalOfPlace_51, i_X6_refusalOfPlace_52, i_X6_refusalOfPlace_56, i_X6_refusalOfPlace_55, i_X6_refusalOfPlace_21, i_X6_refusalOfPlace_22, i_X6_refusalOfPlace_0_e, Option.toList_some, Option.toList_none, List.cons_append, List.nil_append, List.append_nil, ↓reduceIte, t_isN hP hT.wf, hx, bz_e0, e0, q_eq, q_lt, f5, this, h6, h5, hP.2.1, h7, hN, decide_false, Bool.not_false, Bool.and_true, reduceCtorEq]
theorem t_whyN (hP : RelTP I A 1 T) (hF : RelF A E 37 T) (hT : okT T) (hr : okR T) {x v : Int32} {kd : Nat} (hk : 1 ≤ kd ∧ kd ≤ 4) : pm_call X (d + 2) mX6_refusalOfNode [.ref 0, .int x, .int (nI kd), .int v] (pm_w I A E J B) Q ↔ Q (some (.int (nI (whyN T x kd v)))) (pm_w I A E J B) := by
  have h24 := hT.wf.2.1
  have c3 := whyP_c T x
  unfold whyN
  by_cases hp : whyP T x = 0
  · rw [if_pos hp]
    cases hv : isNum kd v with
    | false => simp (disch := omega) only [i_X6_refusalOfNode_0, i_X6_refusalOfNode_1, i_X6_refusalOfNode_2, i_X6_refusalOfNode_5, i_X6_refusalOfNode_7, i_X6_refusalOfNode_9, i_X6_refusalOfNode_12, i_X6_refusalOfNode_14, i_X6_refusalOfNode_15, i_X6_refusalOfNode_16, i_X6_refusalOfNode_17, i_X6_refusalOfNode_20, i_X6_refusalOfNode_23, i_X6_refusalOfNode_24, i_X6_refusalOfNode_25, i_X6_refusalOfNode_26, i_X6_refusalOfNode_27, i_X6_refusalOfNode_30, i_X6_refusalOfNode_31, i_X6_refusalOfNode_34, i_X6_refusalOfNode_37, i_X6_refusalOfNode_38, i_X6_refusalOfNode_39, i_X6_refusalOfNode_40, i_X6_refusalOfNode_41, i_X6_refusalOfNode_42, i_X6_refusalOfNode_43, i_X6_refusalOfNode_46, i_X6_refusalOfNode_49, i_X6_refusalOfNode_50, i_X6_refusalOfNode_51, i_X6_refusalOfNode_54, i_X6_refusalOfNode_57, i_X6_refusalOfNode_60, i_X6_refusalOfNode_61, i_X6_refusalOfNode_65, i_X6_refusalOfNode_67, i_X6_refusalOfNode_69, i_X6_refusalOfNode_72, i_X6_refusalOfNode_73, i_X6_refusalOfNode_77, i_X6_refusalOfNode_76, i_X6_refusalOfNode_64, i_X6_refusalOfNode_0_e, Option.toList_some, Option.toList_none, List.cons_append, List.nil_append, List.append_nil, ↓reduceIte, t_whyP hP hF hT, hp, n0_e0, t_isNumberOf, hv, bz_e0, reduceCtorEq]
    | true =>
      obtain ⟨p, u, rfl, rfl, hu, hpN, ha⟩ := okA_n hT hk hp hv
      rw [xN_n (by omega), xN_n (by omega), fst_new hT hr ha]
      have b1 := nm_b hT hpN
      have b2 := dn_b hT hpN
      have f1 : E 38 p = lN (nm T p) := (hF.1 p hpN).1
      have f2 : E 39 p = lN (dn T p) := (hF.1 p hpN).2
      have m1 : nm T p * u ≤ 531441000000 * 99 := Nat.mul_le_mul b1.2 hu
      by_cases h2 : kd = 2
      · subst h2
        by_cases hc : 4000000 * dn T p < nm T p * u
        · simp (disch := omega) only [i_X6_refusalOfNode_0, i_X6_refusalOfNode_1, i_X6_refusalOfNode_2, i_X6_refusalOfNode_5, i_X6_refusalOfNode_7, i_X6_refusalOfNode_9, i_X6_refusalOfNode_12, i_X6_refusalOfNode_14, i_X6_refusalOfNode_15, i_X6_refusalOfNode_16, i_X6_refusalOfNode_17, i_X6_refusalOfNode_20, i_X6_refusalOfNode_23, i_X6_refusalOfNode_24, i_X6_refusalOfNode_25, i_X6_refusalOfNode_26, i_X6_refusalOfNode_27, i_X6_refusalOfNode_30, i_X6_refusalOfNode_31, i_X6_refusalOfNode_34, i_X6_refusalOfNode_37, i_X6_refusalOfNode_38, i_X6_refusalOfNode_39, i_X6_refusalOfNode_40, i_X6_refusalOfNode_41, i_X6_refusalOfNode_42, i_X6_refusalOfNode_43, i_X6_refusalOfNode_46, i_X6_refusalOfNode_49, i_X6_refusalOfNode_50, i_X6_refusalOfNode_51, i_X6_refusalOfNode_54, i_X6_refusalOfNode_57, i_X6_refusalOfNode_60, i_X6_refusalOfNode_61, i_X6_refusalOfNode_65, i_X6_refusalOfNode_67, i_X6_refusalOfNode_69, i_X6_refusalOfNode_72, i_X6_refusalOfNode_73, i_X6_refusalOfNode_77, i_X6_refusalOfNode_76, i_X6_refusalOfNode_64, i_X6_refusalOfNode_0_e, Option.toList_some, Option.toList_none, List.cons_append, List.nil_append, List.append_nil, ↓reduceIte, t_whyP hP hF hT, hp, n0_e0, n1_e0, t_isNumberOf, hv, bz_e0, reduceCtorEq, f1, f2, l_of, lN_mul, t_isAbove, hc, decide_true, Bool.and_self]
        · simp (disch := omega) only [i_X6_refusalOfNode_0, i_X6_refusalOfNode_1, i_X6_refusalOfNode_2, i_X6_refusalOfNode_5, i_X6_refusalOfNode_7, i_X6_refusalOfNode_9, i_X6_refusalOfNode_12, i_X6_refusalOfNode_14, i_X6_refusalOfNode_15, i_X6_refusalOfNode_16, i_X6_refusalOfNode_17, i_X6_refusalOfNode_20, i_X6_refusalOfNode_23, i_X6_refusalOfNode_24, i_X6_refusalOfNode_25, i_X6_refusalOfNode_26, i_X6_refusalOfNode_27, i_X6_refusalOfNode_30, i_X6_refusalOfNode_31, i_X6_refusalOfNode_34, i_X6_refusalOfNode_37, i_X6_refusalOfNode_38, i_X6_refusalOfNode_39, i_X6_refusalOfNode_40, i_X6_refusalOfNode_41, i_X6_refusalOfNode_42, i_X6_refusalOfNode_43, i_X6_refusalOfNode_46, i_X6_refusalOfNode_49, i_X6_refusalOfNode_50, i_X6_refusalOfNode_51, i_X6_refusalOfNode_54, i_X6_refusalOfNode_57, i_X6_refusalOfNode_60, i_X6_refusalOfNode_61, i_X6_refusalOfNode_65, i_X6_refusalOfNode_67, i_X6_refusalOfNode_69, i_X6_refusalOfNode_72, i_X6_refusalOfNode_73, i_X6_refusalOfNode_77, i_X6_refusalOfNode_76, i_X6_refusalOfNode_64, i_X6_refusalOfNode_0_e, Option.toList_some, Option.toList_none, List.cons_append, List.nil_append, List.append_nil, ↓reduceIte, t_whyP hP hF hT, hp, n0_e0, n1_e0, t_isNumberOf, hv, bz_e0, reduceCtorEq, f1, f2, l_of, lN_mul, t_isAbove, hc, decide_true, decide_false, Bool.and_false]
      · simp (disch := omega) only [i_X6_refusalOfNode_0, i_X6_refusalOfNode_1, i_X6_refusalOfNode_2, i_X6_refusalOfNode_5, i_X6_refusalOfNode_7, i_X6_refusalOfNode_9, i_X6_refusalOfNode_12, i_X6_refusalOfNode_14, i_X6_refusalOfNode_15, i_X6_refusalOfNode_16, i_X6_refusalOfNode_17, i_X6_refusalOfNode_20, i_X6_refusalOfNode_23, i_X6_refusalOfNode_24, i_X6_refusalOfNode_25, i_X6_refusalOfNode_26, i_X6_refusalOfNode_27, i_X6_refusalOfNode_30, i_X6_refusalOfNode_31, i_X6_refusalOfNode_34, i_X6_refusalOfNode_37, i_X6_refusalOfNode_38, i_X6_refusalOfNode_39, i_X6_refusalOfNode_40, i_X6_refusalOfNode_41, i_X6_refusalOfNode_42, i_X6_refusalOfNode_43, i_X6_refusalOfNode_46, i_X6_refusalOfNode_49, i_X6_refusalOfNode_50, i_X6_refusalOfNode_51, i_X6_refusalOfNode_54, i_X6_refusalOfNode_57, i_X6_refusalOfNode_60, i_X6_refusalOfNode_61, i_X6_refusalOfNode_65, i_X6_refusalOfNode_67, i_X6_refusalOfNode_69, i_X6_refusalOfNode_72, i_X6_refusalOfNode_73, i_X6_refusalOfNode_77, i_X6_refusalOfNode_76, i_X6_refusalOfNode_64, i_X6_refusalOfNode_0_e, Option.toList_some, Option.toList_none, List.cons_append, List.nil_append, List.append_nil, ↓reduceIte, t_whyP hP hF hT, hp, n0_e0, n1_e0, t_isNumberOf, hv, bz_e0, reduceCtorEq, q_eq, h2, decide_false, Bool.false_and]
  · rw [if_neg hp]
    simp (disch := omega) only [i_X6_refusalOfNode_0, i_X6_refusalOfNode_1, i_X6_refusalOfNode_2, i_X6_refusalOfNode_5, i_X6_refusalOfNode_7, i_X6_refusalOfNode_9, i_X6_refusalOfNode_12, i_X6_refusalOfNode_14, i_X6_refusalOfNode_15, i_X6_refusalOfNode_16, i_X6_refusalOfNode_17, i_X6_refusalOfNode_20, i_X6_refusalOfNode_23, i_X6_refusalOfNode_24, i_X6_refusalOfNode_25, i_X6_refusalOfNode_26, i_X6_refusalOfNode_27, i_X6_refusalOfNode_30, i_X6_refusalOfNode_31, i_X6_refusalOfNode_34, i_X6_refusalOfNode_37, i_X6_refusalOfNode_38, i_X6_refusalOfNode_39, i_X6_refusalOfNode_40, i_X6_refusalOfNode_41, i_X6_refusalOfNode_42, i_X6_refusalOfNode_43, i_X6_refusalOfNode_46, i_X6_refusalOfNode_49, i_X6_refusalOfNode_50, i_X6_refusalOfNode_51, i_X6_refusalOfNode_54, i_X6_refusalOfNode_57, i_X6_refusalOfNode_60, i_X6_refusalOfNode_61, i_X6_refusalOfNode_65, i_X6_refusalOfNode_67, i_X6_refusalOfNode_69, i_X6_refusalOfNode_72, i_X6_refusalOfNode_73, i_X6_refusalOfNode_77, i_X6_refusalOfNode_76, i_X6_refusalOfNode_64, i_X6_refusalOfNode_0_e, Option.toList_some, Option.toList_none, List.cons_append, List.nil_append, List.append_nil, ↓reduceIte, t_whyP hP hF hT, q_e0, hp]
theorem p_add (hM : RelP I A E S) (hS : OkS S) {x kd v : Int32} (hQ : ∀ I' A' E', RelP I' A' E' (o_add S x kd v).2 → Q (some (.int (o_add S x kd v).1)) (pm_w I' A' E' J B)) : pm_call X (d + 5) mX6_add [.ref 0, .int x, .int kd, .int v] (pm_w I A E J B) Q := by
  have hT := hS.1.1
  have h24 := hT.wf.2.1
  have hok := ok_add hS (x := x) (kd := kd) (v := v)
  unfold o_add at hQ hok
  by_cases k1 : kd < nI 1
  · rw [inR_lo (by decide) k1] at hQ
    simp (disch := omega) only [i_X6_add_0, i_X6_add_1, i_X6_add_2, i_X6_add_5, i_X6_add_6, i_X6_add_7, i_X6_add_12, i_X6_add_13, i_X6_add_14, i_X6_add_15, i_X6_add_16, i_X6_add_19, i_X6_add_21, i_X6_add_23, i_X6_add_26, i_X6_add_27, i_X6_add_29, i_X6_add_32, i_X6_add_33, i_X6_add_34, i_X6_add_37, i_X6_add_38, i_X6_add_39, i_X6_add_42, i_X6_add_43, i_X6_add_44, i_X6_add_45, i_X6_add_48, i_X6_add_51, i_X6_add_10, i_X6_add_11, i_X6_add_0_e, Option.toList_some, Option.toList_none, List.cons_append, List.nil_append, List.append_nil, ↓reduceIte, k1]
    exact hQ I A E hM
  · by_cases k2 : nI 4 < kd
    · rw [inR_hi (by decide) k2] at hQ
      simp (disch := omega) only [i_X6_add_0, i_X6_add_1, i_X6_add_2, i_X6_add_5, i_X6_add_6, i_X6_add_7, i_X6_add_12, i_X6_add_13, i_X6_add_14, i_X6_add_15, i_X6_add_16, i_X6_add_19, i_X6_add_21, i_X6_add_23, i_X6_add_26, i_X6_add_27, i_X6_add_29, i_X6_add_32, i_X6_add_33, i_X6_add_34, i_X6_add_37, i_X6_add_38, i_X6_add_39, i_X6_add_42, i_X6_add_43, i_X6_add_44, i_X6_add_45, i_X6_add_48, i_X6_add_51, i_X6_add_10, i_X6_add_11, i_X6_add_0_e, Option.toList_some, Option.toList_none, List.cons_append, List.nil_append, List.append_nil, ↓reduceIte, k1, k2]
      exact hQ I A E hM
    · have hk := inR_mid (by decide) (by decide) k1 k2
      rw [hk] at hQ hok
      obtain ⟨c, h1, h2, rfl⟩ := inR_t (by decide) hk
      rw [xN_n (k := c) (by omega)] at hQ hok
      have hc := whyN_c S.1 x v c
      by_cases hw : whyN S.1 x c v = 0
      · rw [if_pos rfl, if_pos hw] at hQ hok
        have hw2 := hw
        unfold whyN at hw2
        have hp : whyP S.1 x = 0 := by
          by_cases hp : whyP S.1 x = 0
          · exact hp
          · rw [if_neg hp] at hw2; exact hw2
        rw [if_pos hp] at hw2
        have hv : isNum c v = true := by
          cases hv : isNum c v with
          | true => rfl
          | false => rw [hv] at hw2; simp at hw2
        obtain ⟨p, u, rfl, rfl, hu, hpN, ha⟩ := okA_n hT ⟨h1, h2⟩ hp hv
        rw [xN_n (by omega), xN_n (by omega)] at hQ hok
        simp (disch := omega) only [i_X6_add_0, i_X6_add_1, i_X6_add_2, i_X6_add_5, i_X6_add_6, i_X6_add_7, i_X6_add_12, i_X6_add_13, i_X6_add_14, i_X6_add_15, i_X6_add_16, i_X6_add_19, i_X6_add_21, i_X6_add_23, i_X6_add_26, i_X6_add_27, i_X6_add_29, i_X6_add_32, i_X6_add_33, i_X6_add_34, i_X6_add_37, i_X6_add_38, i_X6_add_39, i_X6_add_42, i_X6_add_43, i_X6_add_44, i_X6_add_45, i_X6_add_48, i_X6_add_51, i_X6_add_10, i_X6_add_11, i_X6_add_0_e, Option.toList_some, Option.toList_none, List.cons_append, List.nil_append, List.append_nil, ↓reduceIte, k1, k2, t_whyN hM.1 hM.2.1 hT hS.1.2, hw, n0_e0]
        refine t_beginP (d := d + 3) hM h24 (fun I1 A1 hB => ?_)
        simp (disch := omega) only [i_X6_add_0, i_X6_add_1, i_X6_add_2, i_X6_add_5, i_X6_add_6, i_X6_add_7, i_X6_add_12, i_X6_add_13, i_X6_add_14, i_X6_add_15, i_X6_add_16, i_X6_add_19, i_X6_add_21, i_X6_add_23, i_X6_add_26, i_X6_add_27, i_X6_add_29, i_X6_add_32, i_X6_add_33, i_X6_add_34, i_X6_add_37, i_X6_add_38, i_X6_add_39, i_X6_add_42, i_X6_add_43, i_X6_add_44, i_X6_add_45, i_X6_add_48, i_X6_add_51, i_X6_add_10, i_X6_add_11, i_X6_add_0_e, Option.toList_some, Option.toList_none, List.cons_append, List.nil_append, List.append_nil, ↓reduceIte]
        refine t_append (p := p) (kd := c) (nu := u) hB.1.1 hT.wf.1 ha.2.2.2.1 (by omega) (fun I2 A2 g1 g2 g3 => ?_)
        simp (disch := omega) only [i_X6_add_0, i_X6_add_1, i_X6_add_2, i_X6_add_5, i_X6_add_6, i_X6_add_7, i_X6_add_12, i_X6_add_13, i_X6_add_14, i_X6_add_15, i_X6_add_16, i_X6_add_19, i_X6_add_21, i_X6_add_23, i_X6_add_26, i_X6_add_27, i_X6_add_29, i_X6_add_32, i_X6_add_33, i_X6_add_34, i_X6_add_37, i_X6_add_38, i_X6_add_39, i_X6_add_42, i_X6_add_43, i_X6_add_44, i_X6_add_45, i_X6_add_48, i_X6_add_51, i_X6_add_10, i_X6_add_11, i_X6_add_0_e, Option.toList_some, Option.toList_none, List.cons_append, List.nil_append, List.append_nil, ↓reduceIte]
        refine t_finP hB h24 g1 hok.1.1 g2 (fun c a => g3 c (by omega)) (fun I3 A3 E3 h => ?_)
        simp (disch := omega) only [i_X6_add_0, i_X6_add_1, i_X6_add_2, i_X6_add_5, i_X6_add_6, i_X6_add_7, i_X6_add_12, i_X6_add_13, i_X6_add_14, i_X6_add_15, i_X6_add_16, i_X6_add_19, i_X6_add_21, i_X6_add_23, i_X6_add_26, i_X6_add_27, i_X6_add_29, i_X6_add_32, i_X6_add_33, i_X6_add_34, i_X6_add_37, i_X6_add_38, i_X6_add_39, i_X6_add_42, i_X6_add_43, i_X6_add_44, i_X6_add_45, i_X6_add_48, i_X6_add_51, i_X6_add_10, i_X6_add_11, i_X6_add_0_e, Option.toList_some, Option.toList_none, List.cons_append, List.nil_append, List.append_nil, ↓reduceIte]
        exact hQ I3 A3 E3 h
      · rw [if_pos rfl, if_neg hw] at hQ
        simp (disch := omega) only [i_X6_add_0, i_X6_add_1, i_X6_add_2, i_X6_add_5, i_X6_add_6, i_X6_add_7, i_X6_add_12, i_X6_add_13, i_X6_add_14, i_X6_add_15, i_X6_add_16, i_X6_add_19, i_X6_add_21, i_X6_add_23, i_X6_add_26, i_X6_add_27, i_X6_add_29, i_X6_add_32, i_X6_add_33, i_X6_add_34, i_X6_add_37, i_X6_add_38, i_X6_add_39, i_X6_add_42, i_X6_add_43, i_X6_add_44, i_X6_add_45, i_X6_add_48, i_X6_add_51, i_X6_add_10, i_X6_add_11, i_X6_add_0_e, Option.toList_some, Option.toList_none, List.cons_append, List.nil_append, List.append_nil, ↓reduceIte, k1, k2, t_whyN hM.1 hM.2.1 hT hS.1.2, q_e0, hw, t_refuse]
        exact hQ _ A E hM.reason
end ADP
