/-! the class changes its state -/
theorem RelTP.set {I A : Nat → Nat → Int32} {T : Tr} (h : RelTP I A 1 T) {w k v : Nat} (hw : w < 10) : RelTP I (up2 A (w + 2) k (nI v)) 1 (up2 T w k v) := by
  refine ⟨?_, ?_, fun g hg => ?_, fun u j hu hj hn => ?_⟩
  · rw [up2_na _ _ (by omega)]; exact h.1
  · rw [up2_na _ _ (by omega)]; exact h.2.1
  · rw [up2_na _ _ (by omega), up2_na _ _ (by omega)]; exact h.2.2.1 g hg
  · rw [up2_na T _ (by omega)] at hj
    by_cases hc : u = w ∧ j = k
    · rw [hc.1, hc.2, up2_s, show 1 + (w + 1) = w + 2 by omega, up2_s]
    · rw [up2_n T _ hc, up2_n _ _ (by omega)]; exact h.2.2.2 u j hu hj hn
theorem RelTP.lim {I A : Nat → Nat → Int32} {T : Tr} (h : RelTP I A 1 T) {g v : Nat} : RelTP I (up2 A 12 g (nI v)) 1 (up2 T 11 g v) := by
  refine ⟨?_, ?_, fun q hq => ?_, fun u j hu hj hn => ?_⟩
  · rw [up2_na _ _ (by omega)]; exact h.1
  · rw [up2_na _ _ (by omega)]; exact h.2.1
  · by_cases hc : q = g
    · subst hc; simp [up2]
    · rw [up2_n T _ (by omega), up2_n _ _ (by omega)]; exact h.2.2.1 q hq
  · rw [up2_na T _ (by omega)] at hj
    rw [up2_na T _ (by omega), up2_na _ _ (by omega)]; exact h.2.2.2 u j hu hj hn
section PLI
variable {X : pm_X} {d : Nat} {G : pm_H} {Q : Option Value → pm_H → Prop} {I A : Nat → Nat → Int32} {E : Nat → Nat → Int64} {J : Nat → Int32} {B : Nat → Nat → Int32} {T T0 : Tr} {hs : List Tr} {sn : Option Tr} {tp : List Nat} {rs : Int32} {S : St}
/-- what holds behind begin -/
def BegP (I A : Nat → Nat → Int32) (E : Nat → Nat → Int64) (S : St) : Prop := RelP I A E S ∧ RelTP I A 13 S.1
theorem t_beginP (hM : RelP I A E S) (h24 : S.1 10 0 ≤ 24) (hQ : ∀ I' A', BegP I' A' E S → Q none (pm_w I' A' E J B)) : pm_call X (d + 1) mX6_begin [.ref 0] (pm_w I A E J B) Q := by
  refine t_begin hM.1 h24 (fun I' A' h1 h2 h3 => hQ I' A' ⟨⟨hM.1.fr ⟨h2 _ _ (by omega), h2 _ _ (by omega)⟩ (fun c a b => h3 c (by omega)), ?_, hM.2.2.fr (fun c k a => h2 c k (by omega)) (fun c a => h3 c (by omega))⟩, h1⟩)
  obtain ⟨f1, f2, f3, f4⟩ := hM.2.1
  exact ⟨f1, fun k hk => by rw [h3 _ (by omega), h3 _ (by omega)]; exact f2 k hk, fun k hk => by rw [h3 _ (by omega), h3 _ (by omega), h3 _ (by omega)]; exact f3 k hk, fun k hk => by rw [h3 _ (by omega), h3 _ (by omega)]; exact f4 k hk⟩
/-- the change of one cell of the tree behind begin, and the end -/
theorem t_finP {x : Int32} {T' : Tr} {A' : Nat → Nat → Int32} {I' : Nat → Nat → Int32} (hB : BegP I A E S) (h24 : S.1 10 0 ≤ 24) (hP : RelTP I' A' 1 T') (hT : okT T') (hI : ∀ c k, c ≠ 1 → I' c k = I c k) (hA : ∀ c, c ≤ 1 ∨ 12 < c → A' c = A c) (hQ : ∀ I' A' E', RelP I' A' E' (chgS S T') → Q (some (.int x)) (pm_w I' A' E' J B)) : pm_call X (d + 4) mX6_finish [.ref 0, .int x] (pm_w I' A' E J B) Q :=
  t_finish hP hT (hB.2.fr ⟨hI _ _ (by omega), hI _ _ (by omega)⟩ (fun c a b => hA c (by omega))) h24 (hB.1.2.2.fr (fun c k a => hI c k (by omega)) (fun c a => hA c (by omega))) hQ
theorem p_set (hM : RelP I A E S) (hS : OkS S) {x w v : Int32} (hQ : ∀ I' A' E', RelP I' A' E' (o_set S x w v).2 → Q (some (.int (o_set S x w v).1)) (pm_w I' A' E' J B)) : pm_call X (d + 5) mX6_set [.ref 0, .int x, .int w, .int v] (pm_w I A E J B) Q := by
  have hT := hS.1.1
  have h24 := hT.wf.2.1
  have hok := ok_set hS (x := x) (w := w) (v := v)
  unfold o_set at hQ hok
  rcases x_cases w (n := 2) (by decide) (by decide) with ⟨h1, h2⟩ | ⟨j, hj, rfl⟩
  · rw [h1] at hQ
    by_cases hn : w < 0
    · simp (disch := omega) only [i_X6_set_0, i_X6_set_1, i_X6_set_4, i_X6_set_5, i_X6_set_6, i_X6_set_11, i_X6_set_12, i_X6_set_13, i_X6_set_16, i_X6_set_19, i_X6_set_20, i_X6_set_21, i_X6_set_24, i_X6_set_25, i_X6_set_26, i_X6_set_29, i_X6_set_30, i_X6_set_31, i_X6_set_34, i_X6_set_36, i_X6_set_41, i_X6_set_50, i_X6_set_51, i_X6_set_54, i_X6_set_55, i_X6_set_58, i_X6_set_59, i_X6_set_62, i_X6_set_65, i_X6_set_75, i_X6_set_77, i_X6_set_79, i_X6_set_80, i_X6_set_81, i_X6_set_83, i_X6_set_85, i_X6_set_86, i_X6_set_87, i_X6_set_88, i_X6_set_89, i_X6_set_91, i_X6_set_94, i_X6_set_68, i_X6_set_69, i_X6_set_72, i_X6_set_80b, i_X6_set_87b, i_X6_set_39, i_X6_set_44, i_X6_set_45, i_X6_set_46, i_X6_set_49, i_X6_set_9, i_X6_set_10, i_X6_set_0_e, Option.toList_some, Option.toList_none, List.cons_append, List.nil_append, List.append_nil, ↓reduceIte, hn]
      exact hQ I A E hM
    · have h5 : nI 1 < w := by
        rw [Int32.lt_iff_toInt_lt, nI_toInt (by decide)]
        have : ¬ w.toInt < 0 := fun q => hn (by simpa [Int32.lt_iff_toInt_lt] using q)
        omega
      simp (disch := omega) only [i_X6_set_0, i_X6_set_1, i_X6_set_4, i_X6_set_5, i_X6_set_6, i_X6_set_11, i_X6_set_12, i_X6_set_13, i_X6_set_16, i_X6_set_19, i_X6_set_20, i_X6_set_21, i_X6_set_24, i_X6_set_25, i_X6_set_26, i_X6_set_29, i_X6_set_30, i_X6_set_31, i_X6_set_34, i_X6_set_36, i_X6_set_41, i_X6_set_50, i_X6_set_51, i_X6_set_54, i_X6_set_55, i_X6_set_58, i_X6_set_59, i_X6_set_62, i_X6_set_65, i_X6_set_75, i_X6_set_77, i_X6_set_79, i_X6_set_80, i_X6_set_81, i_X6_set_83, i_X6_set_85, i_X6_set_86, i_X6_set_87, i_X6_set_88, i_X6_set_89, i_X6_set_91, i_X6_set_94, i_X6_set_68, i_X6_set_69, i_X6_set_72, i_X6_set_80b, i_X6_set_87b, i_X6_set_39, i_X6_set_44, i_X6_set_45, i_X6_set_46, i_X6_set_49, i_X6_set_9, i_X6_set_10, i_X6_set_0_e, Option.toList_some, Option.toList_none, List.cons_append, List.nil_append, List.append_nil, ↓reduceIte, hn, h5]
      exact hQ I A E hM
  · have hw : inR (nI j) 0 1 = true := by rw [inR_n (by omega)]; simp; omega
    have hj1 : ¬ 1 < j := by omega
    rw [hw] at hQ hok
    cases hx : isN S.1 x with
    | false =>
      rw [hx] at hQ
      simp (disch := omega) only [i_X6_set_0, i_X6_set_1, i_X6_set_4, i_X6_set_5, i_X6_set_6, i_X6_set_11, i_X6_set_12, i_X6_set_13, i_X6_set_16, i_X6_set_19, i_X6_set_20, i_X6_set_21, i_X6_set_24, i_X6_set_25, i_X6_set_26, i_X6_set_29, i_X6_set_30, i_X6_set_31, i_X6_set_34, i_X6_set_36, i_X6_set_41, i_X6_set_50, i_X6_set_51, i_X6_set_54, i_X6_set_55, i_X6_set_58, i_X6_set_59, i_X6_set_62, i_X6_set_65, i_X6_set_75, i_X6_set_77, i_X6_set_79, i_X6_set_80, i_X6_set_81, i_X6_set_83, i_X6_set_85, i_X6_set_86, i_X6_set_87, i_X6_set_88, i_X6_set_89, i_X6_set_91, i_X6_set_94, i_X6_set_68, i_X6_set_69, i_X6_set_72, i_X6_set_80b, i_X6_set_87b, i_X6_set_39, i_X6_set_44, i_X6_set_45, i_X6_set_46, i_X6_set_49, i_X6_set_9, i_X6_set_10, i_X6_set_0_e, Option.toList_some, Option.toList_none, List.cons_append, List.nil_append, List.append_nil, ↓reduceIte, q_neg, q_lt, hj1, t_isN hM.1 hT.wf, hx, bz_e0, t_refuse]
      exact hQ _ A E hM.reason
    | true =>
      rw [hx] at hQ hok
      obtain ⟨k, hk, rfl⟩ := isN_t hT.wf hx
      rw [xN_n (by omega), xN_n (by omega)] at hQ hok
      have key : ∀ c, (if nI j = 0 then 99 else 9) = c → c < 100 → (j = 0 ∧ c = 99) ∨ (j = 1 ∧ c = 9) → pm_call X (d + 5) mX6_set [.ref 0, .int (nI k), .int (nI j), .int v] (pm_w I A E J B) Q := by
        intro c hc hc2 hjc
        rw [hc] at hQ hok
        rcases x_cases v (n := c + 1) (by omega) (by omega) with ⟨h1, h2⟩ | ⟨u, hu, rfl⟩
        · rw [show c + 1 - 1 = c by omega] at h1 h2
          rw [h1] at hQ
          by_cases hn : v < 0
          · simp (disch := omega) only [i_X6_set_0, i_X6_set_1, i_X6_set_4, i_X6_set_5, i_X6_set_6, i_X6_set_11, i_X6_set_12, i_X6_set_13, i_X6_set_16, i_X6_set_19, i_X6_set_20, i_X6_set_21, i_X6_set_24, i_X6_set_25, i_X6_set_26, i_X6_set_29, i_X6_set_30, i_X6_set_31, i_X6_set_34, i_X6_set_36, i_X6_set_41, i_X6_set_50, i_X6_set_51, i_X6_set_54, i_X6_set_55, i_X6_set_58, i_X6_set_59, i_X6_set_62, i_X6_set_65, i_X6_set_75, i_X6_set_77, i_X6_set_79, i_X6_set_80, i_X6_set_81, i_X6_set_83, i_X6_set_85, i_X6_set_86, i_X6_set_87, i_X6_set_88, i_X6_set_89, i_X6_set_91, i_X6_set_94, i_X6_set_68, i_X6_set_69, i_X6_set_72, i_X6_set_80b, i_X6_set_87b, i_X6_set_39, i_X6_set_44, i_X6_set_45, i_X6_set_46, i_X6_set_49, i_X6_set_9, i_X6_set_10, i_X6_set_0_e, Option.toList_some, Option.toList_none, List.cons_append, List.nil_append, List.append_nil, ↓reduceIte, q_neg, q_lt, hj1, t_isN hM.1 hT.wf, hx, bz_e0, t_refuse, hn, reduceCtorEq]
            exact hQ _ A E hM.reason
          · have h5 : nI c < v := by
              rw [Int32.lt_iff_toInt_lt, nI_toInt (by omega)]
              have : ¬ v.toInt < 0 := fun q => hn (by simpa [Int32.lt_iff_toInt_lt] using q)
              omega
            rcases hjc with ⟨rfl, rfl⟩ | ⟨rfl, rfl⟩
            · simp (disch := omega) only [i_X6_set_0, i_X6_set_1, i_X6_set_4, i_X6_set_5, i_X6_set_6, i_X6_set_11, i_X6_set_12, i_X6_set_13, i_X6_set_16, i_X6_set_19, i_X6_set_20, i_X6_set_21, i_X6_set_24, i_X6_set_25, i_X6_set_26, i_X6_set_29, i_X6_set_30, i_X6_set_31, i_X6_set_34, i_X6_set_36, i_X6_set_41, i_X6_set_50, i_X6_set_51, i_X6_set_54, i_X6_set_55, i_X6_set_58, i_X6_set_59, i_X6_set_62, i_X6_set_65, i_X6_set_75, i_X6_set_77, i_X6_set_79, i_X6_set_80, i_X6_set_81, i_X6_set_83, i_X6_set_85, i_X6_set_86, i_X6_set_87, i_X6_set_88, i_X6_set_89, i_X6_set_91, i_X6_set_94, i_X6_set_68, i_X6_set_69, i_X6_set_72, i_X6_set_80b, i_X6_set_87b, i_X6_set_39, i_X6_set_44, i_X6_set_45, i_X6_set_46, i_X6_set_49, i_X6_set_9, i_X6_set_10, i_X6_set_0_e, Option.toList_some, Option.toList_none, List.cons_append, List.nil_append, List.append_nil, ↓reduceIte, q_neg, q_lt, hj1, t_isN hM.1 hT.wf, hx, bz_e0, t_refuse, hn, h5, n0_e0, reduceCtorEq]
              exact hQ _ A E hM.reason
            · simp (disch := omega) only [i_X6_set_0, i_X6_set_1, i_X6_set_4, i_X6_set_5, i_X6_set_6, i_X6_set_11, i_X6_set_12, i_X6_set_13, i_X6_set_16, i_X6_set_19, i_X6_set_20, i_X6_set_21, i_X6_set_24, i_X6_set_25, i_X6_set_26, i_X6_set_29, i_X6_set_30, i_X6_set_31, i_X6_set_34, i_X6_set_36, i_X6_set_41, i_X6_set_50, i_X6_set_51, i_X6_set_54, i_X6_set_55, i_X6_set_58, i_X6_set_59, i_X6_set_62, i_X6_set_65, i_X6_set_75, i_X6_set_77, i_X6_set_79, i_X6_set_80, i_X6_set_81, i_X6_set_83, i_X6_set_85, i_X6_set_86, i_X6_set_87, i_X6_set_88, i_X6_set_89, i_X6_set_91, i_X6_set_94, i_X6_set_68, i_X6_set_69, i_X6_set_72, i_X6_set_80b, i_X6_set_87b, i_X6_set_39, i_X6_set_44, i_X6_set_45, i_X6_set_46, i_X6_set_49, i_X6_set_9, i_X6_set_10, i_X6_set_0_e, Option.toList_some, Option.toList_none, List.cons_append, List.nil_append, List.append_nil, ↓reduceIte, q_neg, q_lt, hj1, t_isN hM.1 hT.wf, hx, bz_e0, t_refuse, hn, h5, n1_e0, reduceCtorEq]
              exact hQ _ A E hM.reason
        · have hv : inR (nI u) 0 c = true := by rw [inR_n (by omega)]; simp; omega
          have hu1 : ¬ c < u := by omega
          rw [hv, xN_n (by omega)] at hQ hok
          rcases hjc with ⟨rfl, rfl⟩ | ⟨rfl, rfl⟩
          · simp (disch := omega) only [i_X6_set_0, i_X6_set_1, i_X6_set_4, i_X6_set_5, i_X6_set_6, i_X6_set_11, i_X6_set_12, i_X6_set_13, i_X6_set_16, i_X6_set_19, i_X6_set_20, i_X6_set_21, i_X6_set_24, i_X6_set_25, i_X6_set_26, i_X6_set_29, i_X6_set_30, i_X6_set_31, i_X6_set_34, i_X6_set_36, i_X6_set_41, i_X6_set_50, i_X6_set_51, i_X6_set_54, i_X6_set_55, i_X6_set_58, i_X6_set_59, i_X6_set_62, i_X6_set_65, i_X6_set_75, i_X6_set_77, i_X6_set_79, i_X6_set_80, i_X6_set_81, i_X6_set_83, i_X6_set_85, i_X6_set_86, i_X6_set_87, i_X6_set_88, i_X6_set_89, i_X6_set_91, i_X6_set_94, i_X6_set_68, i_X6_set_69, i_X6_set_72, i_X6_set_80b, i_X6_set_87b, i_X6_set_39, i_X6_set_44, i_X6_set_45, i_X6_set_46, i_X6_set_49, i_X6_set_9, i_X6_set_10, i_X6_set_0_e, Option.toList_some, Option.toList_none, List.cons_append, List.nil_append, List.append_nil, ↓reduceIte, q_neg, q_lt, hj1, t_isN hM.1 hT.wf, hx, bz_e0, hu1, n0_e0, reduceCtorEq]
            refine t_beginP (d := d + 3) hM h24 (fun I1 A1 hB => ?_)
            have e : A1 5 k = nI (S.1 3 k) := hB.1.1.2.2.2 3 k (by decide) hk (by omega)
            simp (disch := omega) only [i_X6_set_0, i_X6_set_1, i_X6_set_4, i_X6_set_5, i_X6_set_6, i_X6_set_11, i_X6_set_12, i_X6_set_13, i_X6_set_16, i_X6_set_19, i_X6_set_20, i_X6_set_21, i_X6_set_24, i_X6_set_25, i_X6_set_26, i_X6_set_29, i_X6_set_30, i_X6_set_31, i_X6_set_34, i_X6_set_36, i_X6_set_41, i_X6_set_50, i_X6_set_51, i_X6_set_54, i_X6_set_55, i_X6_set_58, i_X6_set_59, i_X6_set_62, i_X6_set_65, i_X6_set_75, i_X6_set_77, i_X6_set_79, i_X6_set_80, i_X6_set_81, i_X6_set_83, i_X6_set_85, i_X6_set_86, i_X6_set_87, i_X6_set_88, i_X6_set_89, i_X6_set_91, i_X6_set_94, i_X6_set_68, i_X6_set_69, i_X6_set_72, i_X6_set_80b, i_X6_set_87b, i_X6_set_39, i_X6_set_44, i_X6_set_45, i_X6_set_46, i_X6_set_49, i_X6_set_9, i_X6_set_10, i_X6_set_0_e, Option.toList_some, Option.toList_none, List.cons_append, List.nil_append, List.append_nil, ↓reduceIte, n0_e0, e]
            refine t_finP hB h24 (hB.1.1.set (w := 3) (by decide)) hok.1.1 (fun _ _ _ => rfl) (fun c a => up2_na _ _ (by omega)) (fun I2 A2 E2 h2 => ?_)
            simp only [i_X6_set_0, i_X6_set_1, i_X6_set_4, i_X6_set_5, i_X6_set_6, i_X6_set_11, i_X6_set_12, i_X6_set_13, i_X6_set_16, i_X6_set_19, i_X6_set_20, i_X6_set_21, i_X6_set_24, i_X6_set_25, i_X6_set_26, i_X6_set_29, i_X6_set_30, i_X6_set_31, i_X6_set_34, i_X6_set_36, i_X6_set_41, i_X6_set_50, i_X6_set_51, i_X6_set_54, i_X6_set_55, i_X6_set_58, i_X6_set_59, i_X6_set_62, i_X6_set_65, i_X6_set_75, i_X6_set_77, i_X6_set_79, i_X6_set_80, i_X6_set_81, i_X6_set_83, i_X6_set_85, i_X6_set_86, i_X6_set_87, i_X6_set_88, i_X6_set_89, i_X6_set_91, i_X6_set_94, i_X6_set_68, i_X6_set_69, i_X6_set_72, i_X6_set_80b, i_X6_set_87b, i_X6_set_39, i_X6_set_44, i_X6_set_45, i_X6_set_46, i_X6_set_49, i_X6_set_9, i_X6_set_10, i_X6_set_0_e, Option.toList_some, Option.toList_none, List.cons_append, List.nil_append, List.append_nil, ↓reduceIte]
            exact hQ I2 A2 E2 h2
          · simp (disch := omega) only [i_X6_set_0, i_X6_set_1, i_X6_set_4, i_X6_set_5, i_X6_set_6, i_X6_set_11, i_X6_set_12, i_X6_set_13, i_X6_set_16, i_X6_set_19, i_X6_set_20, i_X6_set_21, i_X6_set_24, i_X6_set_25, i_X6_set_26, i_X6_set_29, i_X6_set_30, i_X6_set_31, i_X6_set_34, i_X6_set_36, i_X6_set_41, i_X6_set_50, i_X6_set_51, i_X6_set_54, i_X6_set_55, i_X6_set_58, i_X6_set_59, i_X6_set_62, i_X6_set_65, i_X6_set_75, i_X6_set_77, i_X6_set_79, i_X6_set_80, i_X6_set_81, i_X6_set_83, i_X6_set_85, i_X6_set_86, i_X6_set_87, i_X6_set_88, i_X6_set_89, i_X6_set_91, i_X6_set_94, i_X6_set_68, i_X6_set_69, i_X6_set_72, i_X6_set_80b, i_X6_set_87b, i_X6_set_39, i_X6_set_44, i_X6_set_45, i_X6_set_46, i_X6_set_49, i_X6_set_9, i_X6_set_10, i_X6_set_0_e, Option.toList_some, Option.toList_none, List.cons_append, List.nil_append, List.append_nil, ↓reduceIte, q_neg, q_lt, hj1, t_isN hM.1 hT.wf, hx, bz_e0, hu1, n1_e0, reduceCtorEq]
            refine t_beginP (d := d + 3) hM h24 (fun I1 A1 hB => ?_)
            have e : A1 6 k = nI (S.1 4 k) := hB.1.1.2.2.2 4 k (by decide) hk (by omega)
            simp (disch := omega) only [i_X6_set_0, i_X6_set_1, i_X6_set_4, i_X6_set_5, i_X6_set_6, i_X6_set_11, i_X6_set_12, i_X6_set_13, i_X6_set_16, i_X6_set_19, i_X6_set_20, i_X6_set_21, i_X6_set_24, i_X6_set_25, i_X6_set_26, i_X6_set_29, i_X6_set_30, i_X6_set_31, i_X6_set_34, i_X6_set_36, i_X6_set_41, i_X6_set_50, i_X6_set_51, i_X6_set_54, i_X6_set_55, i_X6_set_58, i_X6_set_59, i_X6_set_62, i_X6_set_65, i_X6_set_75, i_X6_set_77, i_X6_set_79, i_X6_set_80, i_X6_set_81, i_X6_set_83, i_X6_set_85, i_X6_set_86, i_X6_set_87, i_X6_set_88, i_X6_set_89, i_X6_set_91, i_X6_set_94, i_X6_set_68, i_X6_set_69, i_X6_set_72, i_X6_set_80b, i_X6_set_87b, i_X6_set_39, i_X6_set_44, i_X6_set_45, i_X6_set_46, i_X6_set_49, i_X6_set_9, i_X6_set_10, i_X6_set_0_e, Option.toList_some, Option.toList_none, List.cons_append, List.nil_append, List.append_nil, ↓reduceIte, n1_e0, e]
            refine t_finP hB h24 (hB.1.1.set (w := 4) (by decide)) hok.1.1 (fun _ _ _ => rfl) (fun c a => up2_na _ _ (by omega)) (fun I2 A2 E2 h2 => ?_)
            simp only [i_X6_set_0, i_X6_set_1, i_X6_set_4, i_X6_set_5, i_X6_set_6, i_X6_set_11, i_X6_set_12, i_X6_set_13, i_X6_set_16, i_X6_set_19, i_X6_set_20, i_X6_set_21, i_X6_set_24, i_X6_set_25, i_X6_set_26, i_X6_set_29, i_X6_set_30, i_X6_set_31, i_X6_set_34, i_X6_set_36, i_X6_set_41, i_X6_set_50, i_X6_set_51, i_X6_set_54, i_X6_set_55, i_X6_set_58, i_X6_set_59, i_X6_set_62, i_X6_set_65, i_X6_set_75, i_X6_set_77, i_X6_set_79, i_X6_set_80, i_X6_set_81, i_X6_set_83, i_X6_set_85, i_X6_set_86, i_X6_set_87, i_X6_set_88, i_X6_set_89, i_X6_set_91, i_X6_set_94, i_X6_set_68, i_X6_set_69, i_X6_set_72, i_X6_set_80b, i_X6_set_87b, i_X6_set_39, i_X6_set_44, i_X6_set_45, i_X6_set_46, i_X6_set_49, i_X6_set_9, i_X6_set_10, i_X6_set_0_e, Option.toList_some, Option.toList_none, List.cons_append, List.nil_append, List.append_nil, ↓reduceIte]
            exact hQ I2 A2 E2 h2
      by_cases hj0 : j = 0
      · subst hj0; exact key 99 rfl (by decide) (Or.inl ⟨rfl, rfl⟩)
      · have : j = 1 := by omega
        subst this; exact key 9 rfl (by decide) (Or.inr ⟨rfl, rfl⟩)
theorem p_request (hM : RelP I A E S) (hS : OkS S) {x v : Int32} (hQ : ∀ I' A' E', RelP I' A' E' (o_request S x v).2 → Q (some (.int (o_request S x v).1)) (pm_w I' A' E' J B)) : pm_call X (d + 5) mX6_request [.ref 0, .int x, .int v] (pm_w I A E J B) Q := by
  have hT := hS.1.1
  have h24 := hT.wf.2.1
  have hok := ok_request hS (x := x) (v := v)
  unfold o_request at hQ hok
  cases hx : isL S.1 x with
  | false =>
    rw [hx] at hQ
    simp (disch := omega) only [i_X6_request_0, i_X6_request_1, i_X6_request_2, i_X6_request_5, i_X6_request_8, i_X6_request_9, i_X6_request_10, i_X6_request_11, i_X6_request_14, i_X6_request_15, i_X6_request_16, i_X6_request_19, i_X6_request_21, i_X6_request_22, i_X6_request_23, i_X6_request_26, i_X6_request_27, i_X6_request_30, i_X6_request_33, i_X6_request_34, i_X6_request_35, i_X6_request_36, i_X6_request_37, i_X6_request_38, i_X6_request_41, i_X6_request_42, i_X6_request_43, i_X6_request_46, i_X6_request_0_e, Option.toList_some, Option.toList_none, List.cons_append, List.nil_append, List.append_nil, ↓reduceIte, t_isLeaf hM.1 hT, hx, bz_e0]
    exact hQ I A E hM
  | true =>
    rw [hx] at hQ hok
    obtain ⟨k, hk, h5, rfl⟩ := isL_t hT.wf hx
    rcases x_cases v (n := 2) (by decide) (by decide) with ⟨h1, h2⟩ | ⟨u, hu, rfl⟩
    · rw [h1] at hQ
      have z1 := x_out h2 (m := 1) (by decide) (by decide)
      have z0 := x_out h2 (m := 0) (by decide) (by decide)
      rw [nI_0] at z0
      simp (disch := omega) only [i_X6_request_0, i_X6_request_1, i_X6_request_2, i_X6_request_5, i_X6_request_8, i_X6_request_9, i_X6_request_10, i_X6_request_11, i_X6_request_14, i_X6_request_15, i_X6_request_16, i_X6_request_19, i_X6_request_21, i_X6_request_22, i_X6_request_23, i_X6_request_26, i_X6_request_27, i_X6_request_30, i_X6_request_33, i_X6_request_34, i_X6_request_35, i_X6_request_36, i_X6_request_37, i_X6_request_38, i_X6_request_41, i_X6_request_42, i_X6_request_43, i_X6_request_46, i_X6_request_0_e, Option.toList_some, Option.toList_none, List.cons_append, List.nil_append, List.append_nil, ↓reduceIte, t_isLeaf hM.1 hT, hx, bz_e0, z0, z1, reduceCtorEq]
      exact hQ I A E hM
    · have hv : inR (nI u) 0 1 = true := by rw [inR_n (by omega)]; simp; omega
      rw [hv, xN_n (by omega), xN_n (by omega)] at hQ hok
      have go : pm_wp X (d + 5) mX6_request 22 [.ref 0, .int (nI k), .int (nI u)] [] (pm_w I A E J B) Q := by
        simp (disch := omega) only [i_X6_request_0, i_X6_request_1, i_X6_request_2, i_X6_request_5, i_X6_request_8, i_X6_request_9, i_X6_request_10, i_X6_request_11, i_X6_request_14, i_X6_request_15, i_X6_request_16, i_X6_request_19, i_X6_request_21, i_X6_request_22, i_X6_request_23, i_X6_request_26, i_X6_request_27, i_X6_request_30, i_X6_request_33, i_X6_request_34, i_X6_request_35, i_X6_request_36, i_X6_request_37, i_X6_request_38, i_X6_request_41, i_X6_request_42, i_X6_request_43, i_X6_request_46, i_X6_request_0_e, Option.toList_some, Option.toList_none, List.cons_append, List.nil_append, List.append_nil, ↓reduceIte]
        refine t_beginP (d := d + 3) hM h24 (fun I1 A1 hB => ?_)
        simp (disch := omega) only [i_X6_request_0, i_X6_request_1, i_X6_request_2, i_X6_request_5, i_X6_request_8, i_X6_request_9, i_X6_request_10, i_X6_request_11, i_X6_request_14, i_X6_request_15, i_X6_request_16, i_X6_request_19, i_X6_request_21, i_X6_request_22, i_X6_request_23, i_X6_request_26, i_X6_request_27, i_X6_request_30, i_X6_request_33, i_X6_request_34, i_X6_request_35, i_X6_request_36, i_X6_request_37, i_X6_request_38, i_X6_request_41, i_X6_request_42, i_X6_request_43, i_X6_request_46, i_X6_request_0_e, Option.toList_some, Option.toList_none, List.cons_append, List.nil_append, List.append_nil, ↓reduceIte]
        refine t_finP hB h24 (hB.1.1.set (w := 8) (by decide)) hok.1.1 (fun _ _ _ => rfl) (fun c a => up2_na _ _ (by omega)) (fun I2 A2 E2 h2 => ?_)
        simp only [i_X6_request_0, i_X6_request_1, i_X6_request_2, i_X6_request_5, i_X6_request_8, i_X6_request_9, i_X6_request_10, i_X6_request_11, i_X6_request_14, i_X6_request_15, i_X6_request_16, i_X6_request_19, i_X6_request_21, i_X6_request_22, i_X6_request_23, i_X6_request_26, i_X6_request_27, i_X6_request_30, i_X6_request_33, i_X6_request_34, i_X6_request_35, i_X6_request_36, i_X6_request_37, i_X6_request_38, i_X6_request_41, i_X6_request_42, i_X6_request_43, i_X6_request_46, i_X6_request_0_e, Option.toList_some, Option.toList_none, List.cons_append, List.nil_append, List.append_nil, ↓reduceIte]
        rw [t_openGates h2.1 h2.2.1 hok.1.1]
        simp only [i_X6_request_0, i_X6_request_1, i_X6_request_2, i_X6_request_5, i_X6_request_8, i_X6_request_9, i_X6_request_10, i_X6_request_11, i_X6_request_14, i_X6_request_15, i_X6_request_16, i_X6_request_19, i_X6_request_21, i_X6_request_22, i_X6_request_23, i_X6_request_26, i_X6_request_27, i_X6_request_30, i_X6_request_33, i_X6_request_34, i_X6_request_35, i_X6_request_36, i_X6_request_37, i_X6_request_38, i_X6_request_41, i_X6_request_42, i_X6_request_43, i_X6_request_46, i_X6_request_0_e, Option.toList_some, Option.toList_none, List.cons_append, List.nil_append, List.append_nil, ↓reduceIte]
        exact hQ I2 A2 E2 h2
      by_cases hu0 : u = 0
      · simp (disch := omega) only [i_X6_request_0, i_X6_request_1, i_X6_request_2, i_X6_request_5, i_X6_request_8, i_X6_request_9, i_X6_request_10, i_X6_request_11, i_X6_request_14, i_X6_request_15, i_X6_request_16, i_X6_request_19, i_X6_request_21, i_X6_request_23, i_X6_request_26, i_X6_request_27, i_X6_request_30, i_X6_request_33, i_X6_request_34, i_X6_request_35, i_X6_request_36, i_X6_request_37, i_X6_request_38, i_X6_request_41, i_X6_request_42, i_X6_request_43, i_X6_request_46, i_X6_request_0_e, Option.toList_some, Option.toList_none, List.cons_append, List.nil_append, List.append_nil, ↓reduceIte, t_isLeaf hM.1 hT, hx, bz_e0, q_e0, hu0, reduceCtorEq]
        rw [hu0] at go
        exact go
      · have : u = 1 := by omega
        subst this
        simp (disch := omega) only [i_X6_request_0, i_X6_request_1, i_X6_request_2, i_X6_request_5, i_X6_request_8, i_X6_request_9, i_X6_request_10, i_X6_request_11, i_X6_request_14, i_X6_request_15, i_X6_request_16, i_X6_request_19, i_X6_request_21, i_X6_request_23, i_X6_request_26, i_X6_request_27, i_X6_request_30, i_X6_request_33, i_X6_request_34, i_X6_request_35, i_X6_request_36, i_X6_request_37, i_X6_request_38, i_X6_request_41, i_X6_request_42, i_X6_request_43, i_X6_request_46, i_X6_request_0_e, Option.toList_some, Option.toList_none, List.cons_append, List.nil_append, List.append_nil, ↓reduceIte, t_isLeaf hM.1 hT, hx, bz_e0, n1_e0, reduceCtorEq]
        exact go
theorem p_limit (hM : RelP I A E S) (hS : OkS S) {x v : Int32} (hQ : ∀ I' A' E', RelP I' A' E' (o_limit S x v).2 → Q (some (.int (o_limit S x v).1)) (pm_w I' A' E' J B)) : pm_call X (d + 5) mX6_limit [.ref 0, .int x, .int v] (pm_w I A E J B) Q := by
  have hT := hS.1.1
  have h24 := hT.wf.2.1
  have hok := ok_limit hS (x := x) (v := v)
  unfold o_limit at hQ hok
  cases hx : inR x 0 3 with
  | false =>
    rw [hx] at hQ
    simp (disch := omega) only [i_X6_limit_0, i_X6_limit_1, i_X6_limit_4, i_X6_limit_7, i_X6_limit_8, i_X6_limit_9, i_X6_limit_10, i_X6_limit_13, i_X6_limit_14, i_X6_limit_17, i_X6_limit_23, i_X6_limit_24, i_X6_limit_27, i_X6_limit_28, i_X6_limit_31, i_X6_limit_34, i_X6_limit_35, i_X6_limit_36, i_X6_limit_37, i_X6_limit_38, i_X6_limit_39, i_X6_limit_40, i_X6_limit_43, i_X6_limit_44, i_X6_limit_47, i_X6_limit_48, i_X6_limit_52, i_X6_limit_55, i_X6_limit_51, i_X6_limit_20, i_X6_limit_22, i_X6_limit_0_e, Option.toList_some, Option.toList_none, List.cons_append, List.nil_append, List.append_nil, ↓reduceIte, t_isGroup, hx, bz_e0]
    exact hQ I A E hM
  | true =>
    rw [hx] at hQ hok
    have hx2 := hx
    obtain ⟨g, _, hg, rfl⟩ := inR_t (by decide) hx2
    have hg4 : g < 4 := by omega
    rcases x_cases v (n := 1000) (by decide) (by decide) with ⟨h1, h2⟩ | ⟨u, hu, rfl⟩
    · rw [h1] at hQ
      by_cases hn : v < 0
      · simp (disch := omega) only [i_X6_limit_0, i_X6_limit_1, i_X6_limit_4, i_X6_limit_7, i_X6_limit_8, i_X6_limit_9, i_X6_limit_10, i_X6_limit_13, i_X6_limit_14, i_X6_limit_17, i_X6_limit_23, i_X6_limit_24, i_X6_limit_27, i_X6_limit_28, i_X6_limit_31, i_X6_limit_34, i_X6_limit_35, i_X6_limit_36, i_X6_limit_37, i_X6_limit_38, i_X6_limit_39, i_X6_limit_40, i_X6_limit_43, i_X6_limit_44, i_X6_limit_47, i_X6_limit_48, i_X6_limit_52, i_X6_limit_55, i_X6_limit_51, i_X6_limit_20, i_X6_limit_22, i_X6_limit_0_e, Option.toList_some, Option.toList_none, List.cons_append, List.nil_append, List.append_nil, ↓reduceIte, t_isGroup, hx, bz_e0, hn, reduceCtorEq]
        exact hQ I A E hM
      · have h5 : nI 999 < v := by
          rw [Int32.lt_iff_toInt_lt, nI_toInt (by omega)]
          have : ¬ v.toInt < 0 := fun q => hn (by simpa [Int32.lt_iff_toInt_lt] using q)
          omega
        simp (disch := omega) only [i_X6_limit_0, i_X6_limit_1, i_X6_limit_4, i_X6_limit_7, i_X6_limit_8, i_X6_limit_9, i_X6_limit_10, i_X6_limit_13, i_X6_limit_14, i_X6_limit_17, i_X6_limit_23, i_X6_limit_24, i_X6_limit_27, i_X6_limit_28, i_X6_limit_31, i_X6_limit_34, i_X6_limit_35, i_X6_limit_36, i_X6_limit_37, i_X6_limit_38, i_X6_limit_39, i_X6_limit_40, i_X6_limit_43, i_X6_limit_44, i_X6_limit_47, i_X6_limit_48, i_X6_limit_52, i_X6_limit_55, i_X6_limit_51, i_X6_limit_20, i_X6_limit_22, i_X6_limit_0_e, Option.toList_some, Option.toList_none, List.cons_append, List.nil_append, List.append_nil, ↓reduceIte, t_isGroup, hx, bz_e0, hn, h5, reduceCtorEq]
        exact hQ I A E hM
    · have hv : inR (nI u) 0 999 = true := by rw [inR_n (by omega)]; simp; omega
      have hu1 : ¬ 999 < u := by omega
      rw [hv, xN_n (by omega), xN_n (by omega)] at hQ hok
      simp (disch := omega) only [i_X6_limit_0, i_X6_limit_1, i_X6_limit_4, i_X6_limit_7, i_X6_limit_8, i_X6_limit_9, i_X6_limit_10, i_X6_limit_13, i_X6_limit_14, i_X6_limit_17, i_X6_limit_23, i_X6_limit_24, i_X6_limit_27, i_X6_limit_28, i_X6_limit_31, i_X6_limit_34, i_X6_limit_35, i_X6_limit_36, i_X6_limit_37, i_X6_limit_38, i_X6_limit_39, i_X6_limit_40, i_X6_limit_43, i_X6_limit_44, i_X6_limit_47, i_X6_limit_48, i_X6_limit_52, i_X6_limit_55, i_X6_limit_51, i_X6_limit_20, i_X6_limit_22, i_X6_limit_0_e, Option.toList_some, Option.toList_none, List.cons_append, List.nil_append, List.append_nil, ↓reduceIte, t_isGroup, hx, bz_e0, q_neg, q_lt, hu1, reduceCtorEq]
      refine t_beginP (d := d + 3) hM h24 (fun I1 A1 hB => ?_)
      have hP2 : RelTP I1 (up2 A1 12 g (nI u)) 1 (up2 S.1 11 g u) := hB.1.1.lim
      have hF2 : RelF (up2 A1 12 g (nI u)) E 37 (up2 S.1 11 g u) := by
        refine RelF_lim ?_
        obtain ⟨f1, f2, f3, f4⟩ := hB.1.2.1
        exact ⟨f1, fun k hk => by rw [up2_na _ _ (by omega), up2_na _ _ (by omega)]; exact f2 k hk, fun k hk => by rw [up2_na _ _ (by omega), up2_na _ _ (by omega), up2_na _ _ (by omega)]; exact f3 k hk, fun k hk => by rw [up2_na _ _ (by omega), up2_na _ _ (by omega)]; exact f4 k hk⟩
      simp (disch := omega) only [i_X6_limit_0, i_X6_limit_1, i_X6_limit_4, i_X6_limit_7, i_X6_limit_8, i_X6_limit_9, i_X6_limit_10, i_X6_limit_13, i_X6_limit_14, i_X6_limit_17, i_X6_limit_23, i_X6_limit_24, i_X6_limit_27, i_X6_limit_28, i_X6_limit_31, i_X6_limit_34, i_X6_limit_35, i_X6_limit_36, i_X6_limit_37, i_X6_limit_38, i_X6_limit_39, i_X6_limit_40, i_X6_limit_43, i_X6_limit_44, i_X6_limit_47, i_X6_limit_48, i_X6_limit_52, i_X6_limit_55, i_X6_limit_51, i_X6_limit_20, i_X6_limit_22, i_X6_limit_0_e, Option.toList_some, Option.toList_none, List.cons_append, List.nil_append, List.append_nil, ↓reduceIte]
      rw [t_skewOf hP2 hF2 hok.1.1 hg4]
      by_cases hc : nI u < skI (up2 S.1 11 g u) g
      · rw [if_pos hc] at hQ
        simp (disch := omega) only [i_X6_limit_0, i_X6_limit_1, i_X6_limit_4, i_X6_limit_7, i_X6_limit_8, i_X6_limit_9, i_X6_limit_10, i_X6_limit_13, i_X6_limit_14, i_X6_limit_17, i_X6_limit_23, i_X6_limit_24, i_X6_limit_27, i_X6_limit_28, i_X6_limit_31, i_X6_limit_34, i_X6_limit_35, i_X6_limit_36, i_X6_limit_37, i_X6_limit_38, i_X6_limit_39, i_X6_limit_40, i_X6_limit_43, i_X6_limit_44, i_X6_limit_47, i_X6_limit_48, i_X6_limit_52, i_X6_limit_55, i_X6_limit_51, i_X6_limit_20, i_X6_limit_22, i_X6_limit_0_e, Option.toList_some, Option.toList_none, List.cons_append, List.nil_append, List.append_nil, ↓reduceIte, hc]
        refine t_finP hB h24 hP2 hok.1.1 (fun _ _ _ => rfl) (fun c a => up2_na _ _ (by omega)) (fun I2 A2 E2 h2 => ?_)
        simp only [i_X6_limit_0, i_X6_limit_1, i_X6_limit_4, i_X6_limit_7, i_X6_limit_8, i_X6_limit_9, i_X6_limit_10, i_X6_limit_13, i_X6_limit_14, i_X6_limit_17, i_X6_limit_23, i_X6_limit_24, i_X6_limit_27, i_X6_limit_28, i_X6_limit_31, i_X6_limit_34, i_X6_limit_35, i_X6_limit_36, i_X6_limit_37, i_X6_limit_38, i_X6_limit_39, i_X6_limit_40, i_X6_limit_43, i_X6_limit_44, i_X6_limit_47, i_X6_limit_48, i_X6_limit_52, i_X6_limit_55, i_X6_limit_51, i_X6_limit_20, i_X6_limit_22, i_X6_limit_0_e, Option.toList_some, Option.toList_none, List.cons_append, List.nil_append, List.append_nil, ↓reduceIte]
        exact hQ I2 A2 E2 h2
      · rw [if_neg hc] at hQ
        simp (disch := omega) only [i_X6_limit_0, i_X6_limit_1, i_X6_limit_4, i_X6_limit_7, i_X6_limit_8, i_X6_limit_9, i_X6_limit_10, i_X6_limit_13, i_X6_limit_14, i_X6_limit_17, i_X6_limit_23, i_X6_limit_24, i_X6_limit_27, i_X6_limit_28, i_X6_limit_31, i_X6_limit_34, i_X6_limit_35, i_X6_limit_36, i_X6_limit_37, i_X6_limit_38, i_X6_limit_39, i_X6_limit_40, i_X6_limit_43, i_X6_limit_44, i_X6_limit_47, i_X6_limit_48, i_X6_limit_52, i_X6_limit_55, i_X6_limit_51, i_X6_limit_20, i_X6_limit_22, i_X6_limit_0_e, Option.toList_some, Option.toList_none, List.cons_append, List.nil_append, List.append_nil, ↓reduceIte, hc]
        refine t_finP hB h24 hP2 hok.1.1 (fun _ _ _ => rfl) (fun c a => up2_na _ _ (by omega)) (fun I2 A2 E2 h2 => ?_)
        simp only [i_X6_limit_0, i_X6_limit_1, i_X6_limit_4, i_X6_limit_7, i_X6_limit_8, i_X6_limit_9, i_X6_limit_10, i_X6_limit_13, i_X6_limit_14, i_X6_limit_17, i_X6_limit_23, i_X6_limit_24, i_X6_limit_27, i_X6_limit_28, i_X6_limit_31, i_X6_limit_34, i_X6_limit_35, i_X6_limit_36, i_X6_limit_37, i_X6_limit_38, i_X6_limit_39, i_X6_limit_40, i_X6_limit_43, i_X6_limit_44, i_X6_limit_47, i_X6_limit_48, i_X6_limit_52, i_X6_limit_55, i_X6_limit_51, i_X6_limit_20, i_X6_limit_22, i_X6_limit_0_e, Option.toList_some, Option.toList_none, List.cons_append, List.nil_append, List.append_nil, ↓reduceIte]
        exact hQ I2 A2 E2 h2
end PLI
