/-! the reference changes its state -/
theorem RelT.set {f : Nat → Int32} {T : Tr} (h : RelT f T) {w k v : Nat} (hw : w < 10) (hne : w ≠ 1) : RelT (upd f (6 + 10 * k + w) (nI v)) (up2 T w k v) := by
  have e : ∀ j, j ≠ 6 + 10 * k + w → upd f (6 + 10 * k + w) (nI v) j = f j := fun j hj => by simp [upd, hj]
  refine ⟨?_, ?_, fun g hg => ?_, ?_, fun j u hj hu hn => ?_⟩
  · rw [e 0 (by omega), up2_na _ _ (by omega)]; exact h.1
  · rw [e 1 (by omega), up2_na _ _ (by omega)]; exact h.2.1
  · rw [e (2 + g) (by omega), up2_na _ _ (by omega)]; exact h.2.2.1 g hg
  · rw [e 7 (by omega)]; exact h.2.2.2.1
  · rw [up2_na _ _ (by omega)] at hj
    by_cases hc : u = w ∧ j = k
    · rw [hc.1, hc.2, up2_s]; simp [upd]
    · rw [up2_n _ _ hc, e _ (by omega)]; exact h.2.2.2.2 j u hj hu hn
theorem RelM.set {J : Nat → Int32} {B : Nat → Nat → Int32} {S : St} (h : RelM J B S) {w k v : Nat} (hw : w < 10) (hne : w ≠ 1) : RelM J (up2 B 140 (6 + 10 * k + w) (nI v)) (up2 S.1 w k v, S.2) := by
  refine ⟨?_, h.2.fr ⟨rfl, rfl, rfl, rfl⟩ ⟨up2_na _ _ (by omega), up2_na _ _ (by omega), up2_na _ _ (by omega)⟩⟩
  rw [up2_row]
  exact h.1.set hw hne
theorem RelT.lim {f : Nat → Int32} {T : Tr} (h : RelT f T) {g v : Nat} (hg : g < 4) : RelT (upd f (2 + g) (nI v)) (up2 T 11 g v) := by
  have e : ∀ j, j ≠ 2 + g → upd f (2 + g) (nI v) j = f j := fun j hj => by simp [upd, hj]
  refine ⟨?_, ?_, fun q hq => ?_, ?_, fun j u hj hu hn => ?_⟩
  · rw [e 0 (by omega), up2_na _ _ (by omega)]; exact h.1
  · rw [e 1 (by omega), up2_na _ _ (by omega)]; exact h.2.1
  · by_cases hc : q = g
    · subst hc; rw [up2_s]; simp [upd]
    · rw [e (2 + q) (by omega), up2_n _ _ (by omega)]; exact h.2.2.1 q hq
  · rw [e 7 (by omega)]; exact h.2.2.2.1
  · rw [up2_na _ _ (by omega)] at hj
    rw [up2_na _ _ (by omega), e _ (by omega)]; exact h.2.2.2.2 j u hj hu hn
theorem RelM.lim {J : Nat → Int32} {B : Nat → Nat → Int32} {S : St} (h : RelM J B S) {g v : Nat} (hg : g < 4) : RelM J (up2 B 140 (2 + g) (nI v)) (up2 S.1 11 g v, S.2) := by
  refine ⟨?_, h.2.fr ⟨rfl, rfl, rfl, rfl⟩ ⟨up2_na _ _ (by omega), up2_na _ _ (by omega), up2_na _ _ (by omega)⟩⟩
  rw [up2_row]
  exact h.1.lim hg
theorem RelM.ref {J : Nat → Int32} {B : Nat → Nat → Int32} {S : St} {c : Nat} (h : RelM J B S) : RelM (upd J 8 (nI c)) B (refS S c) := by
  refine ⟨h.1, ⟨⟨h.2.1.1, by rw [show upd J 8 (nI c) 2 = J 2 from rfl]; exact h.2.1.2.1, h.2.1.2.2⟩, ?_, ⟨by rw [show upd J 8 (nI c) 7 = J 7 from rfl]; exact h.2.2.2.1.1, h.2.2.2.1.2.1, h.2.2.2.1.2.2⟩, rfl⟩⟩
  have := h.2.2.1
  show RelSM _ B S.2.2.1
  cases hs : S.2.2.1 with
  | none => rw [hs] at this; exact this
  | some t => rw [hs] at this; exact ⟨by simpa [upd] using this.1, this.2⟩
section MOI
variable {X : pm_X} {d : Nat} {G : pm_H} {Q : Option Value → pm_H → Prop} {I A : Nat → Nat → Int32} {E : Nat → Nat → Int64} {J : Nat → Int32} {B : Nat → Nat → Int32} {T T0 : Tr} {hs : List Tr} {sn : Option Tr} {tp : List Nat} {rs : Int32} {S : St}
theorem s_remM (hR : RelT (B 140) T) (hO : RelOM J B hs sn tp rs) (h0 : RelT (B 143) T0) (h24 : T0 10 0 ≤ 24) (hQ : ∀ J' B', RelM J' B' (T, pushH hs T0, sn, tp, rs) → Q none (pm_w I A E J' B')) : pm_call X d mX7_remember [.ref 139] (pm_w I A E J B) Q := by
  refine s_remember hO.1 h0 h24 (fun J' B' hH hJ hB => hQ J' B' ⟨by rw [hB 140 (by decide)]; exact hR, hH, ?_, ⟨by rw [hJ 7 (by decide)]; exact hO.2.2.1.1, hO.2.2.1.2.1, by rw [hB 144 (by decide)]; exact hO.2.2.1.2.2⟩, by rw [hJ 8 (by decide)]; exact hO.2.2.2⟩)
  have := hO.2.1
  cases sn with
  | none => show J' 4 = _; rw [hJ 4 (by decide)]; exact this
  | some t => exact ⟨by rw [hJ 4 (by decide)]; exact this.1, this.2.1, by rw [hB 142 (by decide)]; exact this.2.2⟩
theorem RelM.kept (h : RelM J B S) (h24 : S.1 10 0 ≤ 24) : RelM J (cpR B 143 140 246) S ∧ RelT (cpR B 143 140 246 143) S.1 :=
  ⟨⟨by rw [cpR_ne (by decide)]; exact h.1, h.2.fr ⟨rfl, rfl, rfl, rfl⟩ ⟨cpR_ne (by decide), cpR_ne (by decide), cpR_ne (by decide)⟩⟩, RelT.congr h24 (fun k hk => cpR_at hk) h.1⟩
theorem s_kr (hM : RelM J B S) (h24 : S.1 10 0 ≤ 24) (hQ : ∀ J' B', RelM J' B' (chgS S S.1) → Q none (pm_w I A E J' B')) : pm_call X d mX7_remember [.ref 139] (pm_w I A E J (cpR B 143 140 246)) Q := by
  obtain ⟨h1, h2⟩ := hM.kept h24
  exact s_remM h1.1 h1.2 h2 h24 hQ
theorem m_set (hM : RelM J B S) (hS : OkS S) {x w v : Int32} (hQ : ∀ J' B', RelM J' B' (o_set S x w v).2 → Q (some (.int (o_set S x w v).1)) (pm_w I A E J' B')) : pm_call X (d + 2) mX7_set [.ref 139, .int x, .int w, .int v] (pm_w I A E J B) Q := by
  have hT := hS.1.1
  have h24 := hT.wf.2.1
  unfold o_set at hQ
  cases hw : inR w 0 1 with
  | false =>
    rw [hw] at hQ
    simp (disch := omega) only [i_X7_set_0, i_X7_set_1, i_X7_set_2, i_X7_set_3, i_X7_set_4, i_X7_set_7, i_X7_set_10, i_X7_set_11, i_X7_set_12, i_X7_set_13, i_X7_set_14, i_X7_set_17, i_X7_set_20, i_X7_set_21, i_X7_set_22, i_X7_set_25, i_X7_set_26, i_X7_set_27, i_X7_set_28, i_X7_set_29, i_X7_set_30, i_X7_set_33, i_X7_set_36, i_X7_set_42, i_X7_set_45, i_X7_set_48, i_X7_set_49, i_X7_set_50, i_X7_set_53, i_X7_set_54, i_X7_set_55, i_X7_set_58, i_X7_set_59, i_X7_set_62, i_X7_set_63, i_X7_set_64, i_X7_set_65, i_X7_set_66, i_X7_set_67, i_X7_set_70, i_X7_set_72, i_X7_set_73, i_X7_set_74, i_X7_set_75, i_X7_set_76, i_X7_set_77, i_X7_set_78, i_X7_set_79, i_X7_set_82, i_X7_set_84, i_X7_set_39, i_X7_set_0_e, Option.toList_some, Option.toList_none, List.cons_append, List.nil_append, List.append_nil, ↓reduceIte, s_isInR, hw, bz_e0]
    exact hQ J B hM
  | true =>
    rw [hw] at hQ
    cases hx : isN S.1 x with
    | false =>
      rw [hx] at hQ
      simp (disch := omega) only [i_X7_set_0, i_X7_set_1, i_X7_set_2, i_X7_set_3, i_X7_set_4, i_X7_set_7, i_X7_set_10, i_X7_set_11, i_X7_set_12, i_X7_set_13, i_X7_set_14, i_X7_set_17, i_X7_set_20, i_X7_set_21, i_X7_set_22, i_X7_set_25, i_X7_set_26, i_X7_set_27, i_X7_set_28, i_X7_set_29, i_X7_set_30, i_X7_set_33, i_X7_set_36, i_X7_set_42, i_X7_set_45, i_X7_set_48, i_X7_set_49, i_X7_set_50, i_X7_set_53, i_X7_set_54, i_X7_set_55, i_X7_set_58, i_X7_set_59, i_X7_set_62, i_X7_set_63, i_X7_set_64, i_X7_set_65, i_X7_set_66, i_X7_set_67, i_X7_set_70, i_X7_set_72, i_X7_set_73, i_X7_set_74, i_X7_set_75, i_X7_set_76, i_X7_set_77, i_X7_set_78, i_X7_set_79, i_X7_set_82, i_X7_set_84, i_X7_set_39, i_X7_set_0_e, Option.toList_some, Option.toList_none, List.cons_append, List.nil_append, List.append_nil, ↓reduceIte, s_isInR, hw, bz_e0, s_isN hM.1 hT.wf, hx, s_refuse, reduceCtorEq]
      exact hQ _ B hM.ref
    | true =>
      rw [hx] at hQ
      obtain ⟨k, hk, rfl⟩ := isN_t hT.wf hx
      have key : ∀ c, (if w = 0 then 99 else 9) = c → c < 100 → ∀ j, w = nI j → j < 2 → pm_call X (d + 2) mX7_set [.ref 139, .int (nI k), .int w, .int v] (pm_w I A E J B) Q := by
        intro c hc hc2 j hj hj2
        rw [hc] at hQ
        subst hj
        cases hv : inR v 0 c with
        | false =>
          rw [hv] at hQ
          by_cases hj0 : j = 0
          · subst hj0
            rw [if_pos (by rfl)] at hc
            subst hc
            simp (disch := omega) only [i_X7_set_0, i_X7_set_1, i_X7_set_2, i_X7_set_3, i_X7_set_4, i_X7_set_7, i_X7_set_10, i_X7_set_11, i_X7_set_12, i_X7_set_13, i_X7_set_14, i_X7_set_17, i_X7_set_20, i_X7_set_21, i_X7_set_22, i_X7_set_25, i_X7_set_26, i_X7_set_27, i_X7_set_28, i_X7_set_29, i_X7_set_30, i_X7_set_33, i_X7_set_36, i_X7_set_42, i_X7_set_45, i_X7_set_48, i_X7_set_49, i_X7_set_50, i_X7_set_53, i_X7_set_54, i_X7_set_55, i_X7_set_58, i_X7_set_59, i_X7_set_62, i_X7_set_63, i_X7_set_64, i_X7_set_65, i_X7_set_66, i_X7_set_67, i_X7_set_70, i_X7_set_72, i_X7_set_73, i_X7_set_74, i_X7_set_75, i_X7_set_76, i_X7_set_77, i_X7_set_78, i_X7_set_79, i_X7_set_82, i_X7_set_84, i_X7_set_39, i_X7_set_0_e, Option.toList_some, Option.toList_none, List.cons_append, List.nil_append, List.append_nil, ↓reduceIte, s_isInR, hw, bz_e0, s_isN hM.1 hT.wf, hx, s_refuse, reduceCtorEq, n0_e0, hv]
            exact hQ _ B hM.ref
          · rw [if_neg (by rw [q_e0 (by omega)]; exact hj0)] at hc
            subst hc
            simp (disch := omega) only [i_X7_set_0, i_X7_set_1, i_X7_set_2, i_X7_set_3, i_X7_set_4, i_X7_set_7, i_X7_set_10, i_X7_set_11, i_X7_set_12, i_X7_set_13, i_X7_set_14, i_X7_set_17, i_X7_set_20, i_X7_set_21, i_X7_set_22, i_X7_set_25, i_X7_set_26, i_X7_set_27, i_X7_set_28, i_X7_set_29, i_X7_set_30, i_X7_set_33, i_X7_set_36, i_X7_set_42, i_X7_set_45, i_X7_set_48, i_X7_set_49, i_X7_set_50, i_X7_set_53, i_X7_set_54, i_X7_set_55, i_X7_set_58, i_X7_set_59, i_X7_set_62, i_X7_set_63, i_X7_set_64, i_X7_set_65, i_X7_set_66, i_X7_set_67, i_X7_set_70, i_X7_set_72, i_X7_set_73, i_X7_set_74, i_X7_set_75, i_X7_set_76, i_X7_set_77, i_X7_set_78, i_X7_set_79, i_X7_set_82, i_X7_set_84, i_X7_set_39, i_X7_set_0_e, Option.toList_some, Option.toList_none, List.cons_append, List.nil_append, List.append_nil, ↓reduceIte, s_isInR, hw, bz_e0, s_isN hM.1 hT.wf, hx, s_refuse, reduceCtorEq, q_e0, hj0, hv]
            exact hQ _ B hM.ref
        | true =>
          rw [hv] at hQ
          obtain ⟨u, _, hu, rfl⟩ := inR_t (by omega) hv
          rw [xN_n (by omega), xN_n (by omega), xN_n (by omega)] at hQ
          have fin : ∀ J' B', RelM J' B' (chgS S S.1) → Q (some (.int (B' 140 (6 + 10 * k + (3 + j))))) (pm_w I A E J' (up2 B' 140 (6 + 10 * k + (3 + j)) (nI u))) := by
            intro J' B' hM'
            rw [hM'.1.2.2.2.2 k (3 + j) hk (by omega) (by omega)]
            exact hQ _ _ (hM'.set (w := 3 + j) (by omega) (by omega))
          by_cases hj0 : j = 0
          · subst hj0
            rw [if_pos (by rfl)] at hc
            subst hc
            simp (disch := omega) only [i_X7_set_0, i_X7_set_1, i_X7_set_2, i_X7_set_3, i_X7_set_4, i_X7_set_7, i_X7_set_10, i_X7_set_11, i_X7_set_12, i_X7_set_13, i_X7_set_14, i_X7_set_17, i_X7_set_20, i_X7_set_21, i_X7_set_22, i_X7_set_25, i_X7_set_26, i_X7_set_27, i_X7_set_28, i_X7_set_29, i_X7_set_30, i_X7_set_33, i_X7_set_36, i_X7_set_42, i_X7_set_45, i_X7_set_48, i_X7_set_49, i_X7_set_50, i_X7_set_53, i_X7_set_54, i_X7_set_55, i_X7_set_58, i_X7_set_59, i_X7_set_62, i_X7_set_63, i_X7_set_64, i_X7_set_65, i_X7_set_66, i_X7_set_67, i_X7_set_70, i_X7_set_72, i_X7_set_73, i_X7_set_74, i_X7_set_75, i_X7_set_76, i_X7_set_77, i_X7_set_78, i_X7_set_79, i_X7_set_82, i_X7_set_84, i_X7_set_39, i_X7_set_0_e, Option.toList_some, Option.toList_none, List.cons_append, List.nil_append, List.append_nil, ↓reduceIte, s_isInR, hw, bz_e0, s_isN hM.1 hT.wf, hx, s_refuse, reduceCtorEq, n0_e0, hv, s_keeps]
            refine s_kr hM h24 (fun J' B' hM' => ?_)
            simp (disch := omega) only [i_X7_set_0, i_X7_set_1, i_X7_set_2, i_X7_set_3, i_X7_set_4, i_X7_set_7, i_X7_set_10, i_X7_set_11, i_X7_set_12, i_X7_set_13, i_X7_set_14, i_X7_set_17, i_X7_set_20, i_X7_set_21, i_X7_set_22, i_X7_set_25, i_X7_set_26, i_X7_set_27, i_X7_set_28, i_X7_set_29, i_X7_set_30, i_X7_set_33, i_X7_set_36, i_X7_set_42, i_X7_set_45, i_X7_set_48, i_X7_set_49, i_X7_set_50, i_X7_set_53, i_X7_set_54, i_X7_set_55, i_X7_set_58, i_X7_set_59, i_X7_set_62, i_X7_set_63, i_X7_set_64, i_X7_set_65, i_X7_set_66, i_X7_set_67, i_X7_set_70, i_X7_set_72, i_X7_set_73, i_X7_set_74, i_X7_set_75, i_X7_set_76, i_X7_set_77, i_X7_set_78, i_X7_set_79, i_X7_set_82, i_X7_set_84, i_X7_set_39, i_X7_set_0_e, Option.toList_some, Option.toList_none, List.cons_append, List.nil_append, List.append_nil, ↓reduceIte, nI_add, s_n, s_put, l_of, l_toI]
            exact fin J' B' hM'
          · rw [if_neg (by rw [q_e0 (by omega)]; exact hj0)] at hc
            subst hc
            simp (disch := omega) only [i_X7_set_0, i_X7_set_1, i_X7_set_2, i_X7_set_3, i_X7_set_4, i_X7_set_7, i_X7_set_10, i_X7_set_11, i_X7_set_12, i_X7_set_13, i_X7_set_14, i_X7_set_17, i_X7_set_20, i_X7_set_21, i_X7_set_22, i_X7_set_25, i_X7_set_26, i_X7_set_27, i_X7_set_28, i_X7_set_29, i_X7_set_30, i_X7_set_33, i_X7_set_36, i_X7_set_42, i_X7_set_45, i_X7_set_48, i_X7_set_49, i_X7_set_50, i_X7_set_53, i_X7_set_54, i_X7_set_55, i_X7_set_58, i_X7_set_59, i_X7_set_62, i_X7_set_63, i_X7_set_64, i_X7_set_65, i_X7_set_66, i_X7_set_67, i_X7_set_70, i_X7_set_72, i_X7_set_73, i_X7_set_74, i_X7_set_75, i_X7_set_76, i_X7_set_77, i_X7_set_78, i_X7_set_79, i_X7_set_82, i_X7_set_84, i_X7_set_39, i_X7_set_0_e, Option.toList_some, Option.toList_none, List.cons_append, List.nil_append, List.append_nil, ↓reduceIte, s_isInR, hw, bz_e0, s_isN hM.1 hT.wf, hx, s_refuse, reduceCtorEq, q_e0, hj0, hv, s_keeps]
            refine s_kr hM h24 (fun J' B' hM' => ?_)
            simp (disch := omega) only [i_X7_set_0, i_X7_set_1, i_X7_set_2, i_X7_set_3, i_X7_set_4, i_X7_set_7, i_X7_set_10, i_X7_set_11, i_X7_set_12, i_X7_set_13, i_X7_set_14, i_X7_set_17, i_X7_set_20, i_X7_set_21, i_X7_set_22, i_X7_set_25, i_X7_set_26, i_X7_set_27, i_X7_set_28, i_X7_set_29, i_X7_set_30, i_X7_set_33, i_X7_set_36, i_X7_set_42, i_X7_set_45, i_X7_set_48, i_X7_set_49, i_X7_set_50, i_X7_set_53, i_X7_set_54, i_X7_set_55, i_X7_set_58, i_X7_set_59, i_X7_set_62, i_X7_set_63, i_X7_set_64, i_X7_set_65, i_X7_set_66, i_X7_set_67, i_X7_set_70, i_X7_set_72, i_X7_set_73, i_X7_set_74, i_X7_set_75, i_X7_set_76, i_X7_set_77, i_X7_set_78, i_X7_set_79, i_X7_set_82, i_X7_set_84, i_X7_set_39, i_X7_set_0_e, Option.toList_some, Option.toList_none, List.cons_append, List.nil_append, List.append_nil, ↓reduceIte, nI_add, s_n, s_put, l_of, l_toI]
            exact fin J' B' hM'
      obtain ⟨j, _, hj, hj2⟩ := inR_t (by decide) hw
      exact key _ rfl (by split <;> omega) j hj2 (by omega)
theorem m_request (hM : RelM J B S) (hS : OkS S) {x v : Int32} (hQ : ∀ J' B', RelM J' B' (o_request S x v).2 → Q (some (.int (o_request S x v).1)) (pm_w I A E J' B')) : pm_call X (d + 5) mX7_request [.ref 139, .int x, .int v] (pm_w I A E J B) Q := by
  have hT := hS.1.1
  have h24 := hT.wf.2.1
  have hok := ok_request hS (x := x) (v := v)
  unfold o_request at hQ hok
  cases hx : isL S.1 x with
  | false =>
    rw [hx] at hQ
    simp (disch := omega) only [i_X7_request_0, i_X7_request_1, i_X7_request_2, i_X7_request_5, i_X7_request_8, i_X7_request_9, i_X7_request_10, i_X7_request_11, i_X7_request_12, i_X7_request_13, i_X7_request_14, i_X7_request_17, i_X7_request_20, i_X7_request_22, i_X7_request_23, i_X7_request_24, i_X7_request_27, i_X7_request_28, i_X7_request_31, i_X7_request_32, i_X7_request_33, i_X7_request_35, i_X7_request_36, i_X7_request_37, i_X7_request_40, i_X7_request_41, i_X7_request_44, i_X7_request_0_e, Option.toList_some, Option.toList_none, List.cons_append, List.nil_append, List.append_nil, ↓reduceIte, s_isLeaf hM.1 hT, hx, bz_e0]
    exact hQ J B hM
  | true =>
    rw [hx] at hQ hok
    obtain ⟨k, hk, h5, rfl⟩ := isL_t hT.wf hx
    cases hv : inR v 0 1 with
    | false =>
      rw [hv] at hQ
      simp (disch := omega) only [i_X7_request_0, i_X7_request_1, i_X7_request_2, i_X7_request_5, i_X7_request_8, i_X7_request_9, i_X7_request_10, i_X7_request_11, i_X7_request_12, i_X7_request_13, i_X7_request_14, i_X7_request_17, i_X7_request_20, i_X7_request_22, i_X7_request_23, i_X7_request_24, i_X7_request_27, i_X7_request_28, i_X7_request_31, i_X7_request_32, i_X7_request_33, i_X7_request_35, i_X7_request_36, i_X7_request_37, i_X7_request_40, i_X7_request_41, i_X7_request_44, i_X7_request_0_e, Option.toList_some, Option.toList_none, List.cons_append, List.nil_append, List.append_nil, ↓reduceIte, s_isLeaf hM.1 hT, hx, bz_e0, s_isInR, hv, reduceCtorEq]
      exact hQ J B hM
    | true =>
      rw [hv] at hQ hok
      obtain ⟨u, _, hu, rfl⟩ := inR_t (by omega) hv
      rw [xN_n (by omega), xN_n (by omega)] at hQ hok
      simp (disch := omega) only [i_X7_request_0, i_X7_request_1, i_X7_request_2, i_X7_request_5, i_X7_request_8, i_X7_request_9, i_X7_request_10, i_X7_request_11, i_X7_request_12, i_X7_request_13, i_X7_request_14, i_X7_request_17, i_X7_request_20, i_X7_request_22, i_X7_request_23, i_X7_request_24, i_X7_request_27, i_X7_request_28, i_X7_request_31, i_X7_request_32, i_X7_request_33, i_X7_request_35, i_X7_request_36, i_X7_request_37, i_X7_request_40, i_X7_request_41, i_X7_request_44, i_X7_request_0_e, Option.toList_some, Option.toList_none, List.cons_append, List.nil_append, List.append_nil, ↓reduceIte, s_isLeaf hM.1 hT, hx, bz_e0, s_isInR, hv, reduceCtorEq, s_keeps]
      refine s_kr hM h24 (fun J' B' hM' => ?_)
      have hM2 := hM'.set (w := 8) (k := k) (v := u) (by omega) (by omega)
      simp (disch := omega) only [i_X7_request_0, i_X7_request_1, i_X7_request_2, i_X7_request_5, i_X7_request_8, i_X7_request_9, i_X7_request_10, i_X7_request_11, i_X7_request_12, i_X7_request_13, i_X7_request_14, i_X7_request_17, i_X7_request_20, i_X7_request_22, i_X7_request_23, i_X7_request_24, i_X7_request_27, i_X7_request_28, i_X7_request_31, i_X7_request_32, i_X7_request_33, i_X7_request_35, i_X7_request_36, i_X7_request_37, i_X7_request_40, i_X7_request_41, i_X7_request_44, i_X7_request_0_e, Option.toList_some, Option.toList_none, List.cons_append, List.nil_append, List.append_nil, ↓reduceIte, s_put, l_of, l_toI, s_openGates hM2.1 hok.1.1]
      exact hQ _ _ hM2
theorem m_limit (hM : RelM J B S) (hS : OkS S) {x v : Int32} (hQ : ∀ J' B', RelM J' B' (o_limit S x v).2 → Q (some (.int (o_limit S x v).1)) (pm_w I A E J' B')) : pm_call X (d + 8) mX7_limit [.ref 139, .int x, .int v] (pm_w I A E J B) Q := by
  have hT := hS.1.1
  have h24 := hT.wf.2.1
  have hok := ok_limit hS (x := x) (v := v)
  unfold o_limit at hQ hok
  cases hx : inR x 0 3 with
  | false =>
    rw [hx] at hQ
    simp (disch := omega) only [i_X7_limit_0, i_X7_limit_1, i_X7_limit_2, i_X7_limit_3, i_X7_limit_6, i_X7_limit_9, i_X7_limit_12, i_X7_limit_13, i_X7_limit_14, i_X7_limit_15, i_X7_limit_16, i_X7_limit_17, i_X7_limit_20, i_X7_limit_23, i_X7_limit_26, i_X7_limit_28, i_X7_limit_29, i_X7_limit_30, i_X7_limit_33, i_X7_limit_34, i_X7_limit_37, i_X7_limit_38, i_X7_limit_41, i_X7_limit_42, i_X7_limit_43, i_X7_limit_44, i_X7_limit_45, i_X7_limit_46, i_X7_limit_47, i_X7_limit_48, i_X7_limit_51, i_X7_limit_52, i_X7_limit_55, i_X7_limit_56, i_X7_limit_60, i_X7_limit_59, i_X7_limit_0_e, Option.toList_some, Option.toList_none, List.cons_append, List.nil_append, List.append_nil, ↓reduceIte, s_isInR, hx, bz_e0]
    exact hQ J B hM
  | true =>
    rw [hx] at hQ hok
    have hx2 := hx
    obtain ⟨g, _, hg, rfl⟩ := inR_t (by decide) hx2
    cases hv : inR v 0 999 with
    | false =>
      rw [hv] at hQ
      simp (disch := omega) only [i_X7_limit_0, i_X7_limit_1, i_X7_limit_2, i_X7_limit_3, i_X7_limit_6, i_X7_limit_9, i_X7_limit_12, i_X7_limit_13, i_X7_limit_14, i_X7_limit_15, i_X7_limit_16, i_X7_limit_17, i_X7_limit_20, i_X7_limit_23, i_X7_limit_26, i_X7_limit_28, i_X7_limit_29, i_X7_limit_30, i_X7_limit_33, i_X7_limit_34, i_X7_limit_37, i_X7_limit_38, i_X7_limit_41, i_X7_limit_42, i_X7_limit_43, i_X7_limit_44, i_X7_limit_45, i_X7_limit_46, i_X7_limit_47, i_X7_limit_48, i_X7_limit_51, i_X7_limit_52, i_X7_limit_55, i_X7_limit_56, i_X7_limit_60, i_X7_limit_59, i_X7_limit_0_e, Option.toList_some, Option.toList_none, List.cons_append, List.nil_append, List.append_nil, ↓reduceIte, bz_e0, s_isInR, hx, hv, reduceCtorEq]
      exact hQ J B hM
    | true =>
      rw [hv] at hQ hok
      have hv2 := hv
      obtain ⟨u, _, hu, rfl⟩ := inR_t (by omega) hv2
      rw [xN_n (by omega), xN_n (by omega)] at hQ hok
      simp (disch := omega) only [i_X7_limit_0, i_X7_limit_1, i_X7_limit_2, i_X7_limit_3, i_X7_limit_6, i_X7_limit_9, i_X7_limit_12, i_X7_limit_13, i_X7_limit_14, i_X7_limit_15, i_X7_limit_16, i_X7_limit_17, i_X7_limit_20, i_X7_limit_23, i_X7_limit_26, i_X7_limit_28, i_X7_limit_29, i_X7_limit_30, i_X7_limit_33, i_X7_limit_34, i_X7_limit_37, i_X7_limit_38, i_X7_limit_41, i_X7_limit_42, i_X7_limit_43, i_X7_limit_44, i_X7_limit_45, i_X7_limit_46, i_X7_limit_47, i_X7_limit_48, i_X7_limit_51, i_X7_limit_52, i_X7_limit_55, i_X7_limit_56, i_X7_limit_60, i_X7_limit_59, i_X7_limit_0_e, Option.toList_some, Option.toList_none, List.cons_append, List.nil_append, List.append_nil, ↓reduceIte, bz_e0, s_isInR, hx, hv, reduceCtorEq, s_keeps]
      refine s_kr hM h24 (fun J' B' hM' => ?_)
      have hM2 := hM'.lim (g := g) (v := u) (by omega)
      have hg4 : g < 4 := by omega
      by_cases hc : nI u < skI (up2 S.1 11 g u) g
      · simp only [hc] at hQ
        simp (disch := omega) only [i_X7_limit_0, i_X7_limit_1, i_X7_limit_2, i_X7_limit_3, i_X7_limit_6, i_X7_limit_9, i_X7_limit_12, i_X7_limit_13, i_X7_limit_14, i_X7_limit_15, i_X7_limit_16, i_X7_limit_17, i_X7_limit_20, i_X7_limit_23, i_X7_limit_26, i_X7_limit_28, i_X7_limit_29, i_X7_limit_30, i_X7_limit_33, i_X7_limit_34, i_X7_limit_37, i_X7_limit_38, i_X7_limit_41, i_X7_limit_42, i_X7_limit_43, i_X7_limit_44, i_X7_limit_45, i_X7_limit_46, i_X7_limit_47, i_X7_limit_48, i_X7_limit_51, i_X7_limit_52, i_X7_limit_55, i_X7_limit_56, i_X7_limit_60, i_X7_limit_59, i_X7_limit_0_e, Option.toList_some, Option.toList_none, List.cons_append, List.nil_append, List.append_nil, ↓reduceIte, nI_add]
        rw [s_skew hM2.1 hok.1.1 hg4]
        simp (disch := omega) only [i_X7_limit_0, i_X7_limit_1, i_X7_limit_2, i_X7_limit_3, i_X7_limit_6, i_X7_limit_9, i_X7_limit_12, i_X7_limit_13, i_X7_limit_14, i_X7_limit_15, i_X7_limit_16, i_X7_limit_17, i_X7_limit_20, i_X7_limit_23, i_X7_limit_26, i_X7_limit_28, i_X7_limit_29, i_X7_limit_30, i_X7_limit_33, i_X7_limit_34, i_X7_limit_37, i_X7_limit_38, i_X7_limit_41, i_X7_limit_42, i_X7_limit_43, i_X7_limit_44, i_X7_limit_45, i_X7_limit_46, i_X7_limit_47, i_X7_limit_48, i_X7_limit_51, i_X7_limit_52, i_X7_limit_55, i_X7_limit_56, i_X7_limit_60, i_X7_limit_59, i_X7_limit_0_e, Option.toList_some, Option.toList_none, List.cons_append, List.nil_append, List.append_nil, ↓reduceIte]
        rw [if_pos (by simpa [chgS] using hc)]
        exact hQ _ _ hM2
      · simp only [hc] at hQ
        simp (disch := omega) only [i_X7_limit_0, i_X7_limit_1, i_X7_limit_2, i_X7_limit_3, i_X7_limit_6, i_X7_limit_9, i_X7_limit_12, i_X7_limit_13, i_X7_limit_14, i_X7_limit_15, i_X7_limit_16, i_X7_limit_17, i_X7_limit_20, i_X7_limit_23, i_X7_limit_26, i_X7_limit_28, i_X7_limit_29, i_X7_limit_30, i_X7_limit_33, i_X7_limit_34, i_X7_limit_37, i_X7_limit_38, i_X7_limit_41, i_X7_limit_42, i_X7_limit_43, i_X7_limit_44, i_X7_limit_45, i_X7_limit_46, i_X7_limit_47, i_X7_limit_48, i_X7_limit_51, i_X7_limit_52, i_X7_limit_55, i_X7_limit_56, i_X7_limit_60, i_X7_limit_59, i_X7_limit_0_e, Option.toList_some, Option.toList_none, List.cons_append, List.nil_append, List.append_nil, ↓reduceIte, nI_add]
        rw [s_skew hM2.1 hok.1.1 hg4]
        simp (disch := omega) only [i_X7_limit_0, i_X7_limit_1, i_X7_limit_2, i_X7_limit_3, i_X7_limit_6, i_X7_limit_9, i_X7_limit_12, i_X7_limit_13, i_X7_limit_14, i_X7_limit_15, i_X7_limit_16, i_X7_limit_17, i_X7_limit_20, i_X7_limit_23, i_X7_limit_26, i_X7_limit_28, i_X7_limit_29, i_X7_limit_30, i_X7_limit_33, i_X7_limit_34, i_X7_limit_37, i_X7_limit_38, i_X7_limit_41, i_X7_limit_42, i_X7_limit_43, i_X7_limit_44, i_X7_limit_45, i_X7_limit_46, i_X7_limit_47, i_X7_limit_48, i_X7_limit_51, i_X7_limit_52, i_X7_limit_55, i_X7_limit_56, i_X7_limit_60, i_X7_limit_59, i_X7_limit_0_e, Option.toList_some, Option.toList_none, List.cons_append, List.nil_append, List.append_nil, ↓reduceIte]
        rw [if_neg (by simpa [chgS] using hc)]
        exact hQ _ _ hM2
end MOI
