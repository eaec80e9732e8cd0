/-! the class's whole state: tree, figures, history, snapshot, tape, reason -/
def RelS (I A : Nat → Nat → Int32) (sn : Option Tr) : Prop := match sn with
  | none => I 0 9 = bz false
  | some t => I 0 9 = bz true ∧ RelTP I A 25 t
def RelY (I A : Nat → Nat → Int32) (tp : List Nat) : Prop := I 131 1 = nI tp.length ∧ tp.length ≤ 40 ∧ ∀ i b, tp[i]? = some b → b ≤ 127 ∧ A 132 i = nI b
def RelO (I A : Nat → Nat → Int32) (hs : List Tr) (sn : Option Tr) (tp : List Nat) (rs : Int32) : Prop := RelH I A hs ∧ RelS I A sn ∧ RelY I A tp ∧ I 0 10 = rs
theorem RelH.fr {I A I' A' : Nat → Nat → Int32} {hs : List Tr} (h : RelH I A hs) (hI : ∀ c k, 57 ≤ c → c < 131 → I' c k = I c k) (hA : ∀ c, 59 ≤ c → c < 131 → A' c = A c) : RelH I' A' hs := by
  obtain ⟨h1, h2, m, hm, h3, h4⟩ := h
  refine ⟨h1, by rw [hI 57 2 (by decide) (by decide)]; exact h2, m, hm, by rw [hI 57 1 (by decide) (by decide)]; exact h3, fun i t hi => ?_⟩
  exact (h4 i t hi).fr ⟨hI _ _ (by omega) (by omega), hI _ _ (by omega) (by omega)⟩ (fun c a b => hA c (by omega) (by omega))
theorem RelS.fr {I A I' A' : Nat → Nat → Int32} {sn : Option Tr} (h : RelS I A sn) (hI : ∀ k, I' 0 k = I 0 k) (hI2 : ∀ k, I' 25 k = I 25 k) (hA : ∀ c, 25 < c → c < 37 → A' c = A c) : RelS I' A' sn := by
  cases sn with
  | none => show I' 0 9 = _; rw [hI]; exact h
  | some t => exact ⟨by rw [hI]; exact h.1, h.2.fr ⟨hI2 _, hI2 _⟩ (fun c a b => hA c a b)⟩
theorem RelY.fr {I A I' A' : Nat → Nat → Int32} {tp : List Nat} (h : RelY I A tp) (hI : I' 131 1 = I 131 1) (hA : A' 132 = A 132) : RelY I' A' tp := ⟨by rw [hI]; exact h.1, h.2.1, fun i b hb => by rw [hA]; exact h.2.2 i b hb⟩
theorem RelO.fr {I A I' A' : Nat → Nat → Int32} {hs : List Tr} {sn : Option Tr} {tp : List Nat} {rs : Int32} (h : RelO I A hs sn tp rs) (hI : ∀ c k, c = 0 ∨ 25 ≤ c → I' c k = I c k) (hA : ∀ c, (25 < c ∧ c < 37) ∨ 57 ≤ c → A' c = A c) : RelO I' A' hs sn tp rs :=
  ⟨h.1.fr (fun c k a b => hI c k (by omega)) (fun c a b => hA c (by omega)), h.2.1.fr (fun k => hI 0 k (by omega)) (fun k => hI 25 k (by omega)) (fun c a b => hA c (by omega)), h.2.2.1.fr (hI 131 1 (by omega)) (hA 132 (by omega)), by rw [hI 0 10 (by omega)]; exact h.2.2.2⟩
abbrev St : Type := Tr × List Tr × Option Tr × List Nat × Int32
def RelP (I A : Nat → Nat → Int32) (E : Nat → Nat → Int64) (S : St) : Prop := RelTP I A 1 S.1 ∧ RelF A E 37 S.1 ∧ RelO I A S.2.1 S.2.2.1 S.2.2.2.1 S.2.2.2.2
section PLG
variable {X : pm_X} {d : Nat} {G : pm_H} {Q : Option Value → pm_H → Prop} {I A : Nat → Nat → Int32} {E : Nat → Nat → Int64} {J : Nat → Int32} {B : Nat → Nat → Int32} {T T0 : Tr} {hs : List Tr} {sn : Option Tr} {tp : List Nat} {rs : Int32}
theorem t_begin (hP : RelTP I A 1 T) (h24 : T 10 0 ≤ 24) (hQ : ∀ I' A', RelTP I' A' 13 T → (∀ c k, c ≠ 13 → I' c k = I c k) → (∀ c, c ≤ 13 ∨ 25 ≤ c → A' c = A c) → Q none (pm_w I' A' E J B)) : pm_call X (d + 1) mX6_begin [.ref 0] (pm_w I A E J B) Q := by
  simp only [i_X6_begin_0, i_X6_begin_1, i_X6_begin_4, i_X6_begin_5, i_X6_begin_8, i_X6_begin_11, i_X6_begin_0_e, Option.toList_some, Option.toList_none, List.cons_append, List.nil_append, List.append_nil, ↓reduceIte]
  refine t_take (by rfl) (by rfl) (by decide) hP h24 (fun I' A' h1 h2 h3 => ?_)
  simp only [i_X6_begin_0, i_X6_begin_1, i_X6_begin_4, i_X6_begin_5, i_X6_begin_8, i_X6_begin_11, i_X6_begin_0_e, Option.toList_some, Option.toList_none, List.cons_append, List.nil_append, List.append_nil, ↓reduceIte]
  exact hQ I' A' h1 (fun c k hc => h2 c k (Or.inl hc)) (fun c hc => h3 c hc)
theorem t_finish {x : Int32} (hP : RelTP I A 1 T) (hT : okT T) (hP0 : RelTP I A 13 T0) (h024 : T0 10 0 ≤ 24) (hO : RelO I A hs sn tp rs) (hQ : ∀ I' A' E', RelP I' A' E' (T, pushH hs T0, sn, tp, rs) → Q (some (.int x)) (pm_w I' A' E' J B)) : pm_call X (d + 4) mX6_finish [.ref 0, .int x] (pm_w I A E J B) Q := by
  simp only [i_X6_finish_0, i_X6_finish_1, i_X6_finish_4, i_X6_finish_5, i_X6_finish_8, i_X6_finish_11, i_X6_finish_12, i_X6_finish_15, i_X6_finish_16, i_X6_finish_19, i_X6_finish_22, i_X6_finish_23, i_X6_finish_0_e, Option.toList_some, Option.toList_none, List.cons_append, List.nil_append, List.append_nil, ↓reduceIte]
  refine t_push (d := d + 2) hO.1 hP0 h024 (fun I1 A1 hH1 hI1 hA1 => ?_)
  simp only [i_X6_finish_0, i_X6_finish_1, i_X6_finish_4, i_X6_finish_5, i_X6_finish_8, i_X6_finish_11, i_X6_finish_12, i_X6_finish_15, i_X6_finish_16, i_X6_finish_19, i_X6_finish_22, i_X6_finish_23, i_X6_finish_0_e, Option.toList_some, Option.toList_none, List.cons_append, List.nil_append, List.append_nil, ↓reduceIte]
  have hP1 : RelTP I1 A1 1 T := hP.fr ⟨hI1 _ _ (by omega), hI1 _ _ (by omega)⟩ (fun c a b => hA1 c (by omega))
  refine t_reada hP1 hT (fun A2 E2 hF2 hA2 hE2 => ?_)
  simp only [i_X6_finish_0, i_X6_finish_1, i_X6_finish_4, i_X6_finish_5, i_X6_finish_8, i_X6_finish_11, i_X6_finish_12, i_X6_finish_15, i_X6_finish_16, i_X6_finish_19, i_X6_finish_22, i_X6_finish_23, i_X6_finish_0_e, Option.toList_some, Option.toList_none, List.cons_append, List.nil_append, List.append_nil, ↓reduceIte]
  refine hQ I1 A2 E2 ⟨hP1.fr ⟨rfl, rfl⟩ (fun c a b => hA2 c (by omega)), hF2, hH1.fr (fun _ _ _ _ => rfl) (fun c a b => hA2 c (by omega)), ?_, ?_, ?_⟩
  · exact hO.2.1.fr (fun k => hI1 0 k (by omega)) (fun k => hI1 25 k (by omega)) (fun c a b => by rw [hA2 c (by omega), hA1 c (by omega)])
  · exact hO.2.2.1.fr (hI1 _ _ (by omega)) (by rw [hA2 132 (by omega), hA1 132 (by omega)])
  · rw [hI1 0 10 (by omega)]; exact hO.2.2.2
theorem t_refuse {x : Int32} : pm_call X d mX6_refuse [.ref 0, .int x] (pm_w I A E J B) Q ↔ Q (some (.int (-3))) (pm_w (up2 I 0 10 x) A E J B) := by
  simp only [i_X6_refuse_0, i_X6_refuse_1, i_X6_refuse_2, i_X6_refuse_5, i_X6_refuse_7, i_X6_refuse_0_e, Option.toList_some, Option.toList_none, List.cons_append, List.nil_append, List.append_nil, ↓reduceIte]
theorem RelP.reason {S : St} {x : Int32} (h : RelP I A E S) : RelP (up2 I 0 10 x) A E (S.1, S.2.1, S.2.2.1, S.2.2.2.1, x) :=
  ⟨h.1.fr (by simp [up2]) (fun _ _ _ => rfl), h.2.1, h.2.2.1.fr (fun c k a b => by rw [up2_na _ _ (by omega)]) (fun _ _ _ => rfl), by
    have := h.2.2.2.1
    cases hs : S.2.2.1 with
    | none => rw [hs] at this; show up2 I 0 10 x 0 9 = _; rw [up2_n _ _ (by simp)]; exact this
    | some t => rw [hs] at this; exact ⟨by rw [up2_n _ _ (by simp)]; exact this.1, this.2.fr (by simp [up2]) (fun _ _ _ => rfl)⟩, h.2.2.2.2.1.fr (by simp [up2]) rfl, up2_s _ _ _ _⟩
/-- a new node at the end -/
def addT (T : Tr) (p kd nu lo hi pr rq : Nat) : Tr := fun w k => if w < 10 ∧ k = T 10 0 then (match w with
  | 0 => kd
  | 1 => p
  | 2 => nu
  | 3 => if kd = 4 then nu else 0
  | 5 => lo
  | 6 => hi
  | 7 => pr
  | 8 => rq
  | _ => 0) else if w = 10 ∧ k = 0 then T 10 0 + 1 else T w k
theorem t_append {p kd nu : Nat} (hP : RelTP I A 1 T) (h1 : 1 ≤ T 10 0) (h24 : T 10 0 < 24) (hk : kd < 6) (hQ : ∀ I' A', RelTP I' A' 1 (addT T p kd nu 0 0 0 0) → (∀ c k, c ≠ 1 → I' c k = I c k) → (∀ c, c ≤ 1 ∨ 12 ≤ c → A' c = A c) → Q (some (.int (nI (T 10 0)))) (pm_w I' A' E J B)) : pm_call X d mX4_append [.ref 1, .int (nI p), .int (nI kd), .int (nI nu)] (pm_w I A E J B) Q := by
  have fin : ∀ dl, dl = (if kd = 4 then nu else 0) → Q (some (.int (nI (T 10 0)))) (pm_w (up2 I 1 12 (nI (T 10 0 + 1))) (up2 (up2 (up2 (up2 (up2 (up2 (up2 (up2 (up2 (up2 A 2 (T 10 0) (nI kd)) 3 (T 10 0) (nI p)) 4 (T 10 0) (nI nu)) 5 (T 10 0) (nI dl)) 6 (T 10 0) (nI 0)) 7 (T 10 0) (nI 0)) 8 (T 10 0) (nI 0)) 9 (T 10 0) (nI 0)) 10 (T 10 0) (nI 0)) 11 (T 10 0) (nI 0)) E J B) := by
    intro dl hdl
    subst hdl
    refine hQ _ _ ⟨?_, ?_, fun g hg => ?_, fun w k hw hk2 hne => ?_⟩ (fun c k hc => up2_na _ _ hc ▸ rfl) (fun c hc => ?_)
    · rw [up2_n _ _ (by simp)]; exact hP.1
    · rw [up2_s]; rfl
    · simp (disch := omega) only [up2_na]; exact hP.2.2.1 g hg
    · have hk3 : k < T 10 0 + 1 := hk2
      by_cases hkn : k = T 10 0
      · subst hkn
        match w, hw with
        | 0, _ | 1, _ | 2, _ | 3, _ | 4, _ | 5, _ | 6, _ | 7, _ | 8, _ | 9, _ => simp [up2, addT]
      · have e : addT T p kd nu 0 0 0 0 w k = T w k := by unfold addT; rw [if_neg (by omega), if_neg (by omega)]
        rw [e, ← hP.2.2.2 w k hw (by omega) hne]
        simp [up2, hkn]
    · simp (disch := omega) only [up2_na]
  by_cases h4 : kd = 4
  · rw [if_pos h4] at fin
    simp (disch := omega) only [i_X4_append_0, i_X4_append_1, i_X4_append_4, i_X4_append_6, i_X4_append_8, i_X4_append_10, i_X4_append_13, i_X4_append_14, i_X4_append_15, i_X4_append_16, i_X4_append_19, i_X4_append_21, i_X4_append_22, i_X4_append_23, i_X4_append_24, i_X4_append_27, i_X4_append_29, i_X4_append_30, i_X4_append_31, i_X4_append_32, i_X4_append_35, i_X4_append_37, i_X4_append_38, i_X4_append_39, i_X4_append_40, i_X4_append_43, i_X4_append_45, i_X4_append_46, i_X4_append_47, i_X4_append_50, i_X4_append_51, i_X4_append_55, i_X4_append_56, i_X4_append_57, i_X4_append_60, i_X4_append_62, i_X4_append_63, i_X4_append_64, i_X4_append_65, i_X4_append_68, i_X4_append_70, i_X4_append_71, i_X4_append_72, i_X4_append_73, i_X4_append_76, i_X4_append_78, i_X4_append_79, i_X4_append_80, i_X4_append_81, i_X4_append_84, i_X4_append_86, i_X4_append_87, i_X4_append_88, i_X4_append_89, i_X4_append_92, i_X4_append_94, i_X4_append_95, i_X4_append_96, i_X4_append_97, i_X4_append_100, i_X4_append_102, i_X4_append_103, i_X4_append_104, i_X4_append_105, i_X4_append_107, i_X4_append_108, i_X4_append_109, i_X4_append_112, i_X4_append_114, i_X4_append_54, i_X4_append_0_e, Option.toList_some, Option.toList_none, List.cons_append, List.nil_append, List.append_nil, ↓reduceIte, hP.2.1, q_lt, q_eq, h24, h4, nI_add]
    rw [h4] at fin
    exact fin _ rfl
  · rw [if_neg h4] at fin
    simp (disch := omega) only [i_X4_append_0, i_X4_append_1, i_X4_append_4, i_X4_append_6, i_X4_append_8, i_X4_append_10, i_X4_append_13, i_X4_append_14, i_X4_append_15, i_X4_append_16, i_X4_append_19, i_X4_append_21, i_X4_append_22, i_X4_append_23, i_X4_append_24, i_X4_append_27, i_X4_append_29, i_X4_append_30, i_X4_append_31, i_X4_append_32, i_X4_append_35, i_X4_append_37, i_X4_append_38, i_X4_append_39, i_X4_append_40, i_X4_append_43, i_X4_append_45, i_X4_append_46, i_X4_append_47, i_X4_append_50, i_X4_append_51, i_X4_append_55, i_X4_append_56, i_X4_append_57, i_X4_append_60, i_X4_append_62, i_X4_append_63, i_X4_append_64, i_X4_append_65, i_X4_append_68, i_X4_append_70, i_X4_append_71, i_X4_append_72, i_X4_append_73, i_X4_append_76, i_X4_append_78, i_X4_append_79, i_X4_append_80, i_X4_append_81, i_X4_append_84, i_X4_append_86, i_X4_append_87, i_X4_append_88, i_X4_append_89, i_X4_append_92, i_X4_append_94, i_X4_append_95, i_X4_append_96, i_X4_append_97, i_X4_append_100, i_X4_append_102, i_X4_append_103, i_X4_append_104, i_X4_append_105, i_X4_append_107, i_X4_append_108, i_X4_append_109, i_X4_append_112, i_X4_append_114, i_X4_append_54, i_X4_append_0_e, Option.toList_some, Option.toList_none, List.cons_append, List.nil_append, List.append_nil, ↓reduceIte, hP.2.1, q_lt, q_eq, h24, h4, nI_add]
    exact fin _ rfl
theorem t_appendLeaf {p g lo hi pr : Nat} (hP : RelTP I A 1 T) (h1 : 1 ≤ T 10 0) (h24 : T 10 0 < 24) (hQ : ∀ I' A', RelTP I' A' 1 (addT T p 5 g lo hi pr 1) → (∀ c k, c ≠ 1 → I' c k = I c k) → (∀ c, c ≤ 1 ∨ 12 ≤ c → A' c = A c) → Q (some (.int (nI (T 10 0)))) (pm_w I' A' E J B)) : pm_call X (d + 1) mX4_appendLeaf [.ref 1, .int (nI p), .int (nI g), .int (nI lo), .int (nI hi), .int (nI pr)] (pm_w I A E J B) Q := by
  simp only [i_X4_appendLeaf_0, i_X4_appendLeaf_1, i_X4_appendLeaf_2, i_X4_appendLeaf_3, i_X4_appendLeaf_4, i_X4_appendLeaf_7, i_X4_appendLeaf_9, i_X4_appendLeaf_11, i_X4_appendLeaf_14, i_X4_appendLeaf_15, i_X4_appendLeaf_18, i_X4_appendLeaf_20, i_X4_appendLeaf_21, i_X4_appendLeaf_22, i_X4_appendLeaf_23, i_X4_appendLeaf_26, i_X4_appendLeaf_28, i_X4_appendLeaf_30, i_X4_appendLeaf_31, i_X4_appendLeaf_32, i_X4_appendLeaf_35, i_X4_appendLeaf_37, i_X4_appendLeaf_39, i_X4_appendLeaf_40, i_X4_appendLeaf_41, i_X4_appendLeaf_44, i_X4_appendLeaf_46, i_X4_appendLeaf_47, i_X4_appendLeaf_48, i_X4_appendLeaf_50, i_X4_appendLeaf_0_e, Option.toList_some, Option.toList_none, List.cons_append, List.nil_append, List.append_nil, ↓reduceIte]
  refine t_append hP h1 h24 (by decide) (fun I1 A1 hP1 hI1 hA1 => ?_)
  simp (disch := omega) only [i_X4_appendLeaf_0, i_X4_appendLeaf_1, i_X4_appendLeaf_2, i_X4_appendLeaf_3, i_X4_appendLeaf_4, i_X4_appendLeaf_7, i_X4_appendLeaf_9, i_X4_appendLeaf_11, i_X4_appendLeaf_14, i_X4_appendLeaf_15, i_X4_appendLeaf_18, i_X4_appendLeaf_20, i_X4_appendLeaf_21, i_X4_appendLeaf_22, i_X4_appendLeaf_23, i_X4_appendLeaf_26, i_X4_appendLeaf_28, i_X4_appendLeaf_30, i_X4_appendLeaf_31, i_X4_appendLeaf_32, i_X4_appendLeaf_35, i_X4_appendLeaf_37, i_X4_appendLeaf_39, i_X4_appendLeaf_40, i_X4_appendLeaf_41, i_X4_appendLeaf_44, i_X4_appendLeaf_46, i_X4_appendLeaf_47, i_X4_appendLeaf_48, i_X4_appendLeaf_50, i_X4_appendLeaf_0_e, Option.toList_some, Option.toList_none, List.cons_append, List.nil_append, List.append_nil, ↓reduceIte, q_neg]
  have hs : addT T p 5 g 0 0 0 0 10 0 = T 10 0 + 1 := by simp [addT]
  have hs2 : addT T p 5 g lo hi pr 1 10 0 = T 10 0 + 1 := by simp [addT]
  refine hQ _ _ ⟨?_, ?_, fun q hq => ?_, fun w k hw hk hne => ?_⟩ hI1 (fun c hc => ?_)
  · rw [hP1.1]; rfl
  · rw [hP1.2.1]; rfl
  · simp (disch := omega) only [up2_na]; rw [hP1.2.2.1 q hq]; rfl
  · rw [hs2] at hk
    have := hP1.2.2.2 w k hw (by rw [hs]; exact hk) hne
    by_cases hkn : k = T 10 0
    · subst hkn
      match w, hw with
      | 0, _ | 1, _ | 2, _ | 3, _ | 4, _ | 5, _ | 6, _ | 7, _ | 8, _ | 9, _ => simp [up2, addT] at this ⊢ <;> exact this
    · rw [show addT T p 5 g lo hi pr 1 w k = addT T p 5 g 0 0 0 0 w k from by unfold addT; simp [hkn], ← this]
      simp [up2, hkn]
  · rw [← hA1 c hc]
    simp (disch := omega) only [up2_na]
end PLG
