/-! the calls that only read: what they answer, and that the reference answers so -/
theorem n1_e0 : (nI 1 = 0) = False := by decide +kernel
theorem n0_e0 : (nI 0 = 0) = True := by decide +kernel
def xN (x : Int32) : Nat := x.toInt.toNat
theorem xN_n {k : Nat} (hk : k < 2147483648) : xN (nI k) = k := by unfold xN; rw [nI_toInt hk]; omega
def isN (T : Tr) (x : Int32) : Bool := inR x 0 (T 10 0 - 1)
theorem isN_t {T : Tr} (hw : wf T) {x : Int32} (h : isN T x = true) : ∃ k, k < T 10 0 ∧ x = nI k := by
  have h1 := hw.1
  have h2 := hw.2.1
  obtain ⟨k, _, hk, rfl⟩ := inR_t (by omega) h
  exact ⟨k, by omega, rfl⟩
theorem isN_n {T : Tr} (hw : wf T) {k : Nat} (hk : k < T 10 0) : isN T (nI k) = true := by
  have h2 := hw.2.1
  unfold isN
  rw [inR_n (by omega)]
  simp; omega
/-- a raw number is one of the first n or none of them -/
theorem x_cases (x : Int32) {n : Nat} (hn : n < 2147483648) (hn0 : 0 < n) : (inR x 0 (n - 1) = false ∧ (x.toInt < 0 ∨ ((n - 1 : Nat) : Int) < x.toInt)) ∨ ∃ k, k < n ∧ x = nI k := by
  rcases pk_ix x (n := n) hn with h | h | ⟨k, hk, rfl⟩
  · left
    refine ⟨inR_neg h, Or.inl ?_⟩
    simpa [Int32.lt_iff_toInt_lt] using h
  · left
    refine ⟨inR_big h hn (by omega), Or.inr ?_⟩
    have : (n : Int) ≤ x.toInt := by rw [← nI_toInt hn]; exact Int32.le_iff_toInt_le.mp h
    omega
  · exact Or.inr ⟨k, hk, rfl⟩
theorem x_out {x : Int32} {n m : Nat} (h : x.toInt < 0 ∨ ((n : Nat) : Int) < x.toInt) (hm : m ≤ n) (hn : n < 2147483648) : (x = nI m) = False := by
  refine eq_false (fun e => ?_)
  rw [e, nI_toInt (by omega)] at h
  omega
def isL (T : Tr) (x : Int32) : Bool := isN T x && decide (T 0 (xN x) = 5)
def nodeW (T : Tr) (k : Nat) : Nat → Int32
  | 0 => nI (T 0 k)
  | 1 => if k = 0 then -5 else nI (T 1 k)
  | 2 => nI (T 2 k)
  | 3 => nI (T 3 k)
  | 4 => nI (T 4 k)
  | 5 => nI (dep T k)
  | 6 => bz (rn T k)
  | 7 => nI (arr T k)
  | 8 => nI (chn T k)
  | 9 => nI (lvs T k)
  | _ => nI (rqs T k)
def o_node (T : Tr) (x w : Int32) : Int32 := if isN T x && inR w 0 10 then nodeW T (xN x) (xN w) else -1
def o_ofLeaf (T : Tr) (x w : Int32) : Int32 := if isL T x && inR w 0 5 then (if xN w = 5 then bz (cnn T (xN x)) else nI (T (5 + xN w) (xN x))) else -1
def groupW (T : Tr) (g : Nat) : Nat → Int32
  | 0 => skI T g
  | 1 => nI (T 11 g)
  | 2 => nI (cnt (ogr T false g) (T 10 0))
  | 3 => nI (cnt (ogr T true g) (T 10 0))
  | 4 => monI T g
  | 5 => oI (lat T g true (T 10 0))
  | _ => oI (lat T g false (T 10 0))
def o_ofGroup (T : Tr) (x w : Int32) : Int32 := if inR x 0 3 && inR w 0 6 then groupW T (xN x) (xN w) else -1
def o_power (T : Tr) (x : Int32) : Int64 := if x = -1 then lN (sumN (pw T) (T 10 0)) else if isN T x then lN (pw T (xN x)) else -1
def o_ranked (T : Tr) (x : Int32) : Int32 := oJ (frs (fun n => decide (nI (rk T n) = x)) 0 (T 10 0))
def accW (T : Tr) : Nat → Int32
  | 6 => nI (cnt (rn T) (T 10 0))
  | 7 => nI (cnt (cnB T) (T 10 0))
  | 8 => nI (cnt (ogB T) (T 10 0))
  | 9 => nI (sumN (T 9) (T 10 0))
  | 10 => nI (mxN (dep T) (T 10 0))
  | 11 => skd T 4
  | w => nI (cnt (fun k => decide (T 0 k = w)) (T 10 0))
def o_account (T : Tr) (x : Int32) : Int32 := if inR x 0 11 then accW T (xN x) else -1
def o_rate (T : Tr) (x w : Int32) : Int64 := if isN T x && inR w 0 1 then (if w = 0 then lN (nm T (xN x)) else lN (dn T (xN x))) else -1
def o_count (S : St) (x : Int32) : Int32 := if x = nI 0 then nI (S.1 10 0) else if x = nI 1 then nI S.2.2.2.1.length else if x = nI 2 then nI S.2.1.length else -1
theorem sumN_cnt {p : Nat → Bool} : ∀ n, sumN (fun k => if p k then 1 else 0) n = cnt p n
  | 0 => rfl
  | n + 1 => by unfold sumN cnt; rw [sumN_cnt n]
section MOH
variable {X : pm_X} {d : Nat} {G : pm_H} {Q : Option Value → pm_H → Prop} {I A : Nat → Nat → Int32} {E : Nat → Nat → Int64} {J : Nat → Int32} {B : Nat → Nat → Int32} {T : Tr}
theorem s_isN (hR : RelT (B 140) T) (hw : wf T) {x : Int32} : pm_call X (d + 1) mX7_isNode [.ref 139, .int x] (pm_w I A E J B) Q ↔ Q (some (.int (bz (isN T x)))) (pm_w I A E J B) := s_isNode hR hw
theorem s_isLeaf (hR : RelT (B 140) T) (hT : okT T) {x : Int32} : pm_call X (d + 2) mX7_isLeaf [.ref 139, .int x] (pm_w I A E J B) Q ↔ Q (some (.int (bz (isL T x)))) (pm_w I A E J B) := by
  have h24 := hT.wf.2.1
  unfold isL
  cases hx : isN T x with
  | false => simp (disch := omega) only [i_X7_isLeaf_0, i_X7_isLeaf_1, i_X7_isLeaf_2, i_X7_isLeaf_5, i_X7_isLeaf_8, i_X7_isLeaf_9, i_X7_isLeaf_10, i_X7_isLeaf_11, i_X7_isLeaf_14, i_X7_isLeaf_15, i_X7_isLeaf_18, i_X7_isLeaf_19, i_X7_isLeaf_23, i_X7_isLeaf_23b, i_X7_isLeaf_23c, i_X7_isLeaf_22, i_X7_isLeaf_0_e, Option.toList_some, Option.toList_none, List.cons_append, List.nil_append, List.append_nil, ↓reduceIte, s_isN hR hT.wf, hx, bz_e0, Bool.false_and, bz_f, n1_e0, n0_e0]
  | true =>
    obtain ⟨k, hk, rfl⟩ := isN_t hT.wf hx
    have hb := hT.kind hk
    rw [xN_n (by omega)]
    by_cases h : T 0 k = 5
    · simp (disch := omega) only [i_X7_isLeaf_0, i_X7_isLeaf_1, i_X7_isLeaf_2, i_X7_isLeaf_5, i_X7_isLeaf_8, i_X7_isLeaf_9, i_X7_isLeaf_10, i_X7_isLeaf_11, i_X7_isLeaf_14, i_X7_isLeaf_15, i_X7_isLeaf_18, i_X7_isLeaf_19, i_X7_isLeaf_23, i_X7_isLeaf_23b, i_X7_isLeaf_23c, i_X7_isLeaf_22, i_X7_isLeaf_0_e, Option.toList_some, Option.toList_none, List.cons_append, List.nil_append, List.append_nil, ↓reduceIte, s_isN hR hT.wf, hx, bz_e0, s_nT hR h24, h, q_eq, decide_true, Bool.true_and, bz_t, reduceCtorEq, n1_e0, n0_e0]
    · simp (disch := omega) only [i_X7_isLeaf_0, i_X7_isLeaf_1, i_X7_isLeaf_2, i_X7_isLeaf_5, i_X7_isLeaf_8, i_X7_isLeaf_9, i_X7_isLeaf_10, i_X7_isLeaf_11, i_X7_isLeaf_14, i_X7_isLeaf_15, i_X7_isLeaf_18, i_X7_isLeaf_19, i_X7_isLeaf_23, i_X7_isLeaf_23b, i_X7_isLeaf_23c, i_X7_isLeaf_22, i_X7_isLeaf_0_e, Option.toList_some, Option.toList_none, List.cons_append, List.nil_append, List.append_nil, ↓reduceIte, s_isN hR hT.wf, hx, bz_e0, s_nT hR h24, h, q_eq, decide_false, Bool.and_false, bz_f, reduceCtorEq, n1_e0, n0_e0]
theorem m_node (hR : RelT (B 140) T) (hT : okT T) {x w : Int32} : pm_call X (d + 5) mX7_node [.ref 139, .int x, .int w] (pm_w I A E J B) Q ↔ Q (some (.int (o_node T x w))) (pm_w I A E J B) := by
  have h24 := hT.wf.2.1
  unfold o_node
  cases hx : isN T x with
  | false => simp (disch := omega) only [i_X7_node_0, i_X7_node_1, i_X7_node_2, i_X7_node_5, i_X7_node_8, i_X7_node_9, i_X7_node_10, i_X7_node_11_v0, i_X7_node_11_v1, i_X7_node_11_v2, i_X7_node_11_v3, i_X7_node_11_v4, i_X7_node_11_v5, i_X7_node_11_v6, i_X7_node_11_v7, i_X7_node_11_v8, i_X7_node_11_v9, i_X7_node_11_v10, i_X7_node_11_o, i_X7_node_147, i_X7_node_148, i_X7_node_130, i_X7_node_131, i_X7_node_132, i_X7_node_133, i_X7_node_135, i_X7_node_138, i_X7_node_139, i_X7_node_143, i_X7_node_146, i_X7_node_142, i_X7_node_124, i_X7_node_125, i_X7_node_126, i_X7_node_129, i_X7_node_118, i_X7_node_119, i_X7_node_120, i_X7_node_123, i_X7_node_104, i_X7_node_105, i_X7_node_106, i_X7_node_109, i_X7_node_112, i_X7_node_113, i_X7_node_117, i_X7_node_116, i_X7_node_98, i_X7_node_99, i_X7_node_100, i_X7_node_103, i_X7_node_91, i_X7_node_92, i_X7_node_93, i_X7_node_94, i_X7_node_97, i_X7_node_75, i_X7_node_76, i_X7_node_79, i_X7_node_81, i_X7_node_90, i_X7_node_84, i_X7_node_85, i_X7_node_86, i_X7_node_87, i_X7_node_68, i_X7_node_69, i_X7_node_70, i_X7_node_71, i_X7_node_74, i_X7_node_0_e, Option.toList_some, Option.toList_none, List.cons_append, List.nil_append, List.append_nil, ↓reduceIte, s_isN hR hT.wf, hx, bz_e0, Bool.false_and, reduceCtorEq]
  | true =>
    obtain ⟨k, hk, rfl⟩ := isN_t hT.wf hx
    rw [xN_n (by omega)]
    rcases x_cases w (n := 11) (by decide) (by decide) with ⟨h1, h2⟩ | ⟨j, hj, rfl⟩
    · simp (disch := first | omega | assumption) only [i_X7_node_0, i_X7_node_1, i_X7_node_2, i_X7_node_5, i_X7_node_8, i_X7_node_9, i_X7_node_10, i_X7_node_11_v0, i_X7_node_11_v1, i_X7_node_11_v2, i_X7_node_11_v3, i_X7_node_11_v4, i_X7_node_11_v5, i_X7_node_11_v6, i_X7_node_11_v7, i_X7_node_11_v8, i_X7_node_11_v9, i_X7_node_11_v10, i_X7_node_11_o, i_X7_node_147, i_X7_node_148, i_X7_node_130, i_X7_node_131, i_X7_node_132, i_X7_node_133, i_X7_node_135, i_X7_node_138, i_X7_node_139, i_X7_node_143, i_X7_node_146, i_X7_node_142, i_X7_node_124, i_X7_node_125, i_X7_node_126, i_X7_node_129, i_X7_node_118, i_X7_node_119, i_X7_node_120, i_X7_node_123, i_X7_node_104, i_X7_node_105, i_X7_node_106, i_X7_node_109, i_X7_node_112, i_X7_node_113, i_X7_node_117, i_X7_node_116, i_X7_node_98, i_X7_node_99, i_X7_node_100, i_X7_node_103, i_X7_node_91, i_X7_node_92, i_X7_node_93, i_X7_node_94, i_X7_node_97, i_X7_node_75, i_X7_node_76, i_X7_node_79, i_X7_node_81, i_X7_node_90, i_X7_node_84, i_X7_node_85, i_X7_node_86, i_X7_node_87, i_X7_node_68, i_X7_node_69, i_X7_node_70, i_X7_node_71, i_X7_node_74, i_X7_node_0_e, Option.toList_some, Option.toList_none, List.cons_append, List.nil_append, List.append_nil, ↓reduceIte, s_isN hR hT.wf, hx, bz_e0, h1, Bool.and_false, reduceCtorEq]
    · rw [inR_n (by omega), xN_n (by omega), show (decide (0 ≤ j) && decide (j ≤ 10)) = true by simp; omega]
      simp only [Bool.and_self, if_true]
      by_cases hk0 : k = 0
      · subst hk0
        match j, hj with
        | 0, _ | 1, _ | 2, _ | 3, _ | 4, _ | 5, _ | 7, _ | 8, _ | 9, _ | 10, _ => simp (disch := omega) only [i_X7_node_0, i_X7_node_1, i_X7_node_2, i_X7_node_5, i_X7_node_8, i_X7_node_9, i_X7_node_10, i_X7_node_11_v0, i_X7_node_11_v1, i_X7_node_11_v2, i_X7_node_11_v3, i_X7_node_11_v4, i_X7_node_11_v5, i_X7_node_11_v6, i_X7_node_11_v7, i_X7_node_11_v8, i_X7_node_11_v9, i_X7_node_11_v10, i_X7_node_11_o, i_X7_node_147, i_X7_node_148, i_X7_node_130, i_X7_node_131, i_X7_node_132, i_X7_node_133, i_X7_node_135, i_X7_node_138, i_X7_node_139, i_X7_node_143, i_X7_node_146, i_X7_node_142, i_X7_node_124, i_X7_node_125, i_X7_node_126, i_X7_node_129, i_X7_node_118, i_X7_node_119, i_X7_node_120, i_X7_node_123, i_X7_node_104, i_X7_node_105, i_X7_node_106, i_X7_node_109, i_X7_node_112, i_X7_node_113, i_X7_node_117, i_X7_node_116, i_X7_node_98, i_X7_node_99, i_X7_node_100, i_X7_node_103, i_X7_node_91, i_X7_node_92, i_X7_node_93, i_X7_node_94, i_X7_node_97, i_X7_node_75, i_X7_node_76, i_X7_node_79, i_X7_node_81, i_X7_node_90, i_X7_node_84, i_X7_node_85, i_X7_node_86, i_X7_node_87, i_X7_node_68, i_X7_node_69, i_X7_node_70, i_X7_node_71, i_X7_node_74, i_X7_node_0_e, Option.toList_some, Option.toList_none, List.cons_append, List.nil_append, List.append_nil, ↓reduceIte, s_isN hR hT.wf, hx, bz_e0, s_nT hR h24, q_eq, q_e0, s_depth hR hT.wf hk, s_runs hR hT hk, s_arrival hR hT hk, s_children hR hT hk, s_leavesF hR hT hk, s_leavesT hR hT hk, reduceCtorEq, nodeW, Nat.reduceEqDiff]
        | 6, _ => cases hr : rn T 0 <;> simp (disch := omega) only [i_X7_node_0, i_X7_node_1, i_X7_node_2, i_X7_node_5, i_X7_node_8, i_X7_node_9, i_X7_node_10, i_X7_node_11_v0, i_X7_node_11_v1, i_X7_node_11_v2, i_X7_node_11_v3, i_X7_node_11_v4, i_X7_node_11_v5, i_X7_node_11_v6, i_X7_node_11_v7, i_X7_node_11_v8, i_X7_node_11_v9, i_X7_node_11_v10, i_X7_node_11_o, i_X7_node_147, i_X7_node_148, i_X7_node_130, i_X7_node_131, i_X7_node_132, i_X7_node_133, i_X7_node_135, i_X7_node_138, i_X7_node_139, i_X7_node_143, i_X7_node_146, i_X7_node_142, i_X7_node_124, i_X7_node_125, i_X7_node_126, i_X7_node_129, i_X7_node_118, i_X7_node_119, i_X7_node_120, i_X7_node_123, i_X7_node_104, i_X7_node_105, i_X7_node_106, i_X7_node_109, i_X7_node_112, i_X7_node_113, i_X7_node_117, i_X7_node_116, i_X7_node_98, i_X7_node_99, i_X7_node_100, i_X7_node_103, i_X7_node_91, i_X7_node_92, i_X7_node_93, i_X7_node_94, i_X7_node_97, i_X7_node_75, i_X7_node_76, i_X7_node_79, i_X7_node_81, i_X7_node_90, i_X7_node_84, i_X7_node_85, i_X7_node_86, i_X7_node_87, i_X7_node_68, i_X7_node_69, i_X7_node_70, i_X7_node_71, i_X7_node_74, i_X7_node_0_e, Option.toList_some, Option.toList_none, List.cons_append, List.nil_append, List.append_nil, ↓reduceIte, s_isN hR hT.wf, hx, bz_e0, s_runs hR hT hk, reduceCtorEq, nodeW, hr, bz_t, bz_f, n1_e0, n0_e0]
      · match j, hj with
        | 0, _ | 1, _ | 2, _ | 3, _ | 4, _ | 5, _ | 7, _ | 8, _ | 9, _ | 10, _ => simp (disch := omega) only [i_X7_node_0, i_X7_node_1, i_X7_node_2, i_X7_node_5, i_X7_node_8, i_X7_node_9, i_X7_node_10, i_X7_node_11_v0, i_X7_node_11_v1, i_X7_node_11_v2, i_X7_node_11_v3, i_X7_node_11_v4, i_X7_node_11_v5, i_X7_node_11_v6, i_X7_node_11_v7, i_X7_node_11_v8, i_X7_node_11_v9, i_X7_node_11_v10, i_X7_node_11_o, i_X7_node_147, i_X7_node_148, i_X7_node_130, i_X7_node_131, i_X7_node_132, i_X7_node_133, i_X7_node_135, i_X7_node_138, i_X7_node_139, i_X7_node_143, i_X7_node_146, i_X7_node_142, i_X7_node_124, i_X7_node_125, i_X7_node_126, i_X7_node_129, i_X7_node_118, i_X7_node_119, i_X7_node_120, i_X7_node_123, i_X7_node_104, i_X7_node_105, i_X7_node_106, i_X7_node_109, i_X7_node_112, i_X7_node_113, i_X7_node_117, i_X7_node_116, i_X7_node_98, i_X7_node_99, i_X7_node_100, i_X7_node_103, i_X7_node_91, i_X7_node_92, i_X7_node_93, i_X7_node_94, i_X7_node_97, i_X7_node_75, i_X7_node_76, i_X7_node_79, i_X7_node_81, i_X7_node_90, i_X7_node_84, i_X7_node_85, i_X7_node_86, i_X7_node_87, i_X7_node_68, i_X7_node_69, i_X7_node_70, i_X7_node_71, i_X7_node_74, i_X7_node_0_e, Option.toList_some, Option.toList_none, List.cons_append, List.nil_append, List.append_nil, ↓reduceIte, s_isN hR hT.wf, hx, bz_e0, s_nT hR h24, q_eq, q_e0, hk0, s_depth hR hT.wf hk, s_runs hR hT hk, s_arrival hR hT hk, s_children hR hT hk, s_leavesF hR hT hk, s_leavesT hR hT hk, reduceCtorEq, nodeW, Nat.reduceEqDiff]
        | 6, _ => cases hr : rn T k <;> simp (disch := omega) only [i_X7_node_0, i_X7_node_1, i_X7_node_2, i_X7_node_5, i_X7_node_8, i_X7_node_9, i_X7_node_10, i_X7_node_11_v0, i_X7_node_11_v1, i_X7_node_11_v2, i_X7_node_11_v3, i_X7_node_11_v4, i_X7_node_11_v5, i_X7_node_11_v6, i_X7_node_11_v7, i_X7_node_11_v8, i_X7_node_11_v9, i_X7_node_11_v10, i_X7_node_11_o, i_X7_node_147, i_X7_node_148, i_X7_node_130, i_X7_node_131, i_X7_node_132, i_X7_node_133, i_X7_node_135, i_X7_node_138, i_X7_node_139, i_X7_node_143, i_X7_node_146, i_X7_node_142, i_X7_node_124, i_X7_node_125, i_X7_node_126, i_X7_node_129, i_X7_node_118, i_X7_node_119, i_X7_node_120, i_X7_node_123, i_X7_node_104, i_X7_node_105, i_X7_node_106, i_X7_node_109, i_X7_node_112, i_X7_node_113, i_X7_node_117, i_X7_node_116, i_X7_node_98, i_X7_node_99, i_X7_node_100, i_X7_node_103, i_X7_node_91, i_X7_node_92, i_X7_node_93, i_X7_node_94, i_X7_node_97, i_X7_node_75, i_X7_node_76, i_X7_node_79, i_X7_node_81, i_X7_node_90, i_X7_node_84, i_X7_node_85, i_X7_node_86, i_X7_node_87, i_X7_node_68, i_X7_node_69, i_X7_node_70, i_X7_node_71, i_X7_node_74, i_X7_node_0_e, Option.toList_some, Option.toList_none, List.cons_append, List.nil_append, List.append_nil, ↓reduceIte, s_isN hR hT.wf, hx, bz_e0, s_runs hR hT hk, reduceCtorEq, nodeW, hr, bz_t, bz_f, n1_e0, n0_e0]
theorem m_ofLeaf (hR : RelT (B 140) T) (hT : okT T) {x w : Int32} : pm_call X (d + 4) mX7_ofLeaf [.ref 139, .int x, .int w] (pm_w I A E J B) Q ↔ Q (some (.int (o_ofLeaf T x w))) (pm_w I A E J B) := by
  have h24 := hT.wf.2.1
  unfold o_ofLeaf
  cases hx : isL T x with
  | false => simp (disch := omega) only [i_X7_ofLeaf_0, i_X7_ofLeaf_1, i_X7_ofLeaf_2, i_X7_ofLeaf_5, i_X7_ofLeaf_8, i_X7_ofLeaf_9, i_X7_ofLeaf_10, i_X7_ofLeaf_11, i_X7_ofLeaf_14, i_X7_ofLeaf_17, i_X7_ofLeaf_22, i_X7_ofLeaf_23, i_X7_ofLeaf_24, i_X7_ofLeaf_27, i_X7_ofLeaf_28, i_X7_ofLeaf_29, i_X7_ofLeaf_32, i_X7_ofLeaf_35, i_X7_ofLeaf_36, i_X7_ofLeaf_51, i_X7_ofLeaf_39, i_X7_ofLeaf_40, i_X7_ofLeaf_43, i_X7_ofLeaf_44, i_X7_ofLeaf_45, i_X7_ofLeaf_46, i_X7_ofLeaf_47, i_X7_ofLeaf_48, i_X7_ofLeaf_20, i_X7_ofLeaf_21, i_X7_ofLeaf_0_e, Option.toList_some, Option.toList_none, List.cons_append, List.nil_append, List.append_nil, ↓reduceIte, s_isLeaf hR hT, hx, bz_e0, Bool.false_and, reduceCtorEq]
  | true =>
    have hx2 := hx
    unfold isL at hx2
    simp only [Bool.and_eq_true] at hx2
    obtain ⟨k, hk, rfl⟩ := isN_t hT.wf hx2.1
    rw [xN_n (by omega)]
    cases hw : inR w 0 5 with
    | false => simp (disch := omega) only [i_X7_ofLeaf_0, i_X7_ofLeaf_1, i_X7_ofLeaf_2, i_X7_ofLeaf_5, i_X7_ofLeaf_8, i_X7_ofLeaf_9, i_X7_ofLeaf_10, i_X7_ofLeaf_11, i_X7_ofLeaf_14, i_X7_ofLeaf_17, i_X7_ofLeaf_22, i_X7_ofLeaf_23, i_X7_ofLeaf_24, i_X7_ofLeaf_27, i_X7_ofLeaf_28, i_X7_ofLeaf_29, i_X7_ofLeaf_32, i_X7_ofLeaf_35, i_X7_ofLeaf_36, i_X7_ofLeaf_51, i_X7_ofLeaf_39, i_X7_ofLeaf_40, i_X7_ofLeaf_43, i_X7_ofLeaf_44, i_X7_ofLeaf_45, i_X7_ofLeaf_46, i_X7_ofLeaf_47, i_X7_ofLeaf_48, i_X7_ofLeaf_20, i_X7_ofLeaf_21, i_X7_ofLeaf_0_e, Option.toList_some, Option.toList_none, List.cons_append, List.nil_append, List.append_nil, ↓reduceIte, s_isLeaf hR hT, hx, s_isInR, hw, bz_e0, Bool.and_false, reduceCtorEq]
    | true =>
      obtain ⟨j, _, hj, rfl⟩ := inR_t (by decide) hw
      rw [xN_n (by omega)]
      by_cases h5 : j = 5
      · subst h5
        cases hc : cnn T k <;> simp (disch := omega) only [i_X7_ofLeaf_0, i_X7_ofLeaf_1, i_X7_ofLeaf_2, i_X7_ofLeaf_5, i_X7_ofLeaf_8, i_X7_ofLeaf_9, i_X7_ofLeaf_10, i_X7_ofLeaf_11, i_X7_ofLeaf_14, i_X7_ofLeaf_17, i_X7_ofLeaf_22, i_X7_ofLeaf_23, i_X7_ofLeaf_24, i_X7_ofLeaf_27, i_X7_ofLeaf_28, i_X7_ofLeaf_29, i_X7_ofLeaf_32, i_X7_ofLeaf_35, i_X7_ofLeaf_36, i_X7_ofLeaf_51, i_X7_ofLeaf_39, i_X7_ofLeaf_40, i_X7_ofLeaf_43, i_X7_ofLeaf_44, i_X7_ofLeaf_45, i_X7_ofLeaf_46, i_X7_ofLeaf_47, i_X7_ofLeaf_48, i_X7_ofLeaf_20, i_X7_ofLeaf_21, i_X7_ofLeaf_0_e, Option.toList_some, Option.toList_none, List.cons_append, List.nil_append, List.append_nil, ↓reduceIte, s_isLeaf hR hT, hx, s_isInR, hw, bz_e0, Bool.and_self, reduceCtorEq, q_eq, s_isContent hR hT hk, hc, bz_t, bz_f, n1_e0, n0_e0]
      · simp (disch := omega) only [i_X7_ofLeaf_0, i_X7_ofLeaf_1, i_X7_ofLeaf_2, i_X7_ofLeaf_5, i_X7_ofLeaf_8, i_X7_ofLeaf_9, i_X7_ofLeaf_10, i_X7_ofLeaf_11, i_X7_ofLeaf_14, i_X7_ofLeaf_17, i_X7_ofLeaf_22, i_X7_ofLeaf_23, i_X7_ofLeaf_24, i_X7_ofLeaf_27, i_X7_ofLeaf_28, i_X7_ofLeaf_29, i_X7_ofLeaf_32, i_X7_ofLeaf_35, i_X7_ofLeaf_36, i_X7_ofLeaf_51, i_X7_ofLeaf_39, i_X7_ofLeaf_40, i_X7_ofLeaf_43, i_X7_ofLeaf_44, i_X7_ofLeaf_45, i_X7_ofLeaf_46, i_X7_ofLeaf_47, i_X7_ofLeaf_48, i_X7_ofLeaf_20, i_X7_ofLeaf_21, i_X7_ofLeaf_0_e, Option.toList_some, Option.toList_none, List.cons_append, List.nil_append, List.append_nil, ↓reduceIte, s_isLeaf hR hT, hx, s_isInR, hw, bz_e0, Bool.and_self, reduceCtorEq, q_eq, h5, nI_add, s_nT hR h24]
theorem m_ofGroup (hR : RelT (B 140) T) (hT : okT T) {x w : Int32} : pm_call X (d + 9) mX7_ofGroup [.ref 139, .int x, .int w] (pm_w I A E J B) Q ↔ Q (some (.int (o_ofGroup T x w))) (pm_w I A E J B) := by
  have h24 := hT.wf.2.1
  unfold o_ofGroup
  cases hx : inR x 0 3 with
  | false => simp (disch := omega) only [i_X7_ofGroup_0, i_X7_ofGroup_1, i_X7_ofGroup_2, i_X7_ofGroup_3, i_X7_ofGroup_6, i_X7_ofGroup_9, i_X7_ofGroup_12, i_X7_ofGroup_13, i_X7_ofGroup_14, i_X7_ofGroup_15_v0, i_X7_ofGroup_15_v1, i_X7_ofGroup_15_v2, i_X7_ofGroup_15_v3, i_X7_ofGroup_15_v4, i_X7_ofGroup_15_v5, i_X7_ofGroup_15_v6, i_X7_ofGroup_15_o, i_X7_ofGroup_109, i_X7_ofGroup_110, i_X7_ofGroup_93, i_X7_ofGroup_94, i_X7_ofGroup_95, i_X7_ofGroup_96, i_X7_ofGroup_97, i_X7_ofGroup_100, i_X7_ofGroup_101, i_X7_ofGroup_105, i_X7_ofGroup_108, i_X7_ofGroup_104, i_X7_ofGroup_87, i_X7_ofGroup_88, i_X7_ofGroup_89, i_X7_ofGroup_92, i_X7_ofGroup_71, i_X7_ofGroup_72, i_X7_ofGroup_73, i_X7_ofGroup_74, i_X7_ofGroup_75, i_X7_ofGroup_78, i_X7_ofGroup_79, i_X7_ofGroup_83, i_X7_ofGroup_86, i_X7_ofGroup_82, i_X7_ofGroup_62, i_X7_ofGroup_63, i_X7_ofGroup_66, i_X7_ofGroup_67, i_X7_ofGroup_68, i_X7_ofGroup_69, i_X7_ofGroup_70, i_X7_ofGroup_56, i_X7_ofGroup_57, i_X7_ofGroup_58, i_X7_ofGroup_61, i_X7_ofGroup_0_e, Option.toList_some, Option.toList_none, List.cons_append, List.nil_append, List.append_nil, ↓reduceIte, s_isInR, hx, bz_e0, Bool.false_and, reduceCtorEq]
  | true =>
    have hx2 := hx
    obtain ⟨g, _, hg, rfl⟩ := inR_t (by decide) hx2
    have hg4 : g < 4 := by omega
    rw [xN_n (by omega)]
    rcases x_cases w (n := 7) (by decide) (by decide) with ⟨h1, h2⟩ | ⟨j, hj, rfl⟩
    · simp (disch := first | omega | assumption) only [i_X7_ofGroup_0, i_X7_ofGroup_1, i_X7_ofGroup_2, i_X7_ofGroup_3, i_X7_ofGroup_6, i_X7_ofGroup_9, i_X7_ofGroup_12, i_X7_ofGroup_13, i_X7_ofGroup_14, i_X7_ofGroup_15_v0, i_X7_ofGroup_15_v1, i_X7_ofGroup_15_v2, i_X7_ofGroup_15_v3, i_X7_ofGroup_15_v4, i_X7_ofGroup_15_v5, i_X7_ofGroup_15_v6, i_X7_ofGroup_15_o, i_X7_ofGroup_109, i_X7_ofGroup_110, i_X7_ofGroup_93, i_X7_ofGroup_94, i_X7_ofGroup_95, i_X7_ofGroup_96, i_X7_ofGroup_97, i_X7_ofGroup_100, i_X7_ofGroup_101, i_X7_ofGroup_105, i_X7_ofGroup_108, i_X7_ofGroup_104, i_X7_ofGroup_87, i_X7_ofGroup_88, i_X7_ofGroup_89, i_X7_ofGroup_92, i_X7_ofGroup_71, i_X7_ofGroup_72, i_X7_ofGroup_73, i_X7_ofGroup_74, i_X7_ofGroup_75, i_X7_ofGroup_78, i_X7_ofGroup_79, i_X7_ofGroup_83, i_X7_ofGroup_86, i_X7_ofGroup_82, i_X7_ofGroup_62, i_X7_ofGroup_63, i_X7_ofGroup_66, i_X7_ofGroup_67, i_X7_ofGroup_68, i_X7_ofGroup_69, i_X7_ofGroup_70, i_X7_ofGroup_56, i_X7_ofGroup_57, i_X7_ofGroup_58, i_X7_ofGroup_61, i_X7_ofGroup_0_e, Option.toList_some, Option.toList_none, List.cons_append, List.nil_append, List.append_nil, ↓reduceIte, s_isInR, hx, bz_e0, h1, Bool.and_false, reduceCtorEq]
    · rw [inR_n (by omega), xN_n (by omega), show (decide (0 ≤ j) && decide (j ≤ 6)) = true by simp; omega]
      have e1 := hR.2.2.1 g hg4
      simp only [Bool.and_self, if_true]
      have f0 := s_leavesOf (X := X) (d := d + 1) (Q := Q) (I := I) (A := A) (E := E) (J := J) hR hT hg4 (ra := false)
      match j, hj with
      | 0, _ | 1, _ | 4, _ | 5, _ | 6, _ => simp (disch := omega) only [i_X7_ofGroup_0, i_X7_ofGroup_1, i_X7_ofGroup_2, i_X7_ofGroup_3, i_X7_ofGroup_6, i_X7_ofGroup_9, i_X7_ofGroup_12, i_X7_ofGroup_13, i_X7_ofGroup_14, i_X7_ofGroup_15_v0, i_X7_ofGroup_15_v1, i_X7_ofGroup_15_v2, i_X7_ofGroup_15_v3, i_X7_ofGroup_15_v4, i_X7_ofGroup_15_v5, i_X7_ofGroup_15_v6, i_X7_ofGroup_15_o, i_X7_ofGroup_109, i_X7_ofGroup_110, i_X7_ofGroup_93, i_X7_ofGroup_94, i_X7_ofGroup_95, i_X7_ofGroup_96, i_X7_ofGroup_97, i_X7_ofGroup_100, i_X7_ofGroup_101, i_X7_ofGroup_105, i_X7_ofGroup_108, i_X7_ofGroup_104, i_X7_ofGroup_87, i_X7_ofGroup_88, i_X7_ofGroup_89, i_X7_ofGroup_92, i_X7_ofGroup_71, i_X7_ofGroup_72, i_X7_ofGroup_73, i_X7_ofGroup_74, i_X7_ofGroup_75, i_X7_ofGroup_78, i_X7_ofGroup_79, i_X7_ofGroup_83, i_X7_ofGroup_86, i_X7_ofGroup_82, i_X7_ofGroup_62, i_X7_ofGroup_63, i_X7_ofGroup_66, i_X7_ofGroup_67, i_X7_ofGroup_68, i_X7_ofGroup_69, i_X7_ofGroup_70, i_X7_ofGroup_56, i_X7_ofGroup_57, i_X7_ofGroup_58, i_X7_ofGroup_61, i_X7_ofGroup_0_e, Option.toList_some, Option.toList_none, List.cons_append, List.nil_append, List.append_nil, ↓reduceIte, s_isInR, hx, bz_e0, reduceCtorEq, q_eq, nI_add, s_skew hR hT hg4, e1, s_mending hR hT hg4, s_latestT hR hT hg4, s_latestF hR hT hg4, groupW, Nat.reduceEqDiff]
      | 2, _ =>
        simp (disch := omega) only [i_X7_ofGroup_0, i_X7_ofGroup_1, i_X7_ofGroup_2, i_X7_ofGroup_3, i_X7_ofGroup_6, i_X7_ofGroup_9, i_X7_ofGroup_12, i_X7_ofGroup_13, i_X7_ofGroup_14, i_X7_ofGroup_15_v0, i_X7_ofGroup_15_v1, i_X7_ofGroup_15_v2, i_X7_ofGroup_15_v3, i_X7_ofGroup_15_v4, i_X7_ofGroup_15_v5, i_X7_ofGroup_15_v6, i_X7_ofGroup_15_o, i_X7_ofGroup_109, i_X7_ofGroup_110, i_X7_ofGroup_93, i_X7_ofGroup_94, i_X7_ofGroup_95, i_X7_ofGroup_96, i_X7_ofGroup_97, i_X7_ofGroup_100, i_X7_ofGroup_101, i_X7_ofGroup_105, i_X7_ofGroup_108, i_X7_ofGroup_104, i_X7_ofGroup_87, i_X7_ofGroup_88, i_X7_ofGroup_89, i_X7_ofGroup_92, i_X7_ofGroup_71, i_X7_ofGroup_72, i_X7_ofGroup_73, i_X7_ofGroup_74, i_X7_ofGroup_75, i_X7_ofGroup_78, i_X7_ofGroup_79, i_X7_ofGroup_83, i_X7_ofGroup_86, i_X7_ofGroup_82, i_X7_ofGroup_62, i_X7_ofGroup_63, i_X7_ofGroup_66, i_X7_ofGroup_67, i_X7_ofGroup_68, i_X7_ofGroup_69, i_X7_ofGroup_70, i_X7_ofGroup_56, i_X7_ofGroup_57, i_X7_ofGroup_58, i_X7_ofGroup_61, i_X7_ofGroup_0_e, Option.toList_some, Option.toList_none, List.cons_append, List.nil_append, List.append_nil, ↓reduceIte, s_isInR, hx, bz_e0, reduceCtorEq, q_eq, Nat.reduceEqDiff]
        rw [← bz_f, s_leavesOf hR hT hg4]
        simp only [i_X7_ofGroup_0, i_X7_ofGroup_1, i_X7_ofGroup_2, i_X7_ofGroup_3, i_X7_ofGroup_6, i_X7_ofGroup_9, i_X7_ofGroup_12, i_X7_ofGroup_13, i_X7_ofGroup_14, i_X7_ofGroup_15_v0, i_X7_ofGroup_15_v1, i_X7_ofGroup_15_v2, i_X7_ofGroup_15_v3, i_X7_ofGroup_15_v4, i_X7_ofGroup_15_v5, i_X7_ofGroup_15_v6, i_X7_ofGroup_15_o, i_X7_ofGroup_109, i_X7_ofGroup_110, i_X7_ofGroup_93, i_X7_ofGroup_94, i_X7_ofGroup_95, i_X7_ofGroup_96, i_X7_ofGroup_97, i_X7_ofGroup_100, i_X7_ofGroup_101, i_X7_ofGroup_105, i_X7_ofGroup_108, i_X7_ofGroup_104, i_X7_ofGroup_87, i_X7_ofGroup_88, i_X7_ofGroup_89, i_X7_ofGroup_92, i_X7_ofGroup_71, i_X7_ofGroup_72, i_X7_ofGroup_73, i_X7_ofGroup_74, i_X7_ofGroup_75, i_X7_ofGroup_78, i_X7_ofGroup_79, i_X7_ofGroup_83, i_X7_ofGroup_86, i_X7_ofGroup_82, i_X7_ofGroup_62, i_X7_ofGroup_63, i_X7_ofGroup_66, i_X7_ofGroup_67, i_X7_ofGroup_68, i_X7_ofGroup_69, i_X7_ofGroup_70, i_X7_ofGroup_56, i_X7_ofGroup_57, i_X7_ofGroup_58, i_X7_ofGroup_61, i_X7_ofGroup_0_e, Option.toList_some, Option.toList_none, List.cons_append, List.nil_append, List.append_nil, ↓reduceIte, groupW]
      | 3, _ =>
        simp (disch := omega) only [i_X7_ofGroup_0, i_X7_ofGroup_1, i_X7_ofGroup_2, i_X7_ofGroup_3, i_X7_ofGroup_6, i_X7_ofGroup_9, i_X7_ofGroup_12, i_X7_ofGroup_13, i_X7_ofGroup_14, i_X7_ofGroup_15_v0, i_X7_ofGroup_15_v1, i_X7_ofGroup_15_v2, i_X7_ofGroup_15_v3, i_X7_ofGroup_15_v4, i_X7_ofGroup_15_v5, i_X7_ofGroup_15_v6, i_X7_ofGroup_15_o, i_X7_ofGroup_109, i_X7_ofGroup_110, i_X7_ofGroup_93, i_X7_ofGroup_94, i_X7_ofGroup_95, i_X7_ofGroup_96, i_X7_ofGroup_97, i_X7_ofGroup_100, i_X7_ofGroup_101, i_X7_ofGroup_105, i_X7_ofGroup_108, i_X7_ofGroup_104, i_X7_ofGroup_87, i_X7_ofGroup_88, i_X7_ofGroup_89, i_X7_ofGroup_92, i_X7_ofGroup_71, i_X7_ofGroup_72, i_X7_ofGroup_73, i_X7_ofGroup_74, i_X7_ofGroup_75, i_X7_ofGroup_78, i_X7_ofGroup_79, i_X7_ofGroup_83, i_X7_ofGroup_86, i_X7_ofGroup_82, i_X7_ofGroup_62, i_X7_ofGroup_63, i_X7_ofGroup_66, i_X7_ofGroup_67, i_X7_ofGroup_68, i_X7_ofGroup_69, i_X7_ofGroup_70, i_X7_ofGroup_56, i_X7_ofGroup_57, i_X7_ofGroup_58, i_X7_ofGroup_61, i_X7_ofGroup_0_e, Option.toList_some, Option.toList_none, List.cons_append, List.nil_append, List.append_nil, ↓reduceIte, s_isInR, hx, bz_e0, reduceCtorEq, q_eq, Nat.reduceEqDiff]
        rw [← bz_t, s_leavesOf hR hT hg4]
        simp only [i_X7_ofGroup_0, i_X7_ofGroup_1, i_X7_ofGroup_2, i_X7_ofGroup_3, i_X7_ofGroup_6, i_X7_ofGroup_9, i_X7_ofGroup_12, i_X7_ofGroup_13, i_X7_ofGroup_14, i_X7_ofGroup_15_v0, i_X7_ofGroup_15_v1, i_X7_ofGroup_15_v2, i_X7_ofGroup_15_v3, i_X7_ofGroup_15_v4, i_X7_ofGroup_15_v5, i_X7_ofGroup_15_v6, i_X7_ofGroup_15_o, i_X7_ofGroup_109, i_X7_ofGroup_110, i_X7_ofGroup_93, i_X7_ofGroup_94, i_X7_ofGroup_95, i_X7_ofGroup_96, i_X7_ofGroup_97, i_X7_ofGroup_100, i_X7_ofGroup_101, i_X7_ofGroup_105, i_X7_ofGroup_108, i_X7_ofGroup_104, i_X7_ofGroup_87, i_X7_ofGroup_88, i_X7_ofGroup_89, i_X7_ofGroup_92, i_X7_ofGroup_71, i_X7_ofGroup_72, i_X7_ofGroup_73, i_X7_ofGroup_74, i_X7_ofGroup_75, i_X7_ofGroup_78, i_X7_ofGroup_79, i_X7_ofGroup_83, i_X7_ofGroup_86, i_X7_ofGroup_82, i_X7_ofGroup_62, i_X7_ofGroup_63, i_X7_ofGroup_66, i_X7_ofGroup_67, i_X7_ofGroup_68, i_X7_ofGroup_69, i_X7_ofGroup_70, i_X7_ofGroup_56, i_X7_ofGroup_57, i_X7_ofGroup_58, i_X7_ofGroup_61, i_X7_ofGroup_0_e, Option.toList_some, Option.toList_none, List.cons_append, List.nil_append, List.append_nil, ↓reduceIte, groupW]
theorem m_power (hR : RelT (B 140) T) (hT : okT T) {x : Int32} : pm_call X (d + 7) mX7_power [.ref 139, .int x] (pm_w I A E J B) Q ↔ Q (some (.long (o_power T x))) (pm_w I A E J B) := by
  have h24 := hT.wf.2.1
  unfold o_power
  by_cases h1 : x = -1
  · subst h1
    simp (disch := omega) only [i_X7_power_0, i_X7_power_1, i_X7_power_2, i_X7_power_5, i_X7_power_6, i_X7_power_9, i_X7_power_31, i_X7_power_12, i_X7_power_13, i_X7_power_14, i_X7_power_17, i_X7_power_20, i_X7_power_21, i_X7_power_22, i_X7_power_25, i_X7_power_28, i_X7_power_0_e, Option.toList_some, Option.toList_none, List.cons_append, List.nil_append, List.append_nil, ↓reduceIte, s_powerOfAll hR hT]
  · cases hx : isN T x with
    | false => simp (disch := omega) only [i_X7_power_0, i_X7_power_1, i_X7_power_2, i_X7_power_5, i_X7_power_6, i_X7_power_9, i_X7_power_31, i_X7_power_12, i_X7_power_13, i_X7_power_14, i_X7_power_17, i_X7_power_20, i_X7_power_21, i_X7_power_22, i_X7_power_25, i_X7_power_28, i_X7_power_0_e, Option.toList_some, Option.toList_none, List.cons_append, List.nil_append, List.append_nil, ↓reduceIte, h1, s_isN hR hT.wf, hx, bz_e0, reduceCtorEq]
    | true =>
      obtain ⟨k, hk, rfl⟩ := isN_t hT.wf hx
      rw [xN_n (by omega)]
      simp (disch := omega) only [i_X7_power_0, i_X7_power_1, i_X7_power_2, i_X7_power_5, i_X7_power_6, i_X7_power_9, i_X7_power_31, i_X7_power_12, i_X7_power_13, i_X7_power_14, i_X7_power_17, i_X7_power_20, i_X7_power_21, i_X7_power_22, i_X7_power_25, i_X7_power_28, i_X7_power_0_e, Option.toList_some, Option.toList_none, List.cons_append, List.nil_append, List.append_nil, ↓reduceIte, h1, s_isN hR hT.wf, hx, bz_e0, reduceCtorEq, s_powerOf hR hT hk]
theorem m_account (hR : RelT (B 140) T) (hT : okT T) {x : Int32} : pm_call X (d + 9) mX7_account [.ref 139, .int x] (pm_w I A E J B) Q ↔ Q (some (.int (o_account T x))) (pm_w I A E J B) := by
  have h24 := hT.wf.2.1
  unfold o_account
  cases hx : inR x 0 11 with
  | false => simp (disch := omega) only [i_X7_account_0, i_X7_account_1, i_X7_account_2, i_X7_account_3, i_X7_account_6, i_X7_account_9, i_X7_account_12, i_X7_account_13, i_X7_account_14, i_X7_account_15, i_X7_account_17, i_X7_account_20, i_X7_account_21, i_X7_account_24, i_X7_account_58, i_X7_account_27, i_X7_account_28, i_X7_account_30, i_X7_account_33, i_X7_account_34, i_X7_account_37, i_X7_account_40, i_X7_account_41, i_X7_account_43, i_X7_account_46, i_X7_account_47, i_X7_account_50, i_X7_account_53, i_X7_account_54, i_X7_account_55, i_X7_account_0_e, Option.toList_some, Option.toList_none, List.cons_append, List.nil_append, List.append_nil, ↓reduceIte, s_isInR, hx, bz_e0, reduceCtorEq]
  | true =>
    obtain ⟨j, _, hj, rfl⟩ := inR_t (by decide) hx
    rw [xN_n (by omega)]
    have e1 : ∀ w, w < 6 → sumN (sum_s T w) (T 10 0) = cnt (fun k => decide (T 0 k = w)) (T 10 0) := fun w hw => by
      rw [← sumN_cnt]
      refine sumN_congr _ (fun k _ => ?_)
      unfold sum_s
      simp only [show ¬ w = 9 by omega, show ¬ w = 6 by omega, if_false]
    have e6 : sumN (sum_s T 6) (T 10 0) = cnt (rn T) (T 10 0) := by
      rw [← sumN_cnt]
      exact sumN_congr _ (fun k _ => rfl)
    have e9 : sumN (sum_s T 9) (T 10 0) = sumN (T 9) (T 10 0) := sumN_congr _ (fun k _ => rfl)
    match j, hj with
    | 0, _ | 1, _ | 2, _ | 3, _ | 4, _ | 5, _ | 6, _ | 7, _ | 8, _ | 9, _ | 10, _ | 11, _ => simp (disch := omega) only [i_X7_account_0, i_X7_account_1, i_X7_account_2, i_X7_account_3, i_X7_account_6, i_X7_account_9, i_X7_account_12, i_X7_account_13, i_X7_account_14, i_X7_account_15, i_X7_account_17, i_X7_account_20, i_X7_account_21, i_X7_account_24, i_X7_account_58, i_X7_account_27, i_X7_account_28, i_X7_account_30, i_X7_account_33, i_X7_account_34, i_X7_account_37, i_X7_account_40, i_X7_account_41, i_X7_account_43, i_X7_account_46, i_X7_account_47, i_X7_account_50, i_X7_account_53, i_X7_account_54, i_X7_account_55, i_X7_account_0_e, Option.toList_some, Option.toList_none, List.cons_append, List.nil_append, List.append_nil, ↓reduceIte, s_isInR, hx, bz_e0, reduceCtorEq, q_eq, Nat.reduceEqDiff, s_contentMany hR hT, s_openGates hR hT, s_skewed hR hT, s_sumOf10 hR hT, s_sumOf hR hT, e1, e6, e9, accW]
theorem m_rate (hR : RelT (B 140) T) (hT : okT T) {x w : Int32} : pm_call X (d + 3) mX7_rate [.ref 139, .int x, .int w] (pm_w I A E J B) Q ↔ Q (some (.long (o_rate T x w))) (pm_w I A E J B) := by
  have h24 := hT.wf.2.1
  unfold o_rate
  have e01 : (0 : Int64) = lN 0 := l_0
  cases hx : isN T x with
  | false => simp (disch := omega) only [i_X7_rate_0, i_X7_rate_1, i_X7_rate_2, i_X7_rate_5, i_X7_rate_8, i_X7_rate_9, i_X7_rate_10, i_X7_rate_11, i_X7_rate_12, i_X7_rate_15, i_X7_rate_22, i_X7_rate_23, i_X7_rate_26, i_X7_rate_27, i_X7_rate_28, i_X7_rate_31, i_X7_rate_39, i_X7_rate_34, i_X7_rate_35, i_X7_rate_36, i_X7_rate_18, i_X7_rate_21, i_X7_rate_0_e, Option.toList_some, Option.toList_none, List.cons_append, List.nil_append, List.append_nil, ↓reduceIte, s_isN hR hT.wf, hx, bz_e0, Bool.false_and, reduceCtorEq]
  | true =>
    obtain ⟨k, hk, rfl⟩ := isN_t hT.wf hx
    rw [xN_n (by omega)]
    cases hw : inR w 0 1 with
    | false => simp (disch := omega) only [i_X7_rate_0, i_X7_rate_1, i_X7_rate_2, i_X7_rate_5, i_X7_rate_8, i_X7_rate_9, i_X7_rate_10, i_X7_rate_11, i_X7_rate_12, i_X7_rate_15, i_X7_rate_22, i_X7_rate_23, i_X7_rate_26, i_X7_rate_27, i_X7_rate_28, i_X7_rate_31, i_X7_rate_39, i_X7_rate_34, i_X7_rate_35, i_X7_rate_36, i_X7_rate_18, i_X7_rate_21, i_X7_rate_0_e, Option.toList_some, Option.toList_none, List.cons_append, List.nil_append, List.append_nil, ↓reduceIte, s_isN hR hT.wf, hx, bz_e0, s_isInR, hw, Bool.and_false, reduceCtorEq]
    | true =>
      by_cases h0 : w = 0
      · subst h0
        simp (disch := omega) only [i_X7_rate_0, i_X7_rate_1, i_X7_rate_2, i_X7_rate_5, i_X7_rate_8, i_X7_rate_9, i_X7_rate_10, i_X7_rate_11, i_X7_rate_12, i_X7_rate_15, i_X7_rate_22, i_X7_rate_23, i_X7_rate_26, i_X7_rate_27, i_X7_rate_28, i_X7_rate_31, i_X7_rate_39, i_X7_rate_34, i_X7_rate_35, i_X7_rate_36, i_X7_rate_18, i_X7_rate_21, i_X7_rate_0_e, Option.toList_some, Option.toList_none, List.cons_append, List.nil_append, List.append_nil, ↓reduceIte, s_isN hR hT.wf, hx, bz_e0, s_isInR, hw, Bool.and_self, reduceCtorEq, s_above hR hT hk]
      · simp (disch := omega) only [i_X7_rate_0, i_X7_rate_1, i_X7_rate_2, i_X7_rate_5, i_X7_rate_8, i_X7_rate_9, i_X7_rate_10, i_X7_rate_11, i_X7_rate_12, i_X7_rate_15, i_X7_rate_22, i_X7_rate_23, i_X7_rate_26, i_X7_rate_27, i_X7_rate_28, i_X7_rate_31, i_X7_rate_39, i_X7_rate_34, i_X7_rate_35, i_X7_rate_36, i_X7_rate_18, i_X7_rate_21, i_X7_rate_0_e, Option.toList_some, Option.toList_none, List.cons_append, List.nil_append, List.append_nil, ↓reduceIte, s_isN hR hT.wf, hx, bz_e0, s_isInR, hw, Bool.and_self, reduceCtorEq, h0, s_below hR hT hk]
theorem m_again (hR : RelT (B 140) T) (hT : okT T) {x w : Int32} : pm_call X (d + 4) mX7_again [.ref 139, .int x, .int w] (pm_w I A E J B) Q ↔ Q (some (.long (o_rate T x w))) (pm_w I A E J B) := by
  simp only [i_X7_again_0, i_X7_again_1, i_X7_again_2, i_X7_again_3, i_X7_again_6, i_X7_again_0_e, Option.toList_some, Option.toList_none, List.cons_append, List.nil_append, List.append_nil, ↓reduceIte, m_rate hR hT]
theorem m_count {S : St} (hM : RelM J B S) {x : Int32} : pm_call X d mX7_count [.ref 139, .int x] (pm_w I A E J B) Q ↔ Q (some (.int (o_count S x))) (pm_w I A E J B) := by
  have e1 := hM.1.2.1
  have e2 := hM.2.1.2.1
  have e3 := hM.2.2.2.1.1
  unfold o_count
  by_cases h0 : x = nI 0
  · subst h0; simp (disch := omega) only [i_X7_count_0, i_X7_count_1, i_X7_count_4, i_X7_count_5, i_X7_count_8, i_X7_count_9, i_X7_count_10, i_X7_count_38, i_X7_count_13, i_X7_count_14, i_X7_count_15, i_X7_count_18, i_X7_count_19, i_X7_count_22, i_X7_count_25, i_X7_count_26, i_X7_count_27, i_X7_count_30, i_X7_count_31, i_X7_count_34, i_X7_count_37, i_X7_count_0_e, Option.toList_some, Option.toList_none, List.cons_append, List.nil_append, List.append_nil, ↓reduceIte, e1, nI_0]
  · have h0' : ¬ x = 0 := by rw [← nI_0]; exact h0
    by_cases h1 : x = nI 1
    · subst h1; simp (disch := omega) only [i_X7_count_0, i_X7_count_1, i_X7_count_4, i_X7_count_5, i_X7_count_8, i_X7_count_9, i_X7_count_10, i_X7_count_38, i_X7_count_13, i_X7_count_14, i_X7_count_15, i_X7_count_18, i_X7_count_19, i_X7_count_22, i_X7_count_25, i_X7_count_26, i_X7_count_27, i_X7_count_30, i_X7_count_31, i_X7_count_34, i_X7_count_37, i_X7_count_0_e, Option.toList_some, Option.toList_none, List.cons_append, List.nil_append, List.append_nil, ↓reduceIte, h0', h0, e3]
    · by_cases h2 : x = nI 2
      · subst h2; simp (disch := omega) only [i_X7_count_0, i_X7_count_1, i_X7_count_4, i_X7_count_5, i_X7_count_8, i_X7_count_9, i_X7_count_10, i_X7_count_38, i_X7_count_13, i_X7_count_14, i_X7_count_15, i_X7_count_18, i_X7_count_19, i_X7_count_22, i_X7_count_25, i_X7_count_26, i_X7_count_27, i_X7_count_30, i_X7_count_31, i_X7_count_34, i_X7_count_37, i_X7_count_0_e, Option.toList_some, Option.toList_none, List.cons_append, List.nil_append, List.append_nil, ↓reduceIte, h0', h0, h1, e2]
      · simp (disch := omega) only [i_X7_count_0, i_X7_count_1, i_X7_count_4, i_X7_count_5, i_X7_count_8, i_X7_count_9, i_X7_count_10, i_X7_count_38, i_X7_count_13, i_X7_count_14, i_X7_count_15, i_X7_count_18, i_X7_count_19, i_X7_count_22, i_X7_count_25, i_X7_count_26, i_X7_count_27, i_X7_count_30, i_X7_count_31, i_X7_count_34, i_X7_count_37, i_X7_count_0_e, Option.toList_some, Option.toList_none, List.cons_append, List.nil_append, List.append_nil, ↓reduceIte, h0', h0, h1, h2]
theorem m_reason {S : St} (hM : RelM J B S) : pm_call X d mX7_reason [.ref 139] (pm_w I A E J B) Q ↔ Q (some (.int S.2.2.2.2)) (pm_w I A E J B) := by
  simp only [i_X7_reason_0, i_X7_reason_1, i_X7_reason_4, i_X7_reason_0_e, Option.toList_some, Option.toList_none, List.cons_append, List.nil_append, List.append_nil, ↓reduceIte, hM.2.2.2.2]
end MOH
