/-! paths as texts -/
def bt (tp : List Nat) (p : Nat) : Nat := tp.getD p 0
def dg (tp : List Nat) (p lo hi : Nat) : Bool := decide (p < tp.length) && (decide (48 + lo ≤ bt tp p) && decide (bt tp p ≤ 48 + hi))
def sg (tp : List Nat) (p c : Nat) : Bool := decide (p < tp.length) && decide (bt tp p = c)
def nuG (tp : List Nat) : Nat → Nat → Nat → Nat × Nat
  | 0, v, p => (v, p)
  | m + 1, v, p => if dg tp p 0 9 then nuG tp m (v * 10 + (bt tp p - 48)) (p + 1) else (v, p)
def num (tp : List Nat) (p : Nat) : Option (Nat × Nat) := if dg tp p 0 9 then some (nuG tp 6 (bt tp p - 48) (p + 1)) else none
def kdO (b : Nat) : Nat := if b = 47 then 1 else if b = 42 then 2 else if b = 103 then 3 else if b = 43 then 4 else 0
def one (tp : List Nat) (p lo hi : Nat) : Option (Nat × Nat) := if dg tp p lo hi then some (bt tp p - 48, p + 1) else none
def nof (tp : List Nat) (k p : Nat) : Option (Nat × Nat) := if k = 4 then num tp p else if k = 3 then one tp p 0 4 else one tp p 1 9
def kdA (tp : List Nat) (p : Nat) : Nat := if p < tp.length then kdO (bt tp p) else 0
def stps (tp : List Nat) : Nat → Nat → List (Nat × Nat) × Nat × Bool
  | 0, p => ([], p, false)
  | m + 1, p => if kdA tp p = 0 then ([], p, false) else (match nof tp (kdA tp p) (p + 1) with
    | none => ([], p + 1, true)
    | some vq => ((kdA tp p, vq.1) :: (stps tp m vq.2).1, (stps tp m vq.2).2))
def lfP (tp : List Nat) (p : Nat) : Nat ⊕ (Nat × Nat × Nat × Nat) := if dg tp p 0 3 then (if sg tp (p + 1) 58 then (match num tp (p + 2) with
  | none => .inl (p + 2)
  | some lq => if sg tp lq.2 45 then (match num tp (lq.2 + 1) with
    | none => .inl (lq.2 + 1)
    | some hq => .inr (bt tp p - 48, lq.1, hq.1, hq.2)) else .inl lq.2) else .inl (p + 1)) else .inl p
abbrev PR : Type := Nat ⊕ (Nat × List (Nat × Nat) × Option (Nat × Nat × Nat))
def prs2 (tp : List Nat) (st : Nat) (ps : List (Nat × Nat)) (p : Nat) (w : Bool) : PR := if w then .inl p else if p < tp.length then (if bt tp p = 46 then (match lfP tp (p + 1) with
  | .inl e => .inl e
  | .inr q => if q.2.2.2 < tp.length then .inl q.2.2.2 else .inr (st, ps, some (q.1, q.2.1, q.2.2.1))) else .inl p) else .inr (st, ps, none)
def prs (tp : List Nat) : PR := match num tp 0 with
  | none => .inl 0
  | some sp => prs2 tp sp.1 (stps tp 40 sp.2).1 (stps tp 40 sp.2).2.1 (stps tp 40 sp.2).2.2
theorem dg_t {tp : List Nat} {p lo hi : Nat} (h : dg tp p lo hi = true) : p < tp.length ∧ 48 + lo ≤ bt tp p ∧ bt tp p ≤ 48 + hi := by
  unfold dg at h
  simp only [Bool.and_eq_true, decide_eq_true_eq] at h
  exact h
theorem nuG_b {tp : List Nat} : ∀ m v p, m ≤ 6 → p ≤ tp.length → v < 10 ^ (7 - m) → (nuG tp m v p).1 < 10000000 ∧ p ≤ (nuG tp m v p).2 ∧ (nuG tp m v p).2 ≤ tp.length
  | 0, v, p, _, hp, h => ⟨h, Nat.le_refl _, hp⟩
  | m + 1, v, p, hm, hp, h => by
    unfold nuG
    by_cases hd : dg tp p 0 9 = true
    · rw [if_pos hd]
      have := dg_t hd
      have e : 10 ^ (7 - m) = 10 ^ (7 - (m + 1)) * 10 := by rw [← Nat.pow_succ]; congr 1; omega
      have ih := nuG_b (tp := tp) m (v * 10 + (bt tp p - 48)) (p + 1) (by omega) (by omega) (by rw [e]; omega)
      exact ⟨ih.1, by omega, ih.2.2⟩
    · rw [if_neg hd]
      have : 10 ^ (7 - (m + 1)) ≤ 10 ^ 7 := Nat.pow_le_pow_right (by decide) (by omega)
      exact ⟨by omega, Nat.le_refl _, hp⟩
theorem num_b {tp : List Nat} {p : Nat} {r : Nat × Nat} (h : num tp p = some r) : r.1 < 10000000 ∧ p < r.2 ∧ r.2 ≤ tp.length := by
  unfold num at h
  by_cases hd : dg tp p 0 9 = true
  · rw [if_pos hd] at h
    cases h
    have := dg_t hd
    have ih := nuG_b (tp := tp) 6 (bt tp p - 48) (p + 1) (by omega) (by omega) (by show bt tp p - 48 < 10; omega)
    exact ⟨ih.1, by omega, ih.2.2⟩
  · rw [if_neg hd] at h; cases h
theorem one_b {tp : List Nat} {p lo hi : Nat} {r : Nat × Nat} (hh : hi ≤ 9) (h : one tp p lo hi = some r) : r.1 < 10000000 ∧ p < r.2 ∧ r.2 ≤ tp.length := by
  unfold one at h
  by_cases hd : dg tp p lo hi = true
  · rw [if_pos hd] at h
    cases h
    have := dg_t hd
    exact ⟨by simp only; omega, by simp only; omega, by simp only; omega⟩
  · rw [if_neg hd] at h; cases h
theorem nof_b {tp : List Nat} {k p : Nat} {r : Nat × Nat} (h : nof tp k p = some r) : r.1 < 10000000 ∧ p < r.2 ∧ r.2 ≤ tp.length := by
  unfold nof at h
  split at h
  · exact num_b h
  · split at h
    · exact one_b (by decide) h
    · exact one_b (by decide) h
theorem kdO_b (b : Nat) : kdO b ≤ 4 := by unfold kdO; split <;> (try split) <;> (try split) <;> (try split) <;> omega
theorem kdA_b (tp : List Nat) (p : Nat) : kdA tp p ≤ 4 := by unfold kdA; split; exact kdO_b _; omega
theorem kdA_lt {tp : List Nat} {p : Nat} (h : kdA tp p ≠ 0) : p < tp.length ∧ kdA tp p = kdO (bt tp p) := by
  unfold kdA at h ⊢
  split
  · rename_i q; exact ⟨q, rfl⟩
  · rename_i q; rw [if_neg q] at h; exact absurd rfl h
theorem stps_k {tp : List Nat} : ∀ m p, p ≤ tp.length → (∀ kv, kv ∈ (stps tp m p).1 → (1 ≤ kv.1 ∧ kv.1 ≤ 4) ∧ kv.2 < 10000000) ∧ (stps tp m p).2.1 ≤ tp.length ∧ (stps tp m p).1.length ≤ m
  | 0, p, hp => ⟨fun kv h => (List.not_mem_nil h).elim, hp, Nat.le_refl _⟩
  | m + 1, p, hp => by
    unfold stps
    by_cases hk : kdA tp p = 0
    · rw [if_pos hk]; exact ⟨fun kv h => (List.not_mem_nil h).elim, hp, Nat.zero_le _⟩
    · rw [if_neg hk]
      have hl := (kdA_lt hk).1
      cases hn : nof tp (kdA tp p) (p + 1) with
      | none => exact ⟨fun kv h => (List.not_mem_nil h).elim, by simp only; omega, Nat.zero_le _⟩
      | some vq =>
        have hb := nof_b hn
        obtain ⟨i1, i2, i3⟩ := stps_k (tp := tp) m vq.2 hb.2.2
        refine ⟨fun kv h => ?_, i2, by simp only [List.length_cons]; omega⟩
        rcases List.mem_cons.mp h with q | q
        · subst q
          exact ⟨⟨by simp only; omega, kdA_b tp p⟩, hb.1⟩
        · exact i1 kv q
def okPR (o : PR) : Prop := match o with
  | .inl e => e ≤ 40
  | .inr q => q.1 < 10000000 ∧ (∀ kv, kv ∈ q.2.1 → (1 ≤ kv.1 ∧ kv.1 ≤ 4) ∧ kv.2 < 10000000) ∧ q.2.1.length ≤ 40 ∧ ∀ l, q.2.2 = some l → l.1 ≤ 3 ∧ l.2.1 < 10000000 ∧ l.2.2 < 10000000
theorem lfP_b {tp : List Nat} {p : Nat} (hp : p ≤ tp.length) : (∀ e, lfP tp p = .inl e → e ≤ tp.length) ∧ ∀ q, lfP tp p = .inr q → q.1 ≤ 3 ∧ q.2.1 < 10000000 ∧ q.2.2.1 < 10000000 ∧ q.2.2.2 ≤ tp.length := by
  unfold lfP
  by_cases h1 : dg tp p 0 3 = true
  · rw [if_pos h1]
    have d := dg_t h1
    by_cases h2 : sg tp (p + 1) 58 = true
    · rw [if_pos h2]
      have d2 : p + 1 < tp.length := by unfold sg at h2; simp only [Bool.and_eq_true, decide_eq_true_eq] at h2; exact h2.1
      cases h3 : num tp (p + 2) with
      | none => exact ⟨fun e h => by cases h; omega, fun q h => by cases h⟩
      | some lq =>
        have b1 := num_b h3
        simp only
        by_cases h4 : sg tp lq.2 45 = true
        · rw [if_pos h4]
          have d4 : lq.2 < tp.length := by unfold sg at h4; simp only [Bool.and_eq_true, decide_eq_true_eq] at h4; exact h4.1
          cases h5 : num tp (lq.2 + 1) with
          | none => exact ⟨fun e h => by cases h; omega, fun q h => by cases h⟩
          | some hq =>
            have b2 := num_b h5
            exact ⟨fun e h => (by cases h), fun q h => (by cases h; exact ⟨by simp only; omega, b1.1, b2.1, b2.2.2⟩)⟩
        · rw [if_neg h4]; exact ⟨fun e h => by cases h; omega, fun q h => by cases h⟩
    · rw [if_neg h2]; exact ⟨fun e h => by cases h; omega, fun q h => by cases h⟩
  · rw [if_neg h1]; exact ⟨fun e h => by cases h; omega, fun q h => by cases h⟩
theorem prs_ok {tp : List Nat} (h40 : tp.length ≤ 40) : okPR (prs tp) := by
  unfold prs
  cases hn : num tp 0 with
  | none => exact Nat.zero_le _
  | some sp =>
    have b := num_b hn
    obtain ⟨i1, i2, i3⟩ := stps_k (tp := tp) 40 sp.2 b.2.2
    simp only
    unfold prs2
    split
    · show _ ≤ 40; omega
    · split
      · rename_i hl
        split
        · have lb := lfP_b (tp := tp) (p := (stps tp 40 sp.2).2.1 + 1) (by omega)
          cases hf : lfP tp ((stps tp 40 sp.2).2.1 + 1) with
          | inl e => have := lb.1 e hf; show e ≤ 40; omega
          | inr q =>
            have := lb.2 q hf
            simp only
            split
            · show _ ≤ 40; omega
            · exact ⟨b.1, i1, i3, fun l hl => by cases hl; exact ⟨this.1, this.2.1, this.2.2.1⟩⟩
        · show _ ≤ 40; omega
      · exact ⟨b.1, i1, i3, fun l hl => by cases hl⟩
/-- the path is laid -/
def chP2 (T : Tr) (a kd nu n : Nat) : Bool := decide (T 1 n = a) && (decide (T 0 n = kd) && decide (T 2 n = nu))
def ck (T : Tr) (a kd nu : Nat) : Option Nat := frs (chP2 T a kd nu) 1 (T 10 0 - 1)
def layR : Tr → Nat → Nat → List (Nat × Nat) → (Nat × Nat) ⊕ (Tr × Nat)
  | T, a, _, [] => .inr (T, a)
  | T, a, k, kv :: ps => match ck T a kv.1 kv.2 with
    | some n => layR T n (k + 1) ps
    | none => if whyN T (nI a) kv.1 (nI kv.2) = 0 then layR (addT T a kv.1 kv.2 0 0 0 0) (T 10 0) (k + 1) ps else .inl (k, whyN T (nI a) kv.1 (nI kv.2))
def layL (T : Tr) (a k : Nat) (lf : Option (Nat × Nat × Nat)) : (Nat × Nat) ⊕ Tr := match lf with
  | none => .inr T
  | some l => if whyL T (nI a) (nI l.2.1) (nI l.2.2) (nI 1) = 0 then .inr (addT T a 5 l.1 l.2.1 l.2.2 1 1) else .inl (k, whyL T (nI a) (nI l.2.1) (nI l.2.2) (nI 1))
def tp0 (S : St) : St := (S.1, S.2.1, S.2.2.1, [], S.2.2.2.2)
def o_lay (S : St) : Int32 × St := match prs S.2.2.2.1 with
  | .inl e => (-100 - nI e, tp0 S)
  | .inr q => if q.1 < S.1 10 0 then (match layR S.1 q.1 1 q.2.1 with
    | .inl kw => (-200 - nI kw.1, refS (tp0 S) kw.2)
    | .inr ta => (match layL ta.1 ta.2 (q.2.1.length + 1) q.2.2 with
      | .inl kw => (-200 - nI kw.1, refS (tp0 S) kw.2)
      | .inr T' => (nI (T' 10 0) - nI (S.1 10 0), chgS (tp0 S) T'))) else (-200, refS (tp0 S) 1)
theorem frs_b {p : Nat → Bool} : ∀ m j n, frs p j m = some n → j ≤ n ∧ n < j + m ∧ p n = true
  | 0, j, n, h => by cases h
  | m + 1, j, n, h => by
    unfold frs at h
    split at h
    · rename_i hp; cases h; exact ⟨Nat.le_refl _, by omega, hp⟩
    · have := frs_b m (j + 1) n h
      exact ⟨by omega, by omega, this.2.2⟩
theorem frs_skip {p : Nat → Bool} : ∀ k j m, (∀ n, j ≤ n → n < j + k → p n = false) → frs p j (k + m) = frs p (j + k) m
  | 0, j, m, _ => by rw [Nat.zero_add, Nat.add_zero]
  | k + 1, j, m, h => by
    rw [show k + 1 + m = (k + m) + 1 by omega, show j + (k + 1) = (j + 1) + k by omega]
    show (if p j then some j else frs p (j + 1) (k + m)) = _
    rw [h j (by omega) (by omega)]
    exact frs_skip k (j + 1) m (fun n h1 h2 => h n (by omega) (by omega))
theorem whyN_add {T : Tr} (h : okP T) {a kd nu : Nat} (ha : a < T 10 0) (hk : 1 ≤ kd ∧ kd ≤ 4) (hn : nu < 10000000) (hw : whyN T (nI a) kd (nI nu) = 0) : okP (addT T a kd nu 0 0 0 0) ∧ T 10 0 < 24 ∧ nu ≤ 99 := by
  have h24 := h.1.wf.2.1
  unfold whyN at hw
  split at hw
  · rename_i hp
    split at hw
    · rename_i hv
      split at hw
      · omega
      · rename_i hf
        obtain ⟨p, u, e1, e2, hu, hpN, hA⟩ := okA_n h.1 hk hp hv
        rw [xN_n (k := a) (by omega), xN_n (k := nu) (by omega)] at hf
        have e1' : a = p := by have := congrArg xN e1; rwa [xN_n (by omega), xN_n (by omega)] at this
        have e2' : nu = u := by have := congrArg xN e2; rwa [xN_n (by omega), xN_n (by omega)] at this
        subst e1'; subst e2'
        exact ⟨okP_add h hA (Bool.eq_false_iff.mpr hf), hA.2.2.2.1, hu⟩
    · omega
  · omega
theorem whyL_add {T : Tr} (h : okP T) {a g lo hi : Nat} (ha : a < T 10 0) (hg : g ≤ 3) (hlo : lo < 10000000) (hhi : hi < 10000000) (hw : whyL T (nI a) (nI lo) (nI hi) (nI 1) = 0) : okP (addT T a 5 g lo hi 1 1) ∧ T 10 0 < 24 := by
  have h24 := h.1.wf.2.1
  obtain ⟨p, l, u, r, e1, e2, e3, e4, hp, k1, k2, k4, hA⟩ := okA_l h.1 hg hw
  have e1' : a = p := by have := congrArg xN e1; rwa [xN_n (by omega), xN_n (by omega)] at this
  have e2' : lo = l := by have := congrArg xN e2; rwa [xN_n (by omega), xN_n (by omega)] at this
  have e3' : hi = u := by have := congrArg xN e3; rwa [xN_n (by omega), xN_n (by omega)] at this
  have e4' : 1 = r := by have := congrArg xN e4; rwa [xN_n (by omega), xN_n (by omega)] at this
  subst e1'; subst e2'; subst e3'; subst e4'
  refine ⟨okP_add h hA ?_, hA.2.2.2.1⟩
  rw [fst_new h.1 h.2 hA]
  rfl
theorem layR_ok : ∀ (ps : List (Nat × Nat)) (T : Tr) (a k : Nat), okP T → a < T 10 0 → (∀ kv, kv ∈ ps → (1 ≤ kv.1 ∧ kv.1 ≤ 4) ∧ kv.2 < 10000000) → (∀ kw, layR T a k ps = .inl kw → kw.1 < k + ps.length ∧ kw.2 ≤ 5) ∧ ∀ ta, layR T a k ps = .inr ta → okP ta.1 ∧ ta.2 < ta.1 10 0
  | [], T, a, k, hT, ha, _ => ⟨fun kw h => (by cases h), fun ta h => (by cases h; exact ⟨hT, ha⟩)⟩
  | kv :: ps, T, a, k, hT, ha, hk => by
    have h1 := hk kv List.mem_cons_self
    have h2 : ∀ kv, kv ∈ ps → (1 ≤ kv.1 ∧ kv.1 ≤ 4) ∧ kv.2 < 10000000 := fun kv h => hk kv (List.mem_cons_of_mem _ h)
    unfold layR
    cases hc : ck T a kv.1 kv.2 with
    | some n =>
      have hb := frs_b _ _ _ hc
      have := layR_ok ps T n (k + 1) hT (by omega) h2
      exact ⟨fun kw h => by have := this.1 kw h; simp only [List.length_cons]; omega, this.2⟩
    | none =>
      simp only
      split
      · rename_i hw
        have hA := whyN_add hT ha h1.1 h1.2 hw
        have := layR_ok ps (addT T a kv.1 kv.2 0 0 0 0) (T 10 0) (k + 1) hA.1 (by rw [addT_N]; omega) h2
        exact ⟨fun kw h => by have := this.1 kw h; simp only [List.length_cons]; omega, this.2⟩
      · exact ⟨fun kw h => (by cases h; simp only [List.length_cons]; exact ⟨by omega, whyN_c _ _ _ _⟩), fun ta h => (by cases h)⟩
theorem OkS.tp0 {S : St} (h : OkS S) : OkS (tp0 S) := h
theorem ok_lay {S : St} (h : OkS S) (h40 : S.2.2.2.1.length ≤ 40) : OkS (o_lay S).2 := by
  have hp := prs_ok h40
  unfold o_lay
  cases hq : prs S.2.2.2.1 with
  | inl e => exact h
  | inr q =>
    rw [hq] at hp
    simp only
    split
    · rename_i hs
      have hl := layR_ok q.2.1 S.1 q.1 1 h.1 hs hp.2.1
      cases hr : layR S.1 q.1 1 q.2.1 with
      | inl kw => exact h
      | inr ta =>
        have := hl.2 ta hr
        simp only
        cases hlf : q.2.2 with
        | none => exact h.tp0.chg this.1
        | some l =>
          have lb := hp.2.2.2 l hlf
          unfold layL
          simp only
          split
          · rename_i e; split at e
            · cases e
            · cases e; exact h
          · rename_i e; split at e
            · rename_i hw
              cases e
              exact h.tp0.chg (whyL_add this.1 this.2 lb.1 lb.2.1 lb.2.2 hw).1
            · cases e
    · exact h
