/-! a node more -/
section ADDT
variable {T : Tr} {p kd nu lo hi pr rq : Nat}
theorem addT_N : addT T p kd nu lo hi pr rq 10 0 = T 10 0 + 1 := by simp [addT]
theorem addT_b : addT T p kd nu lo hi pr rq 10 1 = T 10 1 := by simp [addT]
theorem addT_l {g : Nat} : addT T p kd nu lo hi pr rq 11 g = T 11 g := by simp [addT]
theorem addT_o {w k : Nat} (hw : w < 10) (hk : k ≠ T 10 0) : addT T p kd nu lo hi pr rq w k = T w k := by
  unfold addT
  rw [if_neg (by omega), if_neg (by omega)]
theorem addT_0 : addT T p kd nu lo hi pr rq 0 (T 10 0) = kd := by simp [addT]
theorem addT_1 : addT T p kd nu lo hi pr rq 1 (T 10 0) = p := by simp [addT]
theorem addT_2 : addT T p kd nu lo hi pr rq 2 (T 10 0) = nu := by simp [addT]
theorem phF_r {α : Type} {T' : Tr} {f f' : Nat → α → α} {z z' : α} (hw : wf T) (h1 : ∀ j, j < T 10 0 → T' 1 j = T 1 j) (hf : ∀ j, j < T 10 0 → f' j = f j) (hz : z' = z) (n : Nat) : ∀ k, k < T 10 0 → phF T' f' z' n k = phF T f z n k := by
  subst hz
  induction n with
  | zero => intro k _; rfl
  | succ n ih =>
    intro k hk
    unfold phF
    by_cases h0 : k = 0
    · rw [if_pos h0, if_pos h0]
    · rw [if_neg h0, if_neg h0, h1 k hk, hf k hk, ih _ (by have := hw.2.2 k (by omega) hk; omega)]
theorem ph_r {α : Type} {T' : Tr} {f f' : Nat → α → α} {z z' : α} (hw : wf T) (h1 : ∀ j, j < T 10 0 → T' 1 j = T 1 j) (hf : ∀ j, j < T 10 0 → f' j = f j) (hz : z' = z) {k : Nat} (hk : k < T 10 0) : ph T' f' z' k = ph T f z k := phF_r hw h1 hf hz k k hk
theorem addT_wf (hw : wf T) (h24 : T 10 0 < 24) (hp : p < T 10 0) : wf (addT T p kd nu lo hi pr rq) := by
  refine ⟨by rw [addT_N]; omega, by rw [addT_N]; omega, fun k h0 hk => ?_⟩
  rw [addT_N] at hk
  by_cases h : k = T 10 0
  · subst h; rw [addT_1]; exact hp
  · rw [addT_o (by decide) h]; exact hw.2.2 k h0 (by omega)
theorem addT_dep (hw : wf T) (h24 : T 10 0 < 24) (hp : p < T 10 0) : (∀ k, k < T 10 0 → dep (addT T p kd nu lo hi pr rq) k = dep T k) ∧ dep (addT T p kd nu lo hi pr rq) (T 10 0) = dep T p + 1 := by
  have a : ∀ k, k < T 10 0 → dep (addT T p kd nu lo hi pr rq) k = dep T k := fun k hk => ph_r hw (fun j hj => addT_o (by decide) (by omega)) (fun _ _ => rfl) rfl hk
  refine ⟨a, ?_⟩
  unfold dep
  rw [ph_s (addT_wf hw h24 hp) (by have := hw.1; omega) (by rw [addT_N]; omega), addT_1]
  exact congrArg (· + 1) (a p hp)
theorem addT_mu (hw : wf T) (h24 : T 10 0 < 24) (hp : p < T 10 0) : (∀ k, k < T 10 0 → mu (addT T p kd nu lo hi pr rq) k = mu T k) ∧ mu (addT T p kd nu lo hi pr rq) (T 10 0) = mu T p * (if kd = 2 then nu else 1) := by
  have a : ∀ k, k < T 10 0 → mu (addT T p kd nu lo hi pr rq) k = mu T k := fun k hk => ph_r hw (fun j hj => addT_o (by decide) (by omega)) (fun j hj => by rw [addT_o (by decide) (by omega), addT_o (by decide) (by omega)]) addT_b hk
  refine ⟨a, ?_⟩
  have b := a p hp
  unfold mu at b ⊢
  rw [ph_s (addT_wf hw h24 hp) (by have := hw.1; omega) (by rw [addT_N]; omega), addT_1, addT_0, addT_2, b]
theorem addT_dv (hw : wf T) (h24 : T 10 0 < 24) (hp : p < T 10 0) : (∀ k, k < T 10 0 → dv (addT T p kd nu lo hi pr rq) k = dv T k) ∧ dv (addT T p kd nu lo hi pr rq) (T 10 0) = dv T p * (if kd = 1 then nu else 1) := by
  have a : ∀ k, k < T 10 0 → dv (addT T p kd nu lo hi pr rq) k = dv T k := fun k hk => ph_r hw (fun j hj => addT_o (by decide) (by omega)) (fun j hj => by rw [addT_o (by decide) (by omega), addT_o (by decide) (by omega)]) rfl hk
  refine ⟨a, ?_⟩
  have b := a p hp
  unfold dv at b ⊢
  rw [ph_s (addT_wf hw h24 hp) (by have := hw.1; omega) (by rw [addT_N]; omega), addT_1, addT_0, addT_2, b]
/-- what a new node must keep to -/
def okA (T : Tr) (p kd nu lo hi pr rq : Nat) : Prop := p < T 10 0 ∧ T 0 p ≠ 5 ∧ dep T p < 6 ∧ T 10 0 < 24 ∧ 1 ≤ kd ∧ kd ≤ 5 ∧ nu ≤ 99 ∧ ((kd = 1 ∨ kd = 2) → 1 ≤ nu ∧ nu ≤ 9) ∧ (kd = 3 → nu ≤ 4) ∧ (kd = 5 → nu ≤ 3 ∧ 1 ≤ pr ∧ cnt (fun k => decide (T 0 k = 5)) (T 10 0) < 10) ∧ lo ≤ hi ∧ hi ≤ 4000000 ∧ pr ≤ 9 ∧ rq ≤ 1 ∧ (kd ≠ 5 → rq = 0)
theorem okT_add (h : okT T) (ha : okA T p kd nu lo hi pr rq) : okT (addT T p kd nu lo hi pr rq) := by
  obtain ⟨w, b, s, l, nn, r, c⟩ := h
  obtain ⟨a1, a2, a3, a4, a5, a6, a7, a8, a9, a10, a11, a12, a13, a14, a15⟩ := ha
  have hN1 := w.1
  have hd := addT_dep (kd := kd) (nu := nu) (lo := lo) (hi := hi) (pr := pr) (rq := rq) w a4 a1
  refine ⟨addT_wf w a4 a1, by rw [addT_b]; exact b, ⟨by rw [addT_o (by decide) (by omega)]; exact s.1, by rw [addT_o (by decide) (by omega)]; exact s.2⟩, fun g hg => by rw [addT_l]; exact l g hg, fun k h0 hk => ?_, fun k hk => ?_, ?_⟩
  · rw [addT_N] at hk
    unfold okN
    by_cases hkn : k = T 10 0
    · subst hkn
      rw [addT_0, addT_1, addT_2, hd.2, addT_o (by decide) (by omega)]
      refine ⟨a5, a6, a1, a2, by omega, a7, a8, a9, fun h5 => ⟨(a10 h5).1, ?_⟩⟩
      have : addT T p kd nu lo hi pr rq 7 (T 10 0) = pr := by simp [addT]
      rw [this]; exact (a10 h5).2.1
    · have hp := w.2.2 k h0 (by omega)
      rw [hd.1 k (by omega), addT_o (by decide) hkn, addT_o (w := 1) (by decide) hkn, addT_o (w := 2) (by decide) hkn, addT_o (w := 7) (by decide) hkn, addT_o (k := T 1 k) (by decide) (by omega)]
      exact nn k h0 (by omega)
  · rw [addT_N] at hk
    by_cases hkn : k = T 10 0
    · subst hkn
      simp only [addT, and_self, if_true, Nat.reduceLT, true_and]
      refine ⟨by split <;> omega, by omega, a11, a12, a13, a14, by omega, fun h5 => ⟨a15 h5, trivial⟩⟩
    · simp only [addT_o (Nat.lt_of_lt_of_le (by decide : 0 < 1) (by decide : 1 ≤ 10)) hkn]
      rw [addT_o (w := 3) (by decide) hkn, addT_o (w := 4) (by decide) hkn, addT_o (w := 5) (by decide) hkn, addT_o (w := 6) (by decide) hkn, addT_o (w := 7) (by decide) hkn, addT_o (w := 8) (by decide) hkn, addT_o (w := 9) (by decide) hkn]
      exact r k (by omega)
  · rw [addT_N]
    show cnt _ (T 10 0) + (if decide (addT T p kd nu lo hi pr rq 0 (T 10 0) = 5) = true then 1 else 0) ≤ 10
    rw [cnt_congr (q := fun k => decide (T 0 k = 5)) (T 10 0) (fun k hk => by rw [addT_o (by decide) (by omega)]), addT_0]
    by_cases h5 : kd = 5
    · have := (a10 h5).2.2
      split <;> omega
    · simp [h5]; exact c
theorem nm_mul (h : okT T) {k : Nat} (hk : k < T 10 0) : nm T k * Nat.gcd (mu T k) (dv T k) = mu T k ∧ dn T k * Nat.gcd (mu T k) (dv T k) = dv T k := ⟨Nat.div_mul_cancel (Nat.gcd_dvd_left _ _), Nat.div_mul_cancel (Nat.gcd_dvd_right _ _)⟩
theorem fst_iff (h : okT T) {k : Nat} (hk : k < T 10 0) (c : Nat) : (4000000 * dn T k < nm T k * c ↔ 4000000 * dv T k < mu T k * c) := by
  obtain ⟨e1, e2⟩ := nm_mul h hk
  have g := (gc_b h hk).1
  have f1 : 4000000 * dv T k = 4000000 * dn T k * Nat.gcd (mu T k) (dv T k) := by rw [Nat.mul_assoc, e2]
  have f2 : mu T k * c = nm T k * c * Nat.gcd (mu T k) (dv T k) := by rw [Nat.mul_right_comm, e1]
  rw [f1, f2]
  exact (Nat.mul_lt_mul_right g).symm
theorem fst_new (h : okT T) (hr : okR T) (ha : okA T p kd nu lo hi pr rq) : fst (addT T p kd nu lo hi pr rq) (T 10 0) = (decide (kd = 2) && decide (4000000 * dn T p < nm T p * nu)) := by
  have hA := okT_add h ha
  have hN : T 10 0 < addT T p kd nu lo hi pr rq 10 0 := by rw [addT_N]; omega
  have q := fst_iff hA hN 1
  rw [Nat.mul_one, Nat.mul_one, (addT_mu h.wf ha.2.2.2.1 ha.1).2, (addT_dv h.wf ha.2.2.2.1 ha.1).2] at q
  unfold fst
  have r := hr p ha.1
  have r2 := (fst_iff h ha.1 1)
  rw [Nat.mul_one, Nat.mul_one] at r2
  by_cases h2 : kd = 2
  · rw [if_pos h2, if_neg (by omega), Nat.mul_one] at q
    rw [← (fst_iff h ha.1 nu)] at q
    simp only [h2, decide_true, Bool.true_and]
    rw [h2] at q
    exact decide_eq_decide.mpr q
  · rw [if_neg h2, Nat.mul_one] at q
    simp only [h2, decide_false, Bool.false_and]
    rw [decide_eq_false_iff_not, q]
    have hm : ¬ 4000000 * dv T p < mu T p := fun z => by have := r2.mpr z; omega
    have hc : 1 ≤ (if kd = 1 then nu else 1) := by
      split
      · have := (ha.2.2.2.2.2.2.2.1 (by omega)).1; omega
      · omega
    have := Nat.mul_le_mul_left (4000000 * dv T p) hc
    rw [Nat.mul_one, Nat.mul_assoc] at this
    omega
theorem okP_add (h : okP T) (ha : okA T p kd nu lo hi pr rq) (hf : fst (addT T p kd nu lo hi pr rq) (T 10 0) = false) : okP (addT T p kd nu lo hi pr rq) := by
  refine ⟨okT_add h.1 ha, fun k hk => ?_⟩
  rw [addT_N] at hk
  by_cases hkn : k = T 10 0
  · subst hkn
    unfold fst at hf
    simpa using hf
  · have := h.2 k (by omega)
    unfold nm dn at this ⊢
    rw [(addT_mu h.1.wf ha.2.2.2.1 ha.1).1 k (by omega), (addT_dv h.1.wf ha.2.2.2.1 ha.1).1 k (by omega)]
    exact this
theorem und_all (hw : wf T) : ∀ k, k < T 10 0 → 0 < k → und T 0 k = true := by
  refine ph_ind hw (fun h => by omega) (fun k h0 hk ih _ => ?_)
  rw [und_s hw h0 hk]
  by_cases h1 : T 1 k = 0
  · simp [h1]
  · simp [ih (by omega)]
theorem lvs_all (h : okT T) : lvs T 0 = cnt (fun k => decide (T 0 k = 5)) (T 10 0) := by
  refine cnt_congr _ (fun k hk => ?_)
  unfold lvB
  rcases Nat.eq_zero_or_pos k with rfl | h0
  · simp [h.2.2.1.1]
  · rw [und_all h.wf k hk h0]; simp
end ADDT
def whyP (T : Tr) (x : Int32) : Nat := if isN T x && !decide (T 0 (xN x) = 5) then (if 6 ≤ dep T (xN x) then 2 else if T 10 0 = 24 then 3 else 0) else 1
def whyN (T : Tr) (x : Int32) (kd : Nat) (v : Int32) : Nat := if whyP T x = 0 then (if isNum kd v then (if fst (addT T (xN x) kd (xN v) 0 0 0 0) (T 10 0) then 5 else 0) else 4) else whyP T x
def bnd (lo hi pr : Int32) : Bool := inR lo 0 4000000 && inR hi 0 4000000 && !decide (hi < lo) && inR pr 1 9
def whyL (T : Tr) (x lo hi pr : Int32) : Nat := if whyP T x = 0 then (if lvs T 0 = 10 then 3 else if bnd lo hi pr then 0 else 4) else whyP T x
theorem whyP_t {T : Tr} (hw : wf T) {x : Int32} (h : whyP T x = 0) : ∃ p, x = nI p ∧ p < T 10 0 ∧ T 0 p ≠ 5 ∧ dep T p < 6 ∧ T 10 0 < 24 := by
  unfold whyP at h
  have h24 := hw.2.1
  split at h
  · rename_i hx
    simp only [Bool.and_eq_true, Bool.not_eq_true', decide_eq_false_iff_not] at hx
    obtain ⟨p, hp, rfl⟩ := isN_t hw hx.1
    rw [xN_n (by omega)] at h hx
    split at h
    · omega
    · split at h
      · omega
      · exact ⟨p, rfl, hp, hx.2, by omega, by omega⟩
  · omega
theorem whyP_c (T : Tr) (x : Int32) : whyP T x ≤ 3 := by unfold whyP; split <;> (try split) <;> (try split) <;> omega
theorem okA_n {T : Tr} (h : okT T) {x v : Int32} {kd : Nat} (hk : 1 ≤ kd ∧ kd ≤ 4) (h1 : whyP T x = 0) (h2 : isNum kd v = true) : ∃ p u, x = nI p ∧ v = nI u ∧ u ≤ 99 ∧ p < T 10 0 ∧ okA T p kd u 0 0 0 0 := by
  obtain ⟨p, rfl, a, b, c, e⟩ := whyP_t h.wf h1
  obtain ⟨u, rfl, g1, g2, g3⟩ := isNum_t h2
  exact ⟨p, u, rfl, rfl, g1, a, a, b, c, e, hk.1, by omega, g1, fun q => g3 (by omega) (by omega), g2, fun q => by omega, Nat.le_refl _, by omega, by omega, by omega, fun _ => rfl⟩
theorem bnd_t {lo hi pr : Int32} (h : bnd lo hi pr = true) : ∃ l u p, lo = nI l ∧ hi = nI u ∧ pr = nI p ∧ l ≤ u ∧ u ≤ 4000000 ∧ 1 ≤ p ∧ p ≤ 9 := by
  unfold bnd at h
  simp only [Bool.and_eq_true, Bool.not_eq_true', decide_eq_false_iff_not] at h
  obtain ⟨⟨⟨h1, h2⟩, h3⟩, h4⟩ := h
  obtain ⟨l, _, g1, rfl⟩ := inR_t (by decide) h1
  obtain ⟨u, _, g2, rfl⟩ := inR_t (by decide) h2
  obtain ⟨p, g3, g4, rfl⟩ := inR_t (by decide) h4
  rw [q_lt (by omega) (by omega)] at h3
  exact ⟨l, u, p, rfl, rfl, rfl, by omega, g2, g3, g4⟩
