/-! the abstract tree: T w k is the number w of node k (as the row of the reference has them: 0 kind, 1 parent, 2 number, 3 delay, 4 load, 5 low, 6 high, 7 priority, 8 requests, 9 pad); T 10 0 how many nodes, T 10 1 the rate of the source, T 11 g the limit of group g -/
abbrev Tr : Type := Nat → Nat → Nat
def wf (T : Tr) : Prop := 1 ≤ T 10 0 ∧ T 10 0 ≤ 24 ∧ ∀ k, 0 < k → k < T 10 0 → T 1 k < k
/-- along the path from a node up to the source -/
def phF {α : Type} (T : Tr) (f : Nat → α → α) (z : α) : Nat → Nat → α
  | 0, _ => z
  | n + 1, k => if k = 0 then z else f k (phF T f z n (T 1 k))
def ph {α : Type} (T : Tr) (f : Nat → α → α) (z : α) (k : Nat) : α := phF T f z k k
theorem phF_up {α : Type} {T : Tr} {f : Nat → α → α} {z : α} (hw : wf T) : ∀ k n, k < T 10 0 → k ≤ n → phF T f z n k = phF T f z k k := by
  intro k
  induction k using Nat.strongRecOn with
  | ind k ih =>
    intro n hN hn
    cases k with
    | zero => cases n <;> simp [phF]
    | succ j =>
      cases n with
      | zero => omega
      | succ n =>
        have hp := hw.2.2 (j + 1) (by omega) hN
        simp only [phF, Nat.succ_ne_zero, if_false]
        rw [ih (T 1 (j + 1)) hp n (by omega) (by omega), ih (T 1 (j + 1)) hp j (by omega) (by omega)]
theorem ph_0 {α : Type} {T : Tr} {f : Nat → α → α} {z : α} : ph T f z 0 = z := rfl
theorem ph_s {α : Type} {T : Tr} {f : Nat → α → α} {z : α} (hw : wf T) {k : Nat} (hk : 0 < k) (hN : k < T 10 0) : ph T f z k = f k (ph T f z (T 1 k)) := by
  obtain ⟨j, rfl⟩ : ∃ j, k = j + 1 := ⟨k - 1, by omega⟩
  have hp := hw.2.2 (j + 1) hk hN
  unfold ph
  rw [phF, if_neg (by omega), phF_up hw (T 1 (j + 1)) j (by omega) (by omega)]
/-- induction along paths -/
theorem ph_ind {T : Tr} (hw : wf T) {P : Nat → Prop} (h0 : P 0) (hs : ∀ k, 0 < k → k < T 10 0 → P (T 1 k) → P k) : ∀ k, k < T 10 0 → P k := by
  intro k
  induction k using Nat.strongRecOn with
  | ind k ih =>
    intro hN
    cases k with
    | zero => exact h0
    | succ j => exact hs (j + 1) (by omega) hN (ih _ (hw.2.2 (j + 1) (by omega) hN) (by have := hw.2.2 (j + 1) (by omega) hN; omega))
def cnt (p : Nat → Bool) : Nat → Nat
  | 0 => 0
  | n + 1 => cnt p n + (if p n then 1 else 0)
theorem cnt_le (p : Nat → Bool) : ∀ n, cnt p n ≤ n
  | 0 => Nat.le_refl 0
  | n + 1 => by have := cnt_le p n; unfold cnt; split <;> omega
theorem cnt_congr {p q : Nat → Bool} : ∀ n, (∀ k, k < n → p k = q k) → cnt p n = cnt q n
  | 0, _ => rfl
  | n + 1, h => by unfold cnt; rw [cnt_congr n (fun k hk => h k (by omega)), h n (by omega)]
def sumN (f : Nat → Nat) : Nat → Nat
  | 0 => 0
  | n + 1 => sumN f n + f n
theorem sumN_congr {p q : Nat → Nat} : ∀ n, (∀ k, k < n → p k = q k) → sumN p n = sumN q n
  | 0, _ => rfl
  | n + 1, h => by unfold sumN; rw [sumN_congr n (fun k hk => h k (by omega)), h n (by omega)]
theorem sumN_le {f : Nat → Nat} {b : Nat} : ∀ n, (∀ k, k < n → f k ≤ b) → sumN f n ≤ n * b
  | 0, _ => by simp [sumN]
  | n + 1, h => by
    have h1 := sumN_le (f := f) (b := b) n (fun k hk => h k (by omega))
    have h2 := h n (by omega)
    unfold sumN
    rw [Nat.succ_mul]
    omega
def dep (T : Tr) (k : Nat) : Nat := ph T (fun _ x => x + 1) 0 k
def mu (T : Tr) (k : Nat) : Nat := ph T (fun k x => x * (if T 0 k = 2 then T 2 k else 1)) (T 10 1) k
def dv (T : Tr) (k : Nat) : Nat := ph T (fun k x => x * (if T 0 k = 1 then T 2 k else 1)) 1 k
def nm (T : Tr) (k : Nat) : Nat := mu T k / Nat.gcd (mu T k) (dv T k)
def dn (T : Tr) (k : Nat) : Nat := dv T k / Nat.gcd (mu T k) (dv T k)
def del (T : Tr) (k : Nat) : Nat := ph T (fun k x => x + T 3 k) (T 3 0) k
def arr (T : Tr) (k : Nat) : Nat := del T k + (if T 0 k = 5 then T 9 k else 0)
/-- node k is below node o -/
def und (T : Tr) (o k : Nat) : Bool := ph T (fun k b => decide (T 1 k = o) || b) false k
def lvB (T : Tr) (o k : Nat) : Bool := decide (T 0 k = 5) && und T o k
def rqB (T : Tr) (o k : Nat) : Bool := decide (T 0 k = 5) && decide (T 8 k = 1) && und T o k
def lvs (T : Tr) (o : Nat) : Nat := cnt (lvB T o) (T 10 0)
def rqs (T : Tr) (o : Nat) : Nat := cnt (rqB T o) (T 10 0)
def opn (T : Tr) (k : Nat) : Bool := match T 2 k with
  | 0 => true
  | 1 => false
  | 2 => decide (0 < rqs T k)
  | 3 => decide (rqs T k = lvs T k) && decide (0 < lvs T k)
  | _ => decide (lvs T k - rqs T k < rqs T k)
def rn (T : Tr) (k : Nat) : Bool := ph T (fun k b => (!(decide (T 0 k = 3)) || opn T k) && b) true k
def cnn (T : Tr) (k : Nat) : Bool := decide (T 5 k * dn T k ≤ nm T k) && decide (nm T k ≤ T 6 k * dn T k)
/-- what a node may be -/
def okN (T : Tr) (k : Nat) : Prop := 1 ≤ T 0 k ∧ T 0 k ≤ 5 ∧ T 1 k < k ∧ T 0 (T 1 k) ≠ 5 ∧ dep T k ≤ 6 ∧ T 2 k ≤ 99 ∧ ((T 0 k = 1 ∨ T 0 k = 2) → 1 ≤ T 2 k ∧ T 2 k ≤ 9) ∧ (T 0 k = 3 → T 2 k ≤ 4) ∧ (T 0 k = 5 → T 2 k ≤ 3 ∧ 1 ≤ T 7 k)
def okT (T : Tr) : Prop := wf T ∧ (1 ≤ T 10 1 ∧ T 10 1 ≤ 1000000) ∧ (T 0 0 = 0 ∧ T 2 0 = 0) ∧ (∀ g, g < 4 → T 11 g ≤ 999) ∧ (∀ k, 0 < k → k < T 10 0 → okN T k) ∧
  (∀ k, k < T 10 0 → T 3 k ≤ 99 ∧ T 4 k ≤ 9 ∧ T 5 k ≤ T 6 k ∧ T 6 k ≤ 4000000 ∧ T 7 k ≤ 9 ∧ T 8 k ≤ 1 ∧ T 9 k ≤ 99 ∧ (T 0 k ≠ 5 → T 8 k = 0 ∧ T 9 k = 0)) ∧ cnt (fun k => decide (T 0 k = 5)) (T 10 0) ≤ 10
/-- no rate is too great -/
def okR (T : Tr) : Prop := ∀ k, k < T 10 0 → nm T k ≤ 4000000 * dn T k
theorem okT.wf {T : Tr} (h : okT T) : wf T := h.1
theorem okT.kind {T : Tr} (h : okT T) {k : Nat} (hk : k < T 10 0) : T 0 k ≤ 5 := by
  rcases Nat.eq_zero_or_pos k with rfl | h0
  · rw [h.2.2.1.1]; decide
  · exact (h.2.2.2.2.1 k h0 hk).2.1
theorem okT.num {T : Tr} (h : okT T) {k : Nat} (hk : k < T 10 0) : T 2 k ≤ 99 := by
  rcases Nat.eq_zero_or_pos k with rfl | h0
  · rw [h.2.2.1.2]; decide
  · exact (h.2.2.2.2.1 k h0 hk).2.2.2.2.2.1
theorem okT.dep {T : Tr} (h : okT T) {k : Nat} (hk : k < T 10 0) : dep T k ≤ 6 := by
  rcases Nat.eq_zero_or_pos k with rfl | h0
  · exact Nat.zero_le _
  · exact (h.2.2.2.2.1 k h0 hk).2.2.2.2.1
/-- every number of a tree is small -/
theorem okT.small {T : Tr} (h : okT T) {k w : Nat} (hk : k < T 10 0) (hw : w < 10) (hne : w ≠ 1 ∨ 0 < k) : T w k ≤ 4000000 := by
  have a := h.2.2.2.2.2.1 k hk
  have b := h.kind hk
  have c := h.num hk
  have e : w ≠ 1 ∨ T 1 k < 24 := by
    rcases hne with q | q
    · exact Or.inl q
    · right
      have := h.wf.2.2 k q hk
      have := h.wf.2.1
      omega
  match w, hw with
  | 0, _ => omega
  | 1, _ => omega
  | 2, _ => omega
  | 3, _ => omega
  | 4, _ => omega
  | 5, _ => omega
  | 6, _ => omega
  | 7, _ => omega
  | 8, _ => omega
  | 9, _ => omega
/-- the row of the reference holds the tree -/
def RelT (f : Nat → Int32) (T : Tr) : Prop := f 0 = nI (T 10 1) ∧ f 1 = nI (T 10 0) ∧ (∀ g, g < 4 → f (2 + g) = nI (T 11 g)) ∧ f 7 = -1 ∧ ∀ k w, k < T 10 0 → w < 10 → (w ≠ 1 ∨ 0 < k) → f (6 + 10 * k + w) = nI (T w k)
