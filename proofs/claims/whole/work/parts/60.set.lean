/-! sets of places as numbers: growing order of the subsets of a set -/
theorem bit_t {s k n : Nat} (h : s < 2 ^ n) (hb : bit s k = true) : k < n := by
  rw [bit_tb] at hb
  rcases Nat.lt_or_ge k n with q | q
  · exact q
  · rw [Nat.testBit_lt_two_pow (Nat.lt_of_lt_of_le h (Nat.pow_le_pow_right (by decide) q))] at hb
    cases hb
theorem bit_lt {s n : Nat} (h : ∀ k, bit s k = true → k < n) : s < 2 ^ n := by
  refine Nat.lt_pow_two_of_testBit s (fun i hi => ?_)
  rw [← bit_tb]
  cases hb : bit s i with
  | false => rfl
  | true => have := h i hb; omega
theorem bit_ext {a b : Nat} (h : ∀ k, bit a k = bit b k) : a = b := Nat.eq_of_testBit_eq (fun i => by rw [← bit_tb, ← bit_tb]; exact h i)
theorem bit_le {a b : Nat} (h : ∀ k, bit a k = true → bit b k = true) : a ≤ b := by
  have : a &&& b = a := bit_ext (fun k => by
    rw [bit_tb, Nat.testBit_and, ← bit_tb, ← bit_tb]
    cases ha : bit a k with
    | false => rfl
    | true => rw [h k ha]; rfl)
  rw [← this]
  exact Nat.and_le_right
theorem bts_b {p : Nat → Bool} {n k : Nat} : bit (bts p n) k = (decide (k < n) && p k) := by rw [bit_tb, bts_tb]
theorem bts_bit {s n : Nat} (h : s < 2 ^ n) : bts (bit s) n = s := bit_ext (fun k => by
  rw [bts_b]
  cases hb : bit s k with
  | false => simp
  | true => simp [bit_t h hb])
def sub (s : Nat) (p : Nat → Bool) (n : Nat) : Prop := ∀ k, bit s k = true → k < n ∧ p k = true
theorem sub.lt {s n : Nat} {p : Nat → Bool} (h : sub s p n) : s < 2 ^ n := bit_lt (fun k hk => (h k hk).1)
theorem sub_0 {p : Nat → Bool} {n : Nat} : sub 0 p n := fun k hk => by rw [bit_0] at hk; cases hk
theorem sub_all {p : Nat → Bool} {n : Nat} : sub (bts p n) p n := fun k hk => by
  rw [bts_b] at hk
  simpa using hk
theorem all1 (x : Nat) : ∀ k, (x % 2 ^ k = 2 ^ k - 1) ↔ ∀ i, i < k → bit x i = true
  | 0 => by simp [Nat.mod_one]
  | k + 1 => by
    have ih := all1 x k
    have hp := Nat.two_pow_pos k
    have hm : x % 2 ^ k < 2 ^ k := Nat.mod_lt _ hp
    have hb : bit x k = decide (x / 2 ^ k % 2 = 1) := rfl
    rw [Nat.mod_pow_succ, Nat.pow_succ]
    have h2 : x / 2 ^ k % 2 = 0 ∨ x / 2 ^ k % 2 = 1 := by omega
    constructor
    · intro h
      have h1 : x / 2 ^ k % 2 = 1 := by
        rcases h2 with q | q
        · rw [q] at h; omega
        · exact q
      have h0 : x % 2 ^ k = 2 ^ k - 1 := by rw [h1] at h; omega
      intro i hi
      rcases Nat.lt_or_ge i k with q | q
      · exact ih.mp h0 i q
      · rw [show i = k by omega, hb, h1]; rfl
    · intro h
      have h0 := ih.mpr (fun i hi => h i (by omega))
      have h1 := h k (by omega)
      rw [hb] at h1
      rw [of_decide_eq_true h1, h0]
      omega
theorem bit_succ (x k : Nat) : bit (x + 1) k = (bit x k ^^ decide (x % 2 ^ k = 2 ^ k - 1)) := by
  have hp := Nat.two_pow_pos k
  have hm : x % 2 ^ k < 2 ^ k := Nat.mod_lt _ hp
  have hd := Nat.div_add_mod x (2 ^ k)
  unfold bit
  by_cases h : x % 2 ^ k = 2 ^ k - 1
  · have e : (x + 1) / 2 ^ k = x / 2 ^ k + 1 := by
      have : x + 1 = 2 ^ k * (x / 2 ^ k + 1) := by rw [Nat.mul_add]; omega
      rw [this, Nat.mul_div_cancel_left _ hp]
    rw [e]
    rcases (by omega : x / 2 ^ k % 2 = 0 ∨ x / 2 ^ k % 2 = 1) with q | q
    · simp [h, q, show (x / 2 ^ k + 1) % 2 = 1 by omega]
    · simp [h, q, show (x / 2 ^ k + 1) % 2 = 0 by omega]
  · have e : (x + 1) / 2 ^ k = x / 2 ^ k := by
      have : x + 1 = 2 ^ k * (x / 2 ^ k) + (x % 2 ^ k + 1) := by omega
      rw [this, Nat.mul_add_div hp, Nat.div_eq_of_lt (a := x % 2 ^ k + 1) (by omega)]
      simp
    rw [e]
    simp [h]
theorem bts_fill {p q : Nat → Bool} : ∀ n, (∀ k, k < n → q k = true → p k = true) → bts q n + (2 ^ n - 1 - bts p n) = bts (fun k => !p k || q k) n
  | 0, _ => rfl
  | n + 1, h => by
    have ih := bts_fill n (fun k hk => h k (by omega))
    have h1 := bts_lt p n
    have hn := h n (by omega)
    unfold bts
    rw [Nat.pow_succ]
    cases hp : p n with
    | false =>
      have hq : q n = false := by
        cases hq : q n with
        | false => rfl
        | true => rw [hn hq] at hp; cases hp
      rw [hq]
      simp
      omega
    | true =>
      cases hq : q n with
      | false => simp; omega
      | true => simp; omega
theorem bts_ext {p : Nat → Bool} {m n : Nat} (h : m ≤ n) : bts (fun k => decide (k < m) && p k) n = bts p m := bit_ext (fun k => by
  rw [bts_b, bts_b]
  by_cases q : k < m
  · simp [q, show k < n by omega]
  · simp [q])
/-- the subset of p with number t, in growing order -/
def dpo (p : Nat → Bool) (n t : Nat) : Nat := bts (fun k => p k && bit t (cnt p k)) n
theorem dpo_sub {p : Nat → Bool} {n t : Nat} : sub (dpo p n t) p n := fun k hk => by
  unfold dpo at hk
  rw [bts_b] at hk
  simp only [Bool.and_eq_true, decide_eq_true_eq] at hk
  exact ⟨hk.1, hk.2.1⟩
theorem cnt_step {p : Nat → Bool} {k : Nat} (h : p k = true) : cnt p (k + 1) = cnt p k + 1 := by
  show cnt p k + (if p k then 1 else 0) = cnt p k + 1
  rw [h]; rfl
theorem cnt_stay {p : Nat → Bool} {k : Nat} (h : p k = false) : cnt p (k + 1) = cnt p k := by
  show cnt p k + (if p k then 1 else 0) = cnt p k
  rw [h]; rfl
theorem lt_2 {a : Nat} (h : a < 2) : a = 0 ∨ a = 1 := by omega
theorem cnt_mono {p : Nat → Bool} {a b : Nat} (h : a ≤ b) : cnt p a ≤ cnt p b := by
  induction h with
  | refl => exact Nat.le_refl _
  | step _ ih => exact Nat.le_trans ih (Nat.le_add_right _ _)
theorem dpo_all {p : Nat → Bool} {t : Nat} : ∀ k, (∀ i, i < k → p i = true → bit t (cnt p i) = true) ↔ ∀ j, j < cnt p k → bit t j = true
  | 0 => by simp [cnt]
  | k + 1 => by
    have ih := dpo_all (p := p) (t := t) k
    cases hp : p k with
    | false =>
      have e : cnt p (k + 1) = cnt p k := cnt_stay hp
      rw [e, ← ih]
      constructor
      · intro h i hi; exact h i (by omega)
      · intro h i hi hpi
        rcases Nat.lt_or_ge i k with q | q
        · exact h i q hpi
        · rw [show i = k by omega, hp] at hpi; cases hpi
    | true =>
      rw [cnt_step hp]
      constructor
      · intro h j hj
        rcases Nat.lt_or_ge j (cnt p k) with q | q
        · exact ih.mp (fun i hi => h i (by omega)) j q
        · rw [show j = cnt p k by omega]; exact h k (by omega) hp
      · intro h i hi hpi
        rcases Nat.lt_or_ge i k with q | q
        · exact ih.mpr (fun j hj => h j (by omega)) i q hpi
        · rw [show i = k by omega]; exact h _ (by omega)
theorem dpo_next {p : Nat → Bool} {n t : Nat} (hn : n ≤ 24) : (nI (dpo p n t) - nI (bts p n)) &&& nI (bts p n) = nI (dpo p n (t + 1)) := by
  have hl : bts p n < 4294967296 := Nat.lt_of_lt_of_le (bts_lt p n) (Nat.le_trans (Nat.pow_le_pow_right (by decide) hn) (by decide))
  have e1 : nI (dpo p n t) - nI (bts p n) = nI ((4294967296 - bts p n) + dpo p n t) := by
    apply Int32.toBitVec_inj.mp
    simp only [nI, Int32.toBitVec_sub, Int32.toBitVec_ofNat', BitVec.ofNat_sub_ofNat]
    rw [Nat.mod_eq_of_lt (by simpa using hl)]
  rw [e1, nI_and]
  congr 1
  have f := bts_fill (p := fun k => decide (k < n) && p k) (q := fun k => decide (k < n) && (p k && bit t (cnt p k))) 32 (fun k _ h => by
    simp only [Bool.and_eq_true, decide_eq_true_eq] at h ⊢
    exact ⟨h.1, h.2.1⟩)
  rw [bts_ext (by omega), bts_ext (by omega)] at f
  have e2 : (4294967296 - bts p n) + dpo p n t = bts (fun k => !(decide (k < n) && p k) || (decide (k < n) && (p k && bit t (cnt p k)))) 32 + 1 := by
    rw [← f]
    unfold dpo
    omega
  rw [e2]
  refine bit_ext (fun k => ?_)
  rw [bit_tb, Nat.testBit_and, ← bit_tb, ← bit_tb, bts_b]
  unfold dpo
  rw [bts_b]
  by_cases hk : k < n
  · cases hp : p k with
    | false => simp
    | true =>
      rw [bit_succ, bts_b, bit_succ]
      have c1 : decide (bts (fun k => !(decide (k < n) && p k) || (decide (k < n) && (p k && bit t (cnt p k)))) 32 % 2 ^ k = 2 ^ k - 1) = decide (t % 2 ^ cnt p k = 2 ^ cnt p k - 1) := by
        refine decide_eq_decide.mpr ?_
        rw [all1, all1, ← dpo_all]
        constructor
        · intro h i hi hpi
          have := h i hi
          rw [bts_b] at this
          simpa [show i < 32 by omega, show i < n by omega, hpi] using this
        · intro h i hi
          rw [bts_b]
          cases hpi : p i with
          | false => simp; omega
          | true => simp [h i hi hpi, show i < n by omega]; omega
      rw [c1]
      simp [hk, hp, show k < 32 by omega]
  · simp [hk]
theorem bit_mod {t c j : Nat} (h : j < c) : bit (t % 2 ^ c) j = bit t j := by
  rw [bit_tb, bit_tb, Nat.testBit_mod_two_pow]
  simp [h]
theorem dpo_mod {p : Nat → Bool} {n t : Nat} : dpo p n (t % 2 ^ cnt p n) = dpo p n t := bts_congr n (fun k hk => by
  cases hp : p k with
  | false => rfl
  | true =>
    have := cnt_mono (p := p) (show k + 1 ≤ n by omega)
    rw [cnt_step hp] at this
    rw [bit_mod (by omega)])
theorem dpo_s {p : Nat → Bool} {n t : Nat} : dpo p (n + 1) t = dpo p n t + (if p n && bit t (cnt p n) then 2 ^ n else 0) := rfl
theorem dpo_mono {p : Nat → Bool} : ∀ n t t', t' < 2 ^ cnt p n → t < t' → dpo p n t < dpo p n t'
  | 0, t, t', h1, h2 => by simp [cnt] at h1; omega
  | n + 1, t, t', h1, h2 => by
    rw [dpo_s, dpo_s]
    cases hp : p n with
    | false =>
      have e : cnt p (n + 1) = cnt p n := cnt_stay hp
      rw [e] at h1
      have := dpo_mono n t t' h1 h2
      simpa using this
    | true =>
      rw [cnt_step hp, Nat.pow_succ] at h1
      have hp2 := Nat.two_pow_pos (cnt p n)
      have q1 := Nat.div_add_mod t (2 ^ cnt p n)
      have q2 := Nat.div_add_mod t' (2 ^ cnt p n)
      have m1 : t % 2 ^ cnt p n < 2 ^ cnt p n := Nat.mod_lt _ hp2
      have m2 : t' % 2 ^ cnt p n < 2 ^ cnt p n := Nat.mod_lt _ hp2
      have d1 : t / 2 ^ cnt p n < 2 := Nat.div_lt_of_lt_mul (by omega)
      have d2 : t' / 2 ^ cnt p n < 2 := Nat.div_lt_of_lt_mul (by omega)
      have l1 : dpo p n t < 2 ^ n := bts_lt _ _
      have l2 : dpo p n t' < 2 ^ n := bts_lt _ _
      have b1 : bit t (cnt p n) = decide (t / 2 ^ cnt p n = 1) := by unfold bit; rw [Nat.mod_eq_of_lt d1]
      have b2 : bit t' (cnt p n) = decide (t' / 2 ^ cnt p n = 1) := by unfold bit; rw [Nat.mod_eq_of_lt d2]
      rw [b1, b2]
      rcases lt_2 d1 with z1 | z1
      · rcases lt_2 d2 with z2 | z2
        · have := dpo_mono n (t % 2 ^ cnt p n) (t' % 2 ^ cnt p n) m2 (by rw [z1] at q1; rw [z2] at q2; omega)
          rw [dpo_mod, dpo_mod] at this
          simp [z1, z2]
          exact this
        · simp [z1, z2]; omega
      · rcases lt_2 d2 with z2 | z2
        · rw [z1] at q1; rw [z2] at q2; omega
        · have := dpo_mono n (t % 2 ^ cnt p n) (t' % 2 ^ cnt p n) m2 (by rw [z1] at q1; rw [z2] at q2; omega)
          rw [dpo_mod, dpo_mod] at this
          simp [z1, z2]
          exact this
theorem dpo_onto {p : Nat → Bool} : ∀ n s, sub s p n → ∃ t, t < 2 ^ cnt p n ∧ dpo p n t = s
  | 0, s, h => ⟨0, by simp [cnt], by have := h.lt; simp at this; subst this; rfl⟩
  | n + 1, s, h => by
    have hs := h.lt
    rw [Nat.pow_succ] at hs
    have hp2 := Nat.two_pow_pos n
    have q1 := Nat.div_add_mod s (2 ^ n)
    have d1 : s / 2 ^ n < 2 := Nat.div_lt_of_lt_mul (by omega)
    have b1 : bit s n = decide (s / 2 ^ n = 1) := by unfold bit; rw [Nat.mod_eq_of_lt d1]
    obtain ⟨t, ht, he⟩ := dpo_onto (p := p) n (s % 2 ^ n) (fun k hk => by
      have hkn := bit_t (Nat.mod_lt s hp2) hk
      rw [bit_mod hkn] at hk
      exact ⟨hkn, (h k hk).2⟩)
    rcases lt_2 d1 with z | z
    · refine ⟨t, Nat.lt_of_lt_of_le ht (Nat.pow_le_pow_right (by decide) (cnt_mono (by omega))), ?_⟩
      rw [dpo_s, he]
      have : bit t (cnt p n) = false := by
        cases hb : bit t (cnt p n) with
        | false => rfl
        | true => have := bit_t ht hb; omega
      rw [this]
      rw [z] at q1
      simp
      omega
    · rw [z] at b1
      have hpn := (h n (by rw [b1]; rfl)).2
      refine ⟨t + 2 ^ cnt p n, ?_, ?_⟩
      · rw [cnt_step hpn, Nat.pow_succ]; omega
      · rw [dpo_s, ← dpo_mod, Nat.add_mod_right, dpo_mod, he, hpn]
        have : bit (t + 2 ^ cnt p n) (cnt p n) = true := by
          unfold bit
          rw [Nat.add_div_right _ (Nat.two_pow_pos _), Nat.div_eq_of_lt ht]
          rfl
        rw [this]
        rw [z] at q1
        simp
        omega
