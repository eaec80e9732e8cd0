/-! sets as bits -/
theorem nI_or (a b : Nat) : nI a ||| nI b = nI (a ||| b) := by
  apply Int32.toBitVec_inj.mp
  simp only [nI, Int32.toBitVec_or, Int32.toBitVec_ofNat', BitVec.ofNat_or]
theorem nI_and (a b : Nat) : nI a &&& nI b = nI (a &&& b) := by
  apply Int32.toBitVec_inj.mp
  simp only [nI, Int32.toBitVec_and, Int32.toBitVec_ofNat', BitVec.ofNat_and]
theorem q_sm : ∀ k, k < 32 → ((nI k &&& 31).toBitVec.smod 32).toNat = k := by decide +kernel
theorem q_shl1 : ∀ k, k < 31 → nI 1 <<< (nI k &&& 31) = nI (2 ^ k) := by decide +kernel
theorem q_shr {n k : Nat} (hn : n < 2147483648) (hk : k < 32) : nI n >>> (nI k &&& 31) = nI (n / 2 ^ k) := pk_shrN hn _ k (q_sm k hk)
theorem q_and1 {n : Nat} (hn : n < 4294967296) : nI n &&& nI 1 = nI (n % 2) := pk_andN hn 1 (by decide)
def bts (p : Nat → Bool) : Nat → Nat
  | 0 => 0
  | n + 1 => bts p n + (if p n then 2 ^ n else 0)
theorem bts_lt (p : Nat → Bool) : ∀ n, bts p n < 2 ^ n
  | 0 => by simp [bts]
  | n + 1 => by
    have := bts_lt p n
    unfold bts
    rw [Nat.pow_succ]
    split <;> omega
theorem bts_congr {p q : Nat → Bool} : ∀ n, (∀ k, k < n → p k = q k) → bts p n = bts q n
  | 0, _ => rfl
  | n + 1, h => by unfold bts; rw [bts_congr n (fun k hk => h k (by omega)), h n (by omega)]
/-- whether a set has a place -/
def bit (s k : Nat) : Bool := decide (s / 2 ^ k % 2 = 1)
theorem bit_tb (s k : Nat) : bit s k = s.testBit k := by
  unfold bit
  rw [Nat.testBit_eq_decide_div_mod_eq]
theorem pow_or {n b : Nat} (h : b < 2 ^ n) : 2 ^ n + b = 2 ^ n ||| b := by
  have := Nat.two_pow_add_eq_or_of_lt h 1
  rwa [Nat.mul_one] at this
theorem bts_tb (p : Nat → Bool) : ∀ n k, (bts p n).testBit k = (decide (k < n) && p k)
  | 0, k => by simp [bts]
  | n + 1, k => by
    unfold bts
    have hl := bts_lt p n
    by_cases hp : p n = true
    · rw [if_pos hp, Nat.add_comm, pow_or hl, Nat.testBit_or, bts_tb p n k, Nat.testBit_two_pow]
      by_cases h : k = n
      · subst h; simp [hp]
      · have : (n = k) = False := eq_false (fun q => h q.symm)
        simp only [this, decide_false, Bool.false_or]
        congr 1
        exact decide_eq_decide.mpr (by omega)
    · rw [if_neg hp, Nat.add_zero, bts_tb p n k]
      by_cases h : k = n
      · subst h; simp [hp]
      · congr 1
        exact decide_eq_decide.mpr (by omega)
theorem bts_or {p : Nat → Bool} {n : Nat} : bts p n ||| (if p n then 2 ^ n else 0) = bts p (n + 1) := by
  have hl := bts_lt p n
  conv => rhs; unfold bts
  split
  · rw [Nat.or_comm, Nat.add_comm, pow_or hl]
  · simp
theorem bit_bts {p : Nat → Bool} {n k : Nat} (hk : k < n) : bit (bts p n) k = p k := by
  rw [bit_tb, bts_tb]; simp [hk]
