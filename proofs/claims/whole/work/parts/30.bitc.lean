/-! Integer.bitCount -/
theorem bc_split {a b : Nat} (h1 : a % 256 = b % 256) (h2 : a / 256 = b / 256) : a = b := by omega
theorem bc_and {x y : Nat} (u m : Nat) (hx : x < 256) (hu : u < 256) : (x + 256 * y) &&& (u + 256 * m) = (x &&& u) + 256 * (y &&& m) := by
  have hl : x &&& u < 256 := Nat.lt_of_le_of_lt Nat.and_le_left hx
  apply bc_split
  · rw [show (256 : Nat) = 2 ^ 8 from rfl, Nat.and_mod_two_pow]
    rw [show (x + 2 ^ 8 * y) % 2 ^ 8 = x by omega, show (u + 2 ^ 8 * m) % 2 ^ 8 = u by omega]
    omega
  · rw [show (256 : Nat) = 2 ^ 8 from rfl, Nat.and_div_two_pow]
    rw [show (x + 2 ^ 8 * y) / 2 ^ 8 = y by omega, show (u + 2 ^ 8 * m) / 2 ^ 8 = m by omega]
    omega
theorem bc_k1 : ∀ x, x < 128 → ∀ b, b < 2 → (x + 128 * b) &&& 85 = x &&& 85 := by decide +kernel
theorem bc_k2 : ∀ x, x < 64 → ∀ b, b < 4 → (x + 64 * b) &&& 51 = x &&& 51 := by decide +kernel
theorem bc_f1 {x y : Nat} (m : Nat) (hx : x < 256) : ((x + 256 * y) / 2) &&& (85 + 256 * m) = ((x / 2) &&& 85) + 256 * ((y / 2) &&& m) := by
  have e : (x + 256 * y) / 2 = (x / 2 + 128 * (y % 2)) + 256 * (y / 2) := by omega
  rw [e, bc_and _ _ (by omega) (by decide), bc_k1 _ (by omega) _ (by omega)]
theorem bc_f2 {x y : Nat} (m : Nat) (hx : x < 256) : ((x + 256 * y) / 4) &&& (51 + 256 * m) = ((x / 4) &&& 51) + 256 * ((y / 4) &&& m) := by
  have e : (x + 256 * y) / 4 = (x / 4 + 64 * (y % 4)) + 256 * (y / 4) := by omega
  rw [e, bc_and _ _ (by omega) (by decide), bc_k2 _ (by omega) _ (by omega)]
def bcA (x : Nat) : Nat := x - ((x / 2) &&& 85)
def bcB (x : Nat) : Nat := (x &&& 51) + ((x / 4) &&& 51)
def bcC (x : Nat) : Nat := (x + x / 16) % 16
def bcP (x : Nat) : Nat := bcC (bcB (bcA x))
theorem bc_b1 : ∀ x, x < 256 → ((x / 2) &&& 85) ≤ x ∧ bcA x < 256 ∧ (bcB (bcA x) ≤ 68 ∧ bcB (bcA x) % 16 ≤ 4) ∧ bcP x ≤ 8 := by decide +kernel
theorem bc_b2 : ∀ x, x < 256 → bcP x = x / 2 ^ 0 % 2 + x / 2 ^ 1 % 2 + x / 2 ^ 2 % 2 + x / 2 ^ 3 % 2 + x / 2 ^ 4 % 2 + x / 2 ^ 5 % 2 + x / 2 ^ 6 % 2 + x / 2 ^ 7 % 2 := by decide +kernel
theorem bc_m1 : ∀ x, x < 256 → (x / 2) &&& 21845 = (x / 2) &&& 85 := by decide +kernel
theorem bc_m2 : ∀ x, x < 256 → x &&& 13107 = x &&& 51 ∧ (x / 4) &&& 13107 = (x / 4) &&& 51 := by decide +kernel
def bc1 (s : Nat) : Nat := s - ((s / 2) &&& 1431655765)
def bc2 (s : Nat) : Nat := (s &&& 858993459) + ((s / 4) &&& 858993459)
def bc3 (s : Nat) : Nat := (s + s / 16) &&& 252645135
theorem bc_s1 {x y z : Nat} (hx : x < 256) (hy : y < 256) (hz : z < 256) : bc1 (x + 256 * (y + 256 * z)) = bcA x + 256 * (bcA y + 256 * bcA z) := by
  unfold bc1 bcA
  rw [show 1431655765 = 85 + 256 * (85 + 256 * 21845) from rfl, bc_f1 _ hx, bc_f1 _ hy, bc_m1 _ hz]
  have h1 := (bc_b1 x hx).1
  have h2 := (bc_b1 y hy).1
  have h3 := (bc_b1 z hz).1
  omega
theorem bc_s2 {x y z : Nat} (hx : x < 256) (hy : y < 256) (hz : z < 256) : bc2 (x + 256 * (y + 256 * z)) = bcB x + 256 * (bcB y + 256 * bcB z) := by
  unfold bc2 bcB
  rw [show 858993459 = 51 + 256 * (51 + 256 * 13107) from rfl, bc_f2 _ hx, bc_f2 _ hy, bc_and _ _ hx (by decide), bc_and _ _ hy (by decide), (bc_m2 _ hz).1, (bc_m2 _ hz).2]
  omega
theorem bc_15 (x : Nat) : x &&& 15 = x % 16 := Nat.and_two_pow_sub_one_eq_mod x 4
theorem bc_3855 {z : Nat} (hz : z < 256) : z &&& 3855 = z % 16 := (by decide +kernel : ∀ z, z < 256 → z &&& 3855 = z % 16) z hz
theorem bc_s3 {x y z : Nat} (hx : x ≤ 68 ∧ x % 16 ≤ 4) (hy : y ≤ 68 ∧ y % 16 ≤ 4) (hz : z ≤ 68 ∧ z % 16 ≤ 4) : bc3 (x + 256 * (y + 256 * z)) = bcC x + 256 * (bcC y + 256 * bcC z) := by
  unfold bc3 bcC
  have e : x + 256 * (y + 256 * z) + (x + 256 * (y + 256 * z)) / 16 = (x + x / 16 + 16 * (y % 16)) + 256 * ((y + y / 16 + 16 * (z % 16)) + 256 * (z + z / 16)) := by omega
  rw [e, show 252645135 = 15 + 256 * (15 + 256 * 3855) from rfl, bc_and _ _ (by omega) (by decide), bc_and _ _ (by omega) (by decide), bc_15, bc_15, bc_3855 (by omega)]
  omega
theorem bc_lo (s : Nat) : ∀ k, k < 8 → s % 256 / 2 ^ k % 2 = s / 2 ^ k % 2 := by
  intro k hk
  match k, hk with
  | 0, _ => show s % 256 / 1 % 2 = s / 1 % 2; omega
  | 1, _ => show s % 256 / 2 % 2 = s / 2 % 2; omega
  | 2, _ => show s % 256 / 4 % 2 = s / 4 % 2; omega
  | 3, _ => show s % 256 / 8 % 2 = s / 8 % 2; omega
  | 4, _ => show s % 256 / 16 % 2 = s / 16 % 2; omega
  | 5, _ => show s % 256 / 32 % 2 = s / 32 % 2; omega
  | 6, _ => show s % 256 / 64 % 2 = s / 64 % 2; omega
  | 7, _ => show s % 256 / 128 % 2 = s / 128 % 2; omega
theorem bc_mi (s k : Nat) (hk : k < 8) : s / 256 % 256 / 2 ^ k % 2 = s / 2 ^ (k + 8) % 2 := by
  rw [bc_lo (s / 256) k hk, Nat.div_div_eq_div_mul, Nat.pow_add, Nat.mul_comm]
theorem bc_hi (s k : Nat) : s / 65536 / 2 ^ k % 2 = s / 2 ^ (k + 16) % 2 := by
  rw [Nat.div_div_eq_div_mul, Nat.pow_add, Nat.mul_comm]
def bcS (s : Nat) : Nat := sumN (fun k => s / 2 ^ k % 2) 24
theorem bc_val {s : Nat} (hs : s < 16777216) : bc3 (bc2 (bc1 s)) = bcP (s % 256) + 256 * (bcP (s / 256 % 256) + 256 * bcP (s / 65536)) ∧ bcP (s % 256) + bcP (s / 256 % 256) + bcP (s / 65536) = bcS s := by
  have e : s = s % 256 + 256 * (s / 256 % 256 + 256 * (s / 65536)) := by omega
  have h1 := bc_b1 (s % 256) (by omega)
  have h2 := bc_b1 (s / 256 % 256) (by omega)
  have h3 := bc_b1 (s / 65536) (by omega)
  refine ⟨?_, ?_⟩
  · conv => lhs; rw [e]
    rw [bc_s1 (by omega) (by omega) (by omega), bc_s2 h1.2.1 h2.2.1 h3.2.1, bc_s3 h1.2.2.1 h2.2.2.1 h3.2.2.1]
    rfl
  · rw [bc_b2 _ (by omega), bc_b2 _ (by omega), bc_b2 _ (by omega)]
    unfold bcS
    simp only [sumN]
    rw [bc_lo s 0 (by decide), bc_lo s 1 (by decide), bc_lo s 2 (by decide), bc_lo s 3 (by decide), bc_lo s 4 (by decide), bc_lo s 5 (by decide), bc_lo s 6 (by decide), bc_lo s 7 (by decide), bc_mi s 0 (by decide), bc_mi s 1 (by decide), bc_mi s 2 (by decide), bc_mi s 3 (by decide), bc_mi s 4 (by decide), bc_mi s 5 (by decide), bc_mi s 6 (by decide), bc_mi s 7 (by decide), bc_hi s 0, bc_hi s 1, bc_hi s 2, bc_hi s 3, bc_hi s 4, bc_hi s 5, bc_hi s 6, bc_hi s 7]
    simp only [Nat.zero_add, Nat.reduceAdd]
    simp only [Nat.add_assoc]
theorem bc_cnt {p : Nat → Bool} {n : Nat} (hn : n ≤ 24) : bcS (bts p n) = cnt p n := by
  unfold bcS
  have h1 : ∀ m, m ≤ n → sumN (fun k => bts p n / 2 ^ k % 2) m = cnt p m := by
    intro m
    induction m with
    | zero => intro _; rfl
    | succ m ih =>
      intro hm
      show sumN _ m + _ = cnt p m + _
      rw [ih (by omega)]
      have hb := bit_bts (p := p) (n := n) (k := m) (by omega)
      unfold bit at hb
      cases hp : p m with
      | true => rw [hp] at hb; simp at hb; simp [hb]
      | false => rw [hp] at hb; simp at hb; simp [hb]
  have h2 : ∀ m, n ≤ m → sumN (fun k => bts p n / 2 ^ k % 2) m = cnt p n := by
    intro m hm
    induction m with
    | zero => have : n = 0 := by omega
              subst this; rfl
    | succ m ih =>
      by_cases h : n = m + 1
      · rw [← h]; exact h1 n (Nat.le_refl _)
      · show sumN _ m + _ = _
        rw [ih (by omega)]
        have : bts p n / 2 ^ m = 0 := Nat.div_eq_of_lt (Nat.lt_of_lt_of_le (bts_lt p n) (Nat.pow_le_pow_right (by decide) (by omega)))
        simp [this]
  exact h2 24 hn
theorem bc_end {a b c : Nat} (ha : a ≤ 8) (hb : b ≤ 8) (hc : c ≤ 8) : ((a + 256 * (b + 256 * c) + (a + 256 * (b + 256 * c)) / 256) + (a + 256 * (b + 256 * c) + (a + 256 * (b + 256 * c)) / 256) / 65536) % 64 = a + b + c := by
  have e1 : (a + 256 * (b + 256 * c)) / 256 = b + 256 * c := by omega
  rw [e1]
  have e2 : (a + 256 * (b + 256 * c) + (b + 256 * c)) / 65536 = c := by omega
  rw [e2]
  omega
theorem q_ush : ∀ k, k < 32 → (((nI k).toUInt32 &&& Int32.toUInt32 31).toBitVec % 32).toNat = k := by decide +kernel
theorem q_ushr {n k : Nat} (hn : n < 4294967296) (hk : k < 32) : ((nI n).toUInt32 >>> ((nI k).toUInt32 &&& Int32.toUInt32 31)).toInt32 = nI (n / 2 ^ k) := pk_ushrN hn _ k (q_ush k hk)
section BCC
variable {X : pm_X} {d : Nat} {G : pm_H} {Q : Option Value → pm_H → Prop}
theorem s_bitCount {s : Nat} (hs : s < 16777216) : pm_call X d mJ6_bitCount_0f7a4 [.int (nI s)] G Q ↔ Q (some (.int (nI (bcS s)))) G := by
  obtain ⟨e1, e2⟩ := bc_val hs
  have b1 := (bc_b1 (s % 256) (by omega)).2.2.2
  have b2 := (bc_b1 (s / 256 % 256) (by omega)).2.2.2
  have b3 := (bc_b1 (s / 65536) (by omega)).2.2.2
  have l1 : (s / 2) &&& 1431655765 ≤ s := Nat.le_trans Nat.and_le_left (Nat.div_le_self _ _)
  have d1 : bc1 s < 2147483648 := by unfold bc1; omega
  have a1 : bc1 s &&& 858993459 ≤ 858993459 := Nat.and_le_right
  have a2 : (bc1 s / 4) &&& 858993459 ≤ 858993459 := Nat.and_le_right
  have d2 : bc2 (bc1 s) < 2147483648 := by unfold bc2; omega
  simp (disch := omega) only [i_J6_bitCount_0f7a4_0, i_J6_bitCount_0f7a4_1, i_J6_bitCount_0f7a4_2, i_J6_bitCount_0f7a4_3, i_J6_bitCount_0f7a4_4, i_J6_bitCount_0f7a4_7, i_J6_bitCount_0f7a4_8, i_J6_bitCount_0f7a4_9, i_J6_bitCount_0f7a4_10, i_J6_bitCount_0f7a4_11, i_J6_bitCount_0f7a4_14, i_J6_bitCount_0f7a4_15, i_J6_bitCount_0f7a4_16, i_J6_bitCount_0f7a4_17, i_J6_bitCount_0f7a4_18, i_J6_bitCount_0f7a4_21, i_J6_bitCount_0f7a4_22, i_J6_bitCount_0f7a4_23, i_J6_bitCount_0f7a4_24, i_J6_bitCount_0f7a4_25, i_J6_bitCount_0f7a4_26, i_J6_bitCount_0f7a4_27, i_J6_bitCount_0f7a4_28, i_J6_bitCount_0f7a4_29, i_J6_bitCount_0f7a4_32, i_J6_bitCount_0f7a4_33, i_J6_bitCount_0f7a4_34, i_J6_bitCount_0f7a4_35, i_J6_bitCount_0f7a4_36, i_J6_bitCount_0f7a4_38, i_J6_bitCount_0f7a4_39, i_J6_bitCount_0f7a4_40, i_J6_bitCount_0f7a4_41, i_J6_bitCount_0f7a4_42, i_J6_bitCount_0f7a4_43, i_J6_bitCount_0f7a4_45, i_J6_bitCount_0f7a4_46, i_J6_bitCount_0f7a4_47, i_J6_bitCount_0f7a4_48, i_J6_bitCount_0f7a4_49, i_J6_bitCount_0f7a4_51, i_J6_bitCount_0f7a4_52, i_J6_bitCount_0f7a4_0_e, Option.toList_some, Option.toList_none, List.cons_append, List.nil_append, List.append_nil, ↓reduceIte, q_ushr, nI_and, Nat.pow_one, pk_sub]
  rw [show s - ((s / 2) &&& 1431655765) = bc1 s from rfl]
  simp (disch := omega) only [q_ushr, nI_and, nI_add, show (2 : Nat) ^ 2 = 4 from rfl]
  rw [show (bc1 s &&& 858993459) + (bc1 s / 4 &&& 858993459) = bc2 (bc1 s) from rfl]
  simp (disch := omega) only [q_ushr, nI_and, nI_add, show (2 : Nat) ^ 4 = 16 from rfl]
  rw [show (bc2 (bc1 s) + bc2 (bc1 s) / 16) &&& 252645135 = bc3 (bc2 (bc1 s)) from rfl, e1]
  simp (disch := omega) only [q_ushr, nI_and, nI_add, show (2 : Nat) ^ 8 = 256 from rfl, show (2 : Nat) ^ 16 = 65536 from rfl]
  rw [show (63 : Nat) = 2 ^ 6 - 1 from rfl, Nat.and_two_pow_sub_one_eq_mod, ← e2]
  rw [show (2 : Nat) ^ 6 = 64 from rfl, bc_end b1 b2 b3]
end BCC
