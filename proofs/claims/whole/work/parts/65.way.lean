/-! way: a way is a number t: its node t / 400, its first step t / 20 % 20, its second one t % 20 (0: none) -/
def stp (f : Nat) : Bool := (decide (2 ≤ f) && decide (f ≤ 9)) || (decide (12 ≤ f) && decide (f ≤ 19))
def aB (x f : Nat) : Nat := if 10 < f then x * (f - 10) else x
def bB (x f : Nat) : Nat := if 10 < f then x else x * f
def gd1 (T : Tr) (n f : Nat) : Bool := stp f && decide (dep T n + 1 ≤ 6) && decide (aB (nm T n) f ≤ 4000000 * bB (dn T n) f)
def gd2 (T : Tr) (a b n f s : Nat) : Bool := stp s && decide (dep T n + 2 ≤ 6) && decide (aB (aB (nm T n) f) s ≤ 4000000 * bB (bB (dn T n) f) s) && decide (aB (aB (nm T n) f) s * b = a * bB (bB (dn T n) f) s)
def vlx (T : Tr) (a b n f s : Nat) : Bool := decide (n < T 10 0) && !decide (T 0 n = 5) && (if f = 0 then decide (s = 0) && decide (nm T n * b = a * dn T n) else gd1 T n f && (if s = 0 then decide (aB (nm T n) f * b = a * bB (dn T n) f) else gd2 T a b n f s))
def vl (T : Tr) (a b t : Nat) : Bool := vlx T a b (t / 400) (t / 20 % 20) (t % 20)
def mm (t : Nat) : Nat := if t / 20 % 20 = 0 then 0 else if t % 20 = 0 then 1 else 2
def ky (T : Tr) (t : Nat) : Nat := (7 * mm t + dep T (t / 400)) * 9600 + t
def cv (c : Nat) : Int32 := if c = 0 then -5 else nI c
theorem mm_le (t : Nat) : mm t ≤ 2 := by unfold mm; split <;> (try split) <;> omega
theorem mm_at {n f s : Nat} (hf : f < 20) (hs : s < 20) : mm (400 * n + 20 * f + s) = if f = 0 then 0 else if s = 0 then 1 else 2 := by
  unfold mm
  rw [show (400 * n + 20 * f + s) / 20 % 20 = f by omega, show (400 * n + 20 * f + s) % 20 = s by omega]
theorem vl_at {T : Tr} {a b n f s : Nat} (hf : f < 20) (hs : s < 20) : vl T a b (400 * n + 20 * f + s) = vlx T a b n f s := by
  unfold vl
  rw [show (400 * n + 20 * f + s) / 400 = n by omega, show (400 * n + 20 * f + s) / 20 % 20 = f by omega, show (400 * n + 20 * f + s) % 20 = s by omega]
def bw (T : Tr) (a b : Nat) : Nat → Option Nat
  | 0 => none
  | t + 1 => if vl T a b t then (match bw T a b t with
    | none => some t
    | some u => if ky T t < ky T u then some t else some u) else bw T a b t
theorem bw_f {T : Tr} {a b t : Nat} (h : vl T a b t = false) : bw T a b (t + 1) = bw T a b t := by
  show (if vl T a b t then _ else bw T a b t) = _
  rw [h]; rfl
theorem bw_t {T : Tr} {a b t : Nat} (h : vl T a b t = true) : bw T a b (t + 1) = (match bw T a b t with
    | none => some t
    | some u => if ky T t < ky T u then some t else some u) := by
  show (if vl T a b t then _ else bw T a b t) = _
  rw [h]; rfl
theorem bw_skip {T : Tr} {a b t : Nat} : ∀ k, (∀ i, i < k → vl T a b (t + i) = false) → bw T a b (t + k) = bw T a b t
  | 0, _ => rfl
  | k + 1, h => by
    rw [← Nat.add_assoc, bw_f (h k (by omega)), bw_skip k (fun i hi => h i (by omega))]
def WWb (T : Tr) (a b m : Nat) (o : Option Nat) : Prop := match o with
  | none => ∀ t, t < m → vl T a b t = false
  | some u => u < m ∧ vl T a b u = true ∧ ∀ t, t < m → vl T a b t = true → ky T u ≤ ky T t
theorem bw_WW {T : Tr} {a b : Nat} : ∀ m, WWb T a b m (bw T a b m)
  | 0 => fun t h => by omega
  | m + 1 => by
    have ih := bw_WW (T := T) (a := a) (b := b) m
    cases hv : vl T a b m with
    | false =>
      rw [bw_f hv]
      cases ho : bw T a b m with
      | none =>
        rw [ho] at ih
        intro t ht
        by_cases e : t = m
        · subst e; exact hv
        · exact ih t (by omega)
      | some u =>
        rw [ho] at ih
        refine ⟨by have := ih.1; omega, ih.2.1, fun t ht h => ?_⟩
        by_cases e : t = m
        · subst e; rw [hv] at h; cases h
        · exact ih.2.2 t (by omega) h
    | true =>
      rw [bw_t hv]
      cases ho : bw T a b m with
      | none =>
        rw [ho] at ih
        refine ⟨by omega, hv, fun t ht h => ?_⟩
        by_cases e : t = m
        · subst e; exact Nat.le_refl _
        · rw [ih t (by omega)] at h; cases h
      | some u =>
        rw [ho] at ih
        have i1 := ih.1
        simp only
        split
        · rename_i hk
          refine ⟨by omega, hv, fun t ht h => ?_⟩
          by_cases e : t = m
          · subst e; exact Nat.le_refl _
          · have := ih.2.2 t (by omega) h; omega
        · rename_i hk
          refine ⟨by omega, ih.2.1, fun t ht h => ?_⟩
          by_cases e : t = m
          · subst e; omega
          · exact ih.2.2 t (by omega) h
theorem vl_lt {T : Tr} {a b t : Nat} (h : vl T a b t = true) : t / 400 < T 10 0 ∧ T 0 (t / 400) ≠ 5 := by
  unfold vl vlx at h
  simp only [Bool.and_eq_true, decide_eq_true_eq, Bool.not_eq_true', decide_eq_false_iff_not] at h
  exact h.1
theorem vl_dep {T : Tr} (hT : okT T) {a b t : Nat} (h : vl T a b t = true) : dep T (t / 400) + mm t ≤ 6 := by
  have h1 := hT.dep (vl_lt h).1
  unfold vl vlx at h
  unfold mm
  simp only [Bool.and_eq_true] at h
  by_cases f0 : t / 20 % 20 = 0
  · rw [if_pos f0]; omega
  · rw [if_neg f0]
    have h2 := h.2
    rw [if_neg f0] at h2
    simp only [Bool.and_eq_true] at h2
    by_cases s0 : t % 20 = 0
    · rw [if_pos s0]
      have := h2.1
      unfold gd1 at this
      simp only [Bool.and_eq_true, decide_eq_true_eq] at this
      omega
    · rw [if_neg s0]
      have h3 := h2.2
      rw [if_neg s0] at h3
      unfold gd2 at h3
      simp only [Bool.and_eq_true, decide_eq_true_eq] at h3
      omega
/-- the way that is asked for -/
def WW (T : Tr) (a b : Nat) (o : Option Nat) : Prop := match o with
  | none => ∀ t, vl T a b t = false
  | some u => vl T a b u = true ∧ ∀ t, vl T a b t = true → ky T u ≤ ky T t
theorem ky_inj {T : Tr} (hT : okT T) {a b t u : Nat} (ht : vl T a b t = true) (hu : vl T a b u = true) (h : ky T t = ky T u) : t = u := by
  have h1 := (vl_lt ht).1
  have h2 := (vl_lt hu).1
  have := hT.wf.2.1
  unfold ky at h
  omega
theorem WW_bw {T : Tr} (hT : okT T) {a b : Nat} {o : Option Nat} (h : WW T a b o) : o = bw T a b (400 * T 10 0) := by
  have hb := bw_WW (T := T) (a := a) (b := b) (400 * T 10 0)
  have hl : ∀ t, vl T a b t = true → t < 400 * T 10 0 := fun t ht => by have := (vl_lt ht).1; omega
  cases hw : bw T a b (400 * T 10 0) with
  | none =>
    rw [hw] at hb
    cases o with
    | none => rfl
    | some u => have := hb u (hl u h.1); rw [h.1] at this; cases this
  | some v =>
    rw [hw] at hb
    cases o with
    | none => have := h v; rw [hb.2.1] at this; cases this
    | some u =>
      have k1 := h.2 v hb.2.1
      have k2 := hb.2.2 u (hl u h.1) h.1
      rw [ky_inj hT h.1 hb.2.1 (by omega)]
/-- the wanted rate may be brought down -/
theorem mul_gc {g a b x y : Nat} (hg : 0 < g) : (x * (g * b) = g * a * y) ↔ (x * b = a * y) := by
  rw [show x * (g * b) = g * (x * b) from Nat.mul_left_comm x g b, Nat.mul_assoc]
  exact Nat.mul_right_inj (by omega)
theorem vl_gc {T : Tr} {g a b t : Nat} (hg : 0 < g) : vl T (g * a) (g * b) t = vl T a b t := by
  unfold vl vlx gd2
  simp only [mul_gc hg]
theorem bw_gc {T : Tr} {g a b : Nat} (hg : 0 < g) : ∀ m, bw T (g * a) (g * b) m = bw T a b m
  | 0 => rfl
  | m + 1 => by
    cases hv : vl T a b m with
    | false => rw [bw_f hv, bw_f (by rw [vl_gc hg]; exact hv), bw_gc hg m]
    | true => rw [bw_t hv, bw_t (by rw [vl_gc hg]; exact hv), bw_gc hg m]
/-- the last step -/
def sat (h t s : Nat) : Prop := if 10 < s then h * (s - 10) = t else h = t * s
theorem sat_iff {x y a b s : Nat} : (aB x s * b = a * bB y s) ↔ sat (x * b) (a * y) s := by
  unfold aB bB sat
  split
  · rw [Nat.mul_right_comm]
  · rw [Nat.mul_assoc]
theorem stp_c {s : Nat} : stp s = true ↔ (2 ≤ s ∧ s ≤ 9) ∨ (12 ≤ s ∧ s ≤ 19) := by unfold stp; simp
theorem sat_one {h t s s' : Nat} (hh : 0 < h) (ht : 0 < t) (h1 : stp s = true) (h2 : stp s' = true) (k1 : sat h t s) (k2 : sat h t s') : s = s' := by
  rw [stp_c] at h1 h2
  unfold sat at k1 k2
  have mix : ∀ u v, 2 ≤ u → 2 ≤ v → h = t * u → h * v = t → False := fun u v hu hv e1 e2 => by
    rw [e1] at e2
    have : t * 2 * 2 ≤ t * u * v := Nat.mul_le_mul (Nat.mul_le_mul (Nat.le_refl _) hu) hv
    omega
  rcases h1 with h1 | h1
  · rw [if_neg (by omega)] at k1
    rcases h2 with h2 | h2
    · rw [if_neg (by omega)] at k2
      exact Nat.eq_of_mul_eq_mul_left ht (k1 ▸ k2)
    · rw [if_pos (by omega)] at k2
      exact (mix s (s' - 10) (by omega) (by omega) k1 k2).elim
  · rw [if_pos (by omega)] at k1
    rcases h2 with h2 | h2
    · rw [if_neg (by omega)] at k2
      exact (mix s' (s - 10) (by omega) (by omega) k2 k1).elim
    · rw [if_pos (by omega)] at k2
      have := Nat.eq_of_mul_eq_mul_left hh (k1.trans k2.symm)
      omega
def lsG (h t : Nat) : Nat → Nat → Nat
  | _, 0 => 0
  | j, m + 1 => if h = t * j then j else if h * j = t then 10 + j else lsG h t (j + 1) m
theorem ls_spec {h t : Nat} : ∀ m j, j + m = 10 → 2 ≤ j → (lsG h t j m = 0 → ∀ k, j ≤ k → k < 10 → h ≠ t * k ∧ h * k ≠ t) ∧ (lsG h t j m ≠ 0 → stp (lsG h t j m) = true ∧ sat h t (lsG h t j m))
  | 0, j, hj, _ => ⟨fun _ k h1 h2 => by omega, fun q => absurd rfl q⟩
  | m + 1, j, hj, h2 => by
    obtain ⟨i1, i2⟩ := ls_spec (h := h) (t := t) m (j + 1) (by omega) (by omega)
    unfold lsG
    by_cases c1 : h = t * j
    · rw [if_pos c1]
      refine ⟨fun q => by omega, fun _ => ⟨stp_c.mpr (by omega), ?_⟩⟩
      unfold sat
      rw [if_neg (by omega)]
      exact c1
    · rw [if_neg c1]
      by_cases c2 : h * j = t
      · rw [if_pos c2]
        refine ⟨fun q => by omega, fun _ => ⟨stp_c.mpr (by omega), ?_⟩⟩
        unfold sat
        rw [if_pos (by omega), show 10 + j - 10 = j by omega]
        exact c2
      · rw [if_neg c2]
        refine ⟨fun q k g1 g2 => ?_, i2⟩
        by_cases e : k = j
        · subst e; exact ⟨c1, c2⟩
        · exact i1 q k (by omega) g2
theorem ls_none {h t : Nat} (h0 : lsG h t 2 8 = 0) {s : Nat} (hs : stp s = true) : ¬ sat h t s := by
  have := (ls_spec (h := h) (t := t) 8 2 rfl (by omega)).1 h0
  rw [stp_c] at hs
  unfold sat
  rcases hs with q | q
  · rw [if_neg (by omega)]; exact (this s (by omega) (by omega)).1
  · rw [if_pos (by omega)]; exact (this (s - 10) (by omega) (by omega)).2
theorem ls_some {h t : Nat} (h0 : lsG h t 2 8 ≠ 0) : stp (lsG h t 2 8) = true ∧ sat h t (lsG h t 2 8) := (ls_spec (h := h) (t := t) 8 2 rfl (by omega)).2 h0
theorem stp_b {s : Nat} (h : stp s = true) : 2 ≤ s ∧ s < 20 := by rw [stp_c] at h; omega
theorem cv_n {c : Nat} (h : c ≠ 0) : cv c = nI c := by unfold cv; rw [if_neg h]
theorem cv_lt : ∀ c, c < 20 → ∀ e, e < 20 → (decide (cv c < cv e) = decide (c < e) ∧ decide (cv c = cv e) = decide (c = e)) := by decide +kernel
theorem cv_5 : ∀ c, c < 20 → (decide (cv c = -5) = decide (c = 0)) := by decide +kernel
/-- what is reached is never too fast -/
theorem slow {x y a b : Nat} (hb : 1 ≤ b) (ha : a ≤ 4000000) (h : x * b = a * y) : x ≤ 4000000 * y := by
  have h1 : x * 1 ≤ x * b := Nat.mul_le_mul_left _ hb
  have h2 : a * y ≤ 4000000 * y := Nat.mul_le_mul_right _ ha
  omega
def wayW (t : Nat) : Nat → Int32
  | 0 => nI (mm t)
  | 1 => nI (t / 400)
  | 2 => cv (t / 20 % 20)
  | _ => cv (t % 20)
def o_way (T : Tr) (x y w : Int32) : Int32 := if inR w 0 3 then (if inR x 1 4000000 && inR y 1 9999 then (match bw T (xN x) (xN y) (400 * T 10 0) with
  | none => -5
  | some t => wayW t (xN w)) else -2) else -1
