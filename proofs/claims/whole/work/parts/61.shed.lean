/-! shed: the tree with a set of leaves that do not request -/
def shT (T : Tr) (s : Nat) : Tr := fun w k => if w = 8 ∧ bit s k = true then 0 else T w k
theorem shT_o {T : Tr} {s w : Nat} (h : w ≠ 8) : shT T s w = T w := by funext k; simp [shT, h]
theorem shT_0 {T : Tr} : shT T 0 = T := by funext w k; simp [shT, bit_0]
theorem shT_8 {T : Tr} {s k : Nat} : shT T s 8 k = if bit s k then 0 else T 8 k := by simp [shT]
theorem okP_sh {T : Tr} (h : okP T) (s : Nat) : okP (shT T s) := by
  refine okP_c h (shT_o (by decide)) (shT_o (by decide)) (shT_o (by decide)) (shT_o (by decide)) (shT_o (by decide)) (fun g hg => by rw [shT_o (by decide)]; exact h.1.2.2.2.1 g hg) (fun k hk => ?_)
  have q := h.1.2.2.2.2.2.1 k hk
  rw [shT_o (by decide), shT_o (by decide), shT_o (by decide), shT_o (by decide), shT_o (w := 9) (by decide), shT_8]
  refine ⟨q.1, q.2.1, q.2.2.1, q.2.2.2.1, by split <;> omega, q.2.2.2.2.2.2.1, fun h5 => ⟨?_, (q.2.2.2.2.2.2.2 h5).2⟩⟩
  have := (q.2.2.2.2.2.2.2 h5).1
  split <;> omega
theorem sh_und {T : Tr} {s : Nat} : und (shT T s) = und T := by
  funext o j
  have e1 : shT T s 1 = T 1 := shT_o (by decide)
  exact ph_c e1 (by rw [e1]) rfl
theorem sh_lvs {T : Tr} {s : Nat} : lvs (shT T s) = lvs T := by
  funext o
  have e0 : shT T s 0 = T 0 := shT_o (by decide)
  have : lvB (shT T s) o = lvB T o := by funext j; unfold lvB; rw [e0, sh_und]
  unfold lvs
  rw [this]
  rfl
theorem sh_rqs {T : Tr} {s k : Nat} : rqs (shT T s) k = rqS T s k := by
  have e0 : shT T s 0 = T 0 := shT_o (by decide)
  have : rqB (shT T s) k = fun j => rqB T k j && !bit s j := by
    funext j
    unfold rqB
    rw [e0, sh_und, shT_8]
    cases bit s j <;> simp
  unfold rqs rqS
  rw [this]
  rfl
theorem sh_opn {T : Tr} {s k : Nat} : opn (shT T s) k = opS T s k := by
  have e2 : shT T s 2 = T 2 := shT_o (by decide)
  unfold opn opS
  rw [e2, sh_rqs, sh_lvs]
  rfl
theorem sh_rn {T : Tr} {s k : Nat} : rn (shT T s) k = ph T (fun k b => opcS T s k && b) true k := by
  have e0 : shT T s 0 = T 0 := shT_o (by decide)
  refine ph_c (shT_o (by decide)) ?_ rfl
  funext k b
  rw [e0, sh_opn]
  rfl
theorem sh_rn_s {T : Tr} (hw : wf T) {s k : Nat} (h0 : 0 < k) (hk : k < T 10 0) : rn (shT T s) k = (opcS T s k && rn (shT T s) (T 1 k)) := by
  rw [sh_rn, sh_rn]
  exact ph_s hw h0 hk
def drw (T : Tr) (k : Nat) : Nat := nm T k * T 4 k / dn T k
theorem sh_pw {T : Tr} {s k : Nat} : pw (shT T s) k = if rn (shT T s) k then drw T k else 0 := by
  have r := rate_c (T := T) (T' := shT T s) (shT_o (by decide)) (shT_o (by decide)) (shT_o (by decide)) (by rw [shT_o (by decide)]) k
  unfold pw drw
  rw [r.1, r.2, shT_o (w := 4) (by decide)]
/-- the power that is left -/
def PW (T : Tr) (s : Nat) : Nat := sumN (pw (shT T s)) (T 10 0)
def askB (T : Tr) (k : Nat) : Bool := decide (T 0 k = 5) && decide (T 8 k = 1)
def canB (T : Tr) (k : Nat) : Bool := ph T (fun k b => (decide (T 0 k = 3) && decide (1 < T 2 k)) || b) false k
def uB (T : Tr) (k : Nat) : Bool := askB T k && canB T k
theorem cnt_le2 {p q : Nat → Bool} : ∀ n, (∀ k, k < n → p k = true → q k = true) → cnt p n ≤ cnt q n
  | 0, _ => Nat.le_refl 0
  | n + 1, h => by
    have ih := cnt_le2 n (fun k hk => h k (by omega))
    have hn := h n (by omega)
    unfold cnt
    cases hp : p n with
    | false => simp; omega
    | true => rw [hn hp]; simp; omega
theorem sumN_le2 {f g : Nat → Nat} : ∀ n, (∀ k, k < n → f k ≤ g k) → sumN f n ≤ sumN g n
  | 0, _ => Nat.le_refl 0
  | n + 1, h => by
    have ih := sumN_le2 n (fun k hk => h k (by omega))
    have hn := h n (by omega)
    unfold sumN
    omega
theorem sumN_lt2 {f g : Nat → Nat} : ∀ n, (∀ k, k < n → f k ≤ g k) → ∀ j, j < n → f j < g j → sumN f n < sumN g n
  | 0, _, j, hj, _ => by omega
  | n + 1, h, j, hj, hl => by
    have hn := h n (by omega)
    unfold sumN
    by_cases e : j = n
    · subst e
      have ih := sumN_le2 (f := f) (g := g) j (fun k hk => h k (by omega))
      omega
    · have ih := sumN_lt2 (f := f) (g := g) n (fun k hk => h k (by omega)) j (by omega) hl
      omega
section SHD
variable {T : Tr} {s s' : Nat}
theorem rqS_anti (h : ∀ j, bit s j = true → bit s' j = true) (k : Nat) : rqS T s' k ≤ rqS T s k := cnt_le2 _ (fun j _ hj => by
  simp only [Bool.and_eq_true, Bool.not_eq_true'] at hj ⊢
  refine ⟨hj.1, ?_⟩
  cases hb : bit s j with
  | false => rfl
  | true => rw [h j hb] at hj; exact absurd hj.2 (by decide))
theorem opS_anti (h : ∀ j, bit s j = true → bit s' j = true) (k : Nat) (ho : opS T s' k = true) : opS T s k = true := by
  have h1 := rqS_anti (T := T) h k
  have h2 := rqS_le T s k
  unfold opS at ho ⊢
  match hm : T 2 k with
  | 0 => rfl
  | 1 => rw [hm] at ho; exact ho
  | 2 => rw [hm] at ho; simp at ho ⊢; omega
  | 3 => rw [hm] at ho; simp at ho ⊢; omega
  | n + 4 => rw [hm] at ho; simp at ho ⊢; omega
theorem rn_anti (hw : wf T) (h : ∀ j, bit s j = true → bit s' j = true) : ∀ k, k < T 10 0 → rn (shT T s') k = true → rn (shT T s) k = true := by
  refine ph_ind hw (fun _ => rfl) (fun k h0 hN ih hr => ?_)
  rw [sh_rn_s hw h0 hN] at hr ⊢
  simp only [Bool.and_eq_true] at hr ⊢
  refine ⟨?_, ih hr.2⟩
  have := hr.1
  unfold opcS at this ⊢
  simp only [Bool.or_eq_true] at this ⊢
  exact this.imp id (opS_anti h k)
theorem PW_anti (hw : wf T) (h : ∀ j, bit s j = true → bit s' j = true) : PW T s' ≤ PW T s := sumN_le2 _ (fun k hk => by
  rw [sh_pw, sh_pw]
  cases hr : rn (shT T s') k with
  | false => simp
  | true => rw [rn_anti hw h k hk hr]; exact Nat.le_refl _)
theorem canB_s (hw : wf T) {k : Nat} (h0 : 0 < k) (hk : k < T 10 0) : canB T k = ((decide (T 0 k = 3) && decide (1 < T 2 k)) || canB T (T 1 k)) := ph_s hw h0 hk
theorem und_can (hT : okT T) {g : Nat} (h3 : T 0 g = 3) (h2 : 1 < T 2 g) : ∀ j, j < T 10 0 → und T g j = true → canB T j = true := by
  have hw := hT.wf
  refine ph_ind hw (fun h => by rw [und_0] at h; cases h) (fun k h0 hN ih hu => ?_)
  have hp := hw.2.2 k h0 hN
  rw [und_s hw h0 hN] at hu
  rw [canB_s hw h0 hN]
  simp only [Bool.or_eq_true, decide_eq_true_eq] at hu
  have : canB T (T 1 k) = true := by
    rcases hu with hu | hu
    · rw [hu]
      have g0 : 0 < g := by
        rcases Nat.eq_zero_or_pos g with q | q
        · rw [q, hT.2.2.1.1] at h3; omega
        · exact q
      rw [canB_s hw g0 (by omega)]
      simp [h3, h2]
    · exact ih hu
  rw [this]
  simp
/-- the part of a set that can shut gates -/
def mt (T : Tr) (s : Nat) : Nat := bts (fun k => bit s k && uB T k) (T 10 0)
theorem mt_bit {k : Nat} : bit (mt T s) k = (decide (k < T 10 0) && (bit s k && uB T k)) := bts_b
theorem mt_sub : sub (mt T s) (uB T) (T 10 0) := fun k hk => by
  rw [mt_bit] at hk
  simp only [Bool.and_eq_true, decide_eq_true_eq] at hk
  exact ⟨hk.1, hk.2.2⟩
theorem mt_le {k : Nat} (hk : bit (mt T s) k = true) : bit s k = true := by
  rw [mt_bit] at hk
  simp only [Bool.and_eq_true, decide_eq_true_eq] at hk
  exact hk.2.1
theorem mt_op (hT : okT T) {k : Nat} (h3 : T 0 k = 3) : opS T (mt T s) k = opS T s k := by
  have hr : 1 < T 2 k → rqS T (mt T s) k = rqS T s k := fun h2 => cnt_congr _ (fun j hj => by
    cases hb : rqB T k j with
    | false => rfl
    | true =>
      rw [mt_bit]
      unfold rqB at hb
      simp only [Bool.and_eq_true, decide_eq_true_eq] at hb
      have := und_can hT h3 h2 j hj hb.2
      simp [hj, uB, askB, hb.1.1, hb.1.2, this])
  unfold opS
  match hm : T 2 k with
  | 0 => rfl
  | 1 => rfl
  | 2 => simp only [hr (by omega)]
  | 3 => simp only [hr (by omega)]
  | n + 4 => simp only [hr (by omega)]
theorem mt_rn (hT : okT T) : ∀ k, k < T 10 0 → rn (shT T (mt T s)) k = rn (shT T s) k := by
  refine ph_ind hT.wf rfl (fun k h0 hN ih => ?_)
  rw [sh_rn_s hT.wf h0 hN, sh_rn_s hT.wf h0 hN, ih]
  congr 1
  unfold opcS
  by_cases h3 : T 0 k = 3
  · rw [mt_op hT h3]
  · simp [h3]
theorem mt_PW (hT : okT T) : PW T (mt T s) = PW T s := sumN_congr _ (fun k hk => by rw [sh_pw, sh_pw, mt_rn hT k hk])
/-- the price of a set: its priorities, and how many -/
def cst (T : Tr) (s : Nat) : Nat := sumN (fun k => if bit s k then T 7 k * 100 + 1 else 0) (T 10 0)
def smS (T : Tr) (s : Nat) : Nat := sumN (fun k => if bit s k then T 7 k else 0) (T 10 0)
def mnS (T : Tr) (s : Nat) : Nat := cnt (bit s) (T 10 0)
theorem cst_eq : cst T s = 100 * smS T s + mnS T s := by
  unfold cst smS mnS
  generalize T 10 0 = n
  induction n with
  | zero => rfl
  | succ n ih =>
    unfold sumN cnt
    rw [ih]
    cases bit s n <;> simp <;> omega
theorem cst_le (h : ∀ j, bit s j = true → bit s' j = true) : cst T s ≤ cst T s' := sumN_le2 _ (fun k _ => by
  cases hb : bit s k with
  | false => simp
  | true => rw [h k hb]; exact Nat.le_refl _)
theorem cst_lt (h : ∀ j, bit s j = true → bit s' j = true) {k : Nat} (hk : k < T 10 0) (h1 : bit s k = false) (h2 : bit s' k = true) : cst T s < cst T s' := sumN_lt2 _ (fun k _ => by
  cases hb : bit s k with
  | false => simp
  | true => rw [h k hb]; exact Nat.le_refl _) k hk (by rw [h1, h2]; simp)
def leS (T : Tr) (a s : Nat) : Prop := cst T a < cst T s ∨ (cst T a = cst T s ∧ a ≤ s)
theorem leS.trans {a b c : Nat} (h1 : leS T a b) (h2 : leS T b c) : leS T a c := by
  unfold leS at *
  omega
theorem leS_sub (h : ∀ j, bit s j = true → bit s' j = true) : leS T s s' := by
  have h1 := cst_le (T := T) h
  have h2 := bit_le h
  unfold leS
  omega
/-- the best one of the subsets of p -/
def IsB (T : Tr) (b : Nat) (p : Nat → Bool) (s : Nat) : Prop := sub s p (T 10 0) ∧ PW T s ≤ b ∧ ∀ s', sub s' p (T 10 0) → PW T s' ≤ b → leS T s s'
theorem IsB_one {b : Nat} {p : Nat → Bool} (h : IsB T b p s) (h' : IsB T b p s') : s = s' := by
  have h1 := h.2.2 s' h'.1 h'.2.1
  have h2 := h'.2.2 s h.1 h.2.1
  unfold leS at h1 h2
  omega
theorem IsB_u {b : Nat} (hT : okT T) (h : IsB T b (uB T) s) : IsB T b (askB T) s := by
  refine ⟨fun k hk => ⟨(h.1 k hk).1, ?_⟩, h.2.1, fun s' h1 h2 => ?_⟩
  · have := (h.1 k hk).2
    unfold uB at this
    simp only [Bool.and_eq_true] at this
    exact this.1
  · exact (h.2.2 (mt T s') mt_sub (by rw [mt_PW hT]; exact h2)).trans (leS_sub (fun j hj => mt_le hj))
noncomputable def shO (T : Tr) (b : Nat) : Option Nat := @dite _ (∃ s, IsB T b (askB T) s) (Classical.propDecidable _) (fun h => some h.choose) (fun _ => none)
theorem shO_some {b : Nat} (h : IsB T b (askB T) s) : shO T b = some s := by
  unfold shO
  have he : ∃ s, IsB T b (askB T) s := ⟨s, h⟩
  rw [dif_pos he]
  exact congrArg some (IsB_one he.choose_spec h)
theorem shO_none {b : Nat} (h : ∀ s, sub s (askB T) (T 10 0) → ¬ PW T s ≤ b) : shO T b = none := by
  unfold shO
  exact dif_neg (fun ⟨s, hs⟩ => h s hs.1 hs.2.1)
theorem shO_noneU {b : Nat} (hT : okT T) (h : ∀ s, sub s (uB T) (T 10 0) → ¬ PW T s ≤ b) : shO T b = none :=
  shO_none (fun s _ h2 => h (mt T s) mt_sub (by rw [mt_PW hT]; exact h2))
/-- the class's search: over all subsets, in growing order -/
def bst (T : Tr) (b : Nat) : Nat → Nat
  | 0 => bts (askB T) (T 10 0)
  | t + 1 => if cst T (dpo (askB T) (T 10 0) t) < cst T (bst T b t) ∧ PW T (dpo (askB T) (T 10 0) t) ≤ b then dpo (askB T) (T 10 0) t else bst T b t
theorem sub_bts {p : Nat → Bool} {n : Nat} (h : sub s p n) {j : Nat} (hj : bit s j = true) : bit (bts p n) j = true := by
  rw [bts_b]
  have := h j hj
  simp [this.1, this.2]
theorem bst_sub (T : Tr) (b : Nat) : ∀ t, sub (bst T b t) (askB T) (T 10 0)
  | 0 => sub_all
  | t + 1 => by
    unfold bst
    split
    · exact dpo_sub
    · exact bst_sub T b t
theorem bst_inv {b : Nat} (ha : PW T (bts (askB T) (T 10 0)) ≤ b) : ∀ t, t ≤ 2 ^ cnt (askB T) (T 10 0) → PW T (bst T b t) ≤ b ∧ (bst T b t = bts (askB T) (T 10 0) ∨ ∃ t0, t0 < t ∧ bst T b t = dpo (askB T) (T 10 0) t0) ∧ ∀ t', t' < t → PW T (dpo (askB T) (T 10 0) t') ≤ b → leS T (bst T b t) (dpo (askB T) (T 10 0) t')
  | 0, _ => ⟨ha, Or.inl rfl, fun t' h => by omega⟩
  | t + 1, ht => by
    obtain ⟨i1, i2, i3⟩ := bst_inv ha t (by omega)
    unfold bst
    split
    · rename_i hc
      refine ⟨hc.2, Or.inr ⟨t, by omega, rfl⟩, fun t' h1 h2 => ?_⟩
      by_cases e : t' = t
      · subst e; exact Or.inr ⟨rfl, Nat.le_refl _⟩
      · have := i3 t' (by omega) h2
        unfold leS at this ⊢
        omega
    · rename_i hc
      refine ⟨i1, i2.imp id (fun ⟨t0, a, e⟩ => ⟨t0, by omega, e⟩), fun t' h1 h2 => ?_⟩
      by_cases e : t' = t
      · subst e
        have h3 : cst T (bst T b t') ≤ cst T (dpo (askB T) (T 10 0) t') := by
          rcases Nat.lt_or_ge (cst T (dpo (askB T) (T 10 0) t')) (cst T (bst T b t')) with q | q
          · exact absurd ⟨q, h2⟩ hc
          · exact q
        rcases i2 with e2 | ⟨t0, a, e2⟩
        · rw [e2] at h3 ⊢
          by_cases hall : ∀ j, bit (bts (askB T) (T 10 0)) j = true → bit (dpo (askB T) (T 10 0) t') j = true
          · exact leS_sub hall
          · have ⟨j, hj⟩ : ∃ j, ¬ (bit (bts (askB T) (T 10 0)) j = true → bit (dpo (askB T) (T 10 0) t') j = true) := Classical.not_forall.mp hall
            have hj1 : bit (bts (askB T) (T 10 0)) j = true := by
              cases hb : bit (bts (askB T) (T 10 0)) j with
              | true => rfl
              | false => rw [hb] at hj; exact absurd (fun q => by cases q) hj
            have hj2 : bit (dpo (askB T) (T 10 0) t') j = false := by
              cases hb : bit (dpo (askB T) (T 10 0) t') j with
              | false => rfl
              | true => exact absurd (fun _ => hb) hj
            have := cst_lt (T := T) (fun i hi => sub_bts dpo_sub hi) (sub_all j hj1).1 hj2 hj1
            omega
        · have := dpo_mono (p := askB T) (T 10 0) t0 t' (by omega) a
          rw [e2] at h3 ⊢
          unfold leS
          omega
      · exact i3 t' (by omega) h2
theorem bst_IsB {b : Nat} (ha : PW T (bts (askB T) (T 10 0)) ≤ b) : IsB T b (askB T) (bst T b (2 ^ cnt (askB T) (T 10 0))) := by
  obtain ⟨i1, _, i3⟩ := bst_inv ha _ (Nat.le_refl _)
  refine ⟨bst_sub T b _, i1, fun s' h1 h2 => ?_⟩
  obtain ⟨t, ht, rfl⟩ := dpo_onto _ s' h1
  exact i3 t ht h2
theorem zero_IsB {b : Nat} (h : PW T 0 ≤ b) : IsB T b (askB T) 0 := ⟨sub_0, h, fun s' _ _ => leS_sub (fun j hj => by rw [bit_0] at hj; cases hj)⟩
end SHD
noncomputable def o_would (T : Tr) (x : Int32) : Int32 := if inR x 0 2000000000 then oI (shO T (xN x)) else -2
noncomputable def o_shed (S : St) (x : Int32) : Int32 × St := if inR x 0 2000000000 then (match shO S.1 (xN x) with
  | none => (-3, refS S 9)
  | some s => (nI (mnS S.1 s), chgS S (shT S.1 s))) else (-2, S)
theorem ok_shed {S : St} (h : OkS S) {x : Int32} : OkS (o_shed S x).2 := by
  unfold o_shed
  split
  · cases hm : shO S.1 (xN x) with
    | none => exact h.ref
    | some s => exact h.chg (okP_sh h.1 s)
  · exact h
