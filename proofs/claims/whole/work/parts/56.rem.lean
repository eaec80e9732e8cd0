/-! a node less -/
def sh (r k : Nat) : Nat := if k < r then k else k + 1
def pd (r p : Nat) : Nat := if r < p then p - 1 else p
def remT (T : Tr) (r : Nat) : Tr := fun w k => if w < 10 then (if w = 1 then pd r (T 1 (sh r k)) else T w (sh r k)) else if w = 10 ∧ k = 0 then T 10 0 - 1 else T w k
theorem sh_pd {r p : Nat} (h : p ≠ r) : sh r (pd r p) = p := by
  unfold sh pd
  by_cases h1 : r < p
  · rw [if_pos h1, if_neg (by omega)]; omega
  · rw [if_neg h1, if_pos (by omega)]
theorem sh_b {r k n : Nat} (h : k < n - 1) : sh r k < n := by unfold sh; split <;> omega
theorem sh_0 {r k : Nat} (hr : 0 < r) : sh r k = 0 ↔ k = 0 := by unfold sh; split <;> omega
section REM
variable {T : Tr} {r : Nat}
theorem remT_o {w k : Nat} (hw : w < 10) (h1 : w ≠ 1) : remT T r w k = T w (sh r k) := by unfold remT; rw [if_pos hw, if_neg h1]
theorem remT_1 {k : Nat} : remT T r 1 k = pd r (T 1 (sh r k)) := by simp [remT]
theorem remT_N : remT T r 10 0 = T 10 0 - 1 := by simp [remT]
theorem remT_b : remT T r 10 1 = T 10 1 := by simp [remT]
theorem remT_l {g : Nat} : remT T r 11 g = T 11 g := by simp [remT]
/-- what may go -/
def okD (T : Tr) (r : Nat) : Prop := 0 < r ∧ r < T 10 0 ∧ ∀ k, 0 < k → k < T 10 0 → T 1 k ≠ r
theorem remT_wf (hw : wf T) (hd : okD T r) : wf (remT T r) := by
  obtain ⟨h0, h1, h2⟩ := hd
  have a := hw.1
  have b := hw.2.1
  refine ⟨by rw [remT_N]; omega, by rw [remT_N]; omega, fun k k0 hk => ?_⟩
  rw [remT_N] at hk
  rw [remT_1]
  have hs := sh_b (r := r) hk
  have hp : 0 < sh r k := by have := (sh_0 (r := r) (k := k) h0); omega
  have q := hw.2.2 _ hp hs
  have ne := h2 _ hp hs
  have e : sh r k = if k < r then k else k + 1 := rfl
  generalize T 1 (sh r k) = p at q ne ⊢
  unfold pd
  by_cases h : k < r
  · rw [if_pos h] at e
    split <;> omega
  · rw [if_neg h] at e
    split <;> omega
theorem ph_rem {α : Type} {f f' : Nat → α → α} {z z' : α} (hw : wf T) (hd : okD T r) (hf : ∀ k, 0 < k → k < T 10 0 - 1 → f' k = f (sh r k)) (hz : z' = z) : ∀ k, k < T 10 0 - 1 → ph (remT T r) f' z' k = ph T f z (sh r k) := by
  have hw' := remT_wf hw hd
  have hN : remT T r 10 0 = T 10 0 - 1 := remT_N
  have h := ph_ind hw' (P := fun k => k < T 10 0 - 1 → ph (remT T r) f' z' k = ph T f z (sh r k)) (fun _ => by
    rw [(sh_0 (k := 0) hd.1).mpr rfl]; exact hz) (fun k k0 hk ih hk2 => by
    have hs := sh_b (r := r) hk2
    have hp : 0 < sh r k := by have := (sh_0 (r := r) (k := k) hd.1); omega
    have q := hw'.2.2 k k0 hk
    rw [ph_s hw' k0 hk, ph_s hw hp hs, hf k k0 hk2, ih (by omega), remT_1, sh_pd (hd.2.2 _ hp hs)])
  intro k hk
  exact h k (by rw [hN]; exact hk) hk
theorem remT_dep (hw : wf T) (hd : okD T r) {k : Nat} (hk : k < T 10 0 - 1) : dep (remT T r) k = dep T (sh r k) := ph_rem (f := fun _ x => x + 1) (f' := fun _ x => x + 1) hw hd (fun _ _ _ => rfl) rfl k hk
theorem remT_rate (hw : wf T) (hd : okD T r) {k : Nat} (hk : k < T 10 0 - 1) : nm (remT T r) k = nm T (sh r k) ∧ dn (remT T r) k = dn T (sh r k) := by
  have e1 : mu (remT T r) k = mu T (sh r k) := ph_rem hw hd (fun j _ _ => by rw [remT_o (by decide) (by decide), remT_o (by decide) (by decide)]) remT_b k hk
  have e2 : dv (remT T r) k = dv T (sh r k) := ph_rem hw hd (fun j _ _ => by rw [remT_o (by decide) (by decide), remT_o (by decide) (by decide)]) rfl k hk
  unfold nm dn
  rw [e1, e2]
  exact ⟨rfl, rfl⟩
theorem cnt_sh0 {p : Nat → Bool} {r : Nat} : ∀ n, n ≤ r → cnt (fun k => p (sh r k)) n = cnt p n := fun n hn => cnt_congr n (fun k hk => by
  show p (sh r k) = p k
  unfold sh; rw [if_pos (by omega)])
theorem cnt_sh {p : Nat → Bool} {r : Nat} : ∀ n, cnt (fun k => p (sh r k)) n ≤ cnt p (n + 1)
  | 0 => by simp [cnt]
  | n + 1 => by
    by_cases h : n < r
    · rw [cnt_sh0 (n + 1) (by omega)]
      show _ ≤ cnt p (n + 1) + _
      omega
    · have ih := cnt_sh (p := p) (r := r) n
      have e : sh r n = n + 1 := by unfold sh; rw [if_neg h]
      show cnt _ n + (if p (sh r n) = true then 1 else 0) ≤ cnt p (n + 1) + (if p (n + 1) = true then 1 else 0)
      rw [e]
      omega
theorem okP_rem (h : okP T) (hd : okD T r) : okP (remT T r) := by
  have hw := h.1.wf
  obtain ⟨⟨w, b, s, l, nn, rr, c⟩, hR⟩ := h
  have hN : remT T r 10 0 = T 10 0 - 1 := remT_N
  have z0 : sh r 0 = 0 := (sh_0 hd.1).mpr rfl
  refine ⟨⟨remT_wf w hd, by rw [remT_b]; exact b, ⟨by rw [remT_o (by decide) (by decide), z0]; exact s.1, by rw [remT_o (by decide) (by decide), z0]; exact s.2⟩, fun g hg => by rw [remT_l]; exact l g hg, fun k k0 hk => ?_, fun k hk => ?_, ?_⟩, fun k hk => ?_⟩
  · have q1 := (remT_wf w hd).2.2 k k0 hk
    rw [hN] at hk
    have hs := sh_b (r := r) hk
    have hp : 0 < sh r k := by have := (sh_0 (r := r) (k := k) hd.1); omega
    have q := nn _ hp hs
    unfold okN at q ⊢
    rw [remT_dep hw hd hk, remT_o (by decide) (by decide), remT_o (w := 2) (by decide) (by decide), remT_o (w := 7) (by decide) (by decide), remT_o (k := remT T r 1 k) (by decide) (by decide)]
    rw [show sh r (remT T r 1 k) = T 1 (sh r k) by rw [remT_1, sh_pd (hd.2.2 _ hp hs)]]
    exact ⟨q.1, q.2.1, q1, q.2.2.2⟩
  · rw [hN] at hk
    have q := rr _ (sh_b (r := r) hk)
    simp only [remT_o (T := T) (r := r) (k := k) (show 0 < 10 by decide) (show 0 ≠ 1 by decide), remT_o (T := T) (r := r) (k := k) (show 3 < 10 by decide) (show 3 ≠ 1 by decide), remT_o (T := T) (r := r) (k := k) (show 4 < 10 by decide) (show 4 ≠ 1 by decide), remT_o (T := T) (r := r) (k := k) (show 5 < 10 by decide) (show 5 ≠ 1 by decide), remT_o (T := T) (r := r) (k := k) (show 6 < 10 by decide) (show 6 ≠ 1 by decide), remT_o (T := T) (r := r) (k := k) (show 7 < 10 by decide) (show 7 ≠ 1 by decide), remT_o (T := T) (r := r) (k := k) (show 8 < 10 by decide) (show 8 ≠ 1 by decide), remT_o (T := T) (r := r) (k := k) (show 9 < 10 by decide) (show 9 ≠ 1 by decide)]
    exact q
  · rw [hN]
    have := cnt_sh (p := fun k => decide (T 0 k = 5)) (r := r) (T 10 0 - 1)
    rw [show T 10 0 - 1 + 1 = T 10 0 by have := w.1; omega] at this
    refine Nat.le_trans ?_ c
    refine Nat.le_trans (Nat.le_of_eq (cnt_congr _ (fun k _ => ?_))) this
    rw [remT_o (by decide) (by decide)]
  · rw [hN] at hk
    rw [(remT_rate hw hd hk).1, (remT_rate hw hd hk).2]
    exact hR _ (sh_b hk)
end REM
def o_remove (S : St) (x : Int32) : Int32 × St := if x = 0 then (-1, S) else if isN S.1 x then (if 0 < chn S.1 (xN x) then (-3, refS S 7) else (nI (S.1 10 0 - 1), chgS S (remT S.1 (xN x)))) else (-3, refS S 1)
