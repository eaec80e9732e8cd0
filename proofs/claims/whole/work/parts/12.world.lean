/-! the world behind both constructors: its shape is fixed, what stands in it is told by functions -/
def pm_S : List ((Nat × Nat) ⊕ (Nat × List (Option Nat))) := [.inr (6, [some 1, some 13, some 25, some 37, some 47, some 57, some 131, some 135, some 138, none, none]), .inr (4, [some 2, some 3, some 4, some 5, some 6, some 7, some 8, some 9, some 10, some 11, some 12, none, none]), .inl (0, 24), .inl (0, 24), .inl (0, 24), .inl (0, 24), .inl (0, 24), .inl (0, 24), .inl (0, 24), .inl (0, 24), .inl (0, 24), .inl (0, 24), .inl (0, 4), .inr (4, [some 14, some 15, some 16, some 17, some 18, some 19, some 20, some 21, some 22, some 23, some 24, none, none]), .inl (0, 24), .inl (0, 24), .inl (0, 24), .inl (0, 24), .inl (0, 24), .inl (0, 24), .inl (0, 24), .inl (0, 24), .inl (0, 24), .inl (0, 24), .inl (0, 4), .inr (4, [some 26, some 27, some 28, some 29, some 30, some 31, some 32, some 33, some 34, some 35, some 36, none, none]), .inl (0, 24), .inl (0, 24), .inl (0, 24), .inl (0, 24), .inl (0, 24), .inl (0, 24), .inl (0, 24), .inl (0, 24), .inl (0, 24), .inl (0, 24), .inl (0, 4), .inr (0, [some 38, some 39, some 40, some 41, some 42, some 43, some 44, some 45, some 46]), .inl (1, 24), .inl (1, 24), .inl (0, 24), .inl (0, 24), .inl (0, 24), .inl (0, 24), .inl (0, 24), .inl (2, 24), .inl (2, 24), .inr (0, [some 48, some 49, some 50, some 51, some 52, some 53, some 54, some 55, some 56]), .inl (1, 24), .inl (1, 24), .inl (0, 24), .inl (0, 24), .inl (0, 24), .inl (0, 24), .inl (0, 24), .inl (2, 24), .inl (2, 24), .inr (1, [some 58, none, none]), .inl (3, 6), .inr (4, [some 60, some 61, some 62, some 63, some 64, some 65, some 66, some 67, some 68, some 69, some 70, none, none]), .inl (0, 24), .inl (0, 24), .inl (0, 24), .inl (0, 24), .inl (0, 24), .inl (0, 24), .inl (0, 24), .inl (0, 24), .inl (0, 24), .inl (0, 24), .inl (0, 4), .inr (4, [some 72, some 73, some 74, some 75, some 76, some 77, some 78, some 79, some 80, some 81, some 82, none, none]), .inl (0, 24), .inl (0, 24), .inl (0, 24), .inl (0, 24), .inl (0, 24), .inl (0, 24), .inl (0, 24), .inl (0, 24), .inl (0, 24), .inl (0, 24), .inl (0, 4), .inr (4, [some 84, some 85, some 86, some 87, some 88, some 89, some 90, some 91, some 92, some 93, some 94, none, none]), .inl (0, 24), .inl (0, 24), .inl (0, 24), .inl (0, 24), .inl (0, 24), .inl (0, 24), .inl (0, 24), .inl (0, 24), .inl (0, 24), .inl (0, 24), .inl (0, 4), .inr (4, [some 96, some 97, some 98, some 99, some 100, some 101, some 102, some 103, some 104, some 105, some 106, none, none]), .inl (0, 24), .inl (0, 24), .inl (0, 24), .inl (0, 24), .inl (0, 24), .inl (0, 24), .inl (0, 24), .inl (0, 24), .inl (0, 24), .inl (0, 24), .inl (0, 4), .inr (4, [some 108, some 109, some 110, some 111, some 112, some 113, some 114, some 115, some 116, some 117, some 118, none, none]), .inl (0, 24), .inl (0, 24), .inl (0, 24), .inl (0, 24), .inl (0, 24), .inl (0, 24), .inl (0, 24), .inl (0, 24), .inl (0, 24), .inl (0, 24), .inl (0, 4), .inr (4, [some 120, some 121, some 122, some 123, some 124, some 125, some 126, some 127, some 128, some 129, some 130, none, none]), .inl (0, 24), .inl (0, 24), .inl (0, 24), .inl (0, 24), .inl (0, 24), .inl (0, 24), .inl (0, 24), .inl (0, 24), .inl (0, 24), .inl (0, 24), .inl (0, 4), .inr (3, [some 132, none, none, none, none, some 133, some 134, none, none, none, none]), .inl (0, 40), .inl (0, 40), .inl (0, 40), .inr (2, [some 136, some 137]), .inl (1, 24), .inl (2, 24), .inr (5, [none, none, none, none]), .inr (7, [some 140, some 141, none, some 142, none, some 143, some 144, none, none, none, none, none, none, none, none, none, none, some 145, some 146, none, none, none, none, none, none]), .inl (0, 246), .inl (0, 1476), .inl (0, 246), .inl (0, 246), .inl (0, 40), .inl (0, 42), .inl (0, 42)]
def up2 {α : Type} (f : Nat → Nat → α) (a j : Nat) (x : α) : Nat → Nat → α := fun a' j' => if a' = a ∧ j' = j then x else f a' j'
theorem up2_s {α : Type} (f : Nat → Nat → α) (a j : Nat) (x : α) : up2 f a j x a j = x := by simp [up2]
theorem up2_n {α : Type} (f : Nat → Nat → α) {a j a' j' : Nat} (x : α) (h : ¬ (a' = a ∧ j' = j)) : up2 f a j x a' j' = f a' j' := by simp [up2, h]
theorem up2_na {α : Type} (f : Nat → Nat → α) {a j a' : Nat} (x : α) (h : a' ≠ a) : up2 f a j x a' = f a' := by funext j'; simp [up2, h]
theorem up2_row (f : Nat → Nat → Int32) (a j : Nat) (x : Int32) : up2 f a j x a = upd (f a) j x := by funext j'; simp [up2, upd]
theorem up2_rowL (f : Nat → Nat → Int64) (a j : Nat) (x : Int64) : up2 f a j x a = vp_updL (f a) j x := by funext j'; simp [up2, vp_updL]
def pm_mk (I A : Nat → Nat → Int32) (E : Nat → Nat → Int64) (J : Nat → Int32) (B : Nat → Nat → Int32) (a : Nat) (c : (Nat × Nat) ⊕ (Nat × List (Option Nat))) : pm_E := match c with
  | .inl (t, n) => if t = 1 then .inl (1, n, .inr (.inl (E a))) else if t = 3 then .inl (3, n, .inr (.inr (.inr (.inr (fun j => if j < 6 then some (59 + 12 * j) else none))))) else .inl (t, n, .inl (if a < 139 then A a else B a))
  | .inr (ci, fl) => .inr (ci, fl.mapIdx (fun k f => match f with
    | some r => .ref r
    | none => .int (if a < 139 then I a k else J k)))
def pm_w (I A : Nat → Nat → Int32) (E : Nat → Nat → Int64) (J : Nat → Int32) (B : Nat → Nat → Int32) : pm_H := pm_S.mapIdx (pm_mk I A E J B)
/-- what the shape says: the field k of the cell a, of class ci; the length of an array of type t -/
def pm_sF (a ci k : Nat) : Option (Option Nat) := match pm_S[a]? with
  | some (.inr (c, fl)) => if c = ci then fl[k]? else none
  | _ => none
def pm_sL (t a : Nat) : Option Nat := match pm_S[a]? with
  | some (.inl (t', n)) => if t' = t then some n else none
  | _ => none
def pm_sC (a : Nat) : Option Nat := match pm_S[a]? with
  | some (.inr (c, _)) => some c
  | _ => none
section WLD
variable {I A : Nat → Nat → Int32} {E : Nat → Nat → Int64} {J : Nat → Int32} {B : Nat → Nat → Int32}
theorem pm_w_at {a : Nat} {c : (Nat × Nat) ⊕ (Nat × List (Option Nat))} (h : pm_S[a]? = some c) : (pm_w I A E J B)[a]? = some (pm_mk I A E J B a c) := by
  unfold pm_w
  rw [List.getElem?_mapIdx, h]
  rfl
theorem pm_sF_inv {a ci k : Nat} {f : Option Nat} (h : pm_sF a ci k = some f) : ∃ fl, pm_S[a]? = some (.inr (ci, fl)) ∧ fl[k]? = some f := by
  unfold pm_sF at h
  split at h
  next c fl hs =>
    split at h
    next hc => subst hc; exact ⟨fl, hs, h⟩
    next => cases h
  next => cases h
theorem pm_sL_inv {t a n : Nat} (h : pm_sL t a = some n) : pm_S[a]? = some (.inl (t, n)) := by
  unfold pm_sL at h
  split at h
  next t' n' hs =>
    split at h
    next hc => subst hc; cases h; exact hs
    next => cases h
  next => cases h
theorem g_ref {a ci k r : Nat} (h : pm_sF a ci k = some (some r)) : pm_gf (pm_w I A E J B) a ci k = some (.ref r) := by
  obtain ⟨fl, h1, h2⟩ := pm_sF_inv h
  unfold pm_gf
  rw [pm_w_at h1]
  simp [pm_mk, h2]
theorem g_int {a ci k : Nat} (h : pm_sF a ci k = some none) (ha : a < 139) : pm_gf (pm_w I A E J B) a ci k = some (.int (I a k)) := by
  obtain ⟨fl, h1, h2⟩ := pm_sF_inv h
  unfold pm_gf
  rw [pm_w_at h1]
  simp [pm_mk, h2, ha]
theorem g_mod {k : Nat} (h : pm_sF 139 7 k = some none) : pm_gf (pm_w I A E J B) 139 7 k = some (.int (J k)) := by
  obtain ⟨fl, h1, h2⟩ := pm_sF_inv h
  unfold pm_gf
  rw [pm_w_at h1]
  simp [pm_mk, h2]
theorem pm_w_set {I' A' : Nat → Nat → Int32} {E' : Nat → Nat → Int64} {J' : Nat → Int32} {B' : Nat → Nat → Int32} {a : Nat} {e : pm_E} {c : (Nat × Nat) ⊕ (Nat × List (Option Nat))} (h : pm_S[a]? = some c) (he : pm_mk I' A' E' J' B' a c = e) (ho : ∀ a' c', a' ≠ a → pm_S[a']? = some c' → pm_mk I' A' E' J' B' a' c' = pm_mk I A E J B a' c') : (pm_w I A E J B).set a e = pm_w I' A' E' J' B' := by
  have hl : a < pm_S.length := (List.getElem?_eq_some_iff.mp h).1
  apply List.ext_getElem?
  intro j
  rw [List.getElem?_set]
  by_cases hj : a = j
  · subst hj
    have : a < (pm_w I A E J B).length := by simpa [pm_w] using hl
    rw [if_pos rfl, if_pos this, pm_w_at h, he]
  · rw [if_neg hj]
    cases hc : pm_S[j]? with
    | none =>
      have h1 : pm_S.length ≤ j := List.getElem?_eq_none_iff.mp hc
      rw [List.getElem?_eq_none (by simpa [pm_w] using h1), List.getElem?_eq_none (by simpa [pm_w] using h1)]
    | some c' => rw [pm_w_at hc, pm_w_at hc, ho j c' (Ne.symm hj) hc]
theorem p_int {a ci k : Nat} {x : Int32} (h : pm_sF a ci k = some none) (ha : a < 139) : pm_pf (pm_w I A E J B) a ci k (.int x) = some (pm_w (up2 I a k x) A E J B) := by
  obtain ⟨fl, h1, h2⟩ := pm_sF_inv h
  have hk : k < fl.length := (List.getElem?_eq_some_iff.mp h2).1
  unfold pm_pf
  rw [pm_w_at h1]
  simp only [pm_mk, List.length_mapIdx, hk, and_self, if_true, Option.some.injEq]
  refine pm_w_set h1 ?_ (fun a' c' hne hc' => ?_)
  · simp only [pm_mk]
    congr 2
    apply List.ext_getElem?
    intro j
    rw [List.getElem?_mapIdx, List.getElem?_set]
    by_cases hj : k = j
    · subst hj
      rw [h2]
      simp only [List.length_mapIdx, hk, if_true, Option.map_some, ha, up2_s]
    · rw [if_neg hj, List.getElem?_mapIdx]
      cases fl[j]? with
      | none => rfl
      | some f =>
        cases f with
        | none => simp [up2, Ne.symm hj]
        | some r => rfl
  · cases c' with
    | inl q => rfl
    | inr q => simp only [pm_mk, up2_na I x hne]
theorem p_mod {k : Nat} {x : Int32} (h : pm_sF 139 7 k = some none) : pm_pf (pm_w I A E J B) 139 7 k (.int x) = some (pm_w I A E (upd J k x) B) := by
  obtain ⟨fl, h1, h2⟩ := pm_sF_inv h
  have hk : k < fl.length := (List.getElem?_eq_some_iff.mp h2).1
  unfold pm_pf
  rw [pm_w_at h1]
  simp only [pm_mk, List.length_mapIdx, hk, and_self, if_true, Option.some.injEq]
  refine pm_w_set h1 ?_ (fun a' c' hne hc' => ?_)
  · simp only [pm_mk]
    congr 2
    apply List.ext_getElem?
    intro j
    rw [List.getElem?_mapIdx, List.getElem?_set]
    by_cases hj : k = j
    · subst hj
      rw [h2]
      simp only [List.length_mapIdx, hk, if_true, Option.map_some, Nat.lt_irrefl, if_false, upd]
    · rw [if_neg hj, List.getElem?_mapIdx]
      cases fl[j]? with
      | none => rfl
      | some f =>
        cases f with
        | none => simp [upd, Ne.symm hj]
        | some r => rfl
  · cases c' with
    | inl q => rfl
    | inr q =>
      obtain ⟨ci', fl'⟩ := q
      by_cases ha : a' < 139
      · simp only [pm_mk, ha, if_true]
      · exfalso
        have h3 : a' = 140 ∨ a' = 141 ∨ a' = 142 ∨ a' = 143 ∨ a' = 144 ∨ a' = 145 ∨ a' = 146 := by
          have : a' < 147 := (List.getElem?_eq_some_iff.mp hc').1
          omega
        rcases h3 with rfl | rfl | rfl | rfl | rfl | rfl | rfl <;> cases hc'
theorem a_int {t a n : Nat} (h : pm_sL t a = some n) (ht : t = 0 ∨ t = 2) (ha : a < 139) : pm_ai (pm_w I A E J B) t a = some (n, A a) := by
  unfold pm_ai
  rw [pm_w_at (pm_sL_inv h)]
  rcases ht with rfl | rfl <;> simp [pm_mk, ha]
theorem a_mod {a n : Nat} (h : pm_sL 0 a = some n) (ha : ¬ a < 139) : pm_ai (pm_w I A E J B) 0 a = some (n, B a) := by
  unfold pm_ai
  rw [pm_w_at (pm_sL_inv h)]
  simp [pm_mk, ha]
theorem a_long {a n : Nat} (h : pm_sL 1 a = some n) : pm_al (pm_w I A E J B) a = some (n, E a) := by
  unfold pm_al
  rw [pm_w_at (pm_sL_inv h)]
  simp [pm_mk]
theorem a_kept : pm_aq (pm_w I A E J B) 58 = some (6, fun j => if j < 6 then some (59 + 12 * j) else none) := by
  unfold pm_aq
  rw [pm_w_at (c := .inl (3, 6)) rfl]
  simp [pm_mk]
theorem s_int {t a n j : Nat} {x : Int32} (h : pm_sL t a = some n) (ht : t = 0 ∨ t = 2) (ha : a < 139) : (pm_w I A E J B).set a (.inl (t, n, .inl (upd (A a) j x))) = pm_w I (up2 A a j x) E J B := by
  refine pm_w_set (pm_sL_inv h) ?_ (fun a' c' hne hc' => ?_)
  · rcases ht with rfl | rfl <;> simp [pm_mk, ha, up2_row]
  · cases c' with
    | inl q => simp only [pm_mk, up2_na A x hne]
    | inr q => rfl
theorem s_mod {a n j : Nat} {x : Int32} (h : pm_sL 0 a = some n) (ha : ¬ a < 139) : (pm_w I A E J B).set a (.inl (0, n, .inl (upd (B a) j x))) = pm_w I A E J (up2 B a j x) := by
  refine pm_w_set (pm_sL_inv h) ?_ (fun a' c' hne hc' => ?_)
  · simp [pm_mk, ha, up2_row]
  · cases c' with
    | inl q => simp only [pm_mk, up2_na B x hne]
    | inr q => rfl
theorem s_long {a n j : Nat} {x : Int64} (h : pm_sL 1 a = some n) : (pm_w I A E J B).set a (.inl (1, n, .inr (.inl (vp_updL (E a) j x)))) = pm_w I A (up2 E a j x) J B := by
  refine pm_w_set (pm_sL_inv h) ?_ (fun a' c' hne hc' => ?_)
  · simp [pm_mk, up2_rowL]
  · cases c' with
    | inl q => simp only [pm_mk, up2_na E x hne]
    | inr q => rfl
theorem c_cls {a ci : Nat} (h : pm_sC a = some ci) : ∃ fs, (pm_w I A E J B)[a]? = some (.inr (ci, fs)) := by
  unfold pm_sC at h
  split at h
  next c fl hs => cases h; exact ⟨_, pm_w_at hs⟩
  next => cases h
end WLD
/-! rules: what a step does to the goal -/
section RUL
variable {X : pm_X} {d : Nat} {y : pm_M} {pc : Nat} {ls st : List Value} {G : pm_H} {Q : Option Value → pm_H → Prop}
theorem pm_at_of {i : Instr} {len : Nat} {res : Option pm_Res} (hd : decode y.2.2.1 pc = .ok (i, len)) (hl : pm_lok i len = true) (h : pm_step X y i pc ls st G = res) : pm_at X y pc ls st G = res := by
  unfold pm_at
  rw [hd]
  simp only [hl, if_true]
  exact h
theorem w_step {i : Instr} {len pc' : Nat} {ls' st' : List Value} {G' : pm_H} (hd : decode y.2.2.1 pc = .ok (i, len)) (hl : pm_lok i len = true) (h : pm_step X y i pc ls st G = some (.inl (pc', ls', st', G'))) : pm_wp X d y pc ls st G Q ↔ pm_wp X d y pc' ls' st' G' Q := pm_wp_next (pm_at_of hd hl h)
theorem w_iconst {n : Int} {v : Int32} (hd : decode y.2.2.1 pc = .ok (.iconst n, 1)) (hv : Int32.ofInt n = v) : pm_wp X d y pc ls st G Q ↔ pm_wp X d y (pc + 1) ls (.int v :: st) G Q := by subst hv; exact w_step hd rfl rfl
theorem w_bipush {n : Int} {v : Int32} (hd : decode y.2.2.1 pc = .ok (.bipush n, 2)) (hv : (Int8.ofInt n).toInt32 = v) : pm_wp X d y pc ls st G Q ↔ pm_wp X d y (pc + 2) ls (.int v :: st) G Q := by subst hv; exact w_step hd rfl rfl
theorem w_sipush {n : Int} {v : Int32} (hd : decode y.2.2.1 pc = .ok (.sipush n, 3)) (hv : (Int16.ofInt n).toInt32 = v) : pm_wp X d y pc ls st G Q ↔ pm_wp X d y (pc + 3) ls (.int v :: st) G Q := by subst hv; exact w_step hd rfl rfl
theorem w_lconst {n : Fin 2} {v : Int64} (hd : decode y.2.2.1 pc = .ok (.lconst n, 1)) (hv : Int64.ofNat (n : Nat) = v) : pm_wp X d y pc ls st G Q ↔ pm_wp X d y (pc + 1) ls (.long v :: st) G Q := by subst hv; exact w_step hd rfl rfl
theorem w_ldc {k : Nat} {v w : Int32} (hd : decode y.2.2.1 pc = .ok (.ldc k, 2)) (hc : pm_cst y.1 k = some (.int w)) (hv : w = v) : pm_wp X d y pc ls st G Q ↔ pm_wp X d y (pc + 2) ls (.int v :: st) G Q := by subst hv; exact w_step hd rfl (by simp only [pm_step, hc]; rfl)
theorem w_ldcw {k : Nat} {v w : Int32} (hd : decode y.2.2.1 pc = .ok (.ldc_w k, 3)) (hc : pm_cst y.1 k = some (.int w)) (hv : w = v) : pm_wp X d y pc ls st G Q ↔ pm_wp X d y (pc + 3) ls (.int v :: st) G Q := by subst hv; exact w_step hd rfl (by simp only [pm_step, hc]; rfl)
theorem w_ldc2 {k : Nat} {v w : Int64} (hd : decode y.2.2.1 pc = .ok (.ldc2_w k, 3)) (hc : pm_cst y.1 k = some (.long w)) (hv : w = v) : pm_wp X d y pc ls st G Q ↔ pm_wp X d y (pc + 3) ls (.long v :: st) G Q := by subst hv; exact w_step hd rfl (by simp only [pm_step, hc]; rfl)
theorem w_iinc {k : Nat} {n : Int} {x v : Int32} {ls' : List Value} (hd : decode y.2.2.1 pc = .ok (.iinc k n, 3)) (hk : ls[k]? = some (.int x)) (hv : Int32.ofInt n = v) (hs : ls.set k (.int (x + v)) = ls') : pm_wp X d y pc ls st G Q ↔ pm_wp X d y (pc + 3) ls' st G Q := by
  subst hv; subst hs
  exact w_step hd rfl (by simp only [pm_step, hk]; rw [if_pos (List.getElem?_eq_some_iff.mp hk).1]; rfl)
theorem pm_br_t {t : Bool} {off : Int} {tgt : Nat} (ht : (pc : Int) + off = (tgt : Int)) (h : t = true) : pm_br t pc off ls st G = some (.inl (tgt, ls, st, G)) := by
  subst h; unfold pm_br; rw [if_pos (by omega), ht]; rfl
theorem pm_br_f {t : Bool} {off : Int} {tgt : Nat} (ht : (pc : Int) + off = (tgt : Int)) (h : t = false) : pm_br t pc off ls st G = some (.inl (pc + 3, ls, st, G)) := by
  subst h; unfold pm_br; rw [if_pos (by omega)]; rfl

theorem w_ifeq {off : Int} {tgt : Nat} {x : Int32} (hd : decode y.2.2.1 pc = .ok (.ifCond .eq off, 3)) (ht : (pc : Int) + off = (tgt : Int)) : pm_wp X d y pc ls (.int x :: st) G Q ↔ if x = 0 then pm_wp X d y tgt ls st G Q else pm_wp X d y (pc + 3) ls st G Q := by
  by_cases hc : x = 0
  · rw [if_pos hc]
    exact w_step hd rfl (pm_br_t ht (by simp [pm_cz, hc]))
  · rw [if_neg hc]
    exact w_step hd rfl (pm_br_f ht (by simp [pm_cz, hc]))
theorem w_ifne {off : Int} {tgt : Nat} {x : Int32} (hd : decode y.2.2.1 pc = .ok (.ifCond .ne off, 3)) (ht : (pc : Int) + off = (tgt : Int)) : pm_wp X d y pc ls (.int x :: st) G Q ↔ if x = 0 then pm_wp X d y (pc + 3) ls st G Q else pm_wp X d y tgt ls st G Q := by
  by_cases hc : x = 0
  · rw [if_pos hc]
    exact w_step hd rfl (pm_br_f ht (by simp [pm_cz, hc]))
  · rw [if_neg hc]
    exact w_step hd rfl (pm_br_t ht (by simp [pm_cz, hc]))
theorem w_iflt {off : Int} {tgt : Nat} {x : Int32} (hd : decode y.2.2.1 pc = .ok (.ifCond .lt off, 3)) (ht : (pc : Int) + off = (tgt : Int)) : pm_wp X d y pc ls (.int x :: st) G Q ↔ if x < 0 then pm_wp X d y tgt ls st G Q else pm_wp X d y (pc + 3) ls st G Q := by
  by_cases hc : x < 0
  · rw [if_pos hc]
    exact w_step hd rfl (pm_br_t ht (by simp [pm_cz, hc]))
  · rw [if_neg hc]
    exact w_step hd rfl (pm_br_f ht (by simp [pm_cz, hc]))
theorem w_ifge {off : Int} {tgt : Nat} {x : Int32} (hd : decode y.2.2.1 pc = .ok (.ifCond .ge off, 3)) (ht : (pc : Int) + off = (tgt : Int)) : pm_wp X d y pc ls (.int x :: st) G Q ↔ if x < 0 then pm_wp X d y (pc + 3) ls st G Q else pm_wp X d y tgt ls st G Q := by
  by_cases hc : x < 0
  · rw [if_pos hc]
    exact w_step hd rfl (pm_br_f ht (by simp [pm_cz, Int32.not_le, hc]))
  · rw [if_neg hc]
    exact w_step hd rfl (pm_br_t ht (by simp [pm_cz, Int32.not_lt, Int32.not_lt.mp hc, hc]))
theorem w_ifgt {off : Int} {tgt : Nat} {x : Int32} (hd : decode y.2.2.1 pc = .ok (.ifCond .gt off, 3)) (ht : (pc : Int) + off = (tgt : Int)) : pm_wp X d y pc ls (.int x :: st) G Q ↔ if 0 < x then pm_wp X d y tgt ls st G Q else pm_wp X d y (pc + 3) ls st G Q := by
  by_cases hc : 0 < x
  · rw [if_pos hc]
    exact w_step hd rfl (pm_br_t ht (by simp [pm_cz, hc]))
  · rw [if_neg hc]
    exact w_step hd rfl (pm_br_f ht (by simp [pm_cz, hc]))
theorem w_ifle {off : Int} {tgt : Nat} {x : Int32} (hd : decode y.2.2.1 pc = .ok (.ifCond .le off, 3)) (ht : (pc : Int) + off = (tgt : Int)) : pm_wp X d y pc ls (.int x :: st) G Q ↔ if 0 < x then pm_wp X d y (pc + 3) ls st G Q else pm_wp X d y tgt ls st G Q := by
  by_cases hc : 0 < x
  · rw [if_pos hc]
    exact w_step hd rfl (pm_br_f ht (by simp [pm_cz, Int32.not_le, hc]))
  · rw [if_neg hc]
    exact w_step hd rfl (pm_br_t ht (by simp [pm_cz, Int32.not_lt, Int32.not_lt.mp hc, hc]))
theorem w_iceq {off : Int} {tgt : Nat} {x z : Int32} (hd : decode y.2.2.1 pc = .ok (.if_icmp .eq off, 3)) (ht : (pc : Int) + off = (tgt : Int)) : pm_wp X d y pc ls (.int z :: .int x :: st) G Q ↔ if x = z then pm_wp X d y tgt ls st G Q else pm_wp X d y (pc + 3) ls st G Q := by
  by_cases hc : x = z
  · rw [if_pos hc]
    exact w_step hd rfl (pm_br_t ht (by simp [pm_cc, hc]))
  · rw [if_neg hc]
    exact w_step hd rfl (pm_br_f ht (by simp [pm_cc, hc]))
theorem w_icne {off : Int} {tgt : Nat} {x z : Int32} (hd : decode y.2.2.1 pc = .ok (.if_icmp .ne off, 3)) (ht : (pc : Int) + off = (tgt : Int)) : pm_wp X d y pc ls (.int z :: .int x :: st) G Q ↔ if x = z then pm_wp X d y (pc + 3) ls st G Q else pm_wp X d y tgt ls st G Q := by
  by_cases hc : x = z
  · rw [if_pos hc]
    exact w_step hd rfl (pm_br_f ht (by simp [pm_cc, hc]))
  · rw [if_neg hc]
    exact w_step hd rfl (pm_br_t ht (by simp [pm_cc, hc]))
theorem w_iclt {off : Int} {tgt : Nat} {x z : Int32} (hd : decode y.2.2.1 pc = .ok (.if_icmp .lt off, 3)) (ht : (pc : Int) + off = (tgt : Int)) : pm_wp X d y pc ls (.int z :: .int x :: st) G Q ↔ if x < z then pm_wp X d y tgt ls st G Q else pm_wp X d y (pc + 3) ls st G Q := by
  by_cases hc : x < z
  · rw [if_pos hc]
    exact w_step hd rfl (pm_br_t ht (by simp [pm_cc, hc]))
  · rw [if_neg hc]
    exact w_step hd rfl (pm_br_f ht (by simp [pm_cc, hc]))
theorem w_icge {off : Int} {tgt : Nat} {x z : Int32} (hd : decode y.2.2.1 pc = .ok (.if_icmp .ge off, 3)) (ht : (pc : Int) + off = (tgt : Int)) : pm_wp X d y pc ls (.int z :: .int x :: st) G Q ↔ if x < z then pm_wp X d y (pc + 3) ls st G Q else pm_wp X d y tgt ls st G Q := by
  by_cases hc : x < z
  · rw [if_pos hc]
    exact w_step hd rfl (pm_br_f ht (by simp [pm_cc, Int32.not_le, hc]))
  · rw [if_neg hc]
    exact w_step hd rfl (pm_br_t ht (by simp [pm_cc, Int32.not_lt, Int32.not_lt.mp hc, hc]))
theorem w_icgt {off : Int} {tgt : Nat} {x z : Int32} (hd : decode y.2.2.1 pc = .ok (.if_icmp .gt off, 3)) (ht : (pc : Int) + off = (tgt : Int)) : pm_wp X d y pc ls (.int z :: .int x :: st) G Q ↔ if z < x then pm_wp X d y tgt ls st G Q else pm_wp X d y (pc + 3) ls st G Q := by
  by_cases hc : z < x
  · rw [if_pos hc]
    exact w_step hd rfl (pm_br_t ht (by simp [pm_cc, hc]))
  · rw [if_neg hc]
    exact w_step hd rfl (pm_br_f ht (by simp [pm_cc, hc]))
theorem w_icle {off : Int} {tgt : Nat} {x z : Int32} (hd : decode y.2.2.1 pc = .ok (.if_icmp .le off, 3)) (ht : (pc : Int) + off = (tgt : Int)) : pm_wp X d y pc ls (.int z :: .int x :: st) G Q ↔ if z < x then pm_wp X d y (pc + 3) ls st G Q else pm_wp X d y tgt ls st G Q := by
  by_cases hc : z < x
  · rw [if_pos hc]
    exact w_step hd rfl (pm_br_f ht (by simp [pm_cc, Int32.not_le, hc]))
  · rw [if_neg hc]
    exact w_step hd rfl (pm_br_t ht (by simp [pm_cc, Int32.not_lt, Int32.not_lt.mp hc, hc]))
theorem w_goto {off : Int} {tgt : Nat} (hd : decode y.2.2.1 pc = .ok (.goto off, 3)) (ht : (pc : Int) + off = (tgt : Int)) : pm_wp X d y pc ls st G Q ↔ pm_wp X d y tgt ls st G Q := w_step hd rfl (by simp only [pm_step]; unfold pm_go; rw [if_pos (by omega), ht]; rfl)
theorem w_tsO {dd lo hi : Int} {offs : Array Int} {len tgt : Nat} {x : Int32} (hd : decode y.2.2.1 pc = .ok (.tableswitch dd lo hi offs, len)) (ht : (pc : Int) + dd = (tgt : Int)) (h : x.toInt < lo ∨ hi < x.toInt) : pm_wp X d y pc ls (.int x :: st) G Q ↔ pm_wp X d y tgt ls st G Q := w_step hd rfl (by simp only [pm_step]; rw [if_pos h]; unfold pm_go; rw [if_pos (by omega), ht]; rfl)
theorem w_tsI {dd lo hi : Int} {offs : Array Int} {len tgt : Nat} {x : Int32} {off : Int} (hd : decode y.2.2.1 pc = .ok (.tableswitch dd lo hi offs, len)) (h : decide (x.toInt < lo ∨ hi < x.toInt) = false) (ho : offs[(x.toInt - lo).toNat]? = some off) (ht : (pc : Int) + off = (tgt : Int)) : pm_wp X d y pc ls (.int x :: st) G Q ↔ pm_wp X d y tgt ls st G Q := w_step hd rfl (by simp only [pm_step]; rw [if_neg (of_decide_eq_false h), ho]; simp only; unfold pm_go; rw [if_pos (by omega), ht]; rfl)
theorem w_iret {v : Int32} (hd : decode y.2.2.1 pc = .ok (.ireturn, 1)) (hr : y.2.2.2.2 = some .int) : pm_wp X d y pc ls [.int v] G Q ↔ Q (some (.int v)) G := pm_wp_ret (pm_at_of hd rfl (by simp only [pm_step]; rw [if_pos (Or.inl hr)]))
theorem w_zret {v : Int32} (hd : decode y.2.2.1 pc = .ok (.ireturn, 1)) (hr : y.2.2.2.2 = some .boolean) (hv : v = 0 ∨ v = 1) : pm_wp X d y pc ls [.int v] G Q ↔ Q (some (.int v)) G := pm_wp_ret (pm_at_of hd rfl (by simp only [pm_step]; rw [if_pos (Or.inr ⟨hr, hv⟩)]))
theorem w_lret {v : Int64} (hd : decode y.2.2.1 pc = .ok (.lreturn, 1)) (hr : y.2.2.2.2 = some .long) : pm_wp X d y pc ls [.long v] G Q ↔ Q (some (.long v)) G := pm_wp_ret (pm_at_of hd rfl (by simp only [pm_step]; rw [if_pos hr]))
theorem w_vret (hd : decode y.2.2.1 pc = .ok (.return_, 1)) (hr : y.2.2.2.2 = none) : pm_wp X d y pc ls [] G Q ↔ Q none G := pm_wp_ret (pm_at_of hd rfl (by simp only [pm_step]; rw [if_pos hr]))
theorem w_mm {k : Nat} {mx : Bool} {x z v : Int32} (hd : decode y.2.2.1 pc = .ok (.invokestatic k, 3)) (hm : pm_mm y.1 k = some mx) (hc : pm_cat st ≤ 8) (hv : (if mx then (if x < z then z else x) else (if z < x then z else x)) = v) : pm_wp X d y pc ls (.int z :: .int x :: st) G Q ↔ pm_wp X d y (pc + 3) ls (.int v :: st) G Q := by subst hv; exact w_step hd rfl (by simp only [pm_step, hm]; rw [if_pos hc]; rfl)
variable {I A : Nat → Nat → Int32} {E : Nat → Nat → Int64} {J : Nat → Int32} {B : Nat → Nat → Int32}
theorem w_getr {k a ci f r : Nat} (hd : decode y.2.2.1 pc = .ok (.getfield k, 3)) (hf : pm_fld y.1 k = some (ci, f)) (hs : pm_sF a ci f = some (some r)) : pm_wp X d y pc ls (.ref a :: st) (pm_w I A E J B) Q ↔ pm_wp X d y (pc + 3) ls (.ref r :: st) (pm_w I A E J B) Q := w_step hd rfl (by simp only [pm_step, hf, g_ref hs]; rfl)
theorem w_geti {k a ci f : Nat} (hd : decode y.2.2.1 pc = .ok (.getfield k, 3)) (hf : pm_fld y.1 k = some (ci, f)) (hs : pm_sF a ci f = some none) (ha : a < 139) : pm_wp X d y pc ls (.ref a :: st) (pm_w I A E J B) Q ↔ pm_wp X d y (pc + 3) ls (.int (I a f) :: st) (pm_w I A E J B) Q := w_step hd rfl (by simp only [pm_step, hf, g_int hs ha]; rfl)
theorem w_getm {k f : Nat} (hd : decode y.2.2.1 pc = .ok (.getfield k, 3)) (hf : pm_fld y.1 k = some (7, f)) (hs : pm_sF 139 7 f = some none) : pm_wp X d y pc ls (.ref 139 :: st) (pm_w I A E J B) Q ↔ pm_wp X d y (pc + 3) ls (.int (J f) :: st) (pm_w I A E J B) Q := w_step hd rfl (by simp only [pm_step, hf, g_mod hs]; rfl)
theorem w_puti {k a ci f : Nat} {x : Int32} (hd : decode y.2.2.1 pc = .ok (.putfield k, 3)) (hf : pm_fld y.1 k = some (ci, f)) (hs : pm_sF a ci f = some none) (ha : a < 139) (hfin : (pm_T ci f).2.2.2 = false) (hfit : pm_fit (pm_ty ci f) (.int x) = true) : pm_wp X d y pc ls (.int x :: .ref a :: st) (pm_w I A E J B) Q ↔ pm_wp X d y (pc + 3) ls st (pm_w (up2 I a f x) A E J B) Q := w_step hd rfl (by simp only [pm_step, hf, hfin, hfit, p_int hs ha]; rfl)
theorem w_putm {k f : Nat} {x : Int32} (hd : decode y.2.2.1 pc = .ok (.putfield k, 3)) (hf : pm_fld y.1 k = some (7, f)) (hs : pm_sF 139 7 f = some none) (hfin : (pm_T 7 f).2.2.2 = false) (hfit : pm_fit (pm_ty 7 f) (.int x) = true) : pm_wp X d y pc ls (.int x :: .ref 139 :: st) (pm_w I A E J B) Q ↔ pm_wp X d y (pc + 3) ls st (pm_w I A E (upd J f x) B) Q := w_step hd rfl (by simp only [pm_step, hf, hfin, hfit, p_mod hs]; rfl)
theorem pm_in_n {k n : Nat} (h : k < n) (hn : n < 2147483648) : pm_in (nI k) n = true := pm_in_iff.mpr (vp_in_nI h hn)
theorem nI_c {k n : Nat} (h : k < n) (hn : n < 2147483648) : (nI k).toNatClampNeg = k := nI_clamp (by omega)
theorem w_iald {a n k : Nat} (hd : decode y.2.2.1 pc = .ok (.iaload, 1)) (hs : pm_sL 0 a = some n) (ha : a < 139) (hn : n < 2147483648) (hk : k < n) : pm_wp X d y pc ls (.int (nI k) :: .ref a :: st) (pm_w I A E J B) Q ↔ pm_wp X d y (pc + 1) ls (.int (A a k) :: st) (pm_w I A E J B) Q := w_step hd rfl (by simp only [pm_step, a_int hs (Or.inl rfl) ha, pm_in_n hk hn, nI_c hk hn]; rfl)
theorem w_ialdm {a n k : Nat} (hd : decode y.2.2.1 pc = .ok (.iaload, 1)) (hs : pm_sL 0 a = some n) (ha : ¬ a < 139) (hn : n < 2147483648) (hk : k < n) : pm_wp X d y pc ls (.int (nI k) :: .ref a :: st) (pm_w I A E J B) Q ↔ pm_wp X d y (pc + 1) ls (.int (B a k) :: st) (pm_w I A E J B) Q := w_step hd rfl (by simp only [pm_step, a_mod hs ha, pm_in_n hk hn, nI_c hk hn]; rfl)
theorem w_bald {a n k : Nat} (hd : decode y.2.2.1 pc = .ok (.baload, 1)) (hs : pm_sL 2 a = some n) (ha : a < 139) (hn : n < 2147483648) (hk : k < n) : pm_wp X d y pc ls (.int (nI k) :: .ref a :: st) (pm_w I A E J B) Q ↔ pm_wp X d y (pc + 1) ls (.int (A a k) :: st) (pm_w I A E J B) Q := w_step hd rfl (by simp only [pm_step, a_int hs (Or.inr rfl) ha, pm_in_n hk hn, nI_c hk hn]; rfl)
theorem w_lald {a n k : Nat} (hd : decode y.2.2.1 pc = .ok (.laload, 1)) (hs : pm_sL 1 a = some n) (hn : n < 2147483648) (hk : k < n) : pm_wp X d y pc ls (.int (nI k) :: .ref a :: st) (pm_w I A E J B) Q ↔ pm_wp X d y (pc + 1) ls (.long (E a k) :: st) (pm_w I A E J B) Q := w_step hd rfl (by simp only [pm_step, a_long hs, pm_in_n hk hn, nI_c hk hn]; rfl)
theorem w_aald {k : Nat} (hd : decode y.2.2.1 pc = .ok (.aaload, 1)) (hk : k < 6) : pm_wp X d y pc ls (.int (nI k) :: .ref 58 :: st) (pm_w I A E J B) Q ↔ pm_wp X d y (pc + 1) ls (.ref (59 + 12 * k) :: st) (pm_w I A E J B) Q := w_step hd rfl (by simp only [pm_step, a_kept, pm_in_n hk (by decide), nI_c hk (by decide), if_pos hk]; rfl)
theorem w_iast {a n k : Nat} {x : Int32} (hd : decode y.2.2.1 pc = .ok (.iastore, 1)) (hs : pm_sL 0 a = some n) (ha : a < 139) (hn : n < 2147483648) (hk : k < n) : pm_wp X d y pc ls (.int x :: .int (nI k) :: .ref a :: st) (pm_w I A E J B) Q ↔ pm_wp X d y (pc + 1) ls st (pm_w I (up2 A a k x) E J B) Q := w_step hd rfl (by simp only [pm_step, a_int hs (Or.inl rfl) ha, pm_in_n hk hn, nI_c hk hn, s_int hs (Or.inl rfl) ha]; rfl)
theorem w_iastm {a n k : Nat} {x : Int32} (hd : decode y.2.2.1 pc = .ok (.iastore, 1)) (hs : pm_sL 0 a = some n) (ha : ¬ a < 139) (hn : n < 2147483648) (hk : k < n) : pm_wp X d y pc ls (.int x :: .int (nI k) :: .ref a :: st) (pm_w I A E J B) Q ↔ pm_wp X d y (pc + 1) ls st (pm_w I A E J (up2 B a k x)) Q := w_step hd rfl (by simp only [pm_step, a_mod hs ha, pm_in_n hk hn, nI_c hk hn, s_mod hs ha]; rfl)
theorem w_bast {a n k : Nat} {x v : Int32} (hd : decode y.2.2.1 pc = .ok (.bastore, 1)) (hs : pm_sL 2 a = some n) (ha : a < 139) (hn : n < 2147483648) (hk : k < n) (hv : vp_nar .boolean x = v) : pm_wp X d y pc ls (.int x :: .int (nI k) :: .ref a :: st) (pm_w I A E J B) Q ↔ pm_wp X d y (pc + 1) ls st (pm_w I (up2 A a k v) E J B) Q := by subst hv; exact w_step hd rfl (by simp only [pm_step, a_int hs (Or.inr rfl) ha, pm_in_n hk hn, nI_c hk hn, s_int hs (Or.inr rfl) ha]; rfl)
theorem w_last {a n k : Nat} {x : Int64} (hd : decode y.2.2.1 pc = .ok (.lastore, 1)) (hs : pm_sL 1 a = some n) (hn : n < 2147483648) (hk : k < n) : pm_wp X d y pc ls (.long x :: .int (nI k) :: .ref a :: st) (pm_w I A E J B) Q ↔ pm_wp X d y (pc + 1) ls st (pm_w I A (up2 E a k x) J B) Q := w_step hd rfl (by simp only [pm_step, a_long hs, pm_in_n hk hn, nI_c hk hn, s_long hs]; rfl)
theorem w_sald {k : Nat} {u : UInt32} (hd : decode y.2.2.1 pc = .ok (.iaload, 1)) (hn : X.1 < 2147483648) (hk : k < X.1) : pm_wp X d y pc ls (.int (nI k) :: .float u :: st) G Q ↔ pm_wp X d y (pc + 1) ls (.int (X.2 k) :: st) G Q := w_step hd rfl (by simp only [pm_step, pm_in_n hk hn, nI_c hk hn]; rfl)
theorem w_callv {k a n : Nat} {z : pm_M} {args rest : List Value} (hd : decode y.2.2.1 pc = .ok (.invokevirtual k, 3)) (hm : pm_mth y.1 k = some (0, n, z)) (hn : args.length = n) (hv : args.all pm_isv = true) (hz : (z.2.2.2.1 ≤ 40 ∧ z.1 < 8) ∧ (pm_fl (.ref a :: args)).length ≤ z.2.2.2.1) (hc : pm_sC a = some z.1) (hcat : pm_cat rest ≤ 8) : pm_wp X (d + 1) y pc ls (args.reverse ++ .ref a :: rest) (pm_w I A E J B) Q ↔ pm_call X d z (.ref a :: args) (pm_w I A E J B) (fun r G' => pm_wp X (d + 1) y (pc + 3) ls (r.toList ++ rest) G' Q) := by
  refine pm_wp_call (pm_at_of hd rfl ?_)
  obtain ⟨fs, hG⟩ := c_cls (I := I) (A := A) (E := E) (J := J) (B := B) hc
  have e1 : (args.reverse ++ Value.ref a :: rest).take n = args.reverse := by rw [List.take_left' (by simpa using hn)]
  have e2 : (args.reverse ++ Value.ref a :: rest).drop n = .ref a :: rest := by rw [List.drop_left' (by simpa using hn)]
  show pm_cv y [0] k (args.reverse ++ .ref a :: rest) (pm_w I A E J B) true = _
  unfold pm_cv
  rw [hm]
  simp only [e1, e2, hG, List.reverse_reverse]
  rw [if_pos (by simp only [List.all_reverse, hv, hz.1.1, List.length_append, List.length_reverse, hn]; simp)]
  rw [if_pos trivial, if_pos ⟨trivial, hz.1.2, hcat, hz.2⟩]
theorem w_calls {k kd n : Nat} {z : pm_M} {args rest : List Value} (hd : decode y.2.2.1 pc = .ok (.invokestatic k, 3)) (hmm : pm_mm y.1 k = none) (hm : pm_mth y.1 k = some (kd, n, z)) (hkd : [1, 3].contains kd = true) (hn : args.length = n) (hv : args.all pm_isv = true) (hz : z.2.2.2.1 ≤ 40 ∧ (pm_fl args).length ≤ z.2.2.2.1) (hcat : pm_cat rest ≤ 8) : pm_wp X (d + 1) y pc ls (args.reverse ++ rest) G Q ↔ pm_call X d z args G (fun r G' => pm_wp X (d + 1) y (pc + 3) ls (r.toList ++ rest) G' Q) := by
  refine pm_wp_call (pm_at_of hd rfl ?_)
  have e1 : (args.reverse ++ rest).take n = args.reverse := by rw [List.take_left' (by simpa using hn)]
  have e2 : (args.reverse ++ rest).drop n = rest := by rw [List.drop_left' (by simpa using hn)]
  simp only [pm_step, hmm]
  unfold pm_cv
  rw [hm]
  simp only [e1, e2, List.reverse_reverse]
  rw [if_pos (by simp only [hkd, List.all_reverse, hv, hz.1, List.length_append, List.length_reverse, hn]; simp)]
  rw [if_neg (by decide), if_pos ⟨hcat, hz.2⟩]
end RUL

