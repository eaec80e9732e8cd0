/-! the constructors, run by the kernel; the script isn't looked at there -/
def pm_nX (i : Instr) (st : List Value) : Bool := match i, st with
  | .arraylength, .float _ :: _ => false
  | .iaload, .int _ :: .float _ :: _ => false
  | _, _ => true
def pm_X0 : pm_X := (0, fun _ => 0)
theorem pm_step_X {X : pm_X} {y : pm_M} {i : Instr} {pc : Nat} {ls st : List Value} {G : pm_H} (h : pm_nX i st = true) : pm_step pm_X0 y i pc ls st G = pm_step X y i pc ls st G := by
  cases i with
  | arraylength =>
    simp only [pm_step]
    split
    · simp [pm_nX] at h
    · rfl
  | iaload =>
    simp only [pm_step]
    split
    · rfl
    · simp [pm_nX] at h
    · rfl
  | _ => rfl
def pm_atC (y : pm_M) (pc : Nat) (ls st : List Value) (G : pm_H) : Option pm_Res := match decode y.2.2.1 pc with
  | .ok (i, len) => if pm_lok i len && pm_nX i st then pm_step pm_X0 y i pc ls st G else none
  | _ => none
theorem pm_atC_t {X : pm_X} {y : pm_M} {pc : Nat} {ls st : List Value} {G : pm_H} {r : pm_Res} (h : pm_atC y pc ls st G = some r) : pm_at X y pc ls st G = some r := by
  unfold pm_atC at h
  unfold pm_at
  split at h
  next i len hd =>
    rw [hd]
    split at h
    next hc =>
      simp only [Bool.and_eq_true] at hc
      simp only [hc.1, if_true]
      rw [← pm_step_X hc.2]
      exact h
    next => cases h
  next => cases h
def pm_runC : Nat → Nat → pm_M → Nat → List Value → List Value → pm_H → Option (Option Value × pm_H)
  | 0, _, _, _, _, _, _ => none
  | n + 1, d, y, pc, ls, st, G => match pm_atC y pc ls st G with
    | none => none
    | some (.inl (pc', ls', st', G')) => pm_runC n d y pc' ls' st' G'
    | some (.inr (.inl (z, vs, st'))) => (match d with
      | 0 => none
      | d' + 1 => (match pm_runC n d' z 0 (pm_en z.2.2.2.1 vs) [] G with
        | none => none
        | some (r, G') => pm_runC n d y (pc + 3) ls (r.toList ++ st') G'))
    | some (.inr (.inr r)) => some (r, G)
theorem pm_runC_t {X : pm_X} : ∀ (n d : Nat) (y : pm_M) (pc : Nat) (ls st : List Value) (G : pm_H) (o : Option Value × pm_H), pm_runC n d y pc ls st G = some o → pm_run X n d y pc ls st G = some o := by
  intro n
  induction n with
  | zero => intro d y pc ls st G o h; simp [pm_runC] at h
  | succ n ih =>
    intro d y pc ls st G o h
    rw [pm_runC] at h
    rw [pm_run]
    cases hs : pm_atC y pc ls st G with
    | none => rw [hs] at h; simp at h
    | some a =>
      rw [hs] at h
      rw [pm_atC_t hs]
      match a, h with
      | .inl (pc', ls', st', G'), h => exact ih _ _ _ _ _ _ _ h
      | .inr (.inr r), h => exact h
      | .inr (.inl (z, vs, st')), h =>
        cases d with
        | zero => simp at h
        | succ d =>
          simp only at h ⊢
          cases hz : pm_runC n d z 0 (pm_en z.2.2.2.1 vs) [] G with
          | none => rw [hz] at h; simp at h
          | some q =>
            obtain ⟨r, G'⟩ := q
            rw [hz] at h
            rw [ih _ _ _ _ _ _ _ hz]
            exact ih _ _ _ _ _ _ _ h
/-- an array of trees says nothing beyond its end -/
def pm_iv (G : pm_H) : Prop := ∀ (a n : Nat) (f : Nat → Option Nat), G[a]? = some (.inl (3, n, .inr (.inr (.inr (.inr f))))) → ∀ j, n ≤ j → f j = none
theorem pm_iv_set {G : pm_H} {i : Nat} {c : pm_E} (h : pm_iv G) (hc : ∀ n f, c = .inl (3, n, .inr (.inr (.inr (.inr f)))) → ∀ j, n ≤ j → f j = none) : pm_iv (G.set i c) := by
  intro a n f hg
  rw [List.getElem?_set] at hg
  split at hg
  · split at hg
    · cases hg
      exact hc n f rfl
    · cases hg
  · exact h a n f hg
theorem pm_iv_app {G : pm_H} {c : pm_E} (h : pm_iv G) (hc : ∀ n f, c = .inl (3, n, .inr (.inr (.inr (.inr f)))) → ∀ j, n ≤ j → f j = none) : pm_iv (G ++ [c]) := by
  intro a n f hg
  rcases ap_at hg with ⟨_, k⟩ | ⟨_, k⟩
  · exact h a n f k
  · exact hc n f k.symm
set_option maxHeartbeats 4000000 in
theorem pm_iv_at {X : pm_X} {y : pm_M} {pc pc' : Nat} {ls ls' st st' : List Value} {G G' : pm_H} (h : pm_at X y pc ls st G = some (.inl (pc', ls', st', G'))) (hv : pm_iv G) : pm_iv G' := by
  unfold pm_at at h
  split at h
  next i len hd =>
    split at h
    next hlen =>
      clear hd hlen
      cases i with
      | iadd | isub | imul | iand | ior | ixor | ishl | ishr | iushr => obtain ⟨_, _, _, -, -, -, -, rfl⟩ := pm_bi_inv h; exact hv
      | ladd | lsub | lmul | ldiv | lrem => obtain ⟨_, _, _, -, -, -, -, -, rfl⟩ := pm_bl_inv h; exact hv
      | goto off => obtain ⟨-, -, -, rfl⟩ := pm_go_inv h; exact hv
      | ifCond k off =>
        simp only [pm_step] at h
        split at h
        next => obtain ⟨-, -, -, rfl, -⟩ := pm_br_inv h; exact hv
        next => cases h
      | if_icmp k off =>
        simp only [pm_step] at h
        split at h
        next => obtain ⟨-, -, -, rfl, -⟩ := pm_br_inv h; exact hv
        next => cases h
      | tableswitch a1 a2 a3 a4 =>
        simp only [pm_step] at h
        repeat' (split at h)
        all_goals first | (obtain ⟨-, -, -, rfl⟩ := pm_go_inv h; exact hv) | cases h
      | invokevirtual k => exact absurd h (pm_cv_ne _)
      | invokespecial k =>
        simp only [pm_step] at h
        repeat' (split at h)
        all_goals first | (obtain ⟨-, -, -, rfl⟩ := pm_nx_inv h; exact hv) | exact absurd h (pm_cv_ne _) | cases h
      | invokestatic k =>
        simp only [pm_step] at h
        repeat' (split at h)
        all_goals first | (obtain ⟨-, -, -, rfl⟩ := pm_nx_inv h; exact hv) | exact absurd h (pm_cv_ne _) | cases h
      | putfield k =>
        simp only [pm_step] at h
        split at h
        next =>
          split at h
          next =>
            split at h
            next =>
              split at h
              next G2 hq =>
                obtain ⟨-, -, -, rfl⟩ := pm_nx_inv h
                obtain ⟨fs, g1, g2, rfl⟩ := pm_pf_inv hq
                exact pm_iv_set hv (fun n f q => by cases q)
              next => cases h
            next => cases h
          next => cases h
        next => cases h
      | iastore =>
        simp only [pm_step] at h
        split at h
        next =>
          split at h
          next n f hf =>
            split at h
            next => obtain ⟨-, -, -, rfl⟩ := pm_nx_inv h; exact pm_iv_set hv (fun n f q => by cases q)
            next => cases h
          next => cases h
        next => cases h
      | bastore =>
        simp only [pm_step] at h
        split at h
        next =>
          split at h
          next n f hf =>
            split at h
            next => obtain ⟨-, -, -, rfl⟩ := pm_nx_inv h; exact pm_iv_set hv (fun n f q => by cases q)
            next => cases h
          next => cases h
        next => cases h
      | lastore =>
        simp only [pm_step] at h
        split at h
        next =>
          split at h
          next n f hf =>
            split at h
            next => obtain ⟨-, -, -, rfl⟩ := pm_nx_inv h; exact pm_iv_set hv (fun n f q => by cases q)
            next => cases h
          next => cases h
        next => cases h
      | aastore =>
        simp only [pm_step] at h
        split at h
        next =>
          split at h
          next n f hf =>
            split at h
            next =>
              split at h
              next hin =>
                obtain ⟨-, -, -, rfl⟩ := pm_nx_inv h
                refine pm_iv_set hv (fun n2 f2 q j hj => ?_)
                cases q
                have h0 := hv _ _ _ (pm_aq_inv hf) j hj
                unfold pm_in at hin
                simp only [decide_eq_true_eq] at hin
                have hlt := fun q => hin (Or.inr q)
                unfold va_up
                split
                next e => exfalso; subst e; exact hlt hj
                next => exact h0
              next => cases h
            next => cases h
          next => cases h
        next => cases h
      | _ =>
        simp only [pm_step] at h
        repeat' (split at h)
        all_goals first | (obtain ⟨-, -, -, rfl⟩ := pm_nx_inv h; first | exact hv | exact pm_iv_app hv (fun n f q j _ => by cases q <;> rfl)) | cases h | simp at h
    next => cases h
  next => cases h
theorem pm_iv_run {X : pm_X} : ∀ (n d : Nat) (y : pm_M) (pc : Nat) (ls st : List Value) (G : pm_H) (r : Option Value) (G' : pm_H), pm_run X n d y pc ls st G = some (r, G') → pm_iv G → pm_iv G' := by
  intro n
  induction n with
  | zero => intro d y pc ls st G r G' h; simp [pm_run] at h
  | succ n ih =>
    intro d y pc ls st G r G' h hv
    rw [pm_run] at h
    cases hs : pm_at X y pc ls st G with
    | none => rw [hs] at h; simp at h
    | some a =>
      rw [hs] at h
      match a, hs, h with
      | .inl (pc', ls', st', G1), hs, h => exact ih _ _ _ _ _ _ _ _ h (pm_iv_at hs hv)
      | .inr (.inr r), _, h => cases h; exact hv
      | .inr (.inl (z, vs, st')), _, h =>
        cases d with
        | zero => simp at h
        | succ d =>
          simp only at h
          cases hz : pm_run X n d z 0 (pm_en z.2.2.2.1 vs) [] G with
          | none => rw [hz] at h; simp at h
          | some q =>
            obtain ⟨r1, G1⟩ := q
            rw [hz] at h
            exact ih _ _ _ _ _ _ _ _ h (ih _ _ _ _ _ _ _ _ hz hv)
/-- what a heap holds, read off it -/
def gI (G : pm_H) (a k : Nat) : Int32 := match G[a]? with
  | some (.inr (_, vs)) => (match vs[k]? with
    | some (.int x) => x
    | _ => 0)
  | _ => 0
def gA (G : pm_H) (a : Nat) : Nat → Int32 := match G[a]? with
  | some (.inl (_, _, .inl f)) => f
  | _ => fun _ => 0
def gE (G : pm_H) (a : Nat) : Nat → Int64 := match G[a]? with
  | some (.inl (_, _, .inr (.inl f))) => f
  | _ => fun _ => 0
def fok : List Value → List (Option Nat) → Bool
  | [], [] => true
  | v :: vs, f :: fl => (match v, f with
    | .ref r, some r' => decide (r = r')
    | .int _, none => true
    | _, _ => false) && fok vs fl
  | _, _ => false
def cok (g : Option pm_E) (c : Option ((Nat × Nat) ⊕ (Nat × List (Option Nat)))) : Bool := match g, c with
  | some (.inl (t, n, ar)), some (.inl (t', n')) => decide (t = t') && (decide (n = n') && (match ar with
    | .inl _ => decide (t = 0) || decide (t = 2)
    | .inr (.inl _) => decide (t = 1)
    | .inr (.inr (.inr (.inr f))) => decide (t = 3) && (decide (n = 6) && allN (fun j => decide (f j = some (59 + 12 * j))) 6)
    | _ => false))
  | some (.inr (ci, vs)), some (.inr (ci', fl)) => decide (ci = ci') && fok vs fl
  | _, _ => false
theorem fok_at : ∀ (vs : List Value) (fl : List (Option Nat)), fok vs fl = true → ∀ k : Nat, (fl[k]? = none → vs[k]? = none) ∧ (∀ r, fl[k]? = some (some r) → vs[k]? = some (Value.ref r)) ∧ (fl[k]? = some none → ∃ x, vs[k]? = some (Value.int x))
  | [], [], _, k => by simp
  | v :: vs, f :: fl, h, k => by
    unfold fok at h
    simp only [Bool.and_eq_true] at h
    cases k with
    | zero =>
      have h1 := h.1
      simp only [List.getElem?_cons_zero]
      split at h1
      next r r' => simp only [decide_eq_true_eq] at h1; subst h1; simp
      next x => simp
      next => cases h1
    | succ k =>
      simp only [List.getElem?_cons_succ]
      exact fok_at vs fl h.2 k
  | [], _ :: _, h, _ => by simp [fok] at h
  | _ :: _, [], h, _ => by simp [fok] at h
theorem pm_S_hi : ∀ a, 139 < a → a < 147 → ∃ q, pm_S[a]? = some (.inl q) := by
  intro a h1 h2
  have : a = 140 ∨ a = 141 ∨ a = 142 ∨ a = 143 ∨ a = 144 ∨ a = 145 ∨ a = 146 := by omega
  rcases this with rfl | rfl | rfl | rfl | rfl | rfl | rfl <;> exact ⟨_, rfl⟩
theorem pm_of {G : pm_H} (hl : G.length = 147) (hc : ∀ a, a < 147 → cok G[a]? pm_S[a]? = true) (hv : pm_iv G) : G = pm_w (gI G) (gA G) (gE G) (gI G 139) (gA G) := by
  apply List.ext_getElem?
  intro a
  by_cases ha : a < 147
  · have h := hc a ha
    cases hS : pm_S[a]? with
    | none => rw [hS] at h; unfold cok at h; split at h <;> simp_all
    | some c =>
      rw [pm_w_at hS]
      rw [hS] at h
      cases hG : G[a]? with
      | none => rw [hG] at h; simp [cok] at h
      | some e =>
        rw [hG] at h
        congr 1
        match e, c, h, hG, hS with
        | .inl (t, n, ar), .inl (t', n'), h, hG, hS =>
          unfold cok at h
          simp only [Bool.and_eq_true, decide_eq_true_eq] at h
          obtain ⟨rfl, rfl, h⟩ := h
          match ar, h, hG with
          | .inl f, h, hG =>
            simp only [Bool.or_eq_true, decide_eq_true_eq] at h
            have e1 : gA G a = f := by unfold gA; rw [hG]
            unfold pm_mk
            simp only [e1, ite_self]
            rw [if_neg (by omega), if_neg (by omega)]
          | .inr (.inl f), h, hG =>
            simp only [decide_eq_true_eq] at h
            subst h
            have e1 : gE G a = f := by unfold gE; rw [hG]
            unfold pm_mk
            simp only [e1, if_true]
          | .inr (.inr (.inr (.inr f))), h, hG =>
            simp only [Bool.and_eq_true, decide_eq_true_eq] at h
            obtain ⟨h1, h2, h3⟩ := h
            have e1 : f = fun j => if j < 6 then some (59 + 12 * j) else none := by
              funext j
              by_cases hj : j < 6
              · rw [if_pos hj]
                have := (allN_iff 6).mp h3 j hj
                simpa using this
              · rw [if_neg hj]
                rw [h1, h2] at hG
                exact hv a 6 f hG j (by omega)
            rw [h1, h2, e1]
            rfl
          | .inr (.inr (.inl _)), h, _ => simp at h
          | .inr (.inr (.inr (.inl _))), h, _ => simp at h
        | .inr (ci, vs), .inr (ci', fl), h, hG, hS =>
          unfold cok at h
          simp only [Bool.and_eq_true, decide_eq_true_eq] at h
          obtain ⟨rfl, h⟩ := h
          unfold pm_mk
          simp only
          congr 2
          apply List.ext_getElem?
          intro k
          rw [List.getElem?_mapIdx]
          have hk := fok_at vs fl h k
          have a139 : a < 139 ∨ a = 139 := by
            rcases Nat.lt_or_ge 139 a with q | q
            · obtain ⟨q', e'⟩ := pm_S_hi a q ha
              rw [hS] at e'
              cases e'
            · omega
          cases hf : fl[k]? with
          | none => rw [hk.1 hf]; rfl
          | some f =>
            cases f with
            | some r => rw [hk.2.1 r hf]; rfl
            | none =>
              obtain ⟨x, hx⟩ := hk.2.2 hf
              have e1 : gI G a k = x := by unfold gI; rw [hG]; simp only; rw [hx]
              rw [hx]
              simp only [Option.map_some]
              rcases a139 with q | q
              · rw [if_pos q, e1]
              · subst q
                rw [if_neg (by decide), e1]
        | .inl _, .inr _, h, _, _ => simp [cok] at h
        | .inr _, .inl _, h, _, _ => simp [cok] at h
  · rw [List.getElem?_eq_none (by omega), List.getElem?_eq_none (by rw [pm_w_len]; omega)]
/-- what the constructors leave -/
def T00 : Tr := fun w k => if w = 10 then (if k = 0 then 1 else if k = 1 then 1000 else 0) else if w = 11 then 999 else 0
def S00 : St := (T00, [], none, [], -5)
def vok (G : pm_H) : Bool := decide (gI G 1 11 = nI 1000) && (decide (gI G 1 12 = nI 1) && (allN (fun g => decide (gA G 12 g = nI 999)) 4 && (allN (fun w => decide (gA G (1 + (w + 1)) 0 = nI 0)) 10 && (decide (gE G 38 0 = lN 1000) && (decide (gE G 39 0 = lN 1) && (allN (fun w => decide (gA G (40 + w) 0 = nI 0)) 5 && (decide (gA G 45 0 = bz true) && (decide (gA G 46 0 = bz true) && (decide (gI G 57 2 = nI 0) && (decide (gI G 57 1 = nI 0) && (decide (gI G 0 9 = bz false) && (decide (gI G 131 1 = nI 0) && (decide (gI G 0 10 = -5) && (decide (gA G 140 0 = nI 1000) && (decide (gA G 140 1 = nI 1) && (allN (fun g => decide (gA G 140 (2 + g) = nI 999)) 4 && (decide (gA G 140 7 = -1) && (allN (fun w => decide (w = 1) || decide (gA G 140 (6 + w) = nI 0)) 10 && (decide (gI G 139 2 = nI 0) && (decide (gI G 139 4 = bz false) && (decide (gI G 139 7 = nI 0) && decide (gI G 139 8 = -5))))))))))))))))))))))
def gok (G : pm_H) : Bool := decide (G.length = 147) && (allN (fun a => cok G[a]? pm_S[a]?) 147 && vok G)
def chk1 (r1 : Option (Option Value × pm_H)) (f : pm_H → Option (Option Value × pm_H)) : Bool := match r1 with
  | some (none, G1) => decide (G1.length = 139) && (match f G1 with
    | some (none, G2) => gok G2
    | _ => false)
  | _ => false
theorem chk1_inv {r1 : Option (Option Value × pm_H)} {f : pm_H → Option (Option Value × pm_H)} (h : chk1 r1 f = true) : ∃ G1 G2, r1 = some (none, G1) ∧ G1.length = 139 ∧ f G1 = some (none, G2) ∧ gok G2 = true := by
  unfold chk1 at h
  split at h
  next G1 =>
    simp only [Bool.and_eq_true, decide_eq_true_eq] at h
    have h2 := h.2
    split at h2
    next G2 hf => exact ⟨G1, G2, rfl, h.1, hf, h2⟩
    next => cases h2
  next => cases h
theorem okP_00 : okP T00 := by
  have hw : wf T00 := ⟨by decide, by decide, fun k h0 hk => by
    have : k < 1 := hk
    omega⟩
  refine ⟨⟨hw, by decide, by decide, fun g _ => (by show (999 : Nat) ≤ 999; omega), fun k h0 hk => ?_, fun k hk => ?_, by decide⟩, fun k hk => ?_⟩
  · have : k < 1 := hk
    omega
  · have : k < 1 := hk
    have : k = 0 := by omega
    subst this
    decide
  · have : k < 1 := hk
    have : k = 0 := by omega
    subst this
    rw [(nm_0 T00).1, (nm_0 T00).2]
    decide
theorem OkS_00 : OkS S00 := ⟨okP_00, fun t h => (List.not_mem_nil h).elim, fun t h => by cases h⟩
theorem rel_00 {G : pm_H} (h : vok G = true) : RelP (gI G) (gA G) (gE G) S00 ∧ RelM (gI G 139) (gA G) S00 := by
  unfold vok at h
  simp only [Bool.and_eq_true, decide_eq_true_eq, allN_iff, Bool.or_eq_true] at h
  obtain ⟨a1, a2, a3, a4, a5, a6, a7, a8, a9, a10, a11, a12, a13, a14, b1, b2, b3, b4, b5, b6, b7, b8, b9⟩ := h
  have k0 : ∀ k, k < S00.1 10 0 → k = 0 := fun k hk => by
    have : k < 1 := hk
    omega
  refine ⟨⟨⟨a1, a2, fun g hg => a3 g hg, fun w k hw hk _ => ?_⟩, ⟨fun k hk => ?_, fun k hk => ?_, fun k hk => ?_, fun k hk => ?_⟩, ⟨by decide, a10, 0, by decide, a11, fun i t hi => by simp [S00] at hi⟩, a12, ⟨a13, by decide, fun i b hi => by simp [S00] at hi⟩, a14⟩, ⟨b1, b2, fun g hg => b3 g hg, b4, fun k w hk hw hne => ?_⟩, ⟨by decide, b6, fun i t hi => by simp [S00] at hi⟩, b7, ⟨b8, by decide, fun i b hi => by simp [S00] at hi⟩, b9⟩
  · rw [k0 k hk, a4 w hw]
    match w, hw with
    | 0, _ | 1, _ | 2, _ | 3, _ | 4, _ | 5, _ | 6, _ | 7, _ | 8, _ | 9, _ => rfl
  · rw [k0 k hk, (nm_0 _).1, (nm_0 _).2]
    exact ⟨a5, a6⟩
  · rw [k0 k hk]
    exact ⟨a7 0 (by decide), a7 1 (by decide)⟩
  · rw [k0 k hk]
    exact ⟨a7 2 (by decide), a7 3 (by decide), a7 4 (by decide)⟩
  · rw [k0 k hk]
    exact ⟨a8, a9⟩
  · rw [k0 k hk]
    have := b5 w hw
    have hw1 : ¬ w = 1 := by
      rcases hne with q | q
      · exact q
      · have := k0 k hk; omega
    have e := this.resolve_left hw1
    rw [show 6 + 10 * 0 + w = 6 + w by omega, e]
    match w, hw with
    | 0, _ | 1, _ | 2, _ | 3, _ | 4, _ | 5, _ | 6, _ | 7, _ | 8, _ | 9, _ => rfl
