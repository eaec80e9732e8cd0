/-! calls and ends of the pure machine, and its soundness -/
theorem pm_grow_set {G : pm_H} {i : Nat} {c c' : pm_E} (h : G[i]? = some c) (hs : pm_sz c' = pm_sz c) : G.length ≤ (G.set i c').length ∧ pm_sl G ≤ pm_sl (G.set i c') := ⟨by simp, by rw [pm_sl_set h hs]; exact Nat.le_refl _⟩
theorem pm_grow_app {G : pm_H} {c : pm_E} : G.length ≤ (G ++ [c]).length ∧ pm_sl G ≤ pm_sl (G ++ [c]) := ⟨by simp, by rw [pm_sl_app]; exact Nat.le_add_right _ _⟩
theorem pm_grow_rf {G : pm_H} : G.length ≤ G.length ∧ pm_sl G ≤ pm_sl G := ⟨Nat.le_refl _, Nat.le_refl _⟩
set_option maxHeartbeats 4000000 in
theorem pm_grow {X : pm_X} {y : pm_M} {pc pc' : Nat} {ls ls' st st' : List Value} {G G' : pm_H} (h : pm_at X y pc ls st G = some (.inl (pc', ls', st', G'))) : G.length ≤ G'.length ∧ pm_sl G ≤ pm_sl G' := by
  unfold pm_at at h
  split at h
  next i len hd =>
    split at h
    next hlen =>
      clear hd hlen
      cases i with
      | iadd | isub | imul | iand | ior | ixor | ishl | ishr | iushr => obtain ⟨_, _, _, -, -, -, -, rfl⟩ := pm_bi_inv h; exact pm_grow_rf
      | ladd | lsub | lmul | ldiv | lrem => obtain ⟨_, _, _, -, -, -, -, -, rfl⟩ := pm_bl_inv h; exact pm_grow_rf
      | goto off => obtain ⟨-, -, -, rfl⟩ := pm_go_inv h; exact pm_grow_rf
      | ifCond k off =>
        simp only [pm_step] at h
        split at h
        next => obtain ⟨-, -, -, rfl, -⟩ := pm_br_inv h; exact pm_grow_rf
        next => cases h
      | if_icmp k off =>
        simp only [pm_step] at h
        split at h
        next => obtain ⟨-, -, -, rfl, -⟩ := pm_br_inv h; exact pm_grow_rf
        next => cases h
      | tableswitch a1 a2 a3 a4 =>
        simp only [pm_step] at h
        repeat' (split at h)
        all_goals first | (obtain ⟨-, -, -, rfl⟩ := pm_go_inv h; exact pm_grow_rf) | cases h
      | invokevirtual k => exact absurd h (pm_cv_ne _)
      | invokespecial k =>
        simp only [pm_step] at h
        repeat' (split at h)
        all_goals first | (obtain ⟨-, -, -, rfl⟩ := pm_nx_inv h; exact pm_grow_rf) | exact absurd h (pm_cv_ne _) | cases h
      | invokestatic k =>
        simp only [pm_step] at h
        repeat' (split at h)
        all_goals first | (obtain ⟨-, -, -, rfl⟩ := pm_nx_inv h; exact pm_grow_rf) | exact absurd h (pm_cv_ne _) | cases h
      | putfield k =>
        simp only [pm_step] at h
        split at h
        next =>
          split at h
          next =>
            split at h
            next =>
              split at h
              next G2 hv =>
                obtain ⟨-, -, -, rfl⟩ := pm_nx_inv h
                obtain ⟨fs, g1, g2, rfl⟩ := pm_pf_inv hv
                exact pm_grow_set g1 rfl
              next => cases h
            next => cases h
          next => cases h
        next => cases h
      | iastore =>
        simp only [pm_step] at h
        split at h
        next =>
          split at h
          next n f hf =>
            split at h
            next => obtain ⟨-, -, -, rfl⟩ := pm_nx_inv h; exact pm_grow_set (pm_ai_inv hf) rfl
            next => cases h
          next => cases h
        next => cases h
      | bastore =>
        simp only [pm_step] at h
        split at h
        next =>
          split at h
          next n f hf =>
            split at h
            next => obtain ⟨-, -, -, rfl⟩ := pm_nx_inv h; exact pm_grow_set (pm_ai_inv hf) rfl
            next => cases h
          next => cases h
        next => cases h
      | lastore =>
        simp only [pm_step] at h
        split at h
        next =>
          split at h
          next n f hf =>
            split at h
            next => obtain ⟨-, -, -, rfl⟩ := pm_nx_inv h; exact pm_grow_set (pm_al_inv hf) rfl
            next => cases h
          next => cases h
        next => cases h
      | aastore =>
        simp only [pm_step] at h
        split at h
        next =>
          split at h
          next n f hf =>
            split at h
            next =>
              split at h
              next => obtain ⟨-, -, -, rfl⟩ := pm_nx_inv h; exact pm_grow_set (pm_aq_inv hf) rfl
              next => cases h
            next => cases h
          next => cases h
        next => cases h
      | _ =>
        simp only [pm_step] at h
        repeat' (split at h)
        all_goals first | (obtain ⟨-, -, -, rfl⟩ := pm_nx_inv h; first | exact pm_grow_rf | exact pm_grow_app) | cases h | simp at h
    next => cases h
  next => cases h
def pm_rt (y : pm_M) (pc : Nat) (st : List Value) (r : Option Value) : Prop :=
  (∃ v : Int32, decode y.2.2.1 pc = .ok (.ireturn, 1) ∧ st = [.int v] ∧ r = some (.int v) ∧ (y.2.2.2.2 = some .int ∨ (y.2.2.2.2 = some .boolean ∧ (v = 0 ∨ v = 1)))) ∨
  (∃ v : Int64, decode y.2.2.1 pc = .ok (.lreturn, 1) ∧ st = [.long v] ∧ r = some (.long v) ∧ y.2.2.2.2 = some .long) ∨
  (decode y.2.2.1 pc = .ok (.return_, 1) ∧ st = [] ∧ r = none ∧ y.2.2.2.2 = none)
theorem pm_nx_nr {pc : Nat} {ls st : List Value} {G : pm_H} {q : (pm_M × List Value × List Value) ⊕ Option Value} : ¬ pm_nx pc ls st G = some (.inr q) := by intro h; simp [pm_nx] at h
theorem pm_go_nr {pc : Nat} {off : Int} {ls st : List Value} {G : pm_H} {q : (pm_M × List Value × List Value) ⊕ Option Value} : ¬ pm_go pc off ls st G = some (.inr q) := by
  intro h; unfold pm_go at h; split at h
  · exact pm_nx_nr h
  · cases h
theorem pm_br_nr {t : Bool} {pc : Nat} {off : Int} {ls st : List Value} {G : pm_H} {q : (pm_M × List Value × List Value) ⊕ Option Value} : ¬ pm_br t pc off ls st G = some (.inr q) := by
  intro h; unfold pm_br at h; split at h
  · split at h <;> exact pm_nx_nr h
  · cases h
theorem pm_bi_nr {f : Int32 → Int32 → Int32} {pc : Nat} {ls st : List Value} {G : pm_H} {q : (pm_M × List Value × List Value) ⊕ Option Value} : ¬ pm_bi f pc ls st G = some (.inr q) := by
  intro h; unfold pm_bi at h; split at h
  · exact pm_nx_nr h
  · cases h
theorem pm_bl_nr {f : Int64 → Int64 → Int64} {ok : Int64 → Bool} {pc : Nat} {ls st : List Value} {G : pm_H} {q : (pm_M × List Value × List Value) ⊕ Option Value} : ¬ pm_bl f ok pc ls st G = some (.inr q) := by
  intro h; unfold pm_bl at h; split at h
  · split at h
    · exact pm_nx_nr h
    · cases h
  · cases h
theorem pm_cv_nr {y : pm_M} {ks : List Nat} {k : Nat} {st : List Value} {G : pm_H} {self : Bool} {r : Option Value} : ¬ pm_cv y ks k st G self = some (.inr (.inr r)) := by
  intro h
  unfold pm_cv at h
  repeat' (split at h)
  all_goals first | cases h | simp at h
set_option maxHeartbeats 4000000 in
theorem pm_ret_inv {X : pm_X} {y : pm_M} {pc : Nat} {ls st : List Value} {G : pm_H} {r : Option Value} (h : pm_at X y pc ls st G = some (.inr (.inr r))) : pm_rt y pc st r := by
  unfold pm_at at h
  split at h
  next i len hd =>
    split at h
    next hlen =>
      cases i with
      | ireturn =>
        simp only [pm_step] at h
        split at h
        next v =>
          split at h
          next hr => cases h; exact Or.inl ⟨v, by rw [hd, show len = _ from eq_of_beq hlen]; rfl, rfl, rfl, hr⟩
          next => cases h
        next => cases h
      | lreturn =>
        simp only [pm_step] at h
        split at h
        next v =>
          split at h
          next hr => cases h; exact Or.inr (Or.inl ⟨v, by rw [hd, show len = _ from eq_of_beq hlen]; rfl, rfl, rfl, hr⟩)
          next => cases h
        next => cases h
      | return_ =>
        simp only [pm_step] at h
        split at h
        next =>
          split at h
          next hr => cases h; exact Or.inr (Or.inr ⟨by rw [hd, show len = _ from eq_of_beq hlen]; rfl, rfl, rfl, hr⟩)
          next => cases h
        next => cases h
      | _ =>
        exfalso
        simp only [pm_step] at h
        repeat' (split at h)
        all_goals first | cases h | exact pm_nx_nr h | exact pm_go_nr h | exact pm_br_nr h | exact pm_bi_nr h | exact pm_bl_nr h | exact pm_cv_nr h | simp at h
    next => cases h
  next => cases h
/-- a call: the row of its callee, the stack cut -/
def pm_cl (y : pm_M) (pc : Nat) (st : List Value) (G : pm_H) (z : pm_M) (vs st' : List Value) : Prop := ∃ k kd n, pm_mth y.1 k = some (kd, n, z) ∧ (∀ v ∈ vs, pm_isv v = true) ∧ (pm_fl vs).length ≤ z.2.2.2.1 ∧ z.2.2.2.1 ≤ 40 ∧ pm_cat st' ≤ 8 ∧
  ((∃ (a : Nat) (As fs : List Value), ((kd = 0 ∧ decode y.2.2.1 pc = .ok (.invokevirtual k, 3)) ∨ ((kd = 2 ∨ kd = 4) ∧ decode y.2.2.1 pc = .ok (.invokespecial k, 3))) ∧ As.length = n ∧ vs = .ref a :: As ∧ st = As.reverse ++ .ref a :: st' ∧ G[a]? = some (.inr (z.1, fs)) ∧ z.1 < 8) ∨
  ((kd = 1 ∨ kd = 3) ∧ decode y.2.2.1 pc = .ok (.invokestatic k, 3) ∧ vs.length = n ∧ st = vs.reverse ++ st'))
theorem pm_cv_inv1 {y : pm_M} {ks : List Nat} {k : Nat} {st : List Value} {G : pm_H} {z : pm_M} {vs st' : List Value} (h : pm_cv y ks k st G true = some (.inr (.inl (z, vs, st')))) : ∃ kd n, pm_mth y.1 k = some (kd, n, z) ∧ kd ∈ ks ∧ (∀ v ∈ vs, pm_isv v = true) ∧ (pm_fl vs).length ≤ z.2.2.2.1 ∧ z.2.2.2.1 ≤ 40 ∧ pm_cat st' ≤ 8 ∧ ∃ (a : Nat) (As fs : List Value), As.length = n ∧ vs = .ref a :: As ∧ st = As.reverse ++ .ref a :: st' ∧ G[a]? = some (.inr (z.1, fs)) ∧ z.1 < 8 := by
  unfold pm_cv at h
  split at h
  next kd n z' hm =>
    split at h
    next hc =>
      rw [if_pos rfl] at h
      split at h
      next a rest hdrop =>
        split at h
        next c fs hG =>
          split at h
          next hh =>
            obtain ⟨rfl, h8, hcat, hfl⟩ := hh
            simp only [Option.some.injEq, Sum.inr.injEq, Sum.inl.injEq, Prod.mk.injEq] at h
            obtain ⟨rfl, rfl, rfl⟩ := h
            simp only [Bool.and_eq_true, decide_eq_true_eq, List.contains_iff_mem] at hc
            obtain ⟨⟨⟨h1, h2⟩, h3⟩, h4⟩ := hc
            refine ⟨kd, n, hm, h1, ?_, hfl, h4, hcat, a, (st.take n).reverse, fs, by simp [h2], rfl, ?_, hG, h8⟩
            · intro v hv
              rcases List.mem_cons.mp hv with rfl | hv
              · rfl
              · exact List.all_eq_true.mp h3 v (List.mem_reverse.mp hv)
            · rw [List.reverse_reverse, ← hdrop, List.take_append_drop]
          next => cases h
        next => cases h
      next => cases h
    next => cases h
  next => cases h
theorem pm_cv_inv2 {y : pm_M} {ks : List Nat} {k : Nat} {st : List Value} {G : pm_H} {z : pm_M} {vs st' : List Value} (h : pm_cv y ks k st G false = some (.inr (.inl (z, vs, st')))) : ∃ kd n, pm_mth y.1 k = some (kd, n, z) ∧ kd ∈ ks ∧ (∀ v ∈ vs, pm_isv v = true) ∧ (pm_fl vs).length ≤ z.2.2.2.1 ∧ z.2.2.2.1 ≤ 40 ∧ pm_cat st' ≤ 8 ∧ vs.length = n ∧ st = vs.reverse ++ st' := by
  unfold pm_cv at h
  split at h
  next kd n z' hm =>
    split at h
    next hc =>
      rw [if_neg (by decide)] at h
      split at h
      next hh =>
        obtain ⟨hcat, hfl⟩ := hh
        simp only [Option.some.injEq, Sum.inr.injEq, Sum.inl.injEq, Prod.mk.injEq] at h
        obtain ⟨rfl, rfl, rfl⟩ := h
        simp only [Bool.and_eq_true, decide_eq_true_eq, List.contains_iff_mem] at hc
        obtain ⟨⟨⟨h1, h2⟩, h3⟩, h4⟩ := hc
        refine ⟨kd, n, hm, h1, ?_, hfl, h4, hcat, by simp [h2], ?_⟩
        · intro v hv
          exact List.all_eq_true.mp h3 v (List.mem_reverse.mp hv)
        · rw [List.reverse_reverse, List.take_append_drop]
      next => cases h
    next => cases h
  next => cases h
set_option maxHeartbeats 4000000 in
theorem pm_call_inv {X : pm_X} {y : pm_M} {pc : Nat} {ls st : List Value} {G : pm_H} {z : pm_M} {vs st' : List Value} (h : pm_at X y pc ls st G = some (.inr (.inl (z, vs, st')))) : pm_cl y pc st G z vs st' := by
  unfold pm_at at h
  split at h
  next i len hd =>
    split at h
    next hlen =>
      cases i with
      | invokevirtual k =>
        obtain ⟨kd, n, h1, h2, h3, h4, h5, h6, a, As, fs, h7⟩ := pm_cv_inv1 h
        simp at h2
        exact ⟨k, kd, n, h1, h3, h4, h5, h6, Or.inl ⟨a, As, fs, Or.inl ⟨h2, by rw [hd, show len = _ from eq_of_beq hlen]; rfl⟩, h7⟩⟩
      | invokespecial k =>
        simp only [pm_step] at h
        split at h
        next =>
          exfalso
          split at h
          · split at h
            · exact pm_nx_nr h
            · cases h
          · cases h
        next =>
          obtain ⟨kd, n, h1, h2, h3, h4, h5, h6, a, As, fs, h7⟩ := pm_cv_inv1 h
          simp at h2
          exact ⟨k, kd, n, h1, h3, h4, h5, h6, Or.inl ⟨a, As, fs, Or.inr ⟨h2, by rw [hd, show len = _ from eq_of_beq hlen]; rfl⟩, h7⟩⟩
      | invokestatic k =>
        simp only [pm_step] at h
        split at h
        next =>
          exfalso
          split at h
          · split at h
            · exact pm_nx_nr h
            · cases h
          · cases h
        next =>
          obtain ⟨kd, n, h1, h2, h3, h4, h5, h6, h7⟩ := pm_cv_inv2 h
          simp at h2
          exact ⟨k, kd, n, h1, h3, h4, h5, h6, Or.inr ⟨h2, by rw [hd, show len = _ from eq_of_beq hlen]; rfl, h7⟩⟩
      | _ =>
        exfalso
        simp only [pm_step] at h
        repeat' (split at h)
        all_goals first | cases h | exact pm_nx_nr h | exact pm_go_nr h | exact pm_br_nr h | exact pm_bi_nr h | exact pm_bl_nr h | simp at h
    next => cases h
  next => cases h
