/-! how the pure machine's values, cells and locals stand in the machine -/
def pm_ev (B b : Nat) (v : Value) : Value := match v with
  | .ref i => .ref (B + i)
  | .float _ => .ref b
  | v => v
theorem pm_ev_cat (B b : Nat) (v : Value) : (pm_ev B b v).category = v.category := by cases v <;> rfl
theorem pm_ev_cats (B b : Nat) (st : List Value) : (((st.map (pm_ev B b)).map fun v => v.category)).sum = pm_cat st := by
  unfold pm_cat
  rw [List.map_map]
  congr 1
  apply List.map_congr_left
  intro v _
  exact pm_ev_cat B b v
def pm_ea (B : Nat) (a : vp_A) : vp_A := match a with
  | (n, .inr (.inr (.inr (.inr f)))) => (n, .inr (.inr (.inr (.inr (fun j => (f j).map (fun q => B + q))))))
  | a => a
def pm_ee (B b : Nat) (dA : Nat → ClassId) (c : pm_E) : va_E := match c with
  | .inl (t, a) => .inl (dA t, pm_ea B a)
  | .inr (c, fs) => .inr (c, fs.map (pm_ev B b))
def pm_ws (B b : Nat) (dA : Nat → ClassId) (G : pm_H) : va_W := G.mapIdx (fun i c => (B + i, pm_ee B b dA c))
theorem pm_ws_at {B b : Nat} {dA : Nat → ClassId} {G : pm_H} {i : Nat} {c : pm_E} (h : G[i]? = some c) : (pm_ws B b dA G)[i]? = some (B + i, pm_ee B b dA c) := by
  unfold pm_ws
  rw [List.getElem?_mapIdx, h]
  rfl
theorem pm_ws_of {B b : Nat} {dA : Nat → ClassId} {G : pm_H} {i : Nat} {q : Nat × va_E} (h : (pm_ws B b dA G)[i]? = some q) : ∃ c, G[i]? = some c ∧ q = (B + i, pm_ee B b dA c) := by
  unfold pm_ws at h
  rw [List.getElem?_mapIdx] at h
  cases hc : G[i]? with
  | none => rw [hc] at h; simp at h
  | some c => rw [hc] at h; simp at h; exact ⟨c, rfl, h.symm⟩
theorem pm_ws_set {B b : Nat} {dA : Nat → ClassId} {G : pm_H} {i : Nat} {c : pm_E} : (pm_ws B b dA (G.set i c)) = (pm_ws B b dA G).set i (B + i, pm_ee B b dA c) := by
  apply List.ext_getElem?
  intro j
  unfold pm_ws
  rw [List.getElem?_mapIdx, List.getElem?_set, List.getElem?_set, List.getElem?_mapIdx, List.length_mapIdx]
  by_cases hj : i = j
  · subst hj
    by_cases hl : i < G.length
    · simp [hl]
    · simp [hl]
  · simp [hj]
theorem pm_ws_app {B b : Nat} {dA : Nat → ClassId} {G : pm_H} {c : pm_E} : (pm_ws B b dA (G ++ [c])) = (pm_ws B b dA G) ++ [(B + G.length, pm_ee B b dA c)] := by
  unfold pm_ws
  simp [List.mapIdx_append]
theorem pm_ws_D {B b : Nat} {dA : Nat → ClassId} {G : pm_H} : va_D (fun q => B ≤ q) (pm_ws B b dA G) := by
  refine ⟨fun i j p q hp hq h => ?_, fun k q h => ?_⟩
  · obtain ⟨c, -, rfl⟩ := pm_ws_of hp
    obtain ⟨c', -, rfl⟩ := pm_ws_of hq
    simp at h
    exact h
  · obtain ⟨c, -, rfl⟩ := pm_ws_of h
    exact Nat.le_add_right _ _
def pm_tys (dA : Nat → ClassId) : List (ClassId × FieldType) := [(dA 0, .int), (dA 1, .long), (dA 2, .boolean), (dA 3, .object RX4)]
/-- the machine's heap holds the pure heap, from HB's end on, and HB itself -/
def pm_W (D : va_G) (dA : Nat → ClassId) (HB : Heap) (b : Nat) (G : pm_H) (H : Heap) : Prop := H.size = HB.size + G.length ∧ (∀ q : Nat, q < HB.size → H[q]? = HB[q]?) ∧ va_P D vwCl (pm_ws HB.size b dA G) H
def pm_K (D : va_G) (dA : Nat → ClassId) (HB : Heap) (b : Nat) (X : pm_X) (U : State) : Prop := va_K D vwCl (pm_tys dA) U ∧ (∀ r ∈ pm_mthT, 3 ≤ r.2.2.1 → va_Nw (.methodLinkNest (pm_R r.1) r.2.1 r.2.2.2.2.1.2.1 "ClockPlanner") U) ∧ va_AO RX4 U ∧ va_X b X.1 X.2 U HB ∧ b < HB.size
theorem pm_K.warm {D : va_G} {dA : Nat → ClassId} {HB : Heap} {b : Nat} {X : pm_X} {s U : State} (hW : s.WarmedH U.vm) (h : pm_K D dA HB b X s) : pm_K D dA HB b X U := ⟨va_K.moved hW.alike h.1, fun r hr h3 => va_Nw.warmM hW (h.2.1 r hr h3), va_AO.moved hW.alike h.2.2.1, va_X.moved hW.alike h.2.2.2.1, h.2.2.2.2⟩
theorem pm_K.same {D : va_G} {dA : Nat → ClassId} {HB : Heap} {b : Nat} {X : pm_X} {s U : State} (hv : s.vm = U.vm) (h : pm_K D dA HB b X s) : pm_K D dA HB b X U := by
  have ha : s.vm.Alike U.vm := by rw [hv]; exact Vm.Alike.refl U.vm
  exact ⟨va_K.moved ha h.1, fun r hr h3 => va_Nw.same rfl hv (h.2.1 r hr h3), va_AO.moved ha h.2.2.1, va_X.moved ha h.2.2.2.1, h.2.2.2.2⟩
/-- a cell is changed in place -/
theorem pm_W.set {D : va_G} {dA : Nat → ClassId} {HB : Heap} {b : Nat} {G : pm_H} {H H1 : Heap} {i : Nat} {c c' : pm_E} (h : pm_W D dA HB b G H) (hi : G[i]? = some c) (he : va_at D vwCl (HB.size + i, pm_ee HB.size b dA c') H1) (hz : H1.size = H.size) (oq : ∀ q : Nat, q ≠ HB.size + i → H1[q]? = H[q]?) : pm_W D dA HB b (G.set i c') H1 := by
  refine ⟨by rw [hz, h.1, List.length_set], fun q hq => ?_, ?_⟩
  · rw [oq q (by omega)]; exact h.2.1 q hq
  · rw [pm_ws_set]
    exact h.2.2.set pm_ws_D (pm_ws_at hi) he oq
/-- a cell is made -/
theorem pm_W.push {D : va_G} {dA : Nat → ClassId} {HB : Heap} {b : Nat} {G : pm_H} {H H1 : Heap} {c : pm_E} (h : pm_W D dA HB b G H) (he : va_at D vwCl (HB.size + G.length, pm_ee HB.size b dA c) H1) (hz : H1.size = H.size + 1) (oq : ∀ q : Nat, q < H.size → H1[q]? = H[q]?) : pm_W D dA HB b (G ++ [c]) H1 := by
  refine ⟨by rw [hz, h.1, List.length_append]; rfl, fun q hq => ?_, ?_⟩
  · rw [oq q (by rw [h.1]; omega)]; exact h.2.1 q hq
  · rw [pm_ws_app]
    refine va_P.app (h.2.2.kept fun k q hk => oq q.1 ((h.2.2 k q hk).lt)) (fun k q hk => ?_)
    have hz : k < 1 := (List.getElem?_eq_some_iff.mp hk).1
    rw [show k = 0 by omega] at hk
    cases hk
    exact he
/-! locals -/
def pm_lq (B b : Nat) (ls : List Value) (i : Nat) : Option Value := match ls[i]?, ls[i + 1]? with
  | some (.int x), _ => some (.int x)
  | some (.ref x), _ => some (.ref (B + x))
  | some (.float _), _ => some (.ref b)
  | some (.long x), some (.double _) => some (.long x)
  | _, _ => none
def pm_lv (B b : Nat) (ls : List Value) : List (Nat × Value) := (List.range ls.length).filterMap (fun i => (pm_lq B b ls i).map (fun v => (i, v)))
theorem pm_lv_mem {B b : Nat} {ls : List Value} {i : Nat} {v : Value} : (i, v) ∈ pm_lv B b ls ↔ pm_lq B b ls i = some v := by
  unfold pm_lv
  rw [List.mem_filterMap]
  constructor
  · rintro ⟨j, hj, h⟩
    cases hq : pm_lq B b ls j with
    | none => rw [hq] at h; cases h
    | some w => rw [hq] at h; cases h; exact hq
  · intro h
    refine ⟨i, ?_, by rw [h]; rfl⟩
    rw [List.mem_range]
    rcases Nat.lt_or_ge i ls.length with hl | hl
    · exact hl
    · rw [pm_lq, List.getElem?_eq_none hl] at h
      cases h
theorem pm_lv_mono {ls : Array Slot} {n : Nat} {l l' : List (Nat × Value)} (h : lv_has ls n l) (hs : ∀ q ∈ l', q ∈ l) : lv_has ls n l' := ⟨h.1, h.2.1, fun q hq => h.2.2 q (hs q hq)⟩
theorem pm_lv_at {B b : Nat} {arr : Array Slot} {n : Nat} {ls : List Value} {i : Nat} {v : Value} (h : lv_has arr n (pm_lv B b ls)) (hv : pm_lq B b ls i = some v) : arr[i]? = some (.val v) := h.2.2 (i, v) (pm_lv_mem.mpr hv)
theorem pm_lq_int {B b : Nat} {ls : List Value} {i : Nat} {x : Int32} (h : ls[i]? = some (.int x)) : pm_lq B b ls i = some (.int x) := by rw [pm_lq, h]
theorem pm_lq_ref {B b : Nat} {ls : List Value} {i : Nat} {x : Nat} (h : ls[i]? = some (.ref x)) : pm_lq B b ls i = some (.ref (B + x)) := by rw [pm_lq, h]
theorem pm_lq_scr {B b : Nat} {ls : List Value} {i : Nat} {x : UInt32} (h : ls[i]? = some (.float x)) : pm_lq B b ls i = some (.ref b) := by rw [pm_lq, h]
theorem pm_lq_long {B b : Nat} {ls : List Value} {i : Nat} {x : Int64} {u : UInt64} (h : ls[i]? = some (.long x)) (h2 : ls[i + 1]? = some (.double u)) : pm_lq B b ls i = some (.long x) := by rw [pm_lq, h, h2]
/-- storing a value of one slot -/
theorem pm_lv_set {B b : Nat} {arr' : Array Slot} {n : Nat} {ls : List Value} {i : Nat} {v : Value} (hi : i < ls.length) (hv : (∃ x, v = .int x) ∨ ∃ x, v = .ref x) (h : lv_has arr' n ((i, pm_ev B b v) :: (pm_lv B b ls).filter (fun q => !(q.1 == i) && !(q.1 + 1 == i && q.2.category == 2)))) : lv_has arr' n (pm_lv B b (ls.set i v)) := by
  refine pm_lv_mono h fun q hq => ?_
  obtain ⟨j, w⟩ := q
  have hq := pm_lv_mem.mp hq
  by_cases hj : j = i
  · subst hj
    have e : (ls.set j v)[j]? = some v := by simp [hi]
    rcases hv with ⟨x, rfl⟩ | ⟨x, rfl⟩
    · rw [pm_lq_int e] at hq; cases hq; exact List.mem_cons_self
    · rw [pm_lq_ref e] at hq; cases hq; exact List.mem_cons_self
  · refine List.mem_cons_of_mem _ (List.mem_filter.mpr ⟨?_, ?_⟩)
    · refine pm_lv_mem.mpr ?_
      rw [← hq]
      unfold pm_lq
      rw [List.getElem?_set_ne (Ne.symm hj)]
      by_cases h1 : j + 1 = i
      · subst h1
        unfold pm_lq at hq
        rw [List.getElem?_set_ne (Ne.symm hj)] at hq
        have e : (ls.set (j + 1) v)[j + 1]? = some v := by simp [hi]
        rw [e] at hq ⊢
        cases hx : ls[j]? with
        | none => rfl
        | some z =>
          rw [hx] at hq
          cases z with
          | long x => rcases hv with ⟨x, rfl⟩ | ⟨x, rfl⟩ <;> simp at hq
          | _ => rfl
      · rw [List.getElem?_set_ne (Ne.symm h1)]
    · simp only [Bool.and_eq_true, Bool.not_eq_true', beq_eq_false_iff_ne, ne_eq, Bool.and_eq_false_iff]
      refine ⟨hj, ?_⟩
      by_cases h1 : j + 1 = i
      · subst h1
        right
        intro hc
        unfold pm_lq at hq
        rw [List.getElem?_set_ne (Ne.symm hj)] at hq
        have e : (ls.set (j + 1) v)[j + 1]? = some v := by simp [hi]
        rw [e] at hq
        cases hx : ls[j]? with
        | none => rw [hx] at hq; simp at hq
        | some z =>
          rw [hx] at hq
          rcases hv with ⟨x, rfl⟩ | ⟨x, rfl⟩ <;> cases z <;> simp at hq <;> subst hq <;> simp [Value.category] at hc
      · exact Or.inl h1
theorem pm_lv_setL {B b : Nat} {arr' : Array Slot} {n : Nat} {ls : List Value} {i : Nat} {x : Int64} (hi : i + 1 < ls.length) (h : lv_has arr' n ((i, .long x) :: (pm_lv B b ls).filter (fun q => !(q.1 == i) && (!(q.1 == i + 1) && !(q.1 + 1 == i && q.2.category == 2))))) : lv_has arr' n (pm_lv B b ((ls.set i (.long x)).set (i + 1) pm_U)) := by
  have hl0 : i < ls.length := by omega
  refine pm_lv_mono h fun q hq => ?_
  obtain ⟨j, w⟩ := q
  have hq := pm_lv_mem.mp hq
  have g1 : ((ls.set i (.long x)).set (i + 1) pm_U)[i]? = some (.long x) := by rw [List.getElem?_set_ne (by omega)]; simp [hl0]
  have g2 : ((ls.set i (.long x)).set (i + 1) pm_U)[i + 1]? = some pm_U := by simp [hi]
  by_cases hj : j = i
  · subst hj
    rw [pm_lq_long g1 g2] at hq
    cases hq
    exact List.mem_cons_self
  · by_cases hj1 : j = i + 1
    · subst hj1
      unfold pm_lq at hq
      rw [g2] at hq
      simp [pm_U] at hq
    · have g3 : ((ls.set i (.long x)).set (i + 1) pm_U)[j]? = ls[j]? := by rw [List.getElem?_set_ne (by omega), List.getElem?_set_ne (by omega)]
      refine List.mem_cons_of_mem _ (List.mem_filter.mpr ⟨?_, ?_⟩)
      · refine pm_lv_mem.mpr ?_
        rw [← hq]
        unfold pm_lq
        unfold pm_lq at hq
        rw [g3] at hq ⊢
        by_cases h1 : j + 1 = i
        · subst h1
          rw [g1] at hq ⊢
          cases hx : ls[j]? with
          | none => rfl
          | some z =>
            rw [hx] at hq
            cases z with
            | long x => simp at hq
            | _ => rfl
        · rw [List.getElem?_set_ne (by omega), List.getElem?_set_ne (by omega)]
      · simp only [Bool.and_eq_true, Bool.not_eq_true', beq_eq_false_iff_ne, ne_eq, Bool.and_eq_false_iff]
        refine ⟨hj, hj1, ?_⟩
        by_cases h1 : j + 1 = i
        · subst h1
          right
          intro hc
          unfold pm_lq at hq
          rw [g3, g1] at hq
          cases hx : ls[j]? with
          | none => rw [hx] at hq; simp at hq
          | some z => rw [hx] at hq; cases z <;> simp at hq <;> subst hq <;> simp [Value.category] at hc
        · exact Or.inl h1
/-- the locals at a method's begin -/
theorem pm_en_lv (B b : Nat) : ∀ (vs : List Value) (pre : List Value) (n : Nat) (j : Nat) (w : Value), (∀ v ∈ vs, pm_isv v = true) → pre.length ≤ j → pm_lq B b (pre ++ (pm_fl vs ++ List.replicate n pm_U)) j = some w → (j, w) ∈ lv_args pre.length (vs.map (pm_ev B b)) := by
  intro vs
  induction vs with
  | nil =>
    intro pre n j w _ hj h
    exfalso
    unfold pm_lq pm_fl at h
    simp only [List.flatMap_nil, List.nil_append] at h
    rw [List.getElem?_append_right hj] at h
    cases hr : (List.replicate n pm_U)[j - pre.length]? with
    | none => rw [hr] at h; simp at h
    | some z =>
      have := List.eq_of_mem_replicate (List.mem_of_getElem? hr)
      rw [hr, this] at h
      simp [pm_U] at h
  | cons v vs ih =>
    intro pre n j w hvs hj h
    have hv := hvs v List.mem_cons_self
    have hvs' : ∀ v ∈ vs, pm_isv v = true := fun v h => hvs v (List.mem_cons_of_mem _ h)
    by_cases hc : v.category = 2
    · have e : pre ++ (pm_fl (v :: vs) ++ List.replicate n pm_U) = (pre ++ [v, pm_U]) ++ (pm_fl vs ++ List.replicate n pm_U) := by simp [pm_fl, hc]
      rw [List.map_cons, lv_args, pm_ev_cat, if_pos hc]
      rcases Nat.lt_or_ge j (pre.length + 2) with hl | hl
      · rcases (by omega : j = pre.length ∨ j = pre.length + 1) with rfl | rfl
        · rw [e] at h
          unfold pm_lq at h
          have g1 : ((pre ++ [v, pm_U]) ++ (pm_fl vs ++ List.replicate n pm_U))[pre.length]? = some v := by simp
          have g2 : ((pre ++ [v, pm_U]) ++ (pm_fl vs ++ List.replicate n pm_U))[pre.length + 1]? = some pm_U := by simp
          rw [g1, g2] at h
          cases v <;> simp [Value.category] at hc <;> simp [pm_U] at h
          subst h
          exact List.mem_cons_self
        · rw [e] at h
          unfold pm_lq at h
          have g2 : ((pre ++ [v, pm_U]) ++ (pm_fl vs ++ List.replicate n pm_U))[pre.length + 1]? = some pm_U := by simp
          rw [g2] at h
          simp [pm_U] at h
      · rw [e] at h
        have := ih (pre ++ [v, pm_U]) n j w hvs' (by simpa using hl) h
        refine List.mem_cons_of_mem _ ?_
        simpa using this
    · have e : pre ++ (pm_fl (v :: vs) ++ List.replicate n pm_U) = (pre ++ [v]) ++ (pm_fl vs ++ List.replicate n pm_U) := by simp [pm_fl, hc]
      rw [List.map_cons, lv_args, pm_ev_cat, if_neg hc]
      rcases Nat.lt_or_ge j (pre.length + 1) with hl | hl
      · have : j = pre.length := by omega
        subst this
        rw [e] at h
        unfold pm_lq at h
        have g1 : ((pre ++ [v]) ++ (pm_fl vs ++ List.replicate n pm_U))[pre.length]? = some v := by simp
        rw [g1] at h
        cases v <;> simp [Value.category] at hc <;> simp [pm_isv] at hv <;> simp at h <;> subst h <;> exact List.mem_cons_self
      · rw [e] at h
        have := ih (pre ++ [v]) n j w hvs' (by simpa using hl) h
        refine List.mem_cons_of_mem _ ?_
        simpa using this
theorem pm_fl_sl (B b : Nat) (vs : List Value) : (lg_sl (vs.map (pm_ev B b))).length = (pm_fl vs).length := by
  induction vs with
  | nil => rfl
  | cons v vs ih =>
    have e1 : lg_sl ((v :: vs).map (pm_ev B b)) = (if (pm_ev B b v).category = 2 then [.val (pm_ev B b v), .second] else [.val (pm_ev B b v)]) ++ lg_sl (vs.map (pm_ev B b)) := by simp [lg_sl]
    have e2 : pm_fl (v :: vs) = (if v.category = 2 then [v, pm_U] else [v]) ++ pm_fl vs := by simp [pm_fl]
    rw [e1, e2, List.length_append, List.length_append, ih, pm_ev_cat]
    by_cases hc : v.category = 2
    · simp [hc]
    · simp [hc]
theorem pm_en_len {n : Nat} {vs : List Value} (h : (pm_fl vs).length ≤ n) : (pm_en n vs).length = n := by
  unfold pm_en
  rw [List.length_append, List.length_replicate]
  omega
theorem pm_entry {B b n : Nat} {vs : List Value} (hv : ∀ v ∈ vs, pm_isv v = true) (h : (pm_fl vs).length ≤ n) : lv_has ((lg_sl (vs.map (pm_ev B b)) ++ List.replicate (n - (lg_sl (vs.map (pm_ev B b))).length) Slot.unset).toArray) n (pm_lv B b (pm_en n vs)) := by
  refine pm_lv_mono (lv_entry (vs.map (pm_ev B b)) (by rw [pm_fl_sl]; exact h)) fun q hq => ?_
  obtain ⟨j, w⟩ := q
  have := pm_en_lv B b vs [] (n - (pm_fl vs).length) j w hv (Nat.zero_le _) (pm_lv_mem.mp hq)
  exact this
/-! sizes -/
def pm_sz (c : pm_E) : Nat := match c with
  | .inl (_, n, _) => n
  | .inr (c, _) => pm_N c
def pm_sl (G : pm_H) : Nat := (G.map pm_sz).sum
theorem pm_sl_set {G : pm_H} {i : Nat} {c c' : pm_E} (h : G[i]? = some c) (hs : pm_sz c' = pm_sz c) : pm_sl (G.set i c') = pm_sl G := by
  unfold pm_sl
  congr 1
  apply List.ext_getElem?
  intro j
  rw [List.getElem?_map, List.getElem?_map, List.getElem?_set]
  by_cases hj : i = j
  · subst hj
    have hl : i < G.length := (List.getElem?_eq_some_iff.mp h).1
    rw [if_pos rfl, if_pos hl, h]
    simp [hs]
  · rw [if_neg hj]
theorem pm_sl_app {G : pm_H} {c : pm_E} : pm_sl (G ++ [c]) = pm_sl G + pm_sz c := by
  unfold pm_sl
  simp
