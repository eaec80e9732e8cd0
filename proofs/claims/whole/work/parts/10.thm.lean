/-! soundness: what the pure machine comes to, the machine comes to -/
theorem pm_mth_spec {o k kd n : Nat} {z : pm_M} (h : pm_mth o k = some (kd, n, z)) : (∃ ps, (o, k, kd, n, z, ps) ∈ pm_mthT) ∧ pm_cw2 z ∈ pm_g ∧ (kd ≤ 2 → Jvm.Cond.methodLink (pm_R o) k z.2.1 ∈ pm_g) ∧ pm_w2 kd z ∈ pm_g ∧ pm_w3 kd z ∈ pm_g ∧ Jvm.Cond.initialized z.2.1.cls ∈ pm_g ∧ z.2.1.cls = pm_R z.1 ∧ plainName z.2.1.cls = true ∧ z.2.1.cls ≠ "java/lang/invoke/MethodHandle" ∧ z.2.1.cls ≠ "java/lang/invoke/VarHandle" ∧ (parseMethodDescriptor z.2.1.desc).map (fun d => d.parameters.length) = some n ∧ kd < 5 ∧ ((kd < 2 ∨ kd = 3) ∨ (z.2.1.name = "<init>" ∧ z.2.2.2.2 = none)) := by
  unfold pm_mth at h
  cases hf : pm_mthT.find? (fun r => r.1 == o && r.2.1 == k) with
  | none => rw [hf] at h; cases h
  | some r =>
    rw [hf] at h
    obtain ⟨o', k', kd', n', z', ps⟩ := r
    have h1 := List.find?_some hf
    have hm := List.mem_of_find?_eq_some hf
    have h2 := pm_mth_row _ hm
    have h3 := pm_mth_cd _ hm
    simp only [Bool.and_eq_true, beq_iff_eq] at h1
    obtain ⟨rfl, rfl⟩ := h1
    cases h
    unfold pm_row at h2
    simp only [Bool.and_eq_true, Bool.or_eq_true, decide_eq_true_eq] at h2
    obtain ⟨⟨⟨⟨⟨⟨⟨⟨⟨⟨a1, a2⟩, a3⟩, a4⟩, a5⟩, a6⟩, a7⟩, a8⟩, a9⟩, a10⟩, a11⟩ := h2
    have hg2 : ∀ (kd : Nat) (z : pm_M), goodWord (pm_w2 kd z) = true := fun kd z => by unfold pm_w2; split <;> rfl
    refine ⟨⟨ps, hm⟩, List.mem_filter.mpr ⟨h3, rfl⟩, fun hk => ?_, pm_g_of a2 (hg2 _ _), pm_g_of a3 ?_, pm_g_of a4 rfl, a5, a6, a7, a8, a9, a10, a11⟩
    · unfold pm_ml at a1
      rw [if_pos hk] at a1
      exact pm_g_of a1 rfl
    · unfold pm_w3; split
      · rfl
      · exact hg2 _ _
theorem pm_run_grow {X : pm_X} : ∀ (n d : Nat) (y : pm_M) (pc : Nat) (ls st : List Value) (G : pm_H) (r : Option Value) (G' : pm_H), pm_run X n d y pc ls st G = some (r, G') → G.length ≤ G'.length ∧ pm_sl G ≤ pm_sl G' := by
  intro n
  induction n with
  | zero => intro d y pc ls st G r G' h; simp [pm_run] at h
  | succ n ih =>
    intro d y pc ls st G r G' h
    rw [pm_run] at h
    cases hs : pm_at X y pc ls st G with
    | none => rw [hs] at h; simp at h
    | some a =>
      rw [hs] at h
      match a, h, hs with
      | .inl (pc', ls', st', G1), h, hs =>
        have g1 := pm_grow hs
        have g2 := ih _ _ _ _ _ _ _ _ h
        exact ⟨Nat.le_trans g1.1 g2.1, Nat.le_trans g1.2 g2.2⟩
      | .inr (.inr r), h, hs => cases h; exact pm_grow_rf
      | .inr (.inl (z, vs, st')), h, hs =>
        cases d with
        | zero => simp at h
        | succ d =>
          simp only at h
          cases hz : pm_run X n d z 0 (pm_en z.2.2.2.1 vs) [] G with
          | none => rw [hz] at h; simp at h
          | some q =>
            obtain ⟨r1, G1⟩ := q
            rw [hz] at h
            have g1 := ih _ _ _ _ _ _ _ _ hz
            have g2 := ih _ _ _ _ _ _ _ _ h
            exact ⟨Nat.le_trans g1.1 g2.1, Nat.le_trans g1.2 g2.2⟩
def pm_Snd (l : Launch) (D : va_G) (dA : Nat → ClassId) (HB : Heap) (b : Nat) (X : pm_X) (n : Nat) : Prop := ∀ (d : Nat) (y : pm_M) (pc : Nat) (ls st : List Value) (G : pm_H) (r : Option Value) (G' : pm_H), pm_run X n d y pc ls st G = some (r, G') → ∀ (p : Program) (e : Env) (R : Room) (s : State) (m : MethodId) (args : Array Value) (below : List Frame) (meth : Method) (c : Code) (H : Heap) (locs : List Loc) (cells slots : Nat) (Q : State → Prop) (arr : Array Slot),
  pm_Cx D dA HB b X y d p R s m args meth c → lv_has arr y.2.2.2.1 (pm_lv HB.size b ls) → ls.length = y.2.2.2.1 → pm_W D dA HB b G H → (∀ q ∈ locs, HB.size ≤ q.base) → cells + (G'.length - G.length) ≤ R.cells → slots + (pm_sl G' - pm_sl G) ≤ R.slots →
  (∀ (pc' : Nat) (arr' : Array Slot) (H' : Heap) (locs' : List Loc) (st' : List Value), pm_rt y pc' st' r → pm_W D dA HB b G' H' → (∀ q ∈ locs', HB.size ≤ q.base) → W p l e R s m args below meth c H' locs' (cells + (G'.length - G.length)) (slots + (pm_sl G' - pm_sl G)) Q (F0 m pc' arr' (st'.map (pm_ev HB.size b)))) →
  W p l e R s m args below meth c H locs cells slots Q (F0 m pc arr (st.map (pm_ev HB.size b)))
def pm_Qc (D : va_G) (dA : Nat → ClassId) (HB : Heap) (b : Nat) (G' : pm_H) (r : Option Value) : Array Value → State → Outcome → State → Prop := fun _ _ o t => o = .returned (r.map (pm_ev HB.size b)) ∧ pm_W D dA HB b G' t.heap
def pm_rm (d mc ms : Nat) : Room := { frames := d + 1, cells := mc, slots := ms, locals := 60 * d + 60 }
theorem pm_met {l : Launch} {D : va_G} {dA : Nat → ClassId} {HB : Heap} {b : Nat} {X : pm_X} {n : Nat} (ih : pm_Snd l D dA HB b X n) {d : Nat} {z : pm_M} {vs : List Value} {G G' : pm_H} {r : Option Value} (h : pm_run X n d z 0 (pm_en z.2.2.2.1 vs) [] G = some (r, G')) (hcls : z.2.1.cls = pm_R z.1) (hpl : plainName z.2.1.cls = true) (hvs : ∀ v ∈ vs, pm_isv v = true) (hfl : (pm_fl vs).length ≤ z.2.2.2.1) :
    Met l z.2.1 (pm_cw2 z :: pm_g) (pm_rm d (G'.length - G.length) (pm_sl G' - pm_sl G)) (va_Pc (vs.map (pm_ev HB.size b)) (fun U => pm_W D dA HB b G U.heap ∧ pm_K D dA HB b X U)) (pm_Qc D dA HB b G' r) (G'.length - G.length) (pm_sl G' - pm_sl G) (fun q => HB.size ≤ q) := by
  refine Met.ofW (cc := z.2.2.1) (maxL := z.2.2.2.1) (ret := z.2.2.2.2) hpl rfl ?_
  intro p e s m args below meth c s₁ B hml hv
  obtain ⟨rfl, hW, hK⟩ := hv
  have hx := B.exec
  have hb := B.bytes
  have hr := B.returns
  have hts := atoms_spec (ws := pm_cw2 z :: pm_g) B.pre
  have hown : s.vm.findClass (pm_R z.1) = some m.cls := by rw [← hcls]; exact findClass_of_methodNamed B.named
  have hlocks := B.notSynchronized
  have hnm : z.2.1.name = "<init>" → meth.name = "<init>" := fun h => (name_of_methodNamed B.named B.method).1.trans h
  rw [lg_entry_eq]
  have hl := pm_entry (B := HB.size) (b := b) hvs hfl
  generalize (lg_sl (vs.map (pm_ev HB.size b)) ++ List.replicate (z.2.2.2.1 - (lg_sl (vs.map (pm_ev HB.size b))).length) Slot.unset).toArray = arr at hl ⊢
  refine ih d z 0 _ [] G r G' h p e _ s m _ below meth c s.heap [] 0 0 _ arr ⟨hx, hb, hml, hown, fun w hw => hts w (List.mem_cons_of_mem _ hw), hnm, hK, Nat.le_refl _, Nat.le_refl _⟩ hl (pm_en_len hfl) hW (fun _ h => by cases h) (by rw [Nat.zero_add]; exact Nat.le_refl _) (by rw [Nat.zero_add]; exact Nat.le_refl _) ?_
  intro pc' arr' H' locs' st' hrt hW' hL'
  rw [Nat.zero_add, Nat.zero_add]
  rcases hrt with ⟨v, hd, rfl, rfl, hret⟩ | ⟨v, hd, rfl, rfl, hret⟩ | ⟨hd, rfl, rfl, hret⟩
  · rcases hret with hret | ⟨hret, hv⟩
    · exact W.iret hx hb (hr.trans hret) (fun t ht _ => ⟨rfl, by rw [ht]; exact hW'⟩) hL' hd
    · refine W.zret hx hb (hr.trans hret) ?_ (fun t ht _ => ⟨rfl, by rw [ht]; exact hW'⟩) hL' hd
      rcases hv with rfl | rfl <;> rfl
  · exact W.lret hx hb (hr.trans hret) (fun t ht _ => ⟨rfl, by rw [ht]; exact hW'⟩) hL' hd
  · exact W.vret hx hb (hr.trans hret) (fun t ht _ => ⟨rfl, by rw [ht]; exact hW'⟩) hL' hd
/-- behind a call -/
theorem pm_back {l : Launch} {D : va_G} {dA : Nat → ClassId} {HB : Heap} {b : Nat} {p : Program} {e : Env} {R : Room} {s : State} {m : MethodId} {args : Array Value} {below : List Frame} {meth : Method} {c : Code} {H : Heap} {locs : List Loc} {cells slots mc ms : Nat} {Q : State → Prop} {pc : Nat} {arr : Array Slot} {st0 rest : List Value} {a : Array Value} {G1 : pm_H} {r : Option Value}
    (hr : va_Run p l e R s m args below meth c H locs cells slots mc ms (F0 m pc arr st0) rest (pm_Qc D dA HB b G1 r a) (fun q => HB.size ≤ q)) (hL : ∀ q ∈ locs, HB.size ≤ q.base)
    (kk : ∀ (H1 : Heap) (locs1 : List Loc), pm_W D dA HB b G1 H1 → (∀ q ∈ locs1, HB.size ≤ q.base) → W p l e R s m args below meth c H1 locs1 (cells + mc) (slots + ms) Q (F0 m (pc + 3) arr ((r.map (pm_ev HB.size b)).toList ++ rest))) : W p l e R s m args below meth c H locs cells slots Q (F0 m pc arr st0) := by
  intro T hT X
  obtain ⟨v, st₀, t, T', L, h0, X', hL', e1, e2, ⟨hv, hW⟩, st⟩ := hr T hT X
  cases hv
  obtain ⟨t2, a1, b1⟩ := kk T'.heap (locs ++ L) (by rw [e1]; exact hW) (fun q hq => by
    rcases List.mem_append.mp hq with h | h
    · exact hL q h
    · exact hL' q h) T' rfl X'
  exact ⟨t2, st t2 a1, b1⟩
theorem pm_good {z : pm_M} (h : pm_cw2 z ∈ pm_g) : GoodIn pm_g (pm_cw2 z :: pm_g) := fun w hw => by
  have hm : w ∈ pm_g := by
    rcases List.mem_cons.mp hw with rfl | hw
    · exact h
    · exact hw
  exact ⟨hm, good_of_word (List.mem_filter.mp hm).2⟩
theorem pm_callW {l : Launch} {D : va_G} {dA : Nat → ClassId} {HB : Heap} {b : Nat} {X : pm_X} {n : Nat} (ih : pm_Snd l D dA HB b X n) {d : Nat} {y z : pm_M} {p : Program} {e : Env} {R : Room} {s : State} {m : MethodId} {args : Array Value} {below : List Frame} {meth : Method} {c : Code} {H : Heap} {locs : List Loc} {cells slots : Nat} {Q : State → Prop} {pc : Nat} {arr : Array Slot} {ls st vs st' : List Value} {G G1 : pm_H} {r : Option Value}
    (hc : pm_cl y pc st G z vs st') (h : pm_run X n d z 0 (pm_en z.2.2.2.1 vs) [] G = some (r, G1)) (C : pm_Cx D dA HB b X y (d + 1) p R s m args meth c) (hl : lv_has arr y.2.2.2.1 (pm_lv HB.size b ls)) (hW : pm_W D dA HB b G H) (hL : ∀ q ∈ locs, HB.size ≤ q.base) (hcc : cells + (G1.length - G.length) ≤ R.cells) (hss : slots + (pm_sl G1 - pm_sl G) ≤ R.slots)
    (kk : ∀ (H1 : Heap) (locs1 : List Loc), pm_W D dA HB b G1 H1 → (∀ q ∈ locs1, HB.size ≤ q.base) → W p l e R s m args below meth c H1 locs1 (cells + (G1.length - G.length)) (slots + (pm_sl G1 - pm_sl G)) Q (F0 m (pc + 3) arr ((r.toList ++ st').map (pm_ev HB.size b)))) : W p l e R s m args below meth c H locs cells slots Q (F0 m pc arr (st.map (pm_ev HB.size b))) := by
  obtain ⟨k, kd, na, hm, hvs, hfl, h40, hcat, hcase⟩ := hc
  obtain ⟨⟨ps, hrow⟩, w1, w2, w3, w4, w5, w6, w7, w8, w9, w10, w11, w12⟩ := pm_mth_spec hm
  obtain ⟨hx, hb, hml, hown, hts, hnm, hK, hfr, hlo⟩ := id C
  have hM := pm_met ih h w6 w7 hvs hfl
  have hroom : (pm_rm d (G1.length - G.length) (pm_sl G1 - pm_sl G)).frames + 1 ≤ R.frames ∧ 8 + (z.2.2.2.1 + 11) + (pm_rm d (G1.length - G.length) (pm_sl G1 - pm_sl G)).locals ≤ R.locals := by
    show d + 1 + 1 ≤ R.frames ∧ 8 + (z.2.2.2.1 + 11) + (60 * d + 60) ≤ R.locals
    omega
  have hpre : FrameBlind (va_Pc (vs.map (pm_ev HB.size b)) (fun U => pm_W D dA HB b G U.heap ∧ pm_K D dA HB b X U)) := fun a U g mk q => ⟨q.1, q.2.1, pm_K.same rfl q.2.2⟩
  have hcat' : ∀ st1 : List Value, 2 * (F0 m pc arr st1).monitorRoom + ((st'.map (pm_ev HB.size b)).map fun v => v.category).sum ≤ 8 := fun st1 => lv_room (by rw [pm_ev_cats]; exact hcat)
  have fin : ∀ st1 : List Value, va_Run p l e R s m args below meth c H locs cells slots (G1.length - G.length) (pm_sl G1 - pm_sl G) (F0 m pc arr st1) (st'.map (pm_ev HB.size b)) (pm_Qc D dA HB b G1 r (vs.map (pm_ev HB.size b)).toArray) (fun q => HB.size ≤ q) → W p l e R s m args below meth c H locs cells slots Q (F0 m pc arr st1) := fun st1 hr => pm_back hr hL (fun H1 locs1 a1 a2 => by
    have := kk H1 locs1 a1 a2
    rw [List.map_append] at this
    cases r with
    | none => exact this
    | some v => exact this)
  rcases hcase with ⟨a, As, fs, hk, hn, rfl, rfl, hG, h8⟩ | ⟨hk, hd, hn, rfl⟩
  · have hst : (As.reverse ++ Value.ref a :: st').map (pm_ev HB.size b) = (As.map (pm_ev HB.size b)).reverse ++ Value.ref (HB.size + a) :: st'.map (pm_ev HB.size b) := by simp [pm_ev]
    rw [hst]
    rcases hk with ⟨rfl, hd⟩ | ⟨hk, hd⟩
    · have e2 : pm_w2 0 z = .instanceMethod z.2.1 := rfl
      have e3 : pm_w3 0 z = .selects z.2.1.cls z.2.1 z.2.1 := rfl
      rw [e2] at w3
      rw [e3] at w4
      have hcw := callB_of (R := R) (own := pm_R y.1) (index := k) na hts (pm_good w1) rfl (rfl : (pm_rm d (G1.length - G.length) (pm_sl G1 - pm_sl G)).cells = _) rfl (hts _ w5) (hts _ (w2 (by decide))) ⟨w8, w9, w10⟩ hroom
      refine fin _ (va_runV (C := z.2.1.cls) (As := As.map (pm_ev HB.size b)) (b := HB.size + a) ⟨hx, hb, hml, hown, hts⟩ hM ⟨hcw, hts _ w3, hts _ w4⟩ ⟨hpre, ?_, fun U hU hWm => ⟨rfl, by rw [hU]; exact hW, hK.warm hWm⟩⟩ rfl (by rw [List.length_map]; exact hn) hl.1 rfl (hcat' _) hd ⟨hcc, hss⟩)
      rw [w6]
      exact va_recv hK.1 hW.2.2 (pm_cl_at z.1 h8) (pm_ws_at hG)
    · have hi : z.2.1.name = "<init>" ∧ z.2.2.2.2 = none := by
        rcases w12 with h | h
        · omega
        · exact h
      have e2 : pm_w2 kd z = .instanceMethod z.2.1 := by unfold pm_w2; rw [if_neg (by omega)]
      rw [e2] at w3
      rcases hk with rfl | rfl
      · have hcw := callB_of (R := R) (own := pm_R y.1) (index := k) na hts (pm_good w1) rfl (rfl : (pm_rm d (G1.length - G.length) (pm_sl G1 - pm_sl G)).cells = _) rfl (hts _ w5) (hts _ (w2 (by decide))) ⟨w8, w9, w10⟩ hroom
        rw [hi.2] at hcw
        exact fin _ (va_runI (As := As.map (pm_ev HB.size b)) (b := HB.size + a) ⟨hx, hb, hml, hown, hts⟩ hM ⟨hcw, hi.1, hts _ w3⟩ ⟨hpre, fun U hU hWm => ⟨rfl, by rw [hU]; exact hW, hK.warm hWm⟩⟩ rfl (by rw [List.length_map]; exact hn) hl.1 rfl (hcat' _) hd ⟨hcc, hss⟩)
      · have hnest : va_Nw (.methodLinkNest (pm_R y.1) k z.2.1 "ClockPlanner") s := hK.2.1 (y.1, k, 4, na, z, ps) hrow (by show 3 ≤ 4; decide)
        have hcw := va_cnB (R := R) (own := pm_R y.1) (host := "ClockPlanner") (index := k) na hts (pm_good w1) rfl (rfl : (pm_rm d (G1.length - G.length) (pm_sl G1 - pm_sl G)).cells = _) rfl hnest (hts _ w5) ⟨w8, w9, w10⟩ hroom
        rw [hi.2] at hcw
        exact fin _ (va_runIN (As := As.map (pm_ev HB.size b)) (b := HB.size + a) ⟨hx, hb, hml, hown, hts⟩ hM ⟨hcw, hi.1, hts _ w3⟩ ⟨hpre, fun U hU hWm => ⟨rfl, by rw [hU]; exact hW, hK.warm hWm⟩⟩ rfl (by rw [List.length_map]; exact hn) hl.1 rfl (hcat' _) hd ⟨hcc, hss⟩)
  · have hst : (vs.reverse ++ st').map (pm_ev HB.size b) = (vs.map (pm_ev HB.size b)).reverse ++ st'.map (pm_ev HB.size b) := by simp
    rw [hst]
    have e2 : pm_w2 kd z = .static z.2.1 := by unfold pm_w2; rw [if_pos hk]
    rw [e2] at w3
    rcases hk with rfl | rfl
    · have hcw := callB_of (R := R) (own := pm_R y.1) (index := k) na hts (pm_good w1) rfl (rfl : (pm_rm d (G1.length - G.length) (pm_sl G1 - pm_sl G)).cells = _) rfl (hts _ w5) (hts _ (w2 (by decide))) ⟨w8, w9, w10⟩ hroom
      exact fin _ (va_runS (As := vs.map (pm_ev HB.size b)) ⟨hx, hb, hml, hown, hts⟩ hM ⟨hcw, hts _ w3⟩ ⟨hpre, fun U hU hWm => ⟨rfl, by rw [hU]; exact hW, hK.warm hWm⟩⟩ rfl (by rw [List.length_map]; exact hn) hl.1 rfl (hcat' _) hd ⟨hcc, hss⟩)
    · have hnest : va_Nw (.methodLinkNest (pm_R y.1) k z.2.1 "ClockPlanner") s := hK.2.1 (y.1, k, 3, na, z, ps) hrow (by show 3 ≤ 3; decide)
      have hcw := va_cnB (R := R) (own := pm_R y.1) (host := "ClockPlanner") (index := k) na hts (pm_good w1) rfl (rfl : (pm_rm d (G1.length - G.length) (pm_sl G1 - pm_sl G)).cells = _) rfl hnest (hts _ w5) ⟨w8, w9, w10⟩ hroom
      exact fin _ (va_runSN (As := vs.map (pm_ev HB.size b)) ⟨hx, hb, hml, hown, hts⟩ hM ⟨hcw, hts _ w3, trivial⟩ ⟨hpre, fun U hU hWm => ⟨rfl, by rw [hU]; exact hW, hK.warm hWm⟩⟩ rfl (by rw [List.length_map]; exact hn) hl.1 rfl (hcat' _) hd ⟨hcc, hss⟩)
theorem pm_sound (l : Launch) (D : va_G) (dA : Nat → ClassId) (HB : Heap) (b : Nat) (X : pm_X) : ∀ n, pm_Snd l D dA HB b X n := by
  intro n
  induction n with
  | zero => intro d y pc ls st G r G' h; simp [pm_run] at h
  | succ n ih =>
    intro d y pc ls st G r G' h p e R s m args below meth c H locs cells slots Q arr C hl hn hW hL hc hs hret
    rw [pm_run] at h
    cases hst : pm_at X y pc ls st G with
    | none => rw [hst] at h; simp at h
    | some a =>
      rw [hst] at h
      match a, h, hst with
      | .inl (pc', ls', st', G1), h, hst =>
        have g1 := pm_grow hst
        have g2 := pm_run_grow _ _ _ _ _ _ _ _ _ h
        refine pm_next hst C hl hn hW hL (by omega) (by omega) (fun H' locs' arr' hl' hn' hW' hL' => ?_)
        refine ih d y pc' ls' st' G1 r G' h p e R s m args below meth c H' locs' _ _ Q arr' C hl' hn' hW' hL' (by omega) (by omega) ?_
        rw [show cells + (G1.length - G.length) + (G'.length - G1.length) = cells + (G'.length - G.length) by omega, show slots + (pm_sl G1 - pm_sl G) + (pm_sl G' - pm_sl G1) = slots + (pm_sl G' - pm_sl G) by omega]
        exact hret
      | .inr (.inr r), h, hst =>
        cases h
        exact W.widen (Nat.le_add_right _ _) (Nat.le_add_right _ _) (hret pc arr H locs st (pm_ret_inv hst) hW hL)
      | .inr (.inl (z, vs, st')), h, hst =>
        cases d with
        | zero => simp at h
        | succ d =>
          simp only at h
          cases hz : pm_run X n d z 0 (pm_en z.2.2.2.1 vs) [] G with
          | none => rw [hz] at h; simp at h
          | some q =>
            obtain ⟨r1, G1⟩ := q
            rw [hz] at h
            have g1 := pm_run_grow _ _ _ _ _ _ _ _ _ hz
            have g2 := pm_run_grow _ _ _ _ _ _ _ _ _ h
            refine pm_callW ih (pm_call_inv hst) hz C hl hW hL (by omega) (by omega) (fun H1 locs1 hW1 hL1 => ?_)
            refine ih (d + 1) y (pc + 3) ls (r1.toList ++ st') G1 r G' h p e R s m args below meth c H1 locs1 _ _ Q arr C hl hn hW1 hL1 (by omega) (by omega) ?_
            rw [show cells + (G1.length - G.length) + (G'.length - G1.length) = cells + (G'.length - G.length) by omega, show slots + (pm_sl G1 - pm_sl G) + (pm_sl G' - pm_sl G1) = slots + (pm_sl G' - pm_sl G) by omega]
            exact hret
