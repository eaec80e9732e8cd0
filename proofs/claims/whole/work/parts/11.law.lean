/-! THE CLAIM OUT OF ONE WALK OF THE LAW'S BODY. Your part is whole_start (and what it stands on); all else here is the same for every law, but numbers. -/
def R_law : String := "ClockPlannerLaw"
def lw_P (b : Addr) (xs : List Int32) (args : Array Value) (s : State) : Prop := args = #[.ref b] ∧ s.IntsAt b xs ∧ xs.length ≤ 3584 ∧ (Jvm.Cond.and given_1 narrow_1).before args s = true
def lw_Q (_ : Array Value) (s : State) (o : Outcome) (t : State) : Prop := o = .returned (some (.int 1)) ∧ Framed s o t [] 600000 7302249
def lw_Z (below : List Frame) (a : Array Value) (s : State) : State → Prop := fun t => ∃ o, t.status = .running ∧ Ended t below o ∧ lw_Q a s o t
/-- the law's own end, with 1 on the stack, nothing written that was there before, its room as the claim has it -/
theorem lw_ret {p : Program} {l : Launch} {e : Env} {s : State} {m : MethodId} {below : List Frame} {meth : Method} {c : Code} {b : Nat} (hx : p.tables.exec = Jvm.exec) (hb : c.code = code) (hr : meth.sig.returnType = ret) (hlocks : meth.locks = false) {pc : Nat} {H : Heap} {ls : Array Slot} (hdg : decode code pc = .ok (.ireturn, 1)) : W p l e room_1 s m #[Value.ref b] below meth c H [] 600000 7302249 (lw_Z below #[Value.ref b] s) (F0 m pc ls [.int 1]) := by
  intro T hT X
  obtain ⟨fs, hret, hrun, hended, hW, hframe⟩ := X.leave (v := some (.int 1)) (hlocks := hlocks) (fun h => by rw [hr] at h; cases h)
  have hmeth' : T.vm.method? m = some meth := X.method'
  refine ⟨T.setFrames fs, ?_, .returned (some (.int 1)), hrun, hended, rfl, ⟨_, rfl⟩, hW, hframe⟩
  jvm_step X.here [X.here.top, hx, hb, hdg, hmeth', hr, ret, narrow_b1]
  (try refine ⟨rfl, ?_⟩); (try refine ⟨rfl, ?_⟩)
  first | (intro acts; rw [hret _ acts rfl rfl rfl]) | rw [hret _ _ rfl rfl rfl]
  exact Steps.refl _
/-- what holds at the law's entry: the machine, the code, the tables' words (any of lw_tbl by 'hts w (by decide +kernel)'), the script of L ints xs at the cell b, what the Statement gives of the start (any of its parts by flat_of_before) -/
def lw_At (p : Program) (s : State) (m : MethodId) (meth : Method) (c : Code) (b L : Nat) (xs : Nat → Int32) : Prop :=
  p.tables.exec = Jvm.exec ∧ c.code = code ∧ meth.sig.returnType = ret ∧ c.maxLocals = 4 ∧ s.vm.findClass R_law = some m.cls ∧ (∀ w ∈ lw_tbl, w.before #[Value.ref b] s = true) ∧ va_X b L xs s s.heap ∧ b < s.heap.size ∧ meth.locks = false ∧ (Jvm.Cond.and given_1 narrow_1).before #[Value.ref b] s = true
theorem pm_inst : ∀ ci, ci < 8 → Jvm.Cond.instantiable (pm_R ci) (pm_N ci) ∈ lw_tbl := by decide +kernel

theorem pm_start {p : Program} {s : State} {m : MethodId} {meth : Method} {c : Code} {b L : Nat} {xs : Nat → Int32} (C0 : lw_At p s m meth c b L xs) : ∃ (D : va_G) (dA : Nat → ClassId), pm_K D dA s.heap b (L, xs) s := by
  obtain ⟨hx, hb, hr, hml, hown, hts, hX, hbl, hlocks, hgv⟩ := id C0
  have kn : ∀ ci, ci < 8 → ∃ (cC : ClassId) (iS : Nat → Nat), u_Kn s (pm_R ci) (pm_T ci) (pm_N ci) cC iS := fun ci h => by
    have hin : ∀ w ∈ u_ws (pm_R ci) (pm_T ci) (pm_N ci), w ∈ lw_tbl := fun w hw => (pm_lay_in ci h w hw).1
    exact u_known (n := pm_N ci) hts hin (hts _ (pm_inst ci h))
  have kn2 : ∀ ci, ∃ (cC : ClassId) (iS : Nat → Nat), ci < 8 → u_Kn s (pm_R ci) (pm_T ci) (pm_N ci) cC iS := fun ci => by
    by_cases h : ci < 8
    · obtain ⟨cC, iS, hk⟩ := kn ci h
      exact ⟨cC, iS, fun _ => hk⟩
    · exact ⟨0, fun _ => 0, fun q => absurd q h⟩
  have ar : ∀ ty : FieldType, Jvm.Cond.arrayClass ty ∈ lw_tbl → ∃ cA : ClassId, s.vm.findClass ("[" ++ ty.toString) = some cA ∧ ArrOfT s cA ty := fun ty h => by
    obtain ⟨cA, kA, comp, h1, h2, h3⟩ := Cond.arrayClass_spec (hts _ h)
    exact ⟨cA, h1, fun n z => ⟨fun k h => (by cases h), kA, h2, comp, h3⟩⟩
  obtain ⟨c0, a0, b0⟩ := ar .int (List.mem_filter.mp pm_arr0).1
  obtain ⟨c1, a1, b1⟩ := ar .long (List.mem_filter.mp pm_arr1).1
  obtain ⟨c2, a2, b2⟩ := ar .boolean (List.mem_filter.mp pm_arr2).1
  have hao : (Jvm.Cond.arrayOver (.object RX4)).before #[Value.ref b] s = true := hts _ (List.mem_of_getElem? (i := 254) (by decide +kernel))
  obtain ⟨comp, c3, kA, f1, -, f2, f3, f4⟩ := Cond.arrayOver_spec hao
  refine ⟨(fun ci => Classical.choose (kn2 ci), fun ci => Classical.choose (Classical.choose_spec (kn2 ci))), (fun t => match t with | 0 => c0 | 1 => c1 | 2 => c2 | _ => c3), ⟨fun ci q hq => ?_, fun k q hq => ?_⟩, fun r hr h3 => ?_, va_AO.of hao, hX, hbl⟩
  · have h8 : ci < 8 := (List.getElem?_eq_some_iff.mp hq).1
    rw [pm_cl_at ci h8] at hq
    cases hq
    exact Classical.choose_spec (Classical.choose_spec (kn2 ci)) h8
  · have hk : k < 4 := (List.getElem?_eq_some_iff.mp hq).1
    match k, hk, hq with
    | 0, _, hq => cases hq; exact ⟨b0, a0⟩
    | 1, _, hq => cases hq; exact ⟨b1, a1⟩
    | 2, _, hq => cases hq; exact ⟨b2, a2⟩
    | 3, _, hq => cases hq; exact ⟨fun n z => ⟨fun k h => (by cases h), kA, f2, comp, f3⟩, kA, comp, f2, f3, f1, f4⟩
  · have h2 := pm_mth_row r hr
    obtain ⟨o, k, kd, n, z, ps⟩ := r
    unfold pm_row at h2
    simp only [Bool.and_eq_true, Bool.or_eq_true, decide_eq_true_eq] at h2
    have a1 := h2.1.1.1.1.1.1.1.1.1.1
    unfold pm_ml at a1
    rw [if_neg (by show ¬ kd ≤ 2; have : 3 ≤ kd := h3; omega)] at a1
    exact va_Nw.of rfl (hts _ (List.mem_of_getElem? a1))
/-- what is left: on every script the pure machine ends the law with 1 -/
def pm_Law : Prop := ∀ (L : Nat) (xs : Nat → Int32), L ≤ 3584 → pm_wp (L, xs) 60 mL_law 0 [.float 0, pm_U, pm_U, pm_U] [] [] (fun r G' => r = some (.int 1) ∧ G'.length ≤ 600000 ∧ pm_sl G' ≤ 7302249)
theorem pm_whole (HL : pm_Law) {p : Program} {e : Env} {s : State} {m : MethodId} {below : List Frame} {meth : Method} {c : Code} (l : Launch) {b L : Nat} {xs : Nat → Int32} (hL : L ≤ 3584) (C0 : lw_At p s m meth c b L xs) : W p l e room_1 s m #[Value.ref b] below meth c s.heap [] 0 0 (lw_Z below #[Value.ref b] s) (entryFrame m ([Value.ref b] : List Value).toArray 4) := by
  obtain ⟨D, dA, hK⟩ := pm_start C0
  obtain ⟨hx, hb, hr, hml, hown, hts, hX, hbl, hlocks, hgv⟩ := id C0
  obtain ⟨n, r, G', hrun, rfl, hc, hs⟩ := HL L xs hL
  have hl := lv_entry ([.ref b]) (n := 4) (Nat.le_of_ble_eq_true rfl)
  rw [lg_entry_eq]
  generalize (lg_sl ([.ref b]) ++ List.replicate (4 - (lg_sl ([.ref b])).length) Slot.unset).toArray = arr at hl ⊢
  have hl2 : lv_has arr 4 (pm_lv s.heap.size b [.float 0, pm_U, pm_U, pm_U]) := hl
  have hW : pm_W D dA s.heap b [] s.heap := ⟨rfl, fun _ _ => rfl, fun k q h => by simp [pm_ws] at h⟩
  refine pm_sound l D dA s.heap b (L, xs) n 60 mL_law 0 _ [] [] _ G' hrun p e room_1 s m _ below meth c s.heap [] 0 0 _ arr ⟨hx, hb, hml, hown, fun w hw => hts w (List.mem_filter.mp hw).1, fun h => absurd h (by decide +kernel), hK, Nat.le_of_ble_eq_true rfl, Nat.le_of_ble_eq_true rfl⟩ hl2 rfl hW (fun _ h => by cases h) ?_ ?_ ?_
  · show 0 + (G'.length - 0) ≤ 600000
    omega
  · show 0 + (pm_sl G' - 0) ≤ 7302249
    omega
  intro pc' arr' H' locs' st' hrt hW' hL'
  rcases hrt with ⟨v, hd, rfl, hv, -⟩ | ⟨v, hd, rfl, hv, -⟩ | ⟨hd, rfl, hv, -⟩
  · cases hv
    refine va_forget hL' ?_
    refine W.widen (k := 600000) (n := 7302249) (by show 0 + (G'.length - 0) ≤ 600000; omega) (by show 0 + (pm_sl G' - 0) ≤ 7302249; omega) ?_
    exact lw_ret hx hb hr hlocks hd
  · cases hv
  · cases hv
