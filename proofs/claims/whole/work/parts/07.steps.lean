/-! the steps that go on in the same method -/
def pm_Cx (D : va_G) (dA : Nat → ClassId) (HB : Heap) (b : Nat) (X : pm_X) (y : pm_M) (d : Nat) (p : Program) (R : Room) (s : State) (m : MethodId) (args : Array Value) (meth : Method) (c : Code) : Prop :=
  p.tables.exec = Jvm.exec ∧ c.code = y.2.2.1 ∧ c.maxLocals = y.2.2.2.1 ∧ s.vm.findClass (pm_R y.1) = some m.cls ∧ (∀ w ∈ pm_g, w.before args s = true) ∧ (y.2.1.name = "<init>" → meth.name = "<init>") ∧ pm_K D dA HB b X s ∧ d + 1 ≤ R.frames ∧ 60 * d + 60 ≤ R.locals
theorem pm_nx_inv {pc pc' : Nat} {ls ls' st st' : List Value} {G G' : pm_H} (h : pm_nx pc ls st G = some (.inl (pc', ls', st', G'))) : pc = pc' ∧ ls = ls' ∧ st = st' ∧ G = G' := by
  simp only [pm_nx, Option.some.injEq, Sum.inl.injEq, Prod.mk.injEq] at h
  exact h
theorem pm_go_inv {pc pc' : Nat} {off : Int} {ls ls' st st' : List Value} {G G' : pm_H} (h : pm_go pc off ls st G = some (.inl (pc', ls', st', G'))) : (pc : Int) + off = (pc' : Int) ∧ ls = ls' ∧ st = st' ∧ G = G' := by
  unfold pm_go at h
  split at h
  · obtain ⟨h1, h2⟩ := pm_nx_inv h
    exact ⟨by omega, h2⟩
  · cases h
theorem pm_br_inv {t : Bool} {pc pc' : Nat} {off : Int} {ls ls' st st' : List Value} {G G' : pm_H} (h : pm_br t pc off ls st G = some (.inl (pc', ls', st', G'))) : (pc : Int) + off = ((((pc : Int) + off).toNat : Nat) : Int) ∧ ls = ls' ∧ st = st' ∧ G = G' ∧ ((t = true ∧ ((pc : Int) + off).toNat = pc') ∨ (t = false ∧ pc + 3 = pc')) := by
  unfold pm_br at h
  split at h
  next h0 =>
    cases t with
    | true => obtain ⟨h1, h2, h3, h4⟩ := pm_nx_inv h; exact ⟨by omega, h2, h3, h4, Or.inl ⟨rfl, h1⟩⟩
    | false => obtain ⟨h1, h2, h3, h4⟩ := pm_nx_inv h; exact ⟨by omega, h2, h3, h4, Or.inr ⟨rfl, h1⟩⟩
  next => cases h
theorem pm_bi_inv {f : Int32 → Int32 → Int32} {pc pc' : Nat} {ls ls' st st' : List Value} {G G' : pm_H} (h : pm_bi f pc ls st G = some (.inl (pc', ls', st', G'))) : ∃ x y r, st = .int y :: .int x :: r ∧ pc + 1 = pc' ∧ ls = ls' ∧ .int (f x y) :: r = st' ∧ G = G' := by
  unfold pm_bi at h
  split at h
  next y x r => exact ⟨x, y, r, rfl, pm_nx_inv h⟩
  next => cases h
theorem pm_bl_inv {f : Int64 → Int64 → Int64} {ok : Int64 → Bool} {pc pc' : Nat} {ls ls' st st' : List Value} {G G' : pm_H} (h : pm_bl f ok pc ls st G = some (.inl (pc', ls', st', G'))) : ∃ x y r, st = .long y :: .long x :: r ∧ ok y = true ∧ pc + 1 = pc' ∧ ls = ls' ∧ .long (f x y) :: r = st' ∧ G = G' := by
  unfold pm_bl at h
  split at h
  next y x r =>
    split at h
    next ho => exact ⟨x, y, r, rfl, ho, pm_nx_inv h⟩
    next => cases h
  next => cases h
theorem pm_ld_inv {ls : List Value} {k : Nat} {v : Value} (h : pm_ld ls k = some v) : ∃ x, ls[k]? = some (.int x) ∧ .int x = v := by
  unfold pm_ld at h
  split at h
  next x hx => exact ⟨x, hx, Option.some.inj h⟩
  next => cases h
theorem pm_ll_inv {ls : List Value} {k : Nat} {v : Int64} (h : pm_ll ls k = some v) : ∃ u, ls[k]? = some (.long v) ∧ ls[k + 1]? = some (.double u) := by
  unfold pm_ll at h
  split at h
  next x u hx hu => cases h; exact ⟨u, hx, hu⟩
  next => cases h
theorem pm_la_inv {ls : List Value} {k : Nat} {v : Value} (h : pm_la ls k = some v) : (∃ x, ls[k]? = some (.ref x) ∧ .ref x = v) ∨ ∃ x, ls[k]? = some (.float x) ∧ .float x = v := by
  unfold pm_la at h
  split at h
  next x hx => exact Or.inl ⟨x, hx, Option.some.inj h⟩
  next x hx => exact Or.inr ⟨x, hx, Option.some.inj h⟩
  next => cases h
theorem pm_gf_inv {G : pm_H} {a ci k : Nat} {v : Value} (h : pm_gf G a ci k = some v) : ∃ fs, G[a]? = some (.inr (ci, fs)) ∧ fs[k]? = some v := by
  unfold pm_gf at h
  split at h
  next c fs hx =>
    split at h
    next hc => subst hc; exact ⟨fs, hx, h⟩
    next => cases h
  next => cases h
theorem pm_pf_inv {G G' : pm_H} {a ci k : Nat} {v : Value} (h : pm_pf G a ci k v = some G') : ∃ fs, G[a]? = some (.inr (ci, fs)) ∧ k < fs.length ∧ G.set a (.inr (ci, fs.set k v)) = G' := by
  unfold pm_pf at h
  split at h
  next c fs hx =>
    split at h
    next hc => obtain ⟨rfl, hk⟩ := hc; exact ⟨fs, hx, hk, Option.some.inj h⟩
    next => cases h
  next => cases h
theorem pm_ai_inv {G : pm_H} {t a n : Nat} {f : Nat → Int32} (h : pm_ai G t a = some (n, f)) : G[a]? = some (.inl (t, n, .inl f)) := by
  unfold pm_ai at h
  split at h
  next t' n' f' hx =>
    split at h
    next hc => subst hc; cases h; exact hx
    next => cases h
  next => cases h
theorem pm_al_inv {G : pm_H} {a n : Nat} {f : Nat → Int64} (h : pm_al G a = some (n, f)) : G[a]? = some (.inl (1, n, .inr (.inl f))) := by
  unfold pm_al at h
  split at h
  next t' n' f' hx =>
    split at h
    next hc => subst hc; cases h; exact hx
    next => cases h
  next => cases h
theorem pm_aq_inv {G : pm_H} {a n : Nat} {f : Nat → Option Nat} (h : pm_aq G a = some (n, f)) : G[a]? = some (.inl (3, n, .inr (.inr (.inr (.inr f))))) := by
  unfold pm_aq at h
  split at h
  next t' n' f' hx =>
    split at h
    next hc => subst hc; cases h; exact hx
    next => cases h
  next => cases h
theorem pm_ev_rf (B b : Nat) (q : Nat) : va_rf ((some q).map (fun q => B + q)) = pm_ev B b (.ref q) := rfl

theorem pm_n_iconst {l : Launch} {D : va_G} {dA : Nat → ClassId} {HB : Heap} {b : Nat} {X : pm_X} {y : pm_M} {d : Nat} {p : Program} {e : Env} {R : Room} {s : State} {m : MethodId} {args : Array Value} {below : List Frame} {meth : Method} {c : Code} {H : Heap} {locs : List Loc} {cells slots : Nat} {Q : State → Prop} {pc pc' : Nat} {ls ls' st st' : List Value} {G G' : pm_H} {arr : Array Slot} {n : Int} (hd : decode y.2.2.1 pc = .ok ((.iconst n), 1)) (h : pm_step X y (.iconst n) pc ls st G = some (.inl (pc', ls', st', G'))) (C : pm_Cx D dA HB b X y d p R s m args meth c) (hl : lv_has arr y.2.2.2.1 (pm_lv HB.size b ls)) (hn : ls.length = y.2.2.2.1) (hW : pm_W D dA HB b G H) (hL : ∀ q ∈ locs, HB.size ≤ q.base) (hc : cells + (G'.length - G.length) ≤ R.cells) (hs : slots + (pm_sl G' - pm_sl G) ≤ R.slots)
    (kk : ∀ (H' : Heap) (locs' : List Loc) (arr' : Array Slot), lv_has arr' y.2.2.2.1 (pm_lv HB.size b ls') → ls'.length = y.2.2.2.1 → pm_W D dA HB b G' H' → (∀ q ∈ locs', HB.size ≤ q.base) → W p l e R s m args below meth c H' locs' (cells + (G'.length - G.length)) (slots + (pm_sl G' - pm_sl G)) Q (F0 m pc' arr' (st'.map (pm_ev HB.size b)))) : W p l e R s m args below meth c H locs cells slots Q (F0 m pc arr (st.map (pm_ev HB.size b))) := by
  obtain ⟨hx, hb, hml, hown, hts, hnm, hK, hfr, hlo⟩ := id C
  simp only [pm_step] at h
  obtain ⟨rfl, rfl, rfl, rfl⟩ := pm_nx_inv h
  refine lv_iconst hx hb hd rfl ?_
  exact W.widen (Nat.le_add_right _ _) (Nat.le_add_right _ _) (kk H locs arr hl hn hW hL)
theorem pm_n_bipush {l : Launch} {D : va_G} {dA : Nat → ClassId} {HB : Heap} {b : Nat} {X : pm_X} {y : pm_M} {d : Nat} {p : Program} {e : Env} {R : Room} {s : State} {m : MethodId} {args : Array Value} {below : List Frame} {meth : Method} {c : Code} {H : Heap} {locs : List Loc} {cells slots : Nat} {Q : State → Prop} {pc pc' : Nat} {ls ls' st st' : List Value} {G G' : pm_H} {arr : Array Slot} {n : Int} (hd : decode y.2.2.1 pc = .ok ((.bipush n), 2)) (h : pm_step X y (.bipush n) pc ls st G = some (.inl (pc', ls', st', G'))) (C : pm_Cx D dA HB b X y d p R s m args meth c) (hl : lv_has arr y.2.2.2.1 (pm_lv HB.size b ls)) (hn : ls.length = y.2.2.2.1) (hW : pm_W D dA HB b G H) (hL : ∀ q ∈ locs, HB.size ≤ q.base) (hc : cells + (G'.length - G.length) ≤ R.cells) (hs : slots + (pm_sl G' - pm_sl G) ≤ R.slots)
    (kk : ∀ (H' : Heap) (locs' : List Loc) (arr' : Array Slot), lv_has arr' y.2.2.2.1 (pm_lv HB.size b ls') → ls'.length = y.2.2.2.1 → pm_W D dA HB b G' H' → (∀ q ∈ locs', HB.size ≤ q.base) → W p l e R s m args below meth c H' locs' (cells + (G'.length - G.length)) (slots + (pm_sl G' - pm_sl G)) Q (F0 m pc' arr' (st'.map (pm_ev HB.size b)))) : W p l e R s m args below meth c H locs cells slots Q (F0 m pc arr (st.map (pm_ev HB.size b))) := by
  obtain ⟨hx, hb, hml, hown, hts, hnm, hK, hfr, hlo⟩ := id C
  simp only [pm_step] at h
  obtain ⟨rfl, rfl, rfl, rfl⟩ := pm_nx_inv h
  refine lv_bipush hx hb hd rfl ?_
  exact W.widen (Nat.le_add_right _ _) (Nat.le_add_right _ _) (kk H locs arr hl hn hW hL)
theorem pm_n_sipush {l : Launch} {D : va_G} {dA : Nat → ClassId} {HB : Heap} {b : Nat} {X : pm_X} {y : pm_M} {d : Nat} {p : Program} {e : Env} {R : Room} {s : State} {m : MethodId} {args : Array Value} {below : List Frame} {meth : Method} {c : Code} {H : Heap} {locs : List Loc} {cells slots : Nat} {Q : State → Prop} {pc pc' : Nat} {ls ls' st st' : List Value} {G G' : pm_H} {arr : Array Slot} {n : Int} (hd : decode y.2.2.1 pc = .ok ((.sipush n), 3)) (h : pm_step X y (.sipush n) pc ls st G = some (.inl (pc', ls', st', G'))) (C : pm_Cx D dA HB b X y d p R s m args meth c) (hl : lv_has arr y.2.2.2.1 (pm_lv HB.size b ls)) (hn : ls.length = y.2.2.2.1) (hW : pm_W D dA HB b G H) (hL : ∀ q ∈ locs, HB.size ≤ q.base) (hc : cells + (G'.length - G.length) ≤ R.cells) (hs : slots + (pm_sl G' - pm_sl G) ≤ R.slots)
    (kk : ∀ (H' : Heap) (locs' : List Loc) (arr' : Array Slot), lv_has arr' y.2.2.2.1 (pm_lv HB.size b ls') → ls'.length = y.2.2.2.1 → pm_W D dA HB b G' H' → (∀ q ∈ locs', HB.size ≤ q.base) → W p l e R s m args below meth c H' locs' (cells + (G'.length - G.length)) (slots + (pm_sl G' - pm_sl G)) Q (F0 m pc' arr' (st'.map (pm_ev HB.size b)))) : W p l e R s m args below meth c H locs cells slots Q (F0 m pc arr (st.map (pm_ev HB.size b))) := by
  obtain ⟨hx, hb, hml, hown, hts, hnm, hK, hfr, hlo⟩ := id C
  simp only [pm_step] at h
  obtain ⟨rfl, rfl, rfl, rfl⟩ := pm_nx_inv h
  refine lv_sipush hx hb hd rfl ?_
  exact W.widen (Nat.le_add_right _ _) (Nat.le_add_right _ _) (kk H locs arr hl hn hW hL)
theorem pm_n_lconst {l : Launch} {D : va_G} {dA : Nat → ClassId} {HB : Heap} {b : Nat} {X : pm_X} {y : pm_M} {d : Nat} {p : Program} {e : Env} {R : Room} {s : State} {m : MethodId} {args : Array Value} {below : List Frame} {meth : Method} {c : Code} {H : Heap} {locs : List Loc} {cells slots : Nat} {Q : State → Prop} {pc pc' : Nat} {ls ls' st st' : List Value} {G G' : pm_H} {arr : Array Slot} {n : Fin 2} (hd : decode y.2.2.1 pc = .ok ((.lconst n), 1)) (h : pm_step X y (.lconst n) pc ls st G = some (.inl (pc', ls', st', G'))) (C : pm_Cx D dA HB b X y d p R s m args meth c) (hl : lv_has arr y.2.2.2.1 (pm_lv HB.size b ls)) (hn : ls.length = y.2.2.2.1) (hW : pm_W D dA HB b G H) (hL : ∀ q ∈ locs, HB.size ≤ q.base) (hc : cells + (G'.length - G.length) ≤ R.cells) (hs : slots + (pm_sl G' - pm_sl G) ≤ R.slots)
    (kk : ∀ (H' : Heap) (locs' : List Loc) (arr' : Array Slot), lv_has arr' y.2.2.2.1 (pm_lv HB.size b ls') → ls'.length = y.2.2.2.1 → pm_W D dA HB b G' H' → (∀ q ∈ locs', HB.size ≤ q.base) → W p l e R s m args below meth c H' locs' (cells + (G'.length - G.length)) (slots + (pm_sl G' - pm_sl G)) Q (F0 m pc' arr' (st'.map (pm_ev HB.size b)))) : W p l e R s m args below meth c H locs cells slots Q (F0 m pc arr (st.map (pm_ev HB.size b))) := by
  obtain ⟨hx, hb, hml, hown, hts, hnm, hK, hfr, hlo⟩ := id C
  simp only [pm_step] at h
  obtain ⟨rfl, rfl, rfl, rfl⟩ := pm_nx_inv h
  refine lv_lconst hx hb hd rfl ?_
  exact W.widen (Nat.le_add_right _ _) (Nat.le_add_right _ _) (kk H locs arr hl hn hW hL)
theorem pm_n_ldc {l : Launch} {D : va_G} {dA : Nat → ClassId} {HB : Heap} {b : Nat} {X : pm_X} {y : pm_M} {d : Nat} {p : Program} {e : Env} {R : Room} {s : State} {m : MethodId} {args : Array Value} {below : List Frame} {meth : Method} {c : Code} {H : Heap} {locs : List Loc} {cells slots : Nat} {Q : State → Prop} {pc pc' : Nat} {ls ls' st st' : List Value} {G G' : pm_H} {arr : Array Slot} {k : Nat} (hd : decode y.2.2.1 pc = .ok ((.ldc k), 2)) (h : pm_step X y (.ldc k) pc ls st G = some (.inl (pc', ls', st', G'))) (C : pm_Cx D dA HB b X y d p R s m args meth c) (hl : lv_has arr y.2.2.2.1 (pm_lv HB.size b ls)) (hn : ls.length = y.2.2.2.1) (hW : pm_W D dA HB b G H) (hL : ∀ q ∈ locs, HB.size ≤ q.base) (hc : cells + (G'.length - G.length) ≤ R.cells) (hs : slots + (pm_sl G' - pm_sl G) ≤ R.slots)
    (kk : ∀ (H' : Heap) (locs' : List Loc) (arr' : Array Slot), lv_has arr' y.2.2.2.1 (pm_lv HB.size b ls') → ls'.length = y.2.2.2.1 → pm_W D dA HB b G' H' → (∀ q ∈ locs', HB.size ≤ q.base) → W p l e R s m args below meth c H' locs' (cells + (G'.length - G.length)) (slots + (pm_sl G' - pm_sl G)) Q (F0 m pc' arr' (st'.map (pm_ev HB.size b)))) : W p l e R s m args below meth c H locs cells slots Q (F0 m pc arr (st.map (pm_ev HB.size b))) := by
  obtain ⟨hx, hb, hml, hown, hts, hnm, hK, hfr, hlo⟩ := id C
  simp only [pm_step] at h
  split at h
  next v hv =>
    obtain ⟨rfl, rfl, rfl, rfl⟩ := pm_nx_inv h
    obtain ⟨q, hq⟩ := pm_cst_spec hv
    refine lv_ldc hx hb hown (hts _ (pm_g_of hq rfl)) hd ?_
    exact W.widen (Nat.le_add_right _ _) (Nat.le_add_right _ _) (kk H locs arr hl hn hW hL)
  next => cases h
theorem pm_n_ldc_w {l : Launch} {D : va_G} {dA : Nat → ClassId} {HB : Heap} {b : Nat} {X : pm_X} {y : pm_M} {d : Nat} {p : Program} {e : Env} {R : Room} {s : State} {m : MethodId} {args : Array Value} {below : List Frame} {meth : Method} {c : Code} {H : Heap} {locs : List Loc} {cells slots : Nat} {Q : State → Prop} {pc pc' : Nat} {ls ls' st st' : List Value} {G G' : pm_H} {arr : Array Slot} {k : Nat} (hd : decode y.2.2.1 pc = .ok ((.ldc_w k), 3)) (h : pm_step X y (.ldc_w k) pc ls st G = some (.inl (pc', ls', st', G'))) (C : pm_Cx D dA HB b X y d p R s m args meth c) (hl : lv_has arr y.2.2.2.1 (pm_lv HB.size b ls)) (hn : ls.length = y.2.2.2.1) (hW : pm_W D dA HB b G H) (hL : ∀ q ∈ locs, HB.size ≤ q.base) (hc : cells + (G'.length - G.length) ≤ R.cells) (hs : slots + (pm_sl G' - pm_sl G) ≤ R.slots)
    (kk : ∀ (H' : Heap) (locs' : List Loc) (arr' : Array Slot), lv_has arr' y.2.2.2.1 (pm_lv HB.size b ls') → ls'.length = y.2.2.2.1 → pm_W D dA HB b G' H' → (∀ q ∈ locs', HB.size ≤ q.base) → W p l e R s m args below meth c H' locs' (cells + (G'.length - G.length)) (slots + (pm_sl G' - pm_sl G)) Q (F0 m pc' arr' (st'.map (pm_ev HB.size b)))) : W p l e R s m args below meth c H locs cells slots Q (F0 m pc arr (st.map (pm_ev HB.size b))) := by
  obtain ⟨hx, hb, hml, hown, hts, hnm, hK, hfr, hlo⟩ := id C
  simp only [pm_step] at h
  split at h
  next v hv =>
    obtain ⟨rfl, rfl, rfl, rfl⟩ := pm_nx_inv h
    obtain ⟨q, hq⟩ := pm_cst_spec hv
    refine lv_ldcw hx hb hown (hts _ (pm_g_of hq rfl)) hd ?_
    exact W.widen (Nat.le_add_right _ _) (Nat.le_add_right _ _) (kk H locs arr hl hn hW hL)
  next => cases h
theorem pm_n_ldc2_w {l : Launch} {D : va_G} {dA : Nat → ClassId} {HB : Heap} {b : Nat} {X : pm_X} {y : pm_M} {d : Nat} {p : Program} {e : Env} {R : Room} {s : State} {m : MethodId} {args : Array Value} {below : List Frame} {meth : Method} {c : Code} {H : Heap} {locs : List Loc} {cells slots : Nat} {Q : State → Prop} {pc pc' : Nat} {ls ls' st st' : List Value} {G G' : pm_H} {arr : Array Slot} {k : Nat} (hd : decode y.2.2.1 pc = .ok ((.ldc2_w k), 3)) (h : pm_step X y (.ldc2_w k) pc ls st G = some (.inl (pc', ls', st', G'))) (C : pm_Cx D dA HB b X y d p R s m args meth c) (hl : lv_has arr y.2.2.2.1 (pm_lv HB.size b ls)) (hn : ls.length = y.2.2.2.1) (hW : pm_W D dA HB b G H) (hL : ∀ q ∈ locs, HB.size ≤ q.base) (hc : cells + (G'.length - G.length) ≤ R.cells) (hs : slots + (pm_sl G' - pm_sl G) ≤ R.slots)
    (kk : ∀ (H' : Heap) (locs' : List Loc) (arr' : Array Slot), lv_has arr' y.2.2.2.1 (pm_lv HB.size b ls') → ls'.length = y.2.2.2.1 → pm_W D dA HB b G' H' → (∀ q ∈ locs', HB.size ≤ q.base) → W p l e R s m args below meth c H' locs' (cells + (G'.length - G.length)) (slots + (pm_sl G' - pm_sl G)) Q (F0 m pc' arr' (st'.map (pm_ev HB.size b)))) : W p l e R s m args below meth c H locs cells slots Q (F0 m pc arr (st.map (pm_ev HB.size b))) := by
  obtain ⟨hx, hb, hml, hown, hts, hnm, hK, hfr, hlo⟩ := id C
  simp only [pm_step] at h
  split at h
  next v hv =>
    obtain ⟨rfl, rfl, rfl, rfl⟩ := pm_nx_inv h
    obtain ⟨q, hq⟩ := pm_cst_spec hv
    refine lv_ldc2 hx hb hown (hts _ (pm_g_of hq rfl)) hd ?_
    exact W.widen (Nat.le_add_right _ _) (Nat.le_add_right _ _) (kk H locs arr hl hn hW hL)
  next => cases h
theorem pm_n_iload_n {l : Launch} {D : va_G} {dA : Nat → ClassId} {HB : Heap} {b : Nat} {X : pm_X} {y : pm_M} {d : Nat} {p : Program} {e : Env} {R : Room} {s : State} {m : MethodId} {args : Array Value} {below : List Frame} {meth : Method} {c : Code} {H : Heap} {locs : List Loc} {cells slots : Nat} {Q : State → Prop} {pc pc' : Nat} {ls ls' st st' : List Value} {G G' : pm_H} {arr : Array Slot} {k : Fin 4} (hd : decode y.2.2.1 pc = .ok ((.iload_n k), 1)) (h : pm_step X y (.iload_n k) pc ls st G = some (.inl (pc', ls', st', G'))) (C : pm_Cx D dA HB b X y d p R s m args meth c) (hl : lv_has arr y.2.2.2.1 (pm_lv HB.size b ls)) (hn : ls.length = y.2.2.2.1) (hW : pm_W D dA HB b G H) (hL : ∀ q ∈ locs, HB.size ≤ q.base) (hc : cells + (G'.length - G.length) ≤ R.cells) (hs : slots + (pm_sl G' - pm_sl G) ≤ R.slots)
    (kk : ∀ (H' : Heap) (locs' : List Loc) (arr' : Array Slot), lv_has arr' y.2.2.2.1 (pm_lv HB.size b ls') → ls'.length = y.2.2.2.1 → pm_W D dA HB b G' H' → (∀ q ∈ locs', HB.size ≤ q.base) → W p l e R s m args below meth c H' locs' (cells + (G'.length - G.length)) (slots + (pm_sl G' - pm_sl G)) Q (F0 m pc' arr' (st'.map (pm_ev HB.size b)))) : W p l e R s m args below meth c H locs cells slots Q (F0 m pc arr (st.map (pm_ev HB.size b))) := by
  obtain ⟨hx, hb, hml, hown, hts, hnm, hK, hfr, hlo⟩ := id C
  simp only [pm_step] at h
  split at h
  next v hv =>
    obtain ⟨rfl, rfl, rfl, rfl⟩ := pm_nx_inv h
    obtain ⟨x, hx1, rfl⟩ := pm_ld_inv hv
    refine lv_iload_n hx hb hd rfl (pm_lv_at hl (pm_lq_int hx1)) ?_
    exact W.widen (Nat.le_add_right _ _) (Nat.le_add_right _ _) (kk H locs arr hl hn hW hL)
  next => cases h
theorem pm_n_iload {l : Launch} {D : va_G} {dA : Nat → ClassId} {HB : Heap} {b : Nat} {X : pm_X} {y : pm_M} {d : Nat} {p : Program} {e : Env} {R : Room} {s : State} {m : MethodId} {args : Array Value} {below : List Frame} {meth : Method} {c : Code} {H : Heap} {locs : List Loc} {cells slots : Nat} {Q : State → Prop} {pc pc' : Nat} {ls ls' st st' : List Value} {G G' : pm_H} {arr : Array Slot} {k : Nat} (hd : decode y.2.2.1 pc = .ok ((.iload k), 2)) (h : pm_step X y (.iload k) pc ls st G = some (.inl (pc', ls', st', G'))) (C : pm_Cx D dA HB b X y d p R s m args meth c) (hl : lv_has arr y.2.2.2.1 (pm_lv HB.size b ls)) (hn : ls.length = y.2.2.2.1) (hW : pm_W D dA HB b G H) (hL : ∀ q ∈ locs, HB.size ≤ q.base) (hc : cells + (G'.length - G.length) ≤ R.cells) (hs : slots + (pm_sl G' - pm_sl G) ≤ R.slots)
    (kk : ∀ (H' : Heap) (locs' : List Loc) (arr' : Array Slot), lv_has arr' y.2.2.2.1 (pm_lv HB.size b ls') → ls'.length = y.2.2.2.1 → pm_W D dA HB b G' H' → (∀ q ∈ locs', HB.size ≤ q.base) → W p l e R s m args below meth c H' locs' (cells + (G'.length - G.length)) (slots + (pm_sl G' - pm_sl G)) Q (F0 m pc' arr' (st'.map (pm_ev HB.size b)))) : W p l e R s m args below meth c H locs cells slots Q (F0 m pc arr (st.map (pm_ev HB.size b))) := by
  obtain ⟨hx, hb, hml, hown, hts, hnm, hK, hfr, hlo⟩ := id C
  simp only [pm_step] at h
  split at h
  next v hv =>
    obtain ⟨rfl, rfl, rfl, rfl⟩ := pm_nx_inv h
    obtain ⟨x, hx1, rfl⟩ := pm_ld_inv hv
    refine lv_iload hx hb hd (pm_lv_at hl (pm_lq_int hx1)) ?_
    exact W.widen (Nat.le_add_right _ _) (Nat.le_add_right _ _) (kk H locs arr hl hn hW hL)
  next => cases h
theorem pm_n_lload_n {l : Launch} {D : va_G} {dA : Nat → ClassId} {HB : Heap} {b : Nat} {X : pm_X} {y : pm_M} {d : Nat} {p : Program} {e : Env} {R : Room} {s : State} {m : MethodId} {args : Array Value} {below : List Frame} {meth : Method} {c : Code} {H : Heap} {locs : List Loc} {cells slots : Nat} {Q : State → Prop} {pc pc' : Nat} {ls ls' st st' : List Value} {G G' : pm_H} {arr : Array Slot} {k : Fin 4} (hd : decode y.2.2.1 pc = .ok ((.lload_n k), 1)) (h : pm_step X y (.lload_n k) pc ls st G = some (.inl (pc', ls', st', G'))) (C : pm_Cx D dA HB b X y d p R s m args meth c) (hl : lv_has arr y.2.2.2.1 (pm_lv HB.size b ls)) (hn : ls.length = y.2.2.2.1) (hW : pm_W D dA HB b G H) (hL : ∀ q ∈ locs, HB.size ≤ q.base) (hc : cells + (G'.length - G.length) ≤ R.cells) (hs : slots + (pm_sl G' - pm_sl G) ≤ R.slots)
    (kk : ∀ (H' : Heap) (locs' : List Loc) (arr' : Array Slot), lv_has arr' y.2.2.2.1 (pm_lv HB.size b ls') → ls'.length = y.2.2.2.1 → pm_W D dA HB b G' H' → (∀ q ∈ locs', HB.size ≤ q.base) → W p l e R s m args below meth c H' locs' (cells + (G'.length - G.length)) (slots + (pm_sl G' - pm_sl G)) Q (F0 m pc' arr' (st'.map (pm_ev HB.size b)))) : W p l e R s m args below meth c H locs cells slots Q (F0 m pc arr (st.map (pm_ev HB.size b))) := by
  obtain ⟨hx, hb, hml, hown, hts, hnm, hK, hfr, hlo⟩ := id C
  simp only [pm_step] at h
  split at h
  next v hv =>
    obtain ⟨rfl, rfl, rfl, rfl⟩ := pm_nx_inv h
    obtain ⟨u, hx1, hx2⟩ := pm_ll_inv hv
    refine lv_lload_n hx hb hd rfl (pm_lv_at hl (pm_lq_long hx1 hx2)) ?_
    exact W.widen (Nat.le_add_right _ _) (Nat.le_add_right _ _) (kk H locs arr hl hn hW hL)
  next => cases h
theorem pm_n_lload {l : Launch} {D : va_G} {dA : Nat → ClassId} {HB : Heap} {b : Nat} {X : pm_X} {y : pm_M} {d : Nat} {p : Program} {e : Env} {R : Room} {s : State} {m : MethodId} {args : Array Value} {below : List Frame} {meth : Method} {c : Code} {H : Heap} {locs : List Loc} {cells slots : Nat} {Q : State → Prop} {pc pc' : Nat} {ls ls' st st' : List Value} {G G' : pm_H} {arr : Array Slot} {k : Nat} (hd : decode y.2.2.1 pc = .ok ((.lload k), 2)) (h : pm_step X y (.lload k) pc ls st G = some (.inl (pc', ls', st', G'))) (C : pm_Cx D dA HB b X y d p R s m args meth c) (hl : lv_has arr y.2.2.2.1 (pm_lv HB.size b ls)) (hn : ls.length = y.2.2.2.1) (hW : pm_W D dA HB b G H) (hL : ∀ q ∈ locs, HB.size ≤ q.base) (hc : cells + (G'.length - G.length) ≤ R.cells) (hs : slots + (pm_sl G' - pm_sl G) ≤ R.slots)
    (kk : ∀ (H' : Heap) (locs' : List Loc) (arr' : Array Slot), lv_has arr' y.2.2.2.1 (pm_lv HB.size b ls') → ls'.length = y.2.2.2.1 → pm_W D dA HB b G' H' → (∀ q ∈ locs', HB.size ≤ q.base) → W p l e R s m args below meth c H' locs' (cells + (G'.length - G.length)) (slots + (pm_sl G' - pm_sl G)) Q (F0 m pc' arr' (st'.map (pm_ev HB.size b)))) : W p l e R s m args below meth c H locs cells slots Q (F0 m pc arr (st.map (pm_ev HB.size b))) := by
  obtain ⟨hx, hb, hml, hown, hts, hnm, hK, hfr, hlo⟩ := id C
  simp only [pm_step] at h
  split at h
  next v hv =>
    obtain ⟨rfl, rfl, rfl, rfl⟩ := pm_nx_inv h
    obtain ⟨u, hx1, hx2⟩ := pm_ll_inv hv
    refine lv_lload hx hb hd (pm_lv_at hl (pm_lq_long hx1 hx2)) ?_
    exact W.widen (Nat.le_add_right _ _) (Nat.le_add_right _ _) (kk H locs arr hl hn hW hL)
  next => cases h
theorem pm_n_aload_n {l : Launch} {D : va_G} {dA : Nat → ClassId} {HB : Heap} {b : Nat} {X : pm_X} {y : pm_M} {d : Nat} {p : Program} {e : Env} {R : Room} {s : State} {m : MethodId} {args : Array Value} {below : List Frame} {meth : Method} {c : Code} {H : Heap} {locs : List Loc} {cells slots : Nat} {Q : State → Prop} {pc pc' : Nat} {ls ls' st st' : List Value} {G G' : pm_H} {arr : Array Slot} {k : Fin 4} (hd : decode y.2.2.1 pc = .ok ((.aload_n k), 1)) (h : pm_step X y (.aload_n k) pc ls st G = some (.inl (pc', ls', st', G'))) (C : pm_Cx D dA HB b X y d p R s m args meth c) (hl : lv_has arr y.2.2.2.1 (pm_lv HB.size b ls)) (hn : ls.length = y.2.2.2.1) (hW : pm_W D dA HB b G H) (hL : ∀ q ∈ locs, HB.size ≤ q.base) (hc : cells + (G'.length - G.length) ≤ R.cells) (hs : slots + (pm_sl G' - pm_sl G) ≤ R.slots)
    (kk : ∀ (H' : Heap) (locs' : List Loc) (arr' : Array Slot), lv_has arr' y.2.2.2.1 (pm_lv HB.size b ls') → ls'.length = y.2.2.2.1 → pm_W D dA HB b G' H' → (∀ q ∈ locs', HB.size ≤ q.base) → W p l e R s m args below meth c H' locs' (cells + (G'.length - G.length)) (slots + (pm_sl G' - pm_sl G)) Q (F0 m pc' arr' (st'.map (pm_ev HB.size b)))) : W p l e R s m args below meth c H locs cells slots Q (F0 m pc arr (st.map (pm_ev HB.size b))) := by
  obtain ⟨hx, hb, hml, hown, hts, hnm, hK, hfr, hlo⟩ := id C
  simp only [pm_step] at h
  split at h
  next v hv =>
    obtain ⟨rfl, rfl, rfl, rfl⟩ := pm_nx_inv h
    rcases pm_la_inv hv with ⟨x, hx1, rfl⟩ | ⟨x, hx1, rfl⟩
    · refine lv_aload_n hx hb hd rfl (pm_lv_at hl (pm_lq_ref hx1)) ?_
      exact W.widen (Nat.le_add_right _ _) (Nat.le_add_right _ _) (kk H locs arr hl hn hW hL)
    · refine lv_aload_n hx hb hd rfl (pm_lv_at hl (pm_lq_scr hx1)) ?_
      exact W.widen (Nat.le_add_right _ _) (Nat.le_add_right _ _) (kk H locs arr hl hn hW hL)
  next => cases h
theorem pm_n_aload {l : Launch} {D : va_G} {dA : Nat → ClassId} {HB : Heap} {b : Nat} {X : pm_X} {y : pm_M} {d : Nat} {p : Program} {e : Env} {R : Room} {s : State} {m : MethodId} {args : Array Value} {below : List Frame} {meth : Method} {c : Code} {H : Heap} {locs : List Loc} {cells slots : Nat} {Q : State → Prop} {pc pc' : Nat} {ls ls' st st' : List Value} {G G' : pm_H} {arr : Array Slot} {k : Nat} (hd : decode y.2.2.1 pc = .ok ((.aload k), 2)) (h : pm_step X y (.aload k) pc ls st G = some (.inl (pc', ls', st', G'))) (C : pm_Cx D dA HB b X y d p R s m args meth c) (hl : lv_has arr y.2.2.2.1 (pm_lv HB.size b ls)) (hn : ls.length = y.2.2.2.1) (hW : pm_W D dA HB b G H) (hL : ∀ q ∈ locs, HB.size ≤ q.base) (hc : cells + (G'.length - G.length) ≤ R.cells) (hs : slots + (pm_sl G' - pm_sl G) ≤ R.slots)
    (kk : ∀ (H' : Heap) (locs' : List Loc) (arr' : Array Slot), lv_has arr' y.2.2.2.1 (pm_lv HB.size b ls') → ls'.length = y.2.2.2.1 → pm_W D dA HB b G' H' → (∀ q ∈ locs', HB.size ≤ q.base) → W p l e R s m args below meth c H' locs' (cells + (G'.length - G.length)) (slots + (pm_sl G' - pm_sl G)) Q (F0 m pc' arr' (st'.map (pm_ev HB.size b)))) : W p l e R s m args below meth c H locs cells slots Q (F0 m pc arr (st.map (pm_ev HB.size b))) := by
  obtain ⟨hx, hb, hml, hown, hts, hnm, hK, hfr, hlo⟩ := id C
  simp only [pm_step] at h
  split at h
  next v hv =>
    obtain ⟨rfl, rfl, rfl, rfl⟩ := pm_nx_inv h
    rcases pm_la_inv hv with ⟨x, hx1, rfl⟩ | ⟨x, hx1, rfl⟩
    · refine lv_aload hx hb hd (pm_lv_at hl (pm_lq_ref hx1)) ?_
      exact W.widen (Nat.le_add_right _ _) (Nat.le_add_right _ _) (kk H locs arr hl hn hW hL)
    · refine lv_aload hx hb hd (pm_lv_at hl (pm_lq_scr hx1)) ?_
      exact W.widen (Nat.le_add_right _ _) (Nat.le_add_right _ _) (kk H locs arr hl hn hW hL)
  next => cases h
theorem pm_n_istore_n {l : Launch} {D : va_G} {dA : Nat → ClassId} {HB : Heap} {b : Nat} {X : pm_X} {y : pm_M} {d : Nat} {p : Program} {e : Env} {R : Room} {s : State} {m : MethodId} {args : Array Value} {below : List Frame} {meth : Method} {c : Code} {H : Heap} {locs : List Loc} {cells slots : Nat} {Q : State → Prop} {pc pc' : Nat} {ls ls' st st' : List Value} {G G' : pm_H} {arr : Array Slot} {k : Fin 4} (hd : decode y.2.2.1 pc = .ok ((.istore_n k), 1)) (h : pm_step X y (.istore_n k) pc ls st G = some (.inl (pc', ls', st', G'))) (C : pm_Cx D dA HB b X y d p R s m args meth c) (hl : lv_has arr y.2.2.2.1 (pm_lv HB.size b ls)) (hn : ls.length = y.2.2.2.1) (hW : pm_W D dA HB b G H) (hL : ∀ q ∈ locs, HB.size ≤ q.base) (hc : cells + (G'.length - G.length) ≤ R.cells) (hs : slots + (pm_sl G' - pm_sl G) ≤ R.slots)
    (kk : ∀ (H' : Heap) (locs' : List Loc) (arr' : Array Slot), lv_has arr' y.2.2.2.1 (pm_lv HB.size b ls') → ls'.length = y.2.2.2.1 → pm_W D dA HB b G' H' → (∀ q ∈ locs', HB.size ≤ q.base) → W p l e R s m args below meth c H' locs' (cells + (G'.length - G.length)) (slots + (pm_sl G' - pm_sl G)) Q (F0 m pc' arr' (st'.map (pm_ev HB.size b)))) : W p l e R s m args below meth c H locs cells slots Q (F0 m pc arr (st.map (pm_ev HB.size b))) := by
  obtain ⟨hx, hb, hml, hown, hts, hnm, hK, hfr, hlo⟩ := id C
  simp only [pm_step] at h
  split at h
  next x r =>
    split at h
    next hk =>
      obtain ⟨rfl, rfl, rfl, rfl⟩ := pm_nx_inv h
      refine lv_istore_n hx hb hd rfl hl (by omega) rfl (fun arr' hl' => ?_)
      exact W.widen (Nat.le_add_right _ _) (Nat.le_add_right _ _) (kk H locs arr' (pm_lv_set (v := .int x) hk (Or.inl ⟨_, rfl⟩) hl') (by simpa using hn) hW hL)
    next => cases h
  next => cases h
theorem pm_n_istore {l : Launch} {D : va_G} {dA : Nat → ClassId} {HB : Heap} {b : Nat} {X : pm_X} {y : pm_M} {d : Nat} {p : Program} {e : Env} {R : Room} {s : State} {m : MethodId} {args : Array Value} {below : List Frame} {meth : Method} {c : Code} {H : Heap} {locs : List Loc} {cells slots : Nat} {Q : State → Prop} {pc pc' : Nat} {ls ls' st st' : List Value} {G G' : pm_H} {arr : Array Slot} {k : Nat} (hd : decode y.2.2.1 pc = .ok ((.istore k), 2)) (h : pm_step X y (.istore k) pc ls st G = some (.inl (pc', ls', st', G'))) (C : pm_Cx D dA HB b X y d p R s m args meth c) (hl : lv_has arr y.2.2.2.1 (pm_lv HB.size b ls)) (hn : ls.length = y.2.2.2.1) (hW : pm_W D dA HB b G H) (hL : ∀ q ∈ locs, HB.size ≤ q.base) (hc : cells + (G'.length - G.length) ≤ R.cells) (hs : slots + (pm_sl G' - pm_sl G) ≤ R.slots)
    (kk : ∀ (H' : Heap) (locs' : List Loc) (arr' : Array Slot), lv_has arr' y.2.2.2.1 (pm_lv HB.size b ls') → ls'.length = y.2.2.2.1 → pm_W D dA HB b G' H' → (∀ q ∈ locs', HB.size ≤ q.base) → W p l e R s m args below meth c H' locs' (cells + (G'.length - G.length)) (slots + (pm_sl G' - pm_sl G)) Q (F0 m pc' arr' (st'.map (pm_ev HB.size b)))) : W p l e R s m args below meth c H locs cells slots Q (F0 m pc arr (st.map (pm_ev HB.size b))) := by
  obtain ⟨hx, hb, hml, hown, hts, hnm, hK, hfr, hlo⟩ := id C
  simp only [pm_step] at h
  split at h
  next x r =>
    split at h
    next hk =>
      obtain ⟨rfl, rfl, rfl, rfl⟩ := pm_nx_inv h
      refine lv_istore hx hb hd hl (by omega) rfl (fun arr' hl' => ?_)
      exact W.widen (Nat.le_add_right _ _) (Nat.le_add_right _ _) (kk H locs arr' (pm_lv_set (v := .int x) hk (Or.inl ⟨_, rfl⟩) hl') (by simpa using hn) hW hL)
    next => cases h
  next => cases h
theorem pm_n_lstore_n {l : Launch} {D : va_G} {dA : Nat → ClassId} {HB : Heap} {b : Nat} {X : pm_X} {y : pm_M} {d : Nat} {p : Program} {e : Env} {R : Room} {s : State} {m : MethodId} {args : Array Value} {below : List Frame} {meth : Method} {c : Code} {H : Heap} {locs : List Loc} {cells slots : Nat} {Q : State → Prop} {pc pc' : Nat} {ls ls' st st' : List Value} {G G' : pm_H} {arr : Array Slot} {k : Fin 4} (hd : decode y.2.2.1 pc = .ok ((.lstore_n k), 1)) (h : pm_step X y (.lstore_n k) pc ls st G = some (.inl (pc', ls', st', G'))) (C : pm_Cx D dA HB b X y d p R s m args meth c) (hl : lv_has arr y.2.2.2.1 (pm_lv HB.size b ls)) (hn : ls.length = y.2.2.2.1) (hW : pm_W D dA HB b G H) (hL : ∀ q ∈ locs, HB.size ≤ q.base) (hc : cells + (G'.length - G.length) ≤ R.cells) (hs : slots + (pm_sl G' - pm_sl G) ≤ R.slots)
    (kk : ∀ (H' : Heap) (locs' : List Loc) (arr' : Array Slot), lv_has arr' y.2.2.2.1 (pm_lv HB.size b ls') → ls'.length = y.2.2.2.1 → pm_W D dA HB b G' H' → (∀ q ∈ locs', HB.size ≤ q.base) → W p l e R s m args below meth c H' locs' (cells + (G'.length - G.length)) (slots + (pm_sl G' - pm_sl G)) Q (F0 m pc' arr' (st'.map (pm_ev HB.size b)))) : W p l e R s m args below meth c H locs cells slots Q (F0 m pc arr (st.map (pm_ev HB.size b))) := by
  obtain ⟨hx, hb, hml, hown, hts, hnm, hK, hfr, hlo⟩ := id C
  simp only [pm_step] at h
  split at h
  next x r =>
    split at h
    next hk =>
      obtain ⟨rfl, rfl, rfl, rfl⟩ := pm_nx_inv h
      refine lv_lstore_n hx hb hd rfl hl (by omega) rfl (fun arr' hl' => ?_)
      exact W.widen (Nat.le_add_right _ _) (Nat.le_add_right _ _) (kk H locs arr' (pm_lv_setL hk hl') (by simpa using hn) hW hL)
    next => cases h
  next => cases h
theorem pm_n_lstore {l : Launch} {D : va_G} {dA : Nat → ClassId} {HB : Heap} {b : Nat} {X : pm_X} {y : pm_M} {d : Nat} {p : Program} {e : Env} {R : Room} {s : State} {m : MethodId} {args : Array Value} {below : List Frame} {meth : Method} {c : Code} {H : Heap} {locs : List Loc} {cells slots : Nat} {Q : State → Prop} {pc pc' : Nat} {ls ls' st st' : List Value} {G G' : pm_H} {arr : Array Slot} {k : Nat} (hd : decode y.2.2.1 pc = .ok ((.lstore k), 2)) (h : pm_step X y (.lstore k) pc ls st G = some (.inl (pc', ls', st', G'))) (C : pm_Cx D dA HB b X y d p R s m args meth c) (hl : lv_has arr y.2.2.2.1 (pm_lv HB.size b ls)) (hn : ls.length = y.2.2.2.1) (hW : pm_W D dA HB b G H) (hL : ∀ q ∈ locs, HB.size ≤ q.base) (hc : cells + (G'.length - G.length) ≤ R.cells) (hs : slots + (pm_sl G' - pm_sl G) ≤ R.slots)
    (kk : ∀ (H' : Heap) (locs' : List Loc) (arr' : Array Slot), lv_has arr' y.2.2.2.1 (pm_lv HB.size b ls') → ls'.length = y.2.2.2.1 → pm_W D dA HB b G' H' → (∀ q ∈ locs', HB.size ≤ q.base) → W p l e R s m args below meth c H' locs' (cells + (G'.length - G.length)) (slots + (pm_sl G' - pm_sl G)) Q (F0 m pc' arr' (st'.map (pm_ev HB.size b)))) : W p l e R s m args below meth c H locs cells slots Q (F0 m pc arr (st.map (pm_ev HB.size b))) := by
  obtain ⟨hx, hb, hml, hown, hts, hnm, hK, hfr, hlo⟩ := id C
  simp only [pm_step] at h
  split at h
  next x r =>
    split at h
    next hk =>
      obtain ⟨rfl, rfl, rfl, rfl⟩ := pm_nx_inv h
      refine lv_lstore hx hb hd hl (by omega) rfl (fun arr' hl' => ?_)
      exact W.widen (Nat.le_add_right _ _) (Nat.le_add_right _ _) (kk H locs arr' (pm_lv_setL hk hl') (by simpa using hn) hW hL)
    next => cases h
  next => cases h
theorem pm_n_astore_n {l : Launch} {D : va_G} {dA : Nat → ClassId} {HB : Heap} {b : Nat} {X : pm_X} {y : pm_M} {d : Nat} {p : Program} {e : Env} {R : Room} {s : State} {m : MethodId} {args : Array Value} {below : List Frame} {meth : Method} {c : Code} {H : Heap} {locs : List Loc} {cells slots : Nat} {Q : State → Prop} {pc pc' : Nat} {ls ls' st st' : List Value} {G G' : pm_H} {arr : Array Slot} {k : Fin 4} (hd : decode y.2.2.1 pc = .ok ((.astore_n k), 1)) (h : pm_step X y (.astore_n k) pc ls st G = some (.inl (pc', ls', st', G'))) (C : pm_Cx D dA HB b X y d p R s m args meth c) (hl : lv_has arr y.2.2.2.1 (pm_lv HB.size b ls)) (hn : ls.length = y.2.2.2.1) (hW : pm_W D dA HB b G H) (hL : ∀ q ∈ locs, HB.size ≤ q.base) (hc : cells + (G'.length - G.length) ≤ R.cells) (hs : slots + (pm_sl G' - pm_sl G) ≤ R.slots)
    (kk : ∀ (H' : Heap) (locs' : List Loc) (arr' : Array Slot), lv_has arr' y.2.2.2.1 (pm_lv HB.size b ls') → ls'.length = y.2.2.2.1 → pm_W D dA HB b G' H' → (∀ q ∈ locs', HB.size ≤ q.base) → W p l e R s m args below meth c H' locs' (cells + (G'.length - G.length)) (slots + (pm_sl G' - pm_sl G)) Q (F0 m pc' arr' (st'.map (pm_ev HB.size b)))) : W p l e R s m args below meth c H locs cells slots Q (F0 m pc arr (st.map (pm_ev HB.size b))) := by
  obtain ⟨hx, hb, hml, hown, hts, hnm, hK, hfr, hlo⟩ := id C
  simp only [pm_step] at h
  split at h
  next x r =>
    split at h
    next hk =>
      obtain ⟨rfl, rfl, rfl, rfl⟩ := pm_nx_inv h
      refine lv_astore_n hx hb hd rfl hl (by omega) rfl (fun arr' hl' => ?_)
      exact W.widen (Nat.le_add_right _ _) (Nat.le_add_right _ _) (kk H locs arr' (pm_lv_set (v := .ref x) hk (Or.inr ⟨_, rfl⟩) hl') (by simpa using hn) hW hL)
    next => cases h
  next => cases h
theorem pm_n_astore {l : Launch} {D : va_G} {dA : Nat → ClassId} {HB : Heap} {b : Nat} {X : pm_X} {y : pm_M} {d : Nat} {p : Program} {e : Env} {R : Room} {s : State} {m : MethodId} {args : Array Value} {below : List Frame} {meth : Method} {c : Code} {H : Heap} {locs : List Loc} {cells slots : Nat} {Q : State → Prop} {pc pc' : Nat} {ls ls' st st' : List Value} {G G' : pm_H} {arr : Array Slot} {k : Nat} (hd : decode y.2.2.1 pc = .ok ((.astore k), 2)) (h : pm_step X y (.astore k) pc ls st G = some (.inl (pc', ls', st', G'))) (C : pm_Cx D dA HB b X y d p R s m args meth c) (hl : lv_has arr y.2.2.2.1 (pm_lv HB.size b ls)) (hn : ls.length = y.2.2.2.1) (hW : pm_W D dA HB b G H) (hL : ∀ q ∈ locs, HB.size ≤ q.base) (hc : cells + (G'.length - G.length) ≤ R.cells) (hs : slots + (pm_sl G' - pm_sl G) ≤ R.slots)
    (kk : ∀ (H' : Heap) (locs' : List Loc) (arr' : Array Slot), lv_has arr' y.2.2.2.1 (pm_lv HB.size b ls') → ls'.length = y.2.2.2.1 → pm_W D dA HB b G' H' → (∀ q ∈ locs', HB.size ≤ q.base) → W p l e R s m args below meth c H' locs' (cells + (G'.length - G.length)) (slots + (pm_sl G' - pm_sl G)) Q (F0 m pc' arr' (st'.map (pm_ev HB.size b)))) : W p l e R s m args below meth c H locs cells slots Q (F0 m pc arr (st.map (pm_ev HB.size b))) := by
  obtain ⟨hx, hb, hml, hown, hts, hnm, hK, hfr, hlo⟩ := id C
  simp only [pm_step] at h
  split at h
  next x r =>
    split at h
    next hk =>
      obtain ⟨rfl, rfl, rfl, rfl⟩ := pm_nx_inv h
      refine lv_astore hx hb hd hl (by omega) rfl (fun arr' hl' => ?_)
      exact W.widen (Nat.le_add_right _ _) (Nat.le_add_right _ _) (kk H locs arr' (pm_lv_set (v := .ref x) hk (Or.inr ⟨_, rfl⟩) hl') (by simpa using hn) hW hL)
    next => cases h
  next => cases h
theorem pm_n_iinc {l : Launch} {D : va_G} {dA : Nat → ClassId} {HB : Heap} {b : Nat} {X : pm_X} {y : pm_M} {d : Nat} {p : Program} {e : Env} {R : Room} {s : State} {m : MethodId} {args : Array Value} {below : List Frame} {meth : Method} {c : Code} {H : Heap} {locs : List Loc} {cells slots : Nat} {Q : State → Prop} {pc pc' : Nat} {ls ls' st st' : List Value} {G G' : pm_H} {arr : Array Slot} {k : Nat} {n : Int} (hd : decode y.2.2.1 pc = .ok ((.iinc k n), 3)) (h : pm_step X y (.iinc k n) pc ls st G = some (.inl (pc', ls', st', G'))) (C : pm_Cx D dA HB b X y d p R s m args meth c) (hl : lv_has arr y.2.2.2.1 (pm_lv HB.size b ls)) (hn : ls.length = y.2.2.2.1) (hW : pm_W D dA HB b G H) (hL : ∀ q ∈ locs, HB.size ≤ q.base) (hc : cells + (G'.length - G.length) ≤ R.cells) (hs : slots + (pm_sl G' - pm_sl G) ≤ R.slots)
    (kk : ∀ (H' : Heap) (locs' : List Loc) (arr' : Array Slot), lv_has arr' y.2.2.2.1 (pm_lv HB.size b ls') → ls'.length = y.2.2.2.1 → pm_W D dA HB b G' H' → (∀ q ∈ locs', HB.size ≤ q.base) → W p l e R s m args below meth c H' locs' (cells + (G'.length - G.length)) (slots + (pm_sl G' - pm_sl G)) Q (F0 m pc' arr' (st'.map (pm_ev HB.size b)))) : W p l e R s m args below meth c H locs cells slots Q (F0 m pc arr (st.map (pm_ev HB.size b))) := by
  obtain ⟨hx, hb, hml, hown, hts, hnm, hK, hfr, hlo⟩ := id C
  simp only [pm_step] at h
  split at h
  next x hx1 =>
    split at h
    next hk =>
      obtain ⟨rfl, rfl, rfl, rfl⟩ := pm_nx_inv h
      have hm : (k, Value.int x) ∈ pm_lv HB.size b ls := pm_lv_mem.mpr (pm_lq_int hx1)
      obtain ⟨j, hj⟩ := List.getElem?_of_mem hm
      refine lv_iinc (v := x + Int32.ofInt n) hx hb hd hl (k := j) hj rfl (by omega) rfl (fun arr' hl' => ?_)
      exact W.widen (Nat.le_add_right _ _) (Nat.le_add_right _ _) (kk H locs arr' (pm_lv_set (v := .int (x + Int32.ofInt n)) hk (Or.inl ⟨_, rfl⟩) hl') (by simpa using hn) hW hL)
    next => cases h
  next => cases h
theorem pm_n_iadd {l : Launch} {D : va_G} {dA : Nat → ClassId} {HB : Heap} {b : Nat} {X : pm_X} {y : pm_M} {d : Nat} {p : Program} {e : Env} {R : Room} {s : State} {m : MethodId} {args : Array Value} {below : List Frame} {meth : Method} {c : Code} {H : Heap} {locs : List Loc} {cells slots : Nat} {Q : State → Prop} {pc pc' : Nat} {ls ls' st st' : List Value} {G G' : pm_H} {arr : Array Slot} (hd : decode y.2.2.1 pc = .ok (.iadd, 1)) (h : pm_step X y .iadd pc ls st G = some (.inl (pc', ls', st', G'))) (C : pm_Cx D dA HB b X y d p R s m args meth c) (hl : lv_has arr y.2.2.2.1 (pm_lv HB.size b ls)) (hn : ls.length = y.2.2.2.1) (hW : pm_W D dA HB b G H) (hL : ∀ q ∈ locs, HB.size ≤ q.base) (hc : cells + (G'.length - G.length) ≤ R.cells) (hs : slots + (pm_sl G' - pm_sl G) ≤ R.slots)
    (kk : ∀ (H' : Heap) (locs' : List Loc) (arr' : Array Slot), lv_has arr' y.2.2.2.1 (pm_lv HB.size b ls') → ls'.length = y.2.2.2.1 → pm_W D dA HB b G' H' → (∀ q ∈ locs', HB.size ≤ q.base) → W p l e R s m args below meth c H' locs' (cells + (G'.length - G.length)) (slots + (pm_sl G' - pm_sl G)) Q (F0 m pc' arr' (st'.map (pm_ev HB.size b)))) : W p l e R s m args below meth c H locs cells slots Q (F0 m pc arr (st.map (pm_ev HB.size b))) := by
  obtain ⟨hx, hb, hml, hown, hts, hnm, hK, hfr, hlo⟩ := id C
  simp only [pm_step] at h
  obtain ⟨x, y, r, rfl, rfl, rfl, rfl, rfl⟩ := pm_bi_inv h
  refine lv_iadd hx hb hd ?_
  exact W.widen (Nat.le_add_right _ _) (Nat.le_add_right _ _) (kk H locs arr hl hn hW hL)
theorem pm_n_isub {l : Launch} {D : va_G} {dA : Nat → ClassId} {HB : Heap} {b : Nat} {X : pm_X} {y : pm_M} {d : Nat} {p : Program} {e : Env} {R : Room} {s : State} {m : MethodId} {args : Array Value} {below : List Frame} {meth : Method} {c : Code} {H : Heap} {locs : List Loc} {cells slots : Nat} {Q : State → Prop} {pc pc' : Nat} {ls ls' st st' : List Value} {G G' : pm_H} {arr : Array Slot} (hd : decode y.2.2.1 pc = .ok (.isub, 1)) (h : pm_step X y .isub pc ls st G = some (.inl (pc', ls', st', G'))) (C : pm_Cx D dA HB b X y d p R s m args meth c) (hl : lv_has arr y.2.2.2.1 (pm_lv HB.size b ls)) (hn : ls.length = y.2.2.2.1) (hW : pm_W D dA HB b G H) (hL : ∀ q ∈ locs, HB.size ≤ q.base) (hc : cells + (G'.length - G.length) ≤ R.cells) (hs : slots + (pm_sl G' - pm_sl G) ≤ R.slots)
    (kk : ∀ (H' : Heap) (locs' : List Loc) (arr' : Array Slot), lv_has arr' y.2.2.2.1 (pm_lv HB.size b ls') → ls'.length = y.2.2.2.1 → pm_W D dA HB b G' H' → (∀ q ∈ locs', HB.size ≤ q.base) → W p l e R s m args below meth c H' locs' (cells + (G'.length - G.length)) (slots + (pm_sl G' - pm_sl G)) Q (F0 m pc' arr' (st'.map (pm_ev HB.size b)))) : W p l e R s m args below meth c H locs cells slots Q (F0 m pc arr (st.map (pm_ev HB.size b))) := by
  obtain ⟨hx, hb, hml, hown, hts, hnm, hK, hfr, hlo⟩ := id C
  simp only [pm_step] at h
  obtain ⟨x, y, r, rfl, rfl, rfl, rfl, rfl⟩ := pm_bi_inv h
  refine lv_isub hx hb hd ?_
  exact W.widen (Nat.le_add_right _ _) (Nat.le_add_right _ _) (kk H locs arr hl hn hW hL)
theorem pm_n_imul {l : Launch} {D : va_G} {dA : Nat → ClassId} {HB : Heap} {b : Nat} {X : pm_X} {y : pm_M} {d : Nat} {p : Program} {e : Env} {R : Room} {s : State} {m : MethodId} {args : Array Value} {below : List Frame} {meth : Method} {c : Code} {H : Heap} {locs : List Loc} {cells slots : Nat} {Q : State → Prop} {pc pc' : Nat} {ls ls' st st' : List Value} {G G' : pm_H} {arr : Array Slot} (hd : decode y.2.2.1 pc = .ok (.imul, 1)) (h : pm_step X y .imul pc ls st G = some (.inl (pc', ls', st', G'))) (C : pm_Cx D dA HB b X y d p R s m args meth c) (hl : lv_has arr y.2.2.2.1 (pm_lv HB.size b ls)) (hn : ls.length = y.2.2.2.1) (hW : pm_W D dA HB b G H) (hL : ∀ q ∈ locs, HB.size ≤ q.base) (hc : cells + (G'.length - G.length) ≤ R.cells) (hs : slots + (pm_sl G' - pm_sl G) ≤ R.slots)
    (kk : ∀ (H' : Heap) (locs' : List Loc) (arr' : Array Slot), lv_has arr' y.2.2.2.1 (pm_lv HB.size b ls') → ls'.length = y.2.2.2.1 → pm_W D dA HB b G' H' → (∀ q ∈ locs', HB.size ≤ q.base) → W p l e R s m args below meth c H' locs' (cells + (G'.length - G.length)) (slots + (pm_sl G' - pm_sl G)) Q (F0 m pc' arr' (st'.map (pm_ev HB.size b)))) : W p l e R s m args below meth c H locs cells slots Q (F0 m pc arr (st.map (pm_ev HB.size b))) := by
  obtain ⟨hx, hb, hml, hown, hts, hnm, hK, hfr, hlo⟩ := id C
  simp only [pm_step] at h
  obtain ⟨x, y, r, rfl, rfl, rfl, rfl, rfl⟩ := pm_bi_inv h
  refine lv_imul hx hb hd ?_
  exact W.widen (Nat.le_add_right _ _) (Nat.le_add_right _ _) (kk H locs arr hl hn hW hL)
theorem pm_n_iand {l : Launch} {D : va_G} {dA : Nat → ClassId} {HB : Heap} {b : Nat} {X : pm_X} {y : pm_M} {d : Nat} {p : Program} {e : Env} {R : Room} {s : State} {m : MethodId} {args : Array Value} {below : List Frame} {meth : Method} {c : Code} {H : Heap} {locs : List Loc} {cells slots : Nat} {Q : State → Prop} {pc pc' : Nat} {ls ls' st st' : List Value} {G G' : pm_H} {arr : Array Slot} (hd : decode y.2.2.1 pc = .ok (.iand, 1)) (h : pm_step X y .iand pc ls st G = some (.inl (pc', ls', st', G'))) (C : pm_Cx D dA HB b X y d p R s m args meth c) (hl : lv_has arr y.2.2.2.1 (pm_lv HB.size b ls)) (hn : ls.length = y.2.2.2.1) (hW : pm_W D dA HB b G H) (hL : ∀ q ∈ locs, HB.size ≤ q.base) (hc : cells + (G'.length - G.length) ≤ R.cells) (hs : slots + (pm_sl G' - pm_sl G) ≤ R.slots)
    (kk : ∀ (H' : Heap) (locs' : List Loc) (arr' : Array Slot), lv_has arr' y.2.2.2.1 (pm_lv HB.size b ls') → ls'.length = y.2.2.2.1 → pm_W D dA HB b G' H' → (∀ q ∈ locs', HB.size ≤ q.base) → W p l e R s m args below meth c H' locs' (cells + (G'.length - G.length)) (slots + (pm_sl G' - pm_sl G)) Q (F0 m pc' arr' (st'.map (pm_ev HB.size b)))) : W p l e R s m args below meth c H locs cells slots Q (F0 m pc arr (st.map (pm_ev HB.size b))) := by
  obtain ⟨hx, hb, hml, hown, hts, hnm, hK, hfr, hlo⟩ := id C
  simp only [pm_step] at h
  obtain ⟨x, y, r, rfl, rfl, rfl, rfl, rfl⟩ := pm_bi_inv h
  refine lv_iand hx hb hd ?_
  exact W.widen (Nat.le_add_right _ _) (Nat.le_add_right _ _) (kk H locs arr hl hn hW hL)
theorem pm_n_ior {l : Launch} {D : va_G} {dA : Nat → ClassId} {HB : Heap} {b : Nat} {X : pm_X} {y : pm_M} {d : Nat} {p : Program} {e : Env} {R : Room} {s : State} {m : MethodId} {args : Array Value} {below : List Frame} {meth : Method} {c : Code} {H : Heap} {locs : List Loc} {cells slots : Nat} {Q : State → Prop} {pc pc' : Nat} {ls ls' st st' : List Value} {G G' : pm_H} {arr : Array Slot} (hd : decode y.2.2.1 pc = .ok (.ior, 1)) (h : pm_step X y .ior pc ls st G = some (.inl (pc', ls', st', G'))) (C : pm_Cx D dA HB b X y d p R s m args meth c) (hl : lv_has arr y.2.2.2.1 (pm_lv HB.size b ls)) (hn : ls.length = y.2.2.2.1) (hW : pm_W D dA HB b G H) (hL : ∀ q ∈ locs, HB.size ≤ q.base) (hc : cells + (G'.length - G.length) ≤ R.cells) (hs : slots + (pm_sl G' - pm_sl G) ≤ R.slots)
    (kk : ∀ (H' : Heap) (locs' : List Loc) (arr' : Array Slot), lv_has arr' y.2.2.2.1 (pm_lv HB.size b ls') → ls'.length = y.2.2.2.1 → pm_W D dA HB b G' H' → (∀ q ∈ locs', HB.size ≤ q.base) → W p l e R s m args below meth c H' locs' (cells + (G'.length - G.length)) (slots + (pm_sl G' - pm_sl G)) Q (F0 m pc' arr' (st'.map (pm_ev HB.size b)))) : W p l e R s m args below meth c H locs cells slots Q (F0 m pc arr (st.map (pm_ev HB.size b))) := by
  obtain ⟨hx, hb, hml, hown, hts, hnm, hK, hfr, hlo⟩ := id C
  simp only [pm_step] at h
  obtain ⟨x, y, r, rfl, rfl, rfl, rfl, rfl⟩ := pm_bi_inv h
  refine lv_ior hx hb hd ?_
  exact W.widen (Nat.le_add_right _ _) (Nat.le_add_right _ _) (kk H locs arr hl hn hW hL)
theorem pm_n_ixor {l : Launch} {D : va_G} {dA : Nat → ClassId} {HB : Heap} {b : Nat} {X : pm_X} {y : pm_M} {d : Nat} {p : Program} {e : Env} {R : Room} {s : State} {m : MethodId} {args : Array Value} {below : List Frame} {meth : Method} {c : Code} {H : Heap} {locs : List Loc} {cells slots : Nat} {Q : State → Prop} {pc pc' : Nat} {ls ls' st st' : List Value} {G G' : pm_H} {arr : Array Slot} (hd : decode y.2.2.1 pc = .ok (.ixor, 1)) (h : pm_step X y .ixor pc ls st G = some (.inl (pc', ls', st', G'))) (C : pm_Cx D dA HB b X y d p R s m args meth c) (hl : lv_has arr y.2.2.2.1 (pm_lv HB.size b ls)) (hn : ls.length = y.2.2.2.1) (hW : pm_W D dA HB b G H) (hL : ∀ q ∈ locs, HB.size ≤ q.base) (hc : cells + (G'.length - G.length) ≤ R.cells) (hs : slots + (pm_sl G' - pm_sl G) ≤ R.slots)
    (kk : ∀ (H' : Heap) (locs' : List Loc) (arr' : Array Slot), lv_has arr' y.2.2.2.1 (pm_lv HB.size b ls') → ls'.length = y.2.2.2.1 → pm_W D dA HB b G' H' → (∀ q ∈ locs', HB.size ≤ q.base) → W p l e R s m args below meth c H' locs' (cells + (G'.length - G.length)) (slots + (pm_sl G' - pm_sl G)) Q (F0 m pc' arr' (st'.map (pm_ev HB.size b)))) : W p l e R s m args below meth c H locs cells slots Q (F0 m pc arr (st.map (pm_ev HB.size b))) := by
  obtain ⟨hx, hb, hml, hown, hts, hnm, hK, hfr, hlo⟩ := id C
  simp only [pm_step] at h
  obtain ⟨x, y, r, rfl, rfl, rfl, rfl, rfl⟩ := pm_bi_inv h
  refine lv_ixor hx hb hd ?_
  exact W.widen (Nat.le_add_right _ _) (Nat.le_add_right _ _) (kk H locs arr hl hn hW hL)
theorem pm_n_ishl {l : Launch} {D : va_G} {dA : Nat → ClassId} {HB : Heap} {b : Nat} {X : pm_X} {y : pm_M} {d : Nat} {p : Program} {e : Env} {R : Room} {s : State} {m : MethodId} {args : Array Value} {below : List Frame} {meth : Method} {c : Code} {H : Heap} {locs : List Loc} {cells slots : Nat} {Q : State → Prop} {pc pc' : Nat} {ls ls' st st' : List Value} {G G' : pm_H} {arr : Array Slot} (hd : decode y.2.2.1 pc = .ok (.ishl, 1)) (h : pm_step X y .ishl pc ls st G = some (.inl (pc', ls', st', G'))) (C : pm_Cx D dA HB b X y d p R s m args meth c) (hl : lv_has arr y.2.2.2.1 (pm_lv HB.size b ls)) (hn : ls.length = y.2.2.2.1) (hW : pm_W D dA HB b G H) (hL : ∀ q ∈ locs, HB.size ≤ q.base) (hc : cells + (G'.length - G.length) ≤ R.cells) (hs : slots + (pm_sl G' - pm_sl G) ≤ R.slots)
    (kk : ∀ (H' : Heap) (locs' : List Loc) (arr' : Array Slot), lv_has arr' y.2.2.2.1 (pm_lv HB.size b ls') → ls'.length = y.2.2.2.1 → pm_W D dA HB b G' H' → (∀ q ∈ locs', HB.size ≤ q.base) → W p l e R s m args below meth c H' locs' (cells + (G'.length - G.length)) (slots + (pm_sl G' - pm_sl G)) Q (F0 m pc' arr' (st'.map (pm_ev HB.size b)))) : W p l e R s m args below meth c H locs cells slots Q (F0 m pc arr (st.map (pm_ev HB.size b))) := by
  obtain ⟨hx, hb, hml, hown, hts, hnm, hK, hfr, hlo⟩ := id C
  simp only [pm_step] at h
  obtain ⟨x, y, r, rfl, rfl, rfl, rfl, rfl⟩ := pm_bi_inv h
  refine lv_ishl hx hb hd ?_
  exact W.widen (Nat.le_add_right _ _) (Nat.le_add_right _ _) (kk H locs arr hl hn hW hL)
theorem pm_n_ishr {l : Launch} {D : va_G} {dA : Nat → ClassId} {HB : Heap} {b : Nat} {X : pm_X} {y : pm_M} {d : Nat} {p : Program} {e : Env} {R : Room} {s : State} {m : MethodId} {args : Array Value} {below : List Frame} {meth : Method} {c : Code} {H : Heap} {locs : List Loc} {cells slots : Nat} {Q : State → Prop} {pc pc' : Nat} {ls ls' st st' : List Value} {G G' : pm_H} {arr : Array Slot} (hd : decode y.2.2.1 pc = .ok (.ishr, 1)) (h : pm_step X y .ishr pc ls st G = some (.inl (pc', ls', st', G'))) (C : pm_Cx D dA HB b X y d p R s m args meth c) (hl : lv_has arr y.2.2.2.1 (pm_lv HB.size b ls)) (hn : ls.length = y.2.2.2.1) (hW : pm_W D dA HB b G H) (hL : ∀ q ∈ locs, HB.size ≤ q.base) (hc : cells + (G'.length - G.length) ≤ R.cells) (hs : slots + (pm_sl G' - pm_sl G) ≤ R.slots)
    (kk : ∀ (H' : Heap) (locs' : List Loc) (arr' : Array Slot), lv_has arr' y.2.2.2.1 (pm_lv HB.size b ls') → ls'.length = y.2.2.2.1 → pm_W D dA HB b G' H' → (∀ q ∈ locs', HB.size ≤ q.base) → W p l e R s m args below meth c H' locs' (cells + (G'.length - G.length)) (slots + (pm_sl G' - pm_sl G)) Q (F0 m pc' arr' (st'.map (pm_ev HB.size b)))) : W p l e R s m args below meth c H locs cells slots Q (F0 m pc arr (st.map (pm_ev HB.size b))) := by
  obtain ⟨hx, hb, hml, hown, hts, hnm, hK, hfr, hlo⟩ := id C
  simp only [pm_step] at h
  obtain ⟨x, y, r, rfl, rfl, rfl, rfl, rfl⟩ := pm_bi_inv h
  refine lv_ishr hx hb hd ?_
  exact W.widen (Nat.le_add_right _ _) (Nat.le_add_right _ _) (kk H locs arr hl hn hW hL)
theorem pm_n_iushr {l : Launch} {D : va_G} {dA : Nat → ClassId} {HB : Heap} {b : Nat} {X : pm_X} {y : pm_M} {d : Nat} {p : Program} {e : Env} {R : Room} {s : State} {m : MethodId} {args : Array Value} {below : List Frame} {meth : Method} {c : Code} {H : Heap} {locs : List Loc} {cells slots : Nat} {Q : State → Prop} {pc pc' : Nat} {ls ls' st st' : List Value} {G G' : pm_H} {arr : Array Slot} (hd : decode y.2.2.1 pc = .ok (.iushr, 1)) (h : pm_step X y .iushr pc ls st G = some (.inl (pc', ls', st', G'))) (C : pm_Cx D dA HB b X y d p R s m args meth c) (hl : lv_has arr y.2.2.2.1 (pm_lv HB.size b ls)) (hn : ls.length = y.2.2.2.1) (hW : pm_W D dA HB b G H) (hL : ∀ q ∈ locs, HB.size ≤ q.base) (hc : cells + (G'.length - G.length) ≤ R.cells) (hs : slots + (pm_sl G' - pm_sl G) ≤ R.slots)
    (kk : ∀ (H' : Heap) (locs' : List Loc) (arr' : Array Slot), lv_has arr' y.2.2.2.1 (pm_lv HB.size b ls') → ls'.length = y.2.2.2.1 → pm_W D dA HB b G' H' → (∀ q ∈ locs', HB.size ≤ q.base) → W p l e R s m args below meth c H' locs' (cells + (G'.length - G.length)) (slots + (pm_sl G' - pm_sl G)) Q (F0 m pc' arr' (st'.map (pm_ev HB.size b)))) : W p l e R s m args below meth c H locs cells slots Q (F0 m pc arr (st.map (pm_ev HB.size b))) := by
  obtain ⟨hx, hb, hml, hown, hts, hnm, hK, hfr, hlo⟩ := id C
  simp only [pm_step] at h
  obtain ⟨x, y, r, rfl, rfl, rfl, rfl, rfl⟩ := pm_bi_inv h
  refine lv_iushr hx hb hd rfl ?_
  exact W.widen (Nat.le_add_right _ _) (Nat.le_add_right _ _) (kk H locs arr hl hn hW hL)
theorem pm_n_ladd {l : Launch} {D : va_G} {dA : Nat → ClassId} {HB : Heap} {b : Nat} {X : pm_X} {y : pm_M} {d : Nat} {p : Program} {e : Env} {R : Room} {s : State} {m : MethodId} {args : Array Value} {below : List Frame} {meth : Method} {c : Code} {H : Heap} {locs : List Loc} {cells slots : Nat} {Q : State → Prop} {pc pc' : Nat} {ls ls' st st' : List Value} {G G' : pm_H} {arr : Array Slot} (hd : decode y.2.2.1 pc = .ok (.ladd, 1)) (h : pm_step X y .ladd pc ls st G = some (.inl (pc', ls', st', G'))) (C : pm_Cx D dA HB b X y d p R s m args meth c) (hl : lv_has arr y.2.2.2.1 (pm_lv HB.size b ls)) (hn : ls.length = y.2.2.2.1) (hW : pm_W D dA HB b G H) (hL : ∀ q ∈ locs, HB.size ≤ q.base) (hc : cells + (G'.length - G.length) ≤ R.cells) (hs : slots + (pm_sl G' - pm_sl G) ≤ R.slots)
    (kk : ∀ (H' : Heap) (locs' : List Loc) (arr' : Array Slot), lv_has arr' y.2.2.2.1 (pm_lv HB.size b ls') → ls'.length = y.2.2.2.1 → pm_W D dA HB b G' H' → (∀ q ∈ locs', HB.size ≤ q.base) → W p l e R s m args below meth c H' locs' (cells + (G'.length - G.length)) (slots + (pm_sl G' - pm_sl G)) Q (F0 m pc' arr' (st'.map (pm_ev HB.size b)))) : W p l e R s m args below meth c H locs cells slots Q (F0 m pc arr (st.map (pm_ev HB.size b))) := by
  obtain ⟨hx, hb, hml, hown, hts, hnm, hK, hfr, hlo⟩ := id C
  simp only [pm_step] at h
  obtain ⟨x, y, r, rfl, -, rfl, rfl, rfl, rfl⟩ := pm_bl_inv h
  refine lv_ladd hx hb hd ?_
  exact W.widen (Nat.le_add_right _ _) (Nat.le_add_right _ _) (kk H locs arr hl hn hW hL)
theorem pm_n_lsub {l : Launch} {D : va_G} {dA : Nat → ClassId} {HB : Heap} {b : Nat} {X : pm_X} {y : pm_M} {d : Nat} {p : Program} {e : Env} {R : Room} {s : State} {m : MethodId} {args : Array Value} {below : List Frame} {meth : Method} {c : Code} {H : Heap} {locs : List Loc} {cells slots : Nat} {Q : State → Prop} {pc pc' : Nat} {ls ls' st st' : List Value} {G G' : pm_H} {arr : Array Slot} (hd : decode y.2.2.1 pc = .ok (.lsub, 1)) (h : pm_step X y .lsub pc ls st G = some (.inl (pc', ls', st', G'))) (C : pm_Cx D dA HB b X y d p R s m args meth c) (hl : lv_has arr y.2.2.2.1 (pm_lv HB.size b ls)) (hn : ls.length = y.2.2.2.1) (hW : pm_W D dA HB b G H) (hL : ∀ q ∈ locs, HB.size ≤ q.base) (hc : cells + (G'.length - G.length) ≤ R.cells) (hs : slots + (pm_sl G' - pm_sl G) ≤ R.slots)
    (kk : ∀ (H' : Heap) (locs' : List Loc) (arr' : Array Slot), lv_has arr' y.2.2.2.1 (pm_lv HB.size b ls') → ls'.length = y.2.2.2.1 → pm_W D dA HB b G' H' → (∀ q ∈ locs', HB.size ≤ q.base) → W p l e R s m args below meth c H' locs' (cells + (G'.length - G.length)) (slots + (pm_sl G' - pm_sl G)) Q (F0 m pc' arr' (st'.map (pm_ev HB.size b)))) : W p l e R s m args below meth c H locs cells slots Q (F0 m pc arr (st.map (pm_ev HB.size b))) := by
  obtain ⟨hx, hb, hml, hown, hts, hnm, hK, hfr, hlo⟩ := id C
  simp only [pm_step] at h
  obtain ⟨x, y, r, rfl, -, rfl, rfl, rfl, rfl⟩ := pm_bl_inv h
  refine lv_lsub hx hb hd ?_
  exact W.widen (Nat.le_add_right _ _) (Nat.le_add_right _ _) (kk H locs arr hl hn hW hL)
theorem pm_n_lmul {l : Launch} {D : va_G} {dA : Nat → ClassId} {HB : Heap} {b : Nat} {X : pm_X} {y : pm_M} {d : Nat} {p : Program} {e : Env} {R : Room} {s : State} {m : MethodId} {args : Array Value} {below : List Frame} {meth : Method} {c : Code} {H : Heap} {locs : List Loc} {cells slots : Nat} {Q : State → Prop} {pc pc' : Nat} {ls ls' st st' : List Value} {G G' : pm_H} {arr : Array Slot} (hd : decode y.2.2.1 pc = .ok (.lmul, 1)) (h : pm_step X y .lmul pc ls st G = some (.inl (pc', ls', st', G'))) (C : pm_Cx D dA HB b X y d p R s m args meth c) (hl : lv_has arr y.2.2.2.1 (pm_lv HB.size b ls)) (hn : ls.length = y.2.2.2.1) (hW : pm_W D dA HB b G H) (hL : ∀ q ∈ locs, HB.size ≤ q.base) (hc : cells + (G'.length - G.length) ≤ R.cells) (hs : slots + (pm_sl G' - pm_sl G) ≤ R.slots)
    (kk : ∀ (H' : Heap) (locs' : List Loc) (arr' : Array Slot), lv_has arr' y.2.2.2.1 (pm_lv HB.size b ls') → ls'.length = y.2.2.2.1 → pm_W D dA HB b G' H' → (∀ q ∈ locs', HB.size ≤ q.base) → W p l e R s m args below meth c H' locs' (cells + (G'.length - G.length)) (slots + (pm_sl G' - pm_sl G)) Q (F0 m pc' arr' (st'.map (pm_ev HB.size b)))) : W p l e R s m args below meth c H locs cells slots Q (F0 m pc arr (st.map (pm_ev HB.size b))) := by
  obtain ⟨hx, hb, hml, hown, hts, hnm, hK, hfr, hlo⟩ := id C
  simp only [pm_step] at h
  obtain ⟨x, y, r, rfl, -, rfl, rfl, rfl, rfl⟩ := pm_bl_inv h
  refine lv_lmul hx hb hd ?_
  exact W.widen (Nat.le_add_right _ _) (Nat.le_add_right _ _) (kk H locs arr hl hn hW hL)
theorem pm_n_ldiv {l : Launch} {D : va_G} {dA : Nat → ClassId} {HB : Heap} {b : Nat} {X : pm_X} {y : pm_M} {d : Nat} {p : Program} {e : Env} {R : Room} {s : State} {m : MethodId} {args : Array Value} {below : List Frame} {meth : Method} {c : Code} {H : Heap} {locs : List Loc} {cells slots : Nat} {Q : State → Prop} {pc pc' : Nat} {ls ls' st st' : List Value} {G G' : pm_H} {arr : Array Slot} (hd : decode y.2.2.1 pc = .ok (.ldiv, 1)) (h : pm_step X y .ldiv pc ls st G = some (.inl (pc', ls', st', G'))) (C : pm_Cx D dA HB b X y d p R s m args meth c) (hl : lv_has arr y.2.2.2.1 (pm_lv HB.size b ls)) (hn : ls.length = y.2.2.2.1) (hW : pm_W D dA HB b G H) (hL : ∀ q ∈ locs, HB.size ≤ q.base) (hc : cells + (G'.length - G.length) ≤ R.cells) (hs : slots + (pm_sl G' - pm_sl G) ≤ R.slots)
    (kk : ∀ (H' : Heap) (locs' : List Loc) (arr' : Array Slot), lv_has arr' y.2.2.2.1 (pm_lv HB.size b ls') → ls'.length = y.2.2.2.1 → pm_W D dA HB b G' H' → (∀ q ∈ locs', HB.size ≤ q.base) → W p l e R s m args below meth c H' locs' (cells + (G'.length - G.length)) (slots + (pm_sl G' - pm_sl G)) Q (F0 m pc' arr' (st'.map (pm_ev HB.size b)))) : W p l e R s m args below meth c H locs cells slots Q (F0 m pc arr (st.map (pm_ev HB.size b))) := by
  obtain ⟨hx, hb, hml, hown, hts, hnm, hK, hfr, hlo⟩ := id C
  simp only [pm_step] at h
  obtain ⟨x, y, r, rfl, ho, rfl, rfl, rfl, rfl⟩ := pm_bl_inv h
  refine lv_ldiv hx hb hd (by simpa using ho) ?_
  exact W.widen (Nat.le_add_right _ _) (Nat.le_add_right _ _) (kk H locs arr hl hn hW hL)
theorem pm_n_lrem {l : Launch} {D : va_G} {dA : Nat → ClassId} {HB : Heap} {b : Nat} {X : pm_X} {y : pm_M} {d : Nat} {p : Program} {e : Env} {R : Room} {s : State} {m : MethodId} {args : Array Value} {below : List Frame} {meth : Method} {c : Code} {H : Heap} {locs : List Loc} {cells slots : Nat} {Q : State → Prop} {pc pc' : Nat} {ls ls' st st' : List Value} {G G' : pm_H} {arr : Array Slot} (hd : decode y.2.2.1 pc = .ok (.lrem, 1)) (h : pm_step X y .lrem pc ls st G = some (.inl (pc', ls', st', G'))) (C : pm_Cx D dA HB b X y d p R s m args meth c) (hl : lv_has arr y.2.2.2.1 (pm_lv HB.size b ls)) (hn : ls.length = y.2.2.2.1) (hW : pm_W D dA HB b G H) (hL : ∀ q ∈ locs, HB.size ≤ q.base) (hc : cells + (G'.length - G.length) ≤ R.cells) (hs : slots + (pm_sl G' - pm_sl G) ≤ R.slots)
    (kk : ∀ (H' : Heap) (locs' : List Loc) (arr' : Array Slot), lv_has arr' y.2.2.2.1 (pm_lv HB.size b ls') → ls'.length = y.2.2.2.1 → pm_W D dA HB b G' H' → (∀ q ∈ locs', HB.size ≤ q.base) → W p l e R s m args below meth c H' locs' (cells + (G'.length - G.length)) (slots + (pm_sl G' - pm_sl G)) Q (F0 m pc' arr' (st'.map (pm_ev HB.size b)))) : W p l e R s m args below meth c H locs cells slots Q (F0 m pc arr (st.map (pm_ev HB.size b))) := by
  obtain ⟨hx, hb, hml, hown, hts, hnm, hK, hfr, hlo⟩ := id C
  simp only [pm_step] at h
  obtain ⟨x, y, r, rfl, ho, rfl, rfl, rfl, rfl⟩ := pm_bl_inv h
  refine lv_lrem hx hb hd (by simpa using ho) ?_
  exact W.widen (Nat.le_add_right _ _) (Nat.le_add_right _ _) (kk H locs arr hl hn hW hL)
theorem pm_n_ineg {l : Launch} {D : va_G} {dA : Nat → ClassId} {HB : Heap} {b : Nat} {X : pm_X} {y : pm_M} {d : Nat} {p : Program} {e : Env} {R : Room} {s : State} {m : MethodId} {args : Array Value} {below : List Frame} {meth : Method} {c : Code} {H : Heap} {locs : List Loc} {cells slots : Nat} {Q : State → Prop} {pc pc' : Nat} {ls ls' st st' : List Value} {G G' : pm_H} {arr : Array Slot} (hd : decode y.2.2.1 pc = .ok (.ineg, 1)) (h : pm_step X y .ineg pc ls st G = some (.inl (pc', ls', st', G'))) (C : pm_Cx D dA HB b X y d p R s m args meth c) (hl : lv_has arr y.2.2.2.1 (pm_lv HB.size b ls)) (hn : ls.length = y.2.2.2.1) (hW : pm_W D dA HB b G H) (hL : ∀ q ∈ locs, HB.size ≤ q.base) (hc : cells + (G'.length - G.length) ≤ R.cells) (hs : slots + (pm_sl G' - pm_sl G) ≤ R.slots)
    (kk : ∀ (H' : Heap) (locs' : List Loc) (arr' : Array Slot), lv_has arr' y.2.2.2.1 (pm_lv HB.size b ls') → ls'.length = y.2.2.2.1 → pm_W D dA HB b G' H' → (∀ q ∈ locs', HB.size ≤ q.base) → W p l e R s m args below meth c H' locs' (cells + (G'.length - G.length)) (slots + (pm_sl G' - pm_sl G)) Q (F0 m pc' arr' (st'.map (pm_ev HB.size b)))) : W p l e R s m args below meth c H locs cells slots Q (F0 m pc arr (st.map (pm_ev HB.size b))) := by
  obtain ⟨hx, hb, hml, hown, hts, hnm, hK, hfr, hlo⟩ := id C
  simp only [pm_step] at h
  split at h
  next x r =>
    obtain ⟨rfl, rfl, rfl, rfl⟩ := pm_nx_inv h
    refine lv_ineg hx hb hd ?_
    exact W.widen (Nat.le_add_right _ _) (Nat.le_add_right _ _) (kk H locs arr hl hn hW hL)
  next => cases h
theorem pm_n_lcmp {l : Launch} {D : va_G} {dA : Nat → ClassId} {HB : Heap} {b : Nat} {X : pm_X} {y : pm_M} {d : Nat} {p : Program} {e : Env} {R : Room} {s : State} {m : MethodId} {args : Array Value} {below : List Frame} {meth : Method} {c : Code} {H : Heap} {locs : List Loc} {cells slots : Nat} {Q : State → Prop} {pc pc' : Nat} {ls ls' st st' : List Value} {G G' : pm_H} {arr : Array Slot} (hd : decode y.2.2.1 pc = .ok (.lcmp, 1)) (h : pm_step X y .lcmp pc ls st G = some (.inl (pc', ls', st', G'))) (C : pm_Cx D dA HB b X y d p R s m args meth c) (hl : lv_has arr y.2.2.2.1 (pm_lv HB.size b ls)) (hn : ls.length = y.2.2.2.1) (hW : pm_W D dA HB b G H) (hL : ∀ q ∈ locs, HB.size ≤ q.base) (hc : cells + (G'.length - G.length) ≤ R.cells) (hs : slots + (pm_sl G' - pm_sl G) ≤ R.slots)
    (kk : ∀ (H' : Heap) (locs' : List Loc) (arr' : Array Slot), lv_has arr' y.2.2.2.1 (pm_lv HB.size b ls') → ls'.length = y.2.2.2.1 → pm_W D dA HB b G' H' → (∀ q ∈ locs', HB.size ≤ q.base) → W p l e R s m args below meth c H' locs' (cells + (G'.length - G.length)) (slots + (pm_sl G' - pm_sl G)) Q (F0 m pc' arr' (st'.map (pm_ev HB.size b)))) : W p l e R s m args below meth c H locs cells slots Q (F0 m pc arr (st.map (pm_ev HB.size b))) := by
  obtain ⟨hx, hb, hml, hown, hts, hnm, hK, hfr, hlo⟩ := id C
  simp only [pm_step] at h
  split at h
  next y x r =>
    obtain ⟨rfl, rfl, rfl, rfl⟩ := pm_nx_inv h
    refine W.lcmp hx hb hd ?_
    exact W.widen (Nat.le_add_right _ _) (Nat.le_add_right _ _) (kk H locs arr hl hn hW hL)
  next => cases h
theorem pm_n_i2l {l : Launch} {D : va_G} {dA : Nat → ClassId} {HB : Heap} {b : Nat} {X : pm_X} {y : pm_M} {d : Nat} {p : Program} {e : Env} {R : Room} {s : State} {m : MethodId} {args : Array Value} {below : List Frame} {meth : Method} {c : Code} {H : Heap} {locs : List Loc} {cells slots : Nat} {Q : State → Prop} {pc pc' : Nat} {ls ls' st st' : List Value} {G G' : pm_H} {arr : Array Slot} (hd : decode y.2.2.1 pc = .ok (.i2l, 1)) (h : pm_step X y .i2l pc ls st G = some (.inl (pc', ls', st', G'))) (C : pm_Cx D dA HB b X y d p R s m args meth c) (hl : lv_has arr y.2.2.2.1 (pm_lv HB.size b ls)) (hn : ls.length = y.2.2.2.1) (hW : pm_W D dA HB b G H) (hL : ∀ q ∈ locs, HB.size ≤ q.base) (hc : cells + (G'.length - G.length) ≤ R.cells) (hs : slots + (pm_sl G' - pm_sl G) ≤ R.slots)
    (kk : ∀ (H' : Heap) (locs' : List Loc) (arr' : Array Slot), lv_has arr' y.2.2.2.1 (pm_lv HB.size b ls') → ls'.length = y.2.2.2.1 → pm_W D dA HB b G' H' → (∀ q ∈ locs', HB.size ≤ q.base) → W p l e R s m args below meth c H' locs' (cells + (G'.length - G.length)) (slots + (pm_sl G' - pm_sl G)) Q (F0 m pc' arr' (st'.map (pm_ev HB.size b)))) : W p l e R s m args below meth c H locs cells slots Q (F0 m pc arr (st.map (pm_ev HB.size b))) := by
  obtain ⟨hx, hb, hml, hown, hts, hnm, hK, hfr, hlo⟩ := id C
  simp only [pm_step] at h
  split at h
  next x r =>
    obtain ⟨rfl, rfl, rfl, rfl⟩ := pm_nx_inv h
    refine lv_i2l hx hb hd rfl ?_
    exact W.widen (Nat.le_add_right _ _) (Nat.le_add_right _ _) (kk H locs arr hl hn hW hL)
  next => cases h
theorem pm_n_l2i {l : Launch} {D : va_G} {dA : Nat → ClassId} {HB : Heap} {b : Nat} {X : pm_X} {y : pm_M} {d : Nat} {p : Program} {e : Env} {R : Room} {s : State} {m : MethodId} {args : Array Value} {below : List Frame} {meth : Method} {c : Code} {H : Heap} {locs : List Loc} {cells slots : Nat} {Q : State → Prop} {pc pc' : Nat} {ls ls' st st' : List Value} {G G' : pm_H} {arr : Array Slot} (hd : decode y.2.2.1 pc = .ok (.l2i, 1)) (h : pm_step X y .l2i pc ls st G = some (.inl (pc', ls', st', G'))) (C : pm_Cx D dA HB b X y d p R s m args meth c) (hl : lv_has arr y.2.2.2.1 (pm_lv HB.size b ls)) (hn : ls.length = y.2.2.2.1) (hW : pm_W D dA HB b G H) (hL : ∀ q ∈ locs, HB.size ≤ q.base) (hc : cells + (G'.length - G.length) ≤ R.cells) (hs : slots + (pm_sl G' - pm_sl G) ≤ R.slots)
    (kk : ∀ (H' : Heap) (locs' : List Loc) (arr' : Array Slot), lv_has arr' y.2.2.2.1 (pm_lv HB.size b ls') → ls'.length = y.2.2.2.1 → pm_W D dA HB b G' H' → (∀ q ∈ locs', HB.size ≤ q.base) → W p l e R s m args below meth c H' locs' (cells + (G'.length - G.length)) (slots + (pm_sl G' - pm_sl G)) Q (F0 m pc' arr' (st'.map (pm_ev HB.size b)))) : W p l e R s m args below meth c H locs cells slots Q (F0 m pc arr (st.map (pm_ev HB.size b))) := by
  obtain ⟨hx, hb, hml, hown, hts, hnm, hK, hfr, hlo⟩ := id C
  simp only [pm_step] at h
  split at h
  next x r =>
    obtain ⟨rfl, rfl, rfl, rfl⟩ := pm_nx_inv h
    refine lv_l2i hx hb hd rfl ?_
    exact W.widen (Nat.le_add_right _ _) (Nat.le_add_right _ _) (kk H locs arr hl hn hW hL)
  next => cases h
theorem pm_n_dup {l : Launch} {D : va_G} {dA : Nat → ClassId} {HB : Heap} {b : Nat} {X : pm_X} {y : pm_M} {d : Nat} {p : Program} {e : Env} {R : Room} {s : State} {m : MethodId} {args : Array Value} {below : List Frame} {meth : Method} {c : Code} {H : Heap} {locs : List Loc} {cells slots : Nat} {Q : State → Prop} {pc pc' : Nat} {ls ls' st st' : List Value} {G G' : pm_H} {arr : Array Slot} (hd : decode y.2.2.1 pc = .ok (.dup, 1)) (h : pm_step X y .dup pc ls st G = some (.inl (pc', ls', st', G'))) (C : pm_Cx D dA HB b X y d p R s m args meth c) (hl : lv_has arr y.2.2.2.1 (pm_lv HB.size b ls)) (hn : ls.length = y.2.2.2.1) (hW : pm_W D dA HB b G H) (hL : ∀ q ∈ locs, HB.size ≤ q.base) (hc : cells + (G'.length - G.length) ≤ R.cells) (hs : slots + (pm_sl G' - pm_sl G) ≤ R.slots)
    (kk : ∀ (H' : Heap) (locs' : List Loc) (arr' : Array Slot), lv_has arr' y.2.2.2.1 (pm_lv HB.size b ls') → ls'.length = y.2.2.2.1 → pm_W D dA HB b G' H' → (∀ q ∈ locs', HB.size ≤ q.base) → W p l e R s m args below meth c H' locs' (cells + (G'.length - G.length)) (slots + (pm_sl G' - pm_sl G)) Q (F0 m pc' arr' (st'.map (pm_ev HB.size b)))) : W p l e R s m args below meth c H locs cells slots Q (F0 m pc arr (st.map (pm_ev HB.size b))) := by
  obtain ⟨hx, hb, hml, hown, hts, hnm, hK, hfr, hlo⟩ := id C
  simp only [pm_step] at h
  split at h
  next x r =>
    obtain ⟨rfl, rfl, rfl, rfl⟩ := pm_nx_inv h
    refine lv_dup hx hb hd rfl ?_
    exact W.widen (Nat.le_add_right _ _) (Nat.le_add_right _ _) (kk H locs arr hl hn hW hL)
  next x r =>
    obtain ⟨rfl, rfl, rfl, rfl⟩ := pm_nx_inv h
    refine lv_dup hx hb hd rfl ?_
    exact W.widen (Nat.le_add_right _ _) (Nat.le_add_right _ _) (kk H locs arr hl hn hW hL)
  next => cases h
theorem pm_n_pop {l : Launch} {D : va_G} {dA : Nat → ClassId} {HB : Heap} {b : Nat} {X : pm_X} {y : pm_M} {d : Nat} {p : Program} {e : Env} {R : Room} {s : State} {m : MethodId} {args : Array Value} {below : List Frame} {meth : Method} {c : Code} {H : Heap} {locs : List Loc} {cells slots : Nat} {Q : State → Prop} {pc pc' : Nat} {ls ls' st st' : List Value} {G G' : pm_H} {arr : Array Slot} (hd : decode y.2.2.1 pc = .ok (.pop, 1)) (h : pm_step X y .pop pc ls st G = some (.inl (pc', ls', st', G'))) (C : pm_Cx D dA HB b X y d p R s m args meth c) (hl : lv_has arr y.2.2.2.1 (pm_lv HB.size b ls)) (hn : ls.length = y.2.2.2.1) (hW : pm_W D dA HB b G H) (hL : ∀ q ∈ locs, HB.size ≤ q.base) (hc : cells + (G'.length - G.length) ≤ R.cells) (hs : slots + (pm_sl G' - pm_sl G) ≤ R.slots)
    (kk : ∀ (H' : Heap) (locs' : List Loc) (arr' : Array Slot), lv_has arr' y.2.2.2.1 (pm_lv HB.size b ls') → ls'.length = y.2.2.2.1 → pm_W D dA HB b G' H' → (∀ q ∈ locs', HB.size ≤ q.base) → W p l e R s m args below meth c H' locs' (cells + (G'.length - G.length)) (slots + (pm_sl G' - pm_sl G)) Q (F0 m pc' arr' (st'.map (pm_ev HB.size b)))) : W p l e R s m args below meth c H locs cells slots Q (F0 m pc arr (st.map (pm_ev HB.size b))) := by
  obtain ⟨hx, hb, hml, hown, hts, hnm, hK, hfr, hlo⟩ := id C
  simp only [pm_step] at h
  split at h
  next x r =>
    obtain ⟨rfl, rfl, rfl, rfl⟩ := pm_nx_inv h
    refine lv_pop hx hb hd rfl ?_
    exact W.widen (Nat.le_add_right _ _) (Nat.le_add_right _ _) (kk H locs arr hl hn hW hL)
  next x r =>
    obtain ⟨rfl, rfl, rfl, rfl⟩ := pm_nx_inv h
    refine lv_pop hx hb hd rfl ?_
    exact W.widen (Nat.le_add_right _ _) (Nat.le_add_right _ _) (kk H locs arr hl hn hW hL)
  next => cases h
theorem pm_n_dup2 {l : Launch} {D : va_G} {dA : Nat → ClassId} {HB : Heap} {b : Nat} {X : pm_X} {y : pm_M} {d : Nat} {p : Program} {e : Env} {R : Room} {s : State} {m : MethodId} {args : Array Value} {below : List Frame} {meth : Method} {c : Code} {H : Heap} {locs : List Loc} {cells slots : Nat} {Q : State → Prop} {pc pc' : Nat} {ls ls' st st' : List Value} {G G' : pm_H} {arr : Array Slot} (hd : decode y.2.2.1 pc = .ok (.dup2, 1)) (h : pm_step X y .dup2 pc ls st G = some (.inl (pc', ls', st', G'))) (C : pm_Cx D dA HB b X y d p R s m args meth c) (hl : lv_has arr y.2.2.2.1 (pm_lv HB.size b ls)) (hn : ls.length = y.2.2.2.1) (hW : pm_W D dA HB b G H) (hL : ∀ q ∈ locs, HB.size ≤ q.base) (hc : cells + (G'.length - G.length) ≤ R.cells) (hs : slots + (pm_sl G' - pm_sl G) ≤ R.slots)
    (kk : ∀ (H' : Heap) (locs' : List Loc) (arr' : Array Slot), lv_has arr' y.2.2.2.1 (pm_lv HB.size b ls') → ls'.length = y.2.2.2.1 → pm_W D dA HB b G' H' → (∀ q ∈ locs', HB.size ≤ q.base) → W p l e R s m args below meth c H' locs' (cells + (G'.length - G.length)) (slots + (pm_sl G' - pm_sl G)) Q (F0 m pc' arr' (st'.map (pm_ev HB.size b)))) : W p l e R s m args below meth c H locs cells slots Q (F0 m pc arr (st.map (pm_ev HB.size b))) := by
  obtain ⟨hx, hb, hml, hown, hts, hnm, hK, hfr, hlo⟩ := id C
  simp only [pm_step] at h
  split at h
  next x a r =>
    obtain ⟨rfl, rfl, rfl, rfl⟩ := pm_nx_inv h
    refine lv_dup2_11 hx hb hd rfl rfl ?_
    exact W.widen (Nat.le_add_right _ _) (Nat.le_add_right _ _) (kk H locs arr hl hn hW hL)
  next => cases h
theorem pm_n_ifCond {l : Launch} {D : va_G} {dA : Nat → ClassId} {HB : Heap} {b : Nat} {X : pm_X} {y : pm_M} {d : Nat} {p : Program} {e : Env} {R : Room} {s : State} {m : MethodId} {args : Array Value} {below : List Frame} {meth : Method} {c : Code} {H : Heap} {locs : List Loc} {cells slots : Nat} {Q : State → Prop} {pc pc' : Nat} {ls ls' st st' : List Value} {G G' : pm_H} {arr : Array Slot} {k : ClassFile.Cond} {off : Int} (hd : decode y.2.2.1 pc = .ok ((.ifCond k off), 3)) (h : pm_step X y (.ifCond k off) pc ls st G = some (.inl (pc', ls', st', G'))) (C : pm_Cx D dA HB b X y d p R s m args meth c) (hl : lv_has arr y.2.2.2.1 (pm_lv HB.size b ls)) (hn : ls.length = y.2.2.2.1) (hW : pm_W D dA HB b G H) (hL : ∀ q ∈ locs, HB.size ≤ q.base) (hc : cells + (G'.length - G.length) ≤ R.cells) (hs : slots + (pm_sl G' - pm_sl G) ≤ R.slots)
    (kk : ∀ (H' : Heap) (locs' : List Loc) (arr' : Array Slot), lv_has arr' y.2.2.2.1 (pm_lv HB.size b ls') → ls'.length = y.2.2.2.1 → pm_W D dA HB b G' H' → (∀ q ∈ locs', HB.size ≤ q.base) → W p l e R s m args below meth c H' locs' (cells + (G'.length - G.length)) (slots + (pm_sl G' - pm_sl G)) Q (F0 m pc' arr' (st'.map (pm_ev HB.size b)))) : W p l e R s m args below meth c H locs cells slots Q (F0 m pc arr (st.map (pm_ev HB.size b))) := by
  obtain ⟨hx, hb, hml, hown, hts, hnm, hK, hfr, hlo⟩ := id C
  simp only [pm_step] at h
  split at h
  next x r =>
    obtain ⟨ht, rfl, rfl, rfl, hb1⟩ := pm_br_inv h
    cases k with
    | eq =>
      simp only [pm_cz, decide_eq_true_eq, decide_eq_false_iff_not] at hb1
      rcases hb1 with ⟨hc1, rfl⟩ | ⟨hc1, rfl⟩
      · exact lv_if_eq hx hb hd ht (fun _ => W.widen (Nat.le_add_right _ _) (Nat.le_add_right _ _) (kk H locs arr hl hn hW hL)) (fun q => absurd hc1 q)
      · exact lv_if_eq hx hb hd ht (fun q => absurd q hc1) (fun _ => W.widen (Nat.le_add_right _ _) (Nat.le_add_right _ _) (kk H locs arr hl hn hW hL))
    | ne =>
      simp only [pm_cz, decide_eq_true_eq, decide_eq_false_iff_not] at hb1
      rcases hb1 with ⟨hc1, rfl⟩ | ⟨hc1, rfl⟩
      · exact lv_if_ne hx hb hd ht (fun _ => W.widen (Nat.le_add_right _ _) (Nat.le_add_right _ _) (kk H locs arr hl hn hW hL)) (fun q => absurd q hc1)
      · exact lv_if_ne hx hb hd ht (fun q => absurd q hc1) (fun _ => W.widen (Nat.le_add_right _ _) (Nat.le_add_right _ _) (kk H locs arr hl hn hW hL))
    | lt =>
      simp only [pm_cz, decide_eq_true_eq, decide_eq_false_iff_not] at hb1
      rcases hb1 with ⟨hc1, rfl⟩ | ⟨hc1, rfl⟩
      · exact lv_if_lt hx hb hd ht (fun _ => W.widen (Nat.le_add_right _ _) (Nat.le_add_right _ _) (kk H locs arr hl hn hW hL)) (fun q => absurd hc1 q)
      · exact lv_if_lt hx hb hd ht (fun q => absurd q hc1) (fun _ => W.widen (Nat.le_add_right _ _) (Nat.le_add_right _ _) (kk H locs arr hl hn hW hL))
    | ge =>
      simp only [pm_cz, decide_eq_true_eq, decide_eq_false_iff_not] at hb1
      rcases hb1 with ⟨hc1, rfl⟩ | ⟨hc1, rfl⟩
      · exact lv_if_ge hx hb hd ht (fun _ => W.widen (Nat.le_add_right _ _) (Nat.le_add_right _ _) (kk H locs arr hl hn hW hL)) (fun q => absurd hc1 q)
      · exact lv_if_ge hx hb hd ht (fun q => absurd q hc1) (fun _ => W.widen (Nat.le_add_right _ _) (Nat.le_add_right _ _) (kk H locs arr hl hn hW hL))
    | gt =>
      simp only [pm_cz, decide_eq_true_eq, decide_eq_false_iff_not] at hb1
      rcases hb1 with ⟨hc1, rfl⟩ | ⟨hc1, rfl⟩
      · exact lv_if_gt hx hb hd ht (fun _ => W.widen (Nat.le_add_right _ _) (Nat.le_add_right _ _) (kk H locs arr hl hn hW hL)) (fun q => absurd hc1 q)
      · exact lv_if_gt hx hb hd ht (fun q => absurd q hc1) (fun _ => W.widen (Nat.le_add_right _ _) (Nat.le_add_right _ _) (kk H locs arr hl hn hW hL))
    | le =>
      simp only [pm_cz, decide_eq_true_eq, decide_eq_false_iff_not] at hb1
      rcases hb1 with ⟨hc1, rfl⟩ | ⟨hc1, rfl⟩
      · exact lv_if_le hx hb hd ht (fun _ => W.widen (Nat.le_add_right _ _) (Nat.le_add_right _ _) (kk H locs arr hl hn hW hL)) (fun q => absurd hc1 q)
      · exact lv_if_le hx hb hd ht (fun q => absurd q hc1) (fun _ => W.widen (Nat.le_add_right _ _) (Nat.le_add_right _ _) (kk H locs arr hl hn hW hL))
  next => cases h
theorem pm_n_if_icmp {l : Launch} {D : va_G} {dA : Nat → ClassId} {HB : Heap} {b : Nat} {X : pm_X} {y : pm_M} {d : Nat} {p : Program} {e : Env} {R : Room} {s : State} {m : MethodId} {args : Array Value} {below : List Frame} {meth : Method} {c : Code} {H : Heap} {locs : List Loc} {cells slots : Nat} {Q : State → Prop} {pc pc' : Nat} {ls ls' st st' : List Value} {G G' : pm_H} {arr : Array Slot} {k : ClassFile.Cond} {off : Int} (hd : decode y.2.2.1 pc = .ok ((.if_icmp k off), 3)) (h : pm_step X y (.if_icmp k off) pc ls st G = some (.inl (pc', ls', st', G'))) (C : pm_Cx D dA HB b X y d p R s m args meth c) (hl : lv_has arr y.2.2.2.1 (pm_lv HB.size b ls)) (hn : ls.length = y.2.2.2.1) (hW : pm_W D dA HB b G H) (hL : ∀ q ∈ locs, HB.size ≤ q.base) (hc : cells + (G'.length - G.length) ≤ R.cells) (hs : slots + (pm_sl G' - pm_sl G) ≤ R.slots)
    (kk : ∀ (H' : Heap) (locs' : List Loc) (arr' : Array Slot), lv_has arr' y.2.2.2.1 (pm_lv HB.size b ls') → ls'.length = y.2.2.2.1 → pm_W D dA HB b G' H' → (∀ q ∈ locs', HB.size ≤ q.base) → W p l e R s m args below meth c H' locs' (cells + (G'.length - G.length)) (slots + (pm_sl G' - pm_sl G)) Q (F0 m pc' arr' (st'.map (pm_ev HB.size b)))) : W p l e R s m args below meth c H locs cells slots Q (F0 m pc arr (st.map (pm_ev HB.size b))) := by
  obtain ⟨hx, hb, hml, hown, hts, hnm, hK, hfr, hlo⟩ := id C
  simp only [pm_step] at h
  split at h
  next y x r =>
    obtain ⟨ht, rfl, rfl, rfl, hb1⟩ := pm_br_inv h
    cases k with
    | eq =>
      simp only [pm_cc, decide_eq_true_eq, decide_eq_false_iff_not] at hb1
      rcases hb1 with ⟨hc1, rfl⟩ | ⟨hc1, rfl⟩
      · exact lv_icmp_eq hx hb hd ht (fun _ => W.widen (Nat.le_add_right _ _) (Nat.le_add_right _ _) (kk H locs arr hl hn hW hL)) (fun q => absurd hc1 q)
      · exact lv_icmp_eq hx hb hd ht (fun q => absurd q hc1) (fun _ => W.widen (Nat.le_add_right _ _) (Nat.le_add_right _ _) (kk H locs arr hl hn hW hL))
    | ne =>
      simp only [pm_cc, decide_eq_true_eq, decide_eq_false_iff_not] at hb1
      rcases hb1 with ⟨hc1, rfl⟩ | ⟨hc1, rfl⟩
      · exact lv_icmp_ne hx hb hd ht (fun _ => W.widen (Nat.le_add_right _ _) (Nat.le_add_right _ _) (kk H locs arr hl hn hW hL)) (fun q => absurd q hc1)
      · exact lv_icmp_ne hx hb hd ht (fun q => absurd q hc1) (fun _ => W.widen (Nat.le_add_right _ _) (Nat.le_add_right _ _) (kk H locs arr hl hn hW hL))
    | lt =>
      simp only [pm_cc, decide_eq_true_eq, decide_eq_false_iff_not] at hb1
      rcases hb1 with ⟨hc1, rfl⟩ | ⟨hc1, rfl⟩
      · exact lv_icmp_lt hx hb hd ht (fun _ => W.widen (Nat.le_add_right _ _) (Nat.le_add_right _ _) (kk H locs arr hl hn hW hL)) (fun q => absurd hc1 q)
      · exact lv_icmp_lt hx hb hd ht (fun q => absurd q hc1) (fun _ => W.widen (Nat.le_add_right _ _) (Nat.le_add_right _ _) (kk H locs arr hl hn hW hL))
    | ge =>
      simp only [pm_cc, decide_eq_true_eq, decide_eq_false_iff_not] at hb1
      rcases hb1 with ⟨hc1, rfl⟩ | ⟨hc1, rfl⟩
      · exact lv_icmp_ge hx hb hd ht (fun _ => W.widen (Nat.le_add_right _ _) (Nat.le_add_right _ _) (kk H locs arr hl hn hW hL)) (fun q => absurd hc1 q)
      · exact lv_icmp_ge hx hb hd ht (fun q => absurd q hc1) (fun _ => W.widen (Nat.le_add_right _ _) (Nat.le_add_right _ _) (kk H locs arr hl hn hW hL))
    | gt =>
      simp only [pm_cc, decide_eq_true_eq, decide_eq_false_iff_not] at hb1
      rcases hb1 with ⟨hc1, rfl⟩ | ⟨hc1, rfl⟩
      · exact lv_icmp_gt hx hb hd ht (fun _ => W.widen (Nat.le_add_right _ _) (Nat.le_add_right _ _) (kk H locs arr hl hn hW hL)) (fun q => absurd hc1 q)
      · exact lv_icmp_gt hx hb hd ht (fun q => absurd q hc1) (fun _ => W.widen (Nat.le_add_right _ _) (Nat.le_add_right _ _) (kk H locs arr hl hn hW hL))
    | le =>
      simp only [pm_cc, decide_eq_true_eq, decide_eq_false_iff_not] at hb1
      rcases hb1 with ⟨hc1, rfl⟩ | ⟨hc1, rfl⟩
      · exact lv_icmp_le hx hb hd ht (fun _ => W.widen (Nat.le_add_right _ _) (Nat.le_add_right _ _) (kk H locs arr hl hn hW hL)) (fun q => absurd hc1 q)
      · exact lv_icmp_le hx hb hd ht (fun q => absurd q hc1) (fun _ => W.widen (Nat.le_add_right _ _) (Nat.le_add_right _ _) (kk H locs arr hl hn hW hL))
  next => cases h
theorem pm_n_goto {l : Launch} {D : va_G} {dA : Nat → ClassId} {HB : Heap} {b : Nat} {X : pm_X} {y : pm_M} {d : Nat} {p : Program} {e : Env} {R : Room} {s : State} {m : MethodId} {args : Array Value} {below : List Frame} {meth : Method} {c : Code} {H : Heap} {locs : List Loc} {cells slots : Nat} {Q : State → Prop} {pc pc' : Nat} {ls ls' st st' : List Value} {G G' : pm_H} {arr : Array Slot} {off : Int} (hd : decode y.2.2.1 pc = .ok ((.goto off), 3)) (h : pm_step X y (.goto off) pc ls st G = some (.inl (pc', ls', st', G'))) (C : pm_Cx D dA HB b X y d p R s m args meth c) (hl : lv_has arr y.2.2.2.1 (pm_lv HB.size b ls)) (hn : ls.length = y.2.2.2.1) (hW : pm_W D dA HB b G H) (hL : ∀ q ∈ locs, HB.size ≤ q.base) (hc : cells + (G'.length - G.length) ≤ R.cells) (hs : slots + (pm_sl G' - pm_sl G) ≤ R.slots)
    (kk : ∀ (H' : Heap) (locs' : List Loc) (arr' : Array Slot), lv_has arr' y.2.2.2.1 (pm_lv HB.size b ls') → ls'.length = y.2.2.2.1 → pm_W D dA HB b G' H' → (∀ q ∈ locs', HB.size ≤ q.base) → W p l e R s m args below meth c H' locs' (cells + (G'.length - G.length)) (slots + (pm_sl G' - pm_sl G)) Q (F0 m pc' arr' (st'.map (pm_ev HB.size b)))) : W p l e R s m args below meth c H locs cells slots Q (F0 m pc arr (st.map (pm_ev HB.size b))) := by
  obtain ⟨hx, hb, hml, hown, hts, hnm, hK, hfr, hlo⟩ := id C
  simp only [pm_step] at h
  obtain ⟨ht, rfl, rfl, rfl⟩ := pm_go_inv h
  refine lv_goto hx hb hd ht ?_
  exact W.widen (Nat.le_add_right _ _) (Nat.le_add_right _ _) (kk H locs arr hl hn hW hL)
theorem pm_n_tableswitch {l : Launch} {D : va_G} {dA : Nat → ClassId} {HB : Heap} {b : Nat} {X : pm_X} {y : pm_M} {d : Nat} {p : Program} {e : Env} {R : Room} {s : State} {m : MethodId} {args : Array Value} {below : List Frame} {meth : Method} {c : Code} {H : Heap} {locs : List Loc} {cells slots : Nat} {Q : State → Prop} {pc pc' : Nat} {ls ls' st st' : List Value} {G G' : pm_H} {arr : Array Slot} {dd : Int} {lo : Int} {hi : Int} {offs : Array Int} {len : Nat} (hd : decode y.2.2.1 pc = .ok ((.tableswitch dd lo hi offs), len)) (h : pm_step X y (.tableswitch dd lo hi offs) pc ls st G = some (.inl (pc', ls', st', G'))) (C : pm_Cx D dA HB b X y d p R s m args meth c) (hl : lv_has arr y.2.2.2.1 (pm_lv HB.size b ls)) (hn : ls.length = y.2.2.2.1) (hW : pm_W D dA HB b G H) (hL : ∀ q ∈ locs, HB.size ≤ q.base) (hc : cells + (G'.length - G.length) ≤ R.cells) (hs : slots + (pm_sl G' - pm_sl G) ≤ R.slots)
    (kk : ∀ (H' : Heap) (locs' : List Loc) (arr' : Array Slot), lv_has arr' y.2.2.2.1 (pm_lv HB.size b ls') → ls'.length = y.2.2.2.1 → pm_W D dA HB b G' H' → (∀ q ∈ locs', HB.size ≤ q.base) → W p l e R s m args below meth c H' locs' (cells + (G'.length - G.length)) (slots + (pm_sl G' - pm_sl G)) Q (F0 m pc' arr' (st'.map (pm_ev HB.size b)))) : W p l e R s m args below meth c H locs cells slots Q (F0 m pc arr (st.map (pm_ev HB.size b))) := by
  obtain ⟨hx, hb, hml, hown, hts, hnm, hK, hfr, hlo⟩ := id C
  simp only [pm_step] at h
  split at h
  next x r =>
    split at h
    next hc1 =>
      obtain ⟨ht, rfl, rfl, rfl⟩ := pm_go_inv h
      refine lv_tableOut hx hb hd hc1 ht ?_
      exact W.widen (Nat.le_add_right _ _) (Nat.le_add_right _ _) (kk H locs arr hl hn hW hL)
    next hc1 =>
      split at h
      next off ho =>
        obtain ⟨ht, rfl, rfl, rfl⟩ := pm_go_inv h
        refine lv_tableIn hx hb hd (fun q => hc1 (Or.inl q)) (fun q => hc1 (Or.inr q)) ho ht ?_
        exact W.widen (Nat.le_add_right _ _) (Nat.le_add_right _ _) (kk H locs arr hl hn hW hL)
      next => cases h
  next => cases h
theorem pm_n_getfield {l : Launch} {D : va_G} {dA : Nat → ClassId} {HB : Heap} {b : Nat} {X : pm_X} {y : pm_M} {d : Nat} {p : Program} {e : Env} {R : Room} {s : State} {m : MethodId} {args : Array Value} {below : List Frame} {meth : Method} {c : Code} {H : Heap} {locs : List Loc} {cells slots : Nat} {Q : State → Prop} {pc pc' : Nat} {ls ls' st st' : List Value} {G G' : pm_H} {arr : Array Slot} {k : Nat} (hd : decode y.2.2.1 pc = .ok ((.getfield k), 3)) (h : pm_step X y (.getfield k) pc ls st G = some (.inl (pc', ls', st', G'))) (C : pm_Cx D dA HB b X y d p R s m args meth c) (hl : lv_has arr y.2.2.2.1 (pm_lv HB.size b ls)) (hn : ls.length = y.2.2.2.1) (hW : pm_W D dA HB b G H) (hL : ∀ q ∈ locs, HB.size ≤ q.base) (hc : cells + (G'.length - G.length) ≤ R.cells) (hs : slots + (pm_sl G' - pm_sl G) ≤ R.slots)
    (kk : ∀ (H' : Heap) (locs' : List Loc) (arr' : Array Slot), lv_has arr' y.2.2.2.1 (pm_lv HB.size b ls') → ls'.length = y.2.2.2.1 → pm_W D dA HB b G' H' → (∀ q ∈ locs', HB.size ≤ q.base) → W p l e R s m args below meth c H' locs' (cells + (G'.length - G.length)) (slots + (pm_sl G' - pm_sl G)) Q (F0 m pc' arr' (st'.map (pm_ev HB.size b)))) : W p l e R s m args below meth c H locs cells slots Q (F0 m pc arr (st.map (pm_ev HB.size b))) := by
  obtain ⟨hx, hb, hml, hown, hts, hnm, hK, hfr, hlo⟩ := id C
  simp only [pm_step] at h
  split at h
  next ci f hf =>
    split at h
    next a r =>
      split at h
      next v hv =>
        obtain ⟨rfl, rfl, rfl, rfl⟩ := pm_nx_inv h
        obtain ⟨h1, h2, h3⟩ := pm_fld_spec hf
        obtain ⟨fs, g1, g2⟩ := pm_gf_inv hv
        refine va_get (D := D) (ci := ci) (C := pm_R ci) (T := pm_T ci) (N := pm_N ci) (v := pm_ev HB.size b v) hx hb hts (pm_lay ci h3) hown hK.1 hW.2.2 a (pm_ws_at g1) (pm_cl_at ci h3) f h2 (hts _ h1) (fun _ h9 => h9) (by rw [List.getElem?_map, g2]; rfl) hd ?_
        exact W.widen (Nat.le_add_right _ _) (Nat.le_add_right _ _) (kk H locs arr hl hn hW hL)
      next => cases h
    next => cases h
  next => cases h
theorem pm_put {l : Launch} {D : va_G} {dA : Nat → ClassId} {HB : Heap} {b : Nat} {X : pm_X} {y : pm_M} {p : Program} {e : Env} {R : Room} {s : State} {m : MethodId} {args : Array Value} {below : List Frame} {meth : Method} {c : Code} {H : Heap} {locs : List Loc} {cells slots : Nat} {Q : State → Prop} {pc : Nat} {G : pm_H} {a ci f k : Nat} {fs : List Value} {v : Value} {arr : Array Slot} {r : List Value} (hx : p.tables.exec = Jvm.exec) (hb : c.code = y.2.2.1) (hown : s.vm.findClass (pm_R y.1) = some m.cls) (hts : ∀ w ∈ pm_g, w.before args s = true) (hnm : y.2.1.name = "<init>" → meth.name = "<init>") (hK : pm_K D dA HB b X s) (hW : pm_W D dA HB b G H) (hL : ∀ q ∈ locs, HB.size ≤ q.base) (g1 : G[a]? = some (.inr (ci, fs))) (h1 : Jvm.Cond.fieldLink (pm_R y.1) k (pm_T ci f).1 (pm_T ci f).2.1 (pm_T ci f).2.2.1 ∈ pm_g) (h2 : f < pm_N ci) (h3 : ci < 8) (g2 : f < fs.length) (hfit : pm_fit (pm_ty ci f) v = true) (hfin : (pm_T ci f).2.2.2 = false ∨ y.2.1.name = "<init>" ∧ (pm_T ci f).1 = pm_R y.1) (hd : decode y.2.2.1 pc = .ok (.putfield k, 3))
    (kk : ∀ (H1 : Heap) (locs1 : List Loc), H1.size = H.size → (∀ q : Nat, q ≠ HB.size + a → H1[q]? = H[q]?) → va_at D vwCl (HB.size + a, .inr (ci, (fs.map (pm_ev HB.size b)).set f (pm_ev HB.size b v))) H1 → (∀ q ∈ locs1, HB.size ≤ q.base) → W p l e R s m args below meth c H1 locs1 cells slots Q (F0 m (pc + 3) arr (r.map (pm_ev HB.size b)))) : W p l e R s m args below meth c H locs cells slots Q (F0 m pc arr ((v :: .ref a :: r).map (pm_ev HB.size b))) := by
  have hcl := pm_cl_at ci h3
  have hin := pm_lay ci h3
  have hn1 : narrow (pm_ty ci f) (pm_ev HB.size b v) = pm_ev HB.size b v ∧ fits (pm_ty ci f) (pm_ev HB.size b v) = true := by
    generalize pm_ty ci f = ty at hfit
    unfold pm_fit at hfit
    split at hfit
    · exact ⟨rfl, rfl⟩
    · simp only [Bool.or_eq_true, beq_iff_eq] at hfit
      rcases hfit with rfl | rfl
      · exact ⟨rfl, rfl⟩
      · exact ⟨rfl, rfl⟩
    · exact ⟨rfl, rfl⟩
    · exact ⟨rfl, rfl⟩
    · cases hfit
  obtain ⟨hn, hft⟩ := hn1
  have hap := va_apart (own := pm_R y.1) hts hin (pm_ty ci) (pm_ty_ok ci h3) (pm_nm ci h3) hK.1 hcl
  obtain ⟨r1, h10, cell, q1, q2, q3, q4⟩ := hW.2.2 a _ (pm_ws_at g1)
  have hr : r1 = (pm_R ci, pm_T ci, pm_N ci) := Option.some.inj (h10.symm.trans hcl)
  subst hr
  obtain ⟨hS, hfc, kC, hkC, hkind⟩ := hK.1.1 ci _ hcl
  obtain ⟨cf, kf, fi, fd, hi, hsl⟩ := hS f h2
  have hlay := hts _ (hin _ (u_in_lay h2))
  have hst := (u_facts hfc hkC (u_lays hts hin h2) hi).1
  have hty := pm_ty_ok ci h3 f h2
  have fin : ∀ (H1 : Heap), H1[HB.size + a]? = some (cell.setSlot fd.slot (pm_ev HB.size b v)) → va_at D vwCl (HB.size + a, .inr (ci, (fs.map (pm_ev HB.size b)).set f (pm_ev HB.size b v))) H1 := by
    intro H1 e1
    rw [hsl] at e1
    exact ⟨_, hcl, t_OB.to (V := updV (vp_V (fs.map (pm_ev HB.size b))) f (pm_ev HB.size b v)) ⟨_, e1, q2, q3, t_set q4 hap h2 _⟩ (fun j _ => vp_updV_set (by simpa using g2) _ j)⟩
  have lc : ∀ q ∈ locs ++ [(⟨HB.size + a, fd.slot⟩ : Loc)], HB.size ≤ q.base := fun q hq => by
    rcases List.mem_append.mp hq with h | h
    · exact hL q h
    · cases List.mem_singleton.mp h; exact Nat.le_add_right _ _
  by_cases hf : (pm_T ci f).2.2.2 = false
  · unfold u_lay at hlay
    rw [if_neg (by rw [hf]; decide)] at hlay
    have h6 := u_store hfc hkC hkind hlay hi hty hn hft
    exact W.putK hx hb (f := fd) ⟨hown, hts _ h1, ⟨_, _, _, hi⟩, hst⟩ (by rw [q2]; exact h6) q1 q3 (by rw [hsl]; exact k2_hasslot (q4 f h2)) rfl rfl hd fun H' e1 e2 e3 => kk H' _ e2 e3 (fin H' e1) lc
  · have hf : (pm_T ci f).2.2.2 = true := by simpa using hf
    obtain ⟨hin2, hdecl⟩ : y.2.1.name = "<init>" ∧ (pm_T ci f).1 = pm_R y.1 := by
      rcases hfin with h | h
      · rw [hf] at h; cases h
      · exact h
    unfold u_lay at hlay
    rw [if_pos hf] at hlay
    have hcf : m.cls = cf := by
      obtain ⟨_, _, c', _, _, _, -, -, hf', -, -, -, hown2, -⟩ := Cond.laysFinal_spec hlay
      have e1 : c' = cf := by have := hi.symm.trans hf'; simp at this; exact this.1.symm
      rw [hdecl] at hown2
      rw [← e1]; exact Option.some.inj (hown.symm.trans hown2)
    have h6 := u_fits hfc hkC hkind (Or.inr hlay) hi hty hn hft
    exact W.putFinK hx hb hown (hts _ h1) hi hst hcf (hnm hin2) (by rw [q2]; exact h6) q1 q3 (by rw [hsl]; exact k2_hasslot (q4 f h2)) rfl rfl hd fun H' e1 e2 e3 => kk H' _ e2 e3 (fin H' e1) lc

theorem pm_n_putfield {l : Launch} {D : va_G} {dA : Nat → ClassId} {HB : Heap} {b : Nat} {X : pm_X} {y : pm_M} {d : Nat} {p : Program} {e : Env} {R : Room} {s : State} {m : MethodId} {args : Array Value} {below : List Frame} {meth : Method} {c : Code} {H : Heap} {locs : List Loc} {cells slots : Nat} {Q : State → Prop} {pc pc' : Nat} {ls ls' st st' : List Value} {G G' : pm_H} {arr : Array Slot} {k : Nat} (hd : decode y.2.2.1 pc = .ok ((.putfield k), 3)) (h : pm_step X y (.putfield k) pc ls st G = some (.inl (pc', ls', st', G'))) (C : pm_Cx D dA HB b X y d p R s m args meth c) (hl : lv_has arr y.2.2.2.1 (pm_lv HB.size b ls)) (hn : ls.length = y.2.2.2.1) (hW : pm_W D dA HB b G H) (hL : ∀ q ∈ locs, HB.size ≤ q.base) (hc : cells + (G'.length - G.length) ≤ R.cells) (hs : slots + (pm_sl G' - pm_sl G) ≤ R.slots)
    (kk : ∀ (H' : Heap) (locs' : List Loc) (arr' : Array Slot), lv_has arr' y.2.2.2.1 (pm_lv HB.size b ls') → ls'.length = y.2.2.2.1 → pm_W D dA HB b G' H' → (∀ q ∈ locs', HB.size ≤ q.base) → W p l e R s m args below meth c H' locs' (cells + (G'.length - G.length)) (slots + (pm_sl G' - pm_sl G)) Q (F0 m pc' arr' (st'.map (pm_ev HB.size b)))) : W p l e R s m args below meth c H locs cells slots Q (F0 m pc arr (st.map (pm_ev HB.size b))) := by
  obtain ⟨hx, hb, hml, hown, hts, hnm, hK, hfr, hlo⟩ := id C
  simp only [pm_step] at h
  split at h
  next ci f hf =>
    split at h
    next v a r =>
      split at h
      next hc1 =>
        split at h
        next G2 hv =>
          obtain ⟨rfl, rfl, rfl, rfl⟩ := pm_nx_inv h
          obtain ⟨h1, h2, h3⟩ := pm_fld_spec hf
          obtain ⟨fs, g1, g2, rfl⟩ := pm_pf_inv hv
          simp only [Bool.and_eq_true, Bool.or_eq_true, Bool.not_eq_true', decide_eq_true_eq] at hc1
          obtain ⟨hfit, hfin⟩ := hc1
          have hw : ∀ H1 : Heap, H1.size = H.size → (∀ q : Nat, q ≠ HB.size + a → H1[q]? = H[q]?) → va_at D vwCl (HB.size + a, .inr (ci, (fs.map (pm_ev HB.size b)).set f (pm_ev HB.size b v))) H1 → pm_W D dA HB b (G.set a (.inr (ci, fs.set f v))) H1 := fun H1 hz oq he => hW.set g1 (by show va_at D vwCl (HB.size + a, .inr (ci, (fs.set f v).map (pm_ev HB.size b))) H1; rw [List.map_set]; exact he) hz oq
          exact pm_put hx hb hown hts hnm hK hW hL g1 h1 h2 h3 g2 hfit hfin hd (fun H1 locs1 hz oq he hL1 => W.widen (Nat.le_add_right _ _) (Nat.le_add_right _ _) (kk H1 locs1 arr hl hn (hw H1 hz oq he) hL1))
        next => cases h
      next => cases h
    next => cases h
  next => cases h
theorem pm_n_iaload {l : Launch} {D : va_G} {dA : Nat → ClassId} {HB : Heap} {b : Nat} {X : pm_X} {y : pm_M} {d : Nat} {p : Program} {e : Env} {R : Room} {s : State} {m : MethodId} {args : Array Value} {below : List Frame} {meth : Method} {c : Code} {H : Heap} {locs : List Loc} {cells slots : Nat} {Q : State → Prop} {pc pc' : Nat} {ls ls' st st' : List Value} {G G' : pm_H} {arr : Array Slot} (hd : decode y.2.2.1 pc = .ok (.iaload, 1)) (h : pm_step X y .iaload pc ls st G = some (.inl (pc', ls', st', G'))) (C : pm_Cx D dA HB b X y d p R s m args meth c) (hl : lv_has arr y.2.2.2.1 (pm_lv HB.size b ls)) (hn : ls.length = y.2.2.2.1) (hW : pm_W D dA HB b G H) (hL : ∀ q ∈ locs, HB.size ≤ q.base) (hc : cells + (G'.length - G.length) ≤ R.cells) (hs : slots + (pm_sl G' - pm_sl G) ≤ R.slots)
    (kk : ∀ (H' : Heap) (locs' : List Loc) (arr' : Array Slot), lv_has arr' y.2.2.2.1 (pm_lv HB.size b ls') → ls'.length = y.2.2.2.1 → pm_W D dA HB b G' H' → (∀ q ∈ locs', HB.size ≤ q.base) → W p l e R s m args below meth c H' locs' (cells + (G'.length - G.length)) (slots + (pm_sl G' - pm_sl G)) Q (F0 m pc' arr' (st'.map (pm_ev HB.size b)))) : W p l e R s m args below meth c H locs cells slots Q (F0 m pc arr (st.map (pm_ev HB.size b))) := by
  obtain ⟨hx, hb, hml, hown, hts, hnm, hK, hfr, hlo⟩ := id C
  simp only [pm_step] at h
  split at h
  next i a r =>
    split at h
    next n f hf =>
      split at h
      next hi =>
        obtain ⟨rfl, rfl, rfl, rfl⟩ := pm_nx_inv h
        refine va_iald hx hb hK.1 hW.2.2 a 0 (pm_ws_at (pm_ai_inv hf)) rfl (pm_in_iff.mp hi) hd ?_
        exact W.widen (Nat.le_add_right _ _) (Nat.le_add_right _ _) (kk H locs arr hl hn hW hL)
      next => cases h
    next => cases h
  next i _ r =>
    split at h
    next hi =>
      obtain ⟨rfl, rfl, rfl, rfl⟩ := pm_nx_inv h
      have hS : va_S (fun q => HB.size ≤ q) HB H [] := ⟨by rw [hW.1]; omega, fun q h1 _ => hW.2.1 q h1, fun _ h => by cases h⟩
      obtain ⟨scr, q1, q2, q3, q4, q5⟩ := hK.2.2.2.1
      have hlt : i.toNatClampNeg < X.1 := Nat.not_le.mp fun q => (pm_in_iff.mp hi) (Or.inr q)
      refine W.iald (v := .int (X.2 i.toNatClampNeg)) hx hb (by rw [hW.2.1 b hK.2.2.2.2]; exact q1) q2 q3 (by rw [q4]; exact pm_in_iff.mp hi) (q5 _ hlt) rfl rfl hd ?_
      exact W.widen (Nat.le_add_right _ _) (Nat.le_add_right _ _) (kk H locs arr hl hn hW hL)
    next => cases h
  next => cases h
theorem pm_n_baload {l : Launch} {D : va_G} {dA : Nat → ClassId} {HB : Heap} {b : Nat} {X : pm_X} {y : pm_M} {d : Nat} {p : Program} {e : Env} {R : Room} {s : State} {m : MethodId} {args : Array Value} {below : List Frame} {meth : Method} {c : Code} {H : Heap} {locs : List Loc} {cells slots : Nat} {Q : State → Prop} {pc pc' : Nat} {ls ls' st st' : List Value} {G G' : pm_H} {arr : Array Slot} (hd : decode y.2.2.1 pc = .ok (.baload, 1)) (h : pm_step X y .baload pc ls st G = some (.inl (pc', ls', st', G'))) (C : pm_Cx D dA HB b X y d p R s m args meth c) (hl : lv_has arr y.2.2.2.1 (pm_lv HB.size b ls)) (hn : ls.length = y.2.2.2.1) (hW : pm_W D dA HB b G H) (hL : ∀ q ∈ locs, HB.size ≤ q.base) (hc : cells + (G'.length - G.length) ≤ R.cells) (hs : slots + (pm_sl G' - pm_sl G) ≤ R.slots)
    (kk : ∀ (H' : Heap) (locs' : List Loc) (arr' : Array Slot), lv_has arr' y.2.2.2.1 (pm_lv HB.size b ls') → ls'.length = y.2.2.2.1 → pm_W D dA HB b G' H' → (∀ q ∈ locs', HB.size ≤ q.base) → W p l e R s m args below meth c H' locs' (cells + (G'.length - G.length)) (slots + (pm_sl G' - pm_sl G)) Q (F0 m pc' arr' (st'.map (pm_ev HB.size b)))) : W p l e R s m args below meth c H locs cells slots Q (F0 m pc arr (st.map (pm_ev HB.size b))) := by
  obtain ⟨hx, hb, hml, hown, hts, hnm, hK, hfr, hlo⟩ := id C
  simp only [pm_step] at h
  split at h
  next i a r =>
    split at h
    next n f hf =>
      split at h
      next hi =>
        obtain ⟨rfl, rfl, rfl, rfl⟩ := pm_nx_inv h
        refine va_zald hx hb hK.1 hW.2.2 a 2 (pm_ws_at (pm_ai_inv hf)) rfl (pm_in_iff.mp hi) hd ?_
        exact W.widen (Nat.le_add_right _ _) (Nat.le_add_right _ _) (kk H locs arr hl hn hW hL)
      next => cases h
    next => cases h
  next => cases h
theorem pm_n_laload {l : Launch} {D : va_G} {dA : Nat → ClassId} {HB : Heap} {b : Nat} {X : pm_X} {y : pm_M} {d : Nat} {p : Program} {e : Env} {R : Room} {s : State} {m : MethodId} {args : Array Value} {below : List Frame} {meth : Method} {c : Code} {H : Heap} {locs : List Loc} {cells slots : Nat} {Q : State → Prop} {pc pc' : Nat} {ls ls' st st' : List Value} {G G' : pm_H} {arr : Array Slot} (hd : decode y.2.2.1 pc = .ok (.laload, 1)) (h : pm_step X y .laload pc ls st G = some (.inl (pc', ls', st', G'))) (C : pm_Cx D dA HB b X y d p R s m args meth c) (hl : lv_has arr y.2.2.2.1 (pm_lv HB.size b ls)) (hn : ls.length = y.2.2.2.1) (hW : pm_W D dA HB b G H) (hL : ∀ q ∈ locs, HB.size ≤ q.base) (hc : cells + (G'.length - G.length) ≤ R.cells) (hs : slots + (pm_sl G' - pm_sl G) ≤ R.slots)
    (kk : ∀ (H' : Heap) (locs' : List Loc) (arr' : Array Slot), lv_has arr' y.2.2.2.1 (pm_lv HB.size b ls') → ls'.length = y.2.2.2.1 → pm_W D dA HB b G' H' → (∀ q ∈ locs', HB.size ≤ q.base) → W p l e R s m args below meth c H' locs' (cells + (G'.length - G.length)) (slots + (pm_sl G' - pm_sl G)) Q (F0 m pc' arr' (st'.map (pm_ev HB.size b)))) : W p l e R s m args below meth c H locs cells slots Q (F0 m pc arr (st.map (pm_ev HB.size b))) := by
  obtain ⟨hx, hb, hml, hown, hts, hnm, hK, hfr, hlo⟩ := id C
  simp only [pm_step] at h
  split at h
  next i a r =>
    split at h
    next n f hf =>
      split at h
      next hi =>
        obtain ⟨rfl, rfl, rfl, rfl⟩ := pm_nx_inv h
        refine va_lald hx hb hK.1 hW.2.2 a 1 (pm_ws_at (pm_al_inv hf)) rfl (pm_in_iff.mp hi) hd ?_
        exact W.widen (Nat.le_add_right _ _) (Nat.le_add_right _ _) (kk H locs arr hl hn hW hL)
      next => cases h
    next => cases h
  next => cases h
theorem pm_n_aaload {l : Launch} {D : va_G} {dA : Nat → ClassId} {HB : Heap} {b : Nat} {X : pm_X} {y : pm_M} {d : Nat} {p : Program} {e : Env} {R : Room} {s : State} {m : MethodId} {args : Array Value} {below : List Frame} {meth : Method} {c : Code} {H : Heap} {locs : List Loc} {cells slots : Nat} {Q : State → Prop} {pc pc' : Nat} {ls ls' st st' : List Value} {G G' : pm_H} {arr : Array Slot} (hd : decode y.2.2.1 pc = .ok (.aaload, 1)) (h : pm_step X y .aaload pc ls st G = some (.inl (pc', ls', st', G'))) (C : pm_Cx D dA HB b X y d p R s m args meth c) (hl : lv_has arr y.2.2.2.1 (pm_lv HB.size b ls)) (hn : ls.length = y.2.2.2.1) (hW : pm_W D dA HB b G H) (hL : ∀ q ∈ locs, HB.size ≤ q.base) (hc : cells + (G'.length - G.length) ≤ R.cells) (hs : slots + (pm_sl G' - pm_sl G) ≤ R.slots)
    (kk : ∀ (H' : Heap) (locs' : List Loc) (arr' : Array Slot), lv_has arr' y.2.2.2.1 (pm_lv HB.size b ls') → ls'.length = y.2.2.2.1 → pm_W D dA HB b G' H' → (∀ q ∈ locs', HB.size ≤ q.base) → W p l e R s m args below meth c H' locs' (cells + (G'.length - G.length)) (slots + (pm_sl G' - pm_sl G)) Q (F0 m pc' arr' (st'.map (pm_ev HB.size b)))) : W p l e R s m args below meth c H locs cells slots Q (F0 m pc arr (st.map (pm_ev HB.size b))) := by
  obtain ⟨hx, hb, hml, hown, hts, hnm, hK, hfr, hlo⟩ := id C
  simp only [pm_step] at h
  split at h
  next i a r =>
    split at h
    next n f hf =>
      split at h
      next hi =>
        split at h
        next q hq =>
          obtain ⟨rfl, rfl, rfl, rfl⟩ := pm_nx_inv h
          refine va_aldq (C := RX4) hx hb hK.1 hW.2.2 a 3 (pm_ws_at (pm_aq_inv hf)) rfl (pm_in_iff.mp hi) hd ?_
          rw [hq]
          exact W.widen (Nat.le_add_right _ _) (Nat.le_add_right _ _) (kk H locs arr hl hn hW hL)
        next => cases h
      next => cases h
    next => cases h
  next => cases h
theorem pm_cv_ne {y : pm_M} {ks : List Nat} {k : Nat} {st : List Value} {G : pm_H} {self : Bool} (q : Nat × List Value × List Value × pm_H) : ¬ pm_cv y ks k st G self = some (.inl q) := by
  intro h
  unfold pm_cv at h
  repeat' (split at h)
  all_goals first | cases h | simp at h
theorem pm_df_v : ∀ ci, ci < 8 → ∀ v ∈ pm_df ci, v = .int 0 ∨ v = .null := by decide +kernel
theorem pm_df_ev {B b : Nat} : ∀ ci, ci < 8 → ∀ j, j < pm_N ci → vp_V (pm_df ci) j = vp_V ((pm_df ci).map (pm_ev B b)) j := by
  intro ci h j hj
  unfold vp_V
  rw [List.getD_eq_getElem?_getD, List.getD_eq_getElem?_getD, List.getElem?_map]
  have : ∀ v ∈ pm_df ci, pm_ev B b v = v := fun v hv => by
    rcases pm_df_v ci h v hv with rfl | rfl <;> rfl
  cases hg : (pm_df ci)[j]? with
  | none => rfl
  | some v => simp [this v (List.mem_of_getElem? hg)]
theorem pm_arr0 : Jvm.Cond.arrayClass (newarray.typeOf .int) ∈ pm_g := pm_g_of (i := 197) (by decide +kernel) rfl
theorem pm_arr1 : Jvm.Cond.arrayClass (newarray.typeOf .long) ∈ pm_g := pm_g_of (i := 245) (by decide +kernel) rfl
theorem pm_arr2 : Jvm.Cond.arrayClass (newarray.typeOf .boolean) ∈ pm_g := pm_g_of (i := 246) (by decide +kernel) rfl

theorem pm_n_iastore {l : Launch} {D : va_G} {dA : Nat → ClassId} {HB : Heap} {b : Nat} {X : pm_X} {y : pm_M} {d : Nat} {p : Program} {e : Env} {R : Room} {s : State} {m : MethodId} {args : Array Value} {below : List Frame} {meth : Method} {c : Code} {H : Heap} {locs : List Loc} {cells slots : Nat} {Q : State → Prop} {pc pc' : Nat} {ls ls' st st' : List Value} {G G' : pm_H} {arr : Array Slot} (hd : decode y.2.2.1 pc = .ok (.iastore, 1)) (h : pm_step X y .iastore pc ls st G = some (.inl (pc', ls', st', G'))) (C : pm_Cx D dA HB b X y d p R s m args meth c) (hl : lv_has arr y.2.2.2.1 (pm_lv HB.size b ls)) (hn : ls.length = y.2.2.2.1) (hW : pm_W D dA HB b G H) (hL : ∀ q ∈ locs, HB.size ≤ q.base) (hc : cells + (G'.length - G.length) ≤ R.cells) (hs : slots + (pm_sl G' - pm_sl G) ≤ R.slots)
    (kk : ∀ (H' : Heap) (locs' : List Loc) (arr' : Array Slot), lv_has arr' y.2.2.2.1 (pm_lv HB.size b ls') → ls'.length = y.2.2.2.1 → pm_W D dA HB b G' H' → (∀ q ∈ locs', HB.size ≤ q.base) → W p l e R s m args below meth c H' locs' (cells + (G'.length - G.length)) (slots + (pm_sl G' - pm_sl G)) Q (F0 m pc' arr' (st'.map (pm_ev HB.size b)))) : W p l e R s m args below meth c H locs cells slots Q (F0 m pc arr (st.map (pm_ev HB.size b))) := by
  obtain ⟨hx, hb, hml, hown, hts, hnm, hK, hfr, hlo⟩ := id C
  simp only [pm_step] at h
  split at h
  next x i a r =>
    split at h
    next n f hf =>
      split at h
      next hi =>
        obtain ⟨rfl, rfl, rfl, rfl⟩ := pm_nx_inv h
        have g1 := pm_ai_inv hf
        have lc : ∀ k : Nat, ∀ q ∈ locs ++ [(⟨HB.size + a, k⟩ : Loc)], HB.size ≤ q.base := fun k q hq => by
          rcases List.mem_append.mp hq with h | h
          · exact hL q h
          · cases List.mem_singleton.mp h; exact Nat.le_add_right _ _
        have hi := pm_in_iff.mp hi
        refine W.iast hx hb (hW.2.2 a _ (pm_ws_at g1)) ((hK.1.2 0 _ rfl).1 n (fun j => .int (f j))) (fun q => by cases q) (by show ¬ (i < 0 ∨ (arrV _ _ _).slots.size ≤ _); rw [arrV_size]; exact hi) rfl rfl hd fun H1 e z oq => ?_
        refine W.widen (Nat.le_add_right _ _) (Nat.le_add_right _ _) (kk H1 _ arr hl hn (hW.set g1 ?_ z oq) (lc _))
        show H1[HB.size + a]? = some (vp_cell _ _)
        rw [e]
        show some ((vp_cell (dA 0) (n, Sum.inl f)).setSlot i.toNatClampNeg _) = some (vp_cell (dA 0) (n, Sum.inl (upd f i.toNatClampNeg x)))
        rw [vp_cell_i, vp_cell_i, arrV_store]
        congr 2
        funext q
        by_cases hq : q = i.toNatClampNeg
        · subst hq
          simp [updV, upd, vp_updL, vp_nar, narrow]
        · simp [updV, upd, vp_updL, hq]
      next => cases h
    next => cases h
  next => cases h
theorem pm_n_bastore {l : Launch} {D : va_G} {dA : Nat → ClassId} {HB : Heap} {b : Nat} {X : pm_X} {y : pm_M} {d : Nat} {p : Program} {e : Env} {R : Room} {s : State} {m : MethodId} {args : Array Value} {below : List Frame} {meth : Method} {c : Code} {H : Heap} {locs : List Loc} {cells slots : Nat} {Q : State → Prop} {pc pc' : Nat} {ls ls' st st' : List Value} {G G' : pm_H} {arr : Array Slot} (hd : decode y.2.2.1 pc = .ok (.bastore, 1)) (h : pm_step X y .bastore pc ls st G = some (.inl (pc', ls', st', G'))) (C : pm_Cx D dA HB b X y d p R s m args meth c) (hl : lv_has arr y.2.2.2.1 (pm_lv HB.size b ls)) (hn : ls.length = y.2.2.2.1) (hW : pm_W D dA HB b G H) (hL : ∀ q ∈ locs, HB.size ≤ q.base) (hc : cells + (G'.length - G.length) ≤ R.cells) (hs : slots + (pm_sl G' - pm_sl G) ≤ R.slots)
    (kk : ∀ (H' : Heap) (locs' : List Loc) (arr' : Array Slot), lv_has arr' y.2.2.2.1 (pm_lv HB.size b ls') → ls'.length = y.2.2.2.1 → pm_W D dA HB b G' H' → (∀ q ∈ locs', HB.size ≤ q.base) → W p l e R s m args below meth c H' locs' (cells + (G'.length - G.length)) (slots + (pm_sl G' - pm_sl G)) Q (F0 m pc' arr' (st'.map (pm_ev HB.size b)))) : W p l e R s m args below meth c H locs cells slots Q (F0 m pc arr (st.map (pm_ev HB.size b))) := by
  obtain ⟨hx, hb, hml, hown, hts, hnm, hK, hfr, hlo⟩ := id C
  simp only [pm_step] at h
  split at h
  next x i a r =>
    split at h
    next n f hf =>
      split at h
      next hi =>
        obtain ⟨rfl, rfl, rfl, rfl⟩ := pm_nx_inv h
        have g1 := pm_ai_inv hf
        have lc : ∀ k : Nat, ∀ q ∈ locs ++ [(⟨HB.size + a, k⟩ : Loc)], HB.size ≤ q.base := fun k q hq => by
          rcases List.mem_append.mp hq with h | h
          · exact hL q h
          · cases List.mem_singleton.mp h; exact Nat.le_add_right _ _
        have hi := pm_in_iff.mp hi
        refine W.zast hx hb (hW.2.2 a _ (pm_ws_at g1)) ((hK.1.2 2 _ rfl).1 n (fun j => .int (f j))) (fun q => by cases q) (by show ¬ (i < 0 ∨ (arrV _ _ _).slots.size ≤ _); rw [arrV_size]; exact hi) rfl rfl hd fun H1 e z oq => ?_
        refine W.widen (Nat.le_add_right _ _) (Nat.le_add_right _ _) (kk H1 _ arr hl hn (hW.set g1 ?_ z oq) (lc _))
        show H1[HB.size + a]? = some (vp_cell _ _)
        rw [e]
        show some ((vp_cell (dA 2) (n, Sum.inl f)).setSlot i.toNatClampNeg _) = some (vp_cell (dA 2) (n, Sum.inl (upd f i.toNatClampNeg (vp_nar .boolean x))))
        rw [vp_cell_i, vp_cell_i, arrV_store]
        congr 2
        funext q
        by_cases hq : q = i.toNatClampNeg
        · subst hq
          simp [updV, upd, vp_updL, vp_nar, narrow]
        · simp [updV, upd, vp_updL, hq]
      next => cases h
    next => cases h
  next => cases h
theorem pm_n_lastore {l : Launch} {D : va_G} {dA : Nat → ClassId} {HB : Heap} {b : Nat} {X : pm_X} {y : pm_M} {d : Nat} {p : Program} {e : Env} {R : Room} {s : State} {m : MethodId} {args : Array Value} {below : List Frame} {meth : Method} {c : Code} {H : Heap} {locs : List Loc} {cells slots : Nat} {Q : State → Prop} {pc pc' : Nat} {ls ls' st st' : List Value} {G G' : pm_H} {arr : Array Slot} (hd : decode y.2.2.1 pc = .ok (.lastore, 1)) (h : pm_step X y .lastore pc ls st G = some (.inl (pc', ls', st', G'))) (C : pm_Cx D dA HB b X y d p R s m args meth c) (hl : lv_has arr y.2.2.2.1 (pm_lv HB.size b ls)) (hn : ls.length = y.2.2.2.1) (hW : pm_W D dA HB b G H) (hL : ∀ q ∈ locs, HB.size ≤ q.base) (hc : cells + (G'.length - G.length) ≤ R.cells) (hs : slots + (pm_sl G' - pm_sl G) ≤ R.slots)
    (kk : ∀ (H' : Heap) (locs' : List Loc) (arr' : Array Slot), lv_has arr' y.2.2.2.1 (pm_lv HB.size b ls') → ls'.length = y.2.2.2.1 → pm_W D dA HB b G' H' → (∀ q ∈ locs', HB.size ≤ q.base) → W p l e R s m args below meth c H' locs' (cells + (G'.length - G.length)) (slots + (pm_sl G' - pm_sl G)) Q (F0 m pc' arr' (st'.map (pm_ev HB.size b)))) : W p l e R s m args below meth c H locs cells slots Q (F0 m pc arr (st.map (pm_ev HB.size b))) := by
  obtain ⟨hx, hb, hml, hown, hts, hnm, hK, hfr, hlo⟩ := id C
  simp only [pm_step] at h
  split at h
  next x i a r =>
    split at h
    next n f hf =>
      split at h
      next hi =>
        obtain ⟨rfl, rfl, rfl, rfl⟩ := pm_nx_inv h
        have g1 := pm_al_inv hf
        have lc : ∀ k : Nat, ∀ q ∈ locs ++ [(⟨HB.size + a, k⟩ : Loc)], HB.size ≤ q.base := fun k q hq => by
          rcases List.mem_append.mp hq with h | h
          · exact hL q h
          · cases List.mem_singleton.mp h; exact Nat.le_add_right _ _
        have hi := pm_in_iff.mp hi
        refine W.last hx hb (hW.2.2 a _ (pm_ws_at g1)) ((hK.1.2 1 _ rfl).1 n (fun j => .long (f j))) (fun q => by cases q) (by show ¬ (i < 0 ∨ (arrV _ _ _).slots.size ≤ _); rw [arrV_size]; exact hi) rfl rfl hd fun H1 e z oq => ?_
        refine W.widen (Nat.le_add_right _ _) (Nat.le_add_right _ _) (kk H1 _ arr hl hn (hW.set g1 ?_ z oq) (lc _))
        show H1[HB.size + a]? = some (vp_cell _ _)
        rw [e]
        show some ((vp_cell (dA 1) (n, Sum.inr (Sum.inl f))).setSlot i.toNatClampNeg _) = some (vp_cell (dA 1) (n, Sum.inr (Sum.inl (vp_updL f i.toNatClampNeg x))))
        rw [vp_cell_l, vp_cell_l, arrV_store]
        congr 2
        funext q
        by_cases hq : q = i.toNatClampNeg
        · subst hq
          simp [updV, upd, vp_updL, vp_nar, narrow]
        · simp [updV, upd, vp_updL, hq]
      next => cases h
    next => cases h
  next => cases h
theorem pm_n_aastore {l : Launch} {D : va_G} {dA : Nat → ClassId} {HB : Heap} {b : Nat} {X : pm_X} {y : pm_M} {d : Nat} {p : Program} {e : Env} {R : Room} {s : State} {m : MethodId} {args : Array Value} {below : List Frame} {meth : Method} {c : Code} {H : Heap} {locs : List Loc} {cells slots : Nat} {Q : State → Prop} {pc pc' : Nat} {ls ls' st st' : List Value} {G G' : pm_H} {arr : Array Slot} (hd : decode y.2.2.1 pc = .ok (.aastore, 1)) (h : pm_step X y .aastore pc ls st G = some (.inl (pc', ls', st', G'))) (C : pm_Cx D dA HB b X y d p R s m args meth c) (hl : lv_has arr y.2.2.2.1 (pm_lv HB.size b ls)) (hn : ls.length = y.2.2.2.1) (hW : pm_W D dA HB b G H) (hL : ∀ q ∈ locs, HB.size ≤ q.base) (hc : cells + (G'.length - G.length) ≤ R.cells) (hs : slots + (pm_sl G' - pm_sl G) ≤ R.slots)
    (kk : ∀ (H' : Heap) (locs' : List Loc) (arr' : Array Slot), lv_has arr' y.2.2.2.1 (pm_lv HB.size b ls') → ls'.length = y.2.2.2.1 → pm_W D dA HB b G' H' → (∀ q ∈ locs', HB.size ≤ q.base) → W p l e R s m args below meth c H' locs' (cells + (G'.length - G.length)) (slots + (pm_sl G' - pm_sl G)) Q (F0 m pc' arr' (st'.map (pm_ev HB.size b)))) : W p l e R s m args below meth c H locs cells slots Q (F0 m pc arr (st.map (pm_ev HB.size b))) := by
  obtain ⟨hx, hb, hml, hown, hts, hnm, hK, hfr, hlo⟩ := id C
  simp only [pm_step] at h
  split at h
  next v i a r =>
    split at h
    next n f hf =>
      split at h
      next vs hv =>
        split at h
        next hi =>
          obtain ⟨rfl, rfl, rfl, rfl⟩ := pm_nx_inv h
          have g1 := pm_aq_inv hf
          have lc : ∀ k : Nat, ∀ q ∈ locs ++ [(⟨HB.size + a, k⟩ : Loc)], HB.size ≤ q.base := fun k q hq => by
            rcases List.mem_append.mp hq with h | h
            · exact hL q h
            · cases List.mem_singleton.mp h; exact Nat.le_add_right _ _
          have hi := pm_in_iff.mp hi
          have hlt : i.toNatClampNeg < n := Nat.not_le.mp fun q => hi (Or.inr q)
          have h0 : ¬ i < 0 := fun q => hi (Or.inl q)
          obtain ⟨r', hr', cellV, g2, g3, g4, -⟩ := hW.2.2 v _ (pm_ws_at hv)
          have hcls := (hK.1.1 4 _ (pm_cl_at 4 (by decide))).2
          obtain ⟨kA, comp, k1, k2, k3, -⟩ := (hK.1.2 3 _ rfl).2
          have hcomp : comp = D.1 4 := Option.some.inj (k3.symm.trans hcls.1)
          subst hcomp
          obtain ⟨kC, hkC, -⟩ := hcls.2
          refine W.aast hx hb (hW.2.2 a _ (pm_ws_at g1)) (fun q h => by cases h) (fun h => by cases h) k1 k2 rfl hkC ⟨h0, by show _ < (arrV _ _ _).slots.size; rw [arrV_size]; exact hlt⟩ g2 (fun q h => by rw [g4] at h; cases h) (by rw [g3]; exact hkC) (by rw [g3]; exact va_assign hcls) rfl rfl hd fun H1 e z oq => ?_
          refine W.widen (Nat.le_add_right _ _) (Nat.le_add_right _ _) (kk H1 _ arr hl hn (hW.set g1 ?_ z oq) (lc _))
          show H1[HB.size + a]? = some (vp_cell _ _)
          rw [e]
          show some ((vp_cell (dA 3) (n, .inr (.inr (.inr (.inr (fun j => (f j).map (fun q => HB.size + q))))))).setSlot i.toNatClampNeg _) = some (vp_cell (dA 3) (n, .inr (.inr (.inr (.inr (fun j => (va_up f i.toNatClampNeg (some v) j).map (fun q => HB.size + q)))))))
          rw [vp_cell_q, vp_cell_q, arrV_store]
          congr 2
          funext q
          by_cases hq : q = i.toNatClampNeg
          · subst hq
            simp [updV, va_up, va_rf]
          · simp [updV, va_up, hq]
        next => cases h
      next => cases h
    next => cases h
  next => cases h
theorem pm_n_arraylength {l : Launch} {D : va_G} {dA : Nat → ClassId} {HB : Heap} {b : Nat} {X : pm_X} {y : pm_M} {d : Nat} {p : Program} {e : Env} {R : Room} {s : State} {m : MethodId} {args : Array Value} {below : List Frame} {meth : Method} {c : Code} {H : Heap} {locs : List Loc} {cells slots : Nat} {Q : State → Prop} {pc pc' : Nat} {ls ls' st st' : List Value} {G G' : pm_H} {arr : Array Slot} (hd : decode y.2.2.1 pc = .ok (.arraylength, 1)) (h : pm_step X y .arraylength pc ls st G = some (.inl (pc', ls', st', G'))) (C : pm_Cx D dA HB b X y d p R s m args meth c) (hl : lv_has arr y.2.2.2.1 (pm_lv HB.size b ls)) (hn : ls.length = y.2.2.2.1) (hW : pm_W D dA HB b G H) (hL : ∀ q ∈ locs, HB.size ≤ q.base) (hc : cells + (G'.length - G.length) ≤ R.cells) (hs : slots + (pm_sl G' - pm_sl G) ≤ R.slots)
    (kk : ∀ (H' : Heap) (locs' : List Loc) (arr' : Array Slot), lv_has arr' y.2.2.2.1 (pm_lv HB.size b ls') → ls'.length = y.2.2.2.1 → pm_W D dA HB b G' H' → (∀ q ∈ locs', HB.size ≤ q.base) → W p l e R s m args below meth c H' locs' (cells + (G'.length - G.length)) (slots + (pm_sl G' - pm_sl G)) Q (F0 m pc' arr' (st'.map (pm_ev HB.size b)))) : W p l e R s m args below meth c H locs cells slots Q (F0 m pc arr (st.map (pm_ev HB.size b))) := by
  obtain ⟨hx, hb, hml, hown, hts, hnm, hK, hfr, hlo⟩ := id C
  simp only [pm_step] at h
  split at h
  next x r =>
    obtain ⟨rfl, rfl, rfl, rfl⟩ := pm_nx_inv h
    obtain ⟨scr, q1, q2, q3, q4, q5⟩ := hK.2.2.2.1
    refine W.alen (n := Int32.ofNat X.1) hx hb (by rw [hW.2.1 b hK.2.2.2.2]; exact q1) q2 (by rw [q4] <;> rfl) rfl rfl hd ?_
    exact W.widen (Nat.le_add_right _ _) (Nat.le_add_right _ _) (kk H locs arr hl hn hW hL)
  next => cases h
theorem pm_n_new {l : Launch} {D : va_G} {dA : Nat → ClassId} {HB : Heap} {b : Nat} {X : pm_X} {y : pm_M} {d : Nat} {p : Program} {e : Env} {R : Room} {s : State} {m : MethodId} {args : Array Value} {below : List Frame} {meth : Method} {c : Code} {H : Heap} {locs : List Loc} {cells slots : Nat} {Q : State → Prop} {pc pc' : Nat} {ls ls' st st' : List Value} {G G' : pm_H} {arr : Array Slot} {k : Nat} (hd : decode y.2.2.1 pc = .ok ((.new k), 3)) (h : pm_step X y (.new k) pc ls st G = some (.inl (pc', ls', st', G'))) (C : pm_Cx D dA HB b X y d p R s m args meth c) (hl : lv_has arr y.2.2.2.1 (pm_lv HB.size b ls)) (hn : ls.length = y.2.2.2.1) (hW : pm_W D dA HB b G H) (hL : ∀ q ∈ locs, HB.size ≤ q.base) (hc : cells + (G'.length - G.length) ≤ R.cells) (hs : slots + (pm_sl G' - pm_sl G) ≤ R.slots)
    (kk : ∀ (H' : Heap) (locs' : List Loc) (arr' : Array Slot), lv_has arr' y.2.2.2.1 (pm_lv HB.size b ls') → ls'.length = y.2.2.2.1 → pm_W D dA HB b G' H' → (∀ q ∈ locs', HB.size ≤ q.base) → W p l e R s m args below meth c H' locs' (cells + (G'.length - G.length)) (slots + (pm_sl G' - pm_sl G)) Q (F0 m pc' arr' (st'.map (pm_ev HB.size b)))) : W p l e R s m args below meth c H locs cells slots Q (F0 m pc arr (st.map (pm_ev HB.size b))) := by
  obtain ⟨hx, hb, hml, hown, hts, hnm, hK, hfr, hlo⟩ := id C
  simp only [pm_step] at h
  split at h
  next ci hci =>
    obtain ⟨rfl, rfl, rfl, rfl⟩ := pm_nx_inv h
    obtain ⟨h1, h2, h3, h4⟩ := pm_cls_spec hci
    have hKn := hK.1.1 ci _ (pm_cl_at ci h4)
    have e1 : (G ++ [Sum.inr (ci, pm_df ci)]).length - G.length = 1 := by simp
    have e2 : pm_sl (G ++ [Sum.inr (ci, pm_df ci)]) - pm_sl G = pm_N ci := by rw [pm_sl_app]; simp [pm_sz]
    rw [e1] at hc kk
    rw [e2] at hs kk
    refine W.newcK hx hb hown (hts _ h1) (hts _ h2) (hts _ h3) rfl hd hc hs hKn.2.1 hW.1 fun H1 kC hkC g1 z1 o1 => ?_
    have hz : H1.size = H.size + 1 := by rw [z1, hW.1]
    refine kk H1 locs arr hl hn (hW.push ⟨_, pm_cl_at ci h4, ?_⟩ hz (fun q hq => o1 q (by rw [hW.1] at hq; exact hq))) hL
    refine (u_born (pm_ty ci) hts (pm_lay ci h4) hKn hkC g1 (pm_ty_ok ci h4)).to (fun j hj => ?_)
    rw [pm_df_ok ci h4 j hj]
    exact pm_df_ev ci h4 j hj
  next => cases h
theorem pm_n_newarray {l : Launch} {D : va_G} {dA : Nat → ClassId} {HB : Heap} {b : Nat} {X : pm_X} {y : pm_M} {d : Nat} {p : Program} {e : Env} {R : Room} {s : State} {m : MethodId} {args : Array Value} {below : List Frame} {meth : Method} {c : Code} {H : Heap} {locs : List Loc} {cells slots : Nat} {Q : State → Prop} {pc pc' : Nat} {ls ls' st st' : List Value} {G G' : pm_H} {arr : Array Slot} {t : ArrayType} (hd : decode y.2.2.1 pc = .ok ((.newarray t), 2)) (h : pm_step X y (.newarray t) pc ls st G = some (.inl (pc', ls', st', G'))) (C : pm_Cx D dA HB b X y d p R s m args meth c) (hl : lv_has arr y.2.2.2.1 (pm_lv HB.size b ls)) (hn : ls.length = y.2.2.2.1) (hW : pm_W D dA HB b G H) (hL : ∀ q ∈ locs, HB.size ≤ q.base) (hc : cells + (G'.length - G.length) ≤ R.cells) (hs : slots + (pm_sl G' - pm_sl G) ≤ R.slots)
    (kk : ∀ (H' : Heap) (locs' : List Loc) (arr' : Array Slot), lv_has arr' y.2.2.2.1 (pm_lv HB.size b ls') → ls'.length = y.2.2.2.1 → pm_W D dA HB b G' H' → (∀ q ∈ locs', HB.size ≤ q.base) → W p l e R s m args below meth c H' locs' (cells + (G'.length - G.length)) (slots + (pm_sl G' - pm_sl G)) Q (F0 m pc' arr' (st'.map (pm_ev HB.size b)))) : W p l e R s m args below meth c H locs cells slots Q (F0 m pc arr (st.map (pm_ev HB.size b))) := by
  obtain ⟨hx, hb, hml, hown, hts, hnm, hK, hfr, hlo⟩ := id C
  simp only [pm_step] at h
  split at h
  next n r =>
    split at h
    next hn1 =>
      split at h
      next =>
        obtain ⟨rfl, rfl, rfl, rfl⟩ := pm_nx_inv h
        have e1 : ∀ c : pm_E, (G ++ [c]).length - G.length = 1 := by simp
        have e2 : ∀ c : pm_E, pm_sl (G ++ [c]) - pm_sl G = pm_sz c := by intro c; rw [pm_sl_app]; omega
        rw [e1] at hc kk
        rw [e2] at hs kk
        refine va_newaK (atype := .int) hx hb (hts _ (pm_arr0)) rfl hd rfl hn1.1 rfl (Nat.le_trans (Nat.mul_le_mul_right _ hn1.2) (Nat.le_of_ble_eq_true rfl)) hc hs hW.1 fun H1 cA g1 z1 o1 ha hf => ?_
        have hcA : cA = dA 0 := Option.some.inj (hf.symm.trans (hK.1.2 0 _ rfl).2)
        subst hcA
        exact kk H1 locs arr hl hn (hW.push g1 (by rw [z1, hW.1]) (fun q hq => o1 q (by rw [hW.1] at hq; exact hq))) hL
      next =>
        obtain ⟨rfl, rfl, rfl, rfl⟩ := pm_nx_inv h
        have e1 : ∀ c : pm_E, (G ++ [c]).length - G.length = 1 := by simp
        have e2 : ∀ c : pm_E, pm_sl (G ++ [c]) - pm_sl G = pm_sz c := by intro c; rw [pm_sl_app]; omega
        rw [e1] at hc kk
        rw [e2] at hs kk
        refine va_newaK (atype := .long) hx hb (hts _ (pm_arr1)) rfl hd rfl hn1.1 rfl (Nat.le_trans (Nat.mul_le_mul_right _ hn1.2) (Nat.le_of_ble_eq_true rfl)) hc hs hW.1 fun H1 cA g1 z1 o1 ha hf => ?_
        have hcA : cA = dA 1 := Option.some.inj (hf.symm.trans (hK.1.2 1 _ rfl).2)
        subst hcA
        exact kk H1 locs arr hl hn (hW.push g1 (by rw [z1, hW.1]) (fun q hq => o1 q (by rw [hW.1] at hq; exact hq))) hL
      next =>
        obtain ⟨rfl, rfl, rfl, rfl⟩ := pm_nx_inv h
        have e1 : ∀ c : pm_E, (G ++ [c]).length - G.length = 1 := by simp
        have e2 : ∀ c : pm_E, pm_sl (G ++ [c]) - pm_sl G = pm_sz c := by intro c; rw [pm_sl_app]; omega
        rw [e1] at hc kk
        rw [e2] at hs kk
        refine va_newaK (atype := .boolean) hx hb (hts _ (pm_arr2)) rfl hd rfl hn1.1 rfl (Nat.le_trans (Nat.mul_le_mul_right _ hn1.2) (Nat.le_of_ble_eq_true rfl)) hc hs hW.1 fun H1 cA g1 z1 o1 ha hf => ?_
        have hcA : cA = dA 2 := Option.some.inj (hf.symm.trans (hK.1.2 2 _ rfl).2)
        subst hcA
        exact kk H1 locs arr hl hn (hW.push g1 (by rw [z1, hW.1]) (fun q hq => o1 q (by rw [hW.1] at hq; exact hq))) hL
      next => cases h
    next => cases h
  next => cases h
theorem pm_n_anewarray {l : Launch} {D : va_G} {dA : Nat → ClassId} {HB : Heap} {b : Nat} {X : pm_X} {y : pm_M} {d : Nat} {p : Program} {e : Env} {R : Room} {s : State} {m : MethodId} {args : Array Value} {below : List Frame} {meth : Method} {c : Code} {H : Heap} {locs : List Loc} {cells slots : Nat} {Q : State → Prop} {pc pc' : Nat} {ls ls' st st' : List Value} {G G' : pm_H} {arr : Array Slot} {k : Nat} (hd : decode y.2.2.1 pc = .ok ((.anewarray k), 3)) (h : pm_step X y (.anewarray k) pc ls st G = some (.inl (pc', ls', st', G'))) (C : pm_Cx D dA HB b X y d p R s m args meth c) (hl : lv_has arr y.2.2.2.1 (pm_lv HB.size b ls)) (hn : ls.length = y.2.2.2.1) (hW : pm_W D dA HB b G H) (hL : ∀ q ∈ locs, HB.size ≤ q.base) (hc : cells + (G'.length - G.length) ≤ R.cells) (hs : slots + (pm_sl G' - pm_sl G) ≤ R.slots)
    (kk : ∀ (H' : Heap) (locs' : List Loc) (arr' : Array Slot), lv_has arr' y.2.2.2.1 (pm_lv HB.size b ls') → ls'.length = y.2.2.2.1 → pm_W D dA HB b G' H' → (∀ q ∈ locs', HB.size ≤ q.base) → W p l e R s m args below meth c H' locs' (cells + (G'.length - G.length)) (slots + (pm_sl G' - pm_sl G)) Q (F0 m pc' arr' (st'.map (pm_ev HB.size b)))) : W p l e R s m args below meth c H locs cells slots Q (F0 m pc arr (st.map (pm_ev HB.size b))) := by
  obtain ⟨hx, hb, hml, hown, hts, hnm, hK, hfr, hlo⟩ := id C
  simp only [pm_step] at h
  split at h
  next hci =>
    split at h
    next n r =>
      split at h
      next hn1 =>
        obtain ⟨rfl, rfl, rfl, rfl⟩ := pm_nx_inv h
        obtain ⟨h1, h2, h3, h4⟩ := pm_cls_spec hci
        have e1 : ∀ c : pm_E, (G ++ [c]).length - G.length = 1 := by simp
        have e2 : ∀ c : pm_E, pm_sl (G ++ [c]) - pm_sl G = pm_sz c := by intro c; rw [pm_sl_app]; omega
        rw [e1] at hc kk
        rw [e2] at hs kk
        refine W.anew (C := RX4) hx hb hown (hts _ h1) (va_AO.use hK.2.2.1) rfl hd rfl hn1.1 (Nat.le_trans (Nat.mul_le_mul_right _ hn1.2) (Nat.le_of_ble_eq_true rfl)) hc hs fun cA kA comp f1 f2 f3 f4 => ?_
        obtain ⟨kA', comp', k1, k2, k3, k4⟩ := (hK.1.2 3 _ rfl).2
        have hcA : cA = dA 3 := Option.some.inj (f1.symm.trans k4)
        subst hcA
        generalize hH1 : H.push ({ cls := dA 3, slots := Array.replicate n.toNatClampNeg .null, vm := .none } : Cell) = H1
        have z1 : H1.size = H.size + 1 := by rw [← hH1, Array.size_push]
        have g1 : H1[H.size]? = some (arrV (dA 3) n.toNatClampNeg (fun _ => .null)) := by rw [← hH1, Array.getElem?_push_size, ← arrV_new]
        have o1 : ∀ q : Nat, q < H.size → H1[q]? = H[q]? := fun q hq => by rw [← hH1, Array.getElem?_push, if_neg (Nat.ne_of_lt hq)]
        have hfin := kk H1 locs arr hl hn (hW.push (by show H1[HB.size + G.length]? = _; rw [← hW.1]; exact g1) z1 o1) hL
        rw [show H.size = HB.size + G.length from hW.1]
        exact hfin
      next => cases h
    next => cases h
  next => cases h
theorem pm_n_invokespecial {l : Launch} {D : va_G} {dA : Nat → ClassId} {HB : Heap} {b : Nat} {X : pm_X} {y : pm_M} {d : Nat} {p : Program} {e : Env} {R : Room} {s : State} {m : MethodId} {args : Array Value} {below : List Frame} {meth : Method} {c : Code} {H : Heap} {locs : List Loc} {cells slots : Nat} {Q : State → Prop} {pc pc' : Nat} {ls ls' st st' : List Value} {G G' : pm_H} {arr : Array Slot} {k : Nat} (hd : decode y.2.2.1 pc = .ok ((.invokespecial k), 3)) (h : pm_step X y (.invokespecial k) pc ls st G = some (.inl (pc', ls', st', G'))) (C : pm_Cx D dA HB b X y d p R s m args meth c) (hl : lv_has arr y.2.2.2.1 (pm_lv HB.size b ls)) (hn : ls.length = y.2.2.2.1) (hW : pm_W D dA HB b G H) (hL : ∀ q ∈ locs, HB.size ≤ q.base) (hc : cells + (G'.length - G.length) ≤ R.cells) (hs : slots + (pm_sl G' - pm_sl G) ≤ R.slots)
    (kk : ∀ (H' : Heap) (locs' : List Loc) (arr' : Array Slot), lv_has arr' y.2.2.2.1 (pm_lv HB.size b ls') → ls'.length = y.2.2.2.1 → pm_W D dA HB b G' H' → (∀ q ∈ locs', HB.size ≤ q.base) → W p l e R s m args below meth c H' locs' (cells + (G'.length - G.length)) (slots + (pm_sl G' - pm_sl G)) Q (F0 m pc' arr' (st'.map (pm_ev HB.size b)))) : W p l e R s m args below meth c H locs cells slots Q (F0 m pc arr (st.map (pm_ev HB.size b))) := by
  obtain ⟨hx, hb, hml, hown, hts, hnm, hK, hfr, hlo⟩ := id C
  simp only [pm_step] at h
  split at h
  next ho =>
    split at h
    next a r =>
      split at h
      next hcat =>
        obtain ⟨rfl, rfl, rfl, rfl⟩ := pm_nx_inv h
        refine W.objInit hx hb hown (hts _ (pm_oi_spec ho)) (hts _ (pm_g_of pm_oi_ok.2 rfl)) (hts _ (pm_g_of pm_oi_code rfl)) rfl (by rw [hml]; exact hl.1) rfl hd (by omega) ?_ ?_
        · have := pm_ev_cats HB.size b r
          show 2 * (F0 m pc arr _).monitorRoom + _ + 12 ≤ _
          rw [this]
          have h0 : 2 * (F0 m pc arr ((Value.ref a :: r).map (pm_ev HB.size b))).monitorRoom + pm_cat r ≤ 8 := by
            rw [← this]
            exact lv_room (by rw [this]; exact hcat)
          omega
        · exact W.widen (Nat.le_add_right _ _) (Nat.le_add_right _ _) (kk H locs arr hl hn hW hL)
      next => cases h
    next => cases h
  next ho => exact absurd h (pm_cv_ne _)
theorem pm_n_invokestatic {l : Launch} {D : va_G} {dA : Nat → ClassId} {HB : Heap} {b : Nat} {X : pm_X} {y : pm_M} {d : Nat} {p : Program} {e : Env} {R : Room} {s : State} {m : MethodId} {args : Array Value} {below : List Frame} {meth : Method} {c : Code} {H : Heap} {locs : List Loc} {cells slots : Nat} {Q : State → Prop} {pc pc' : Nat} {ls ls' st st' : List Value} {G G' : pm_H} {arr : Array Slot} {k : Nat} (hd : decode y.2.2.1 pc = .ok ((.invokestatic k), 3)) (h : pm_step X y (.invokestatic k) pc ls st G = some (.inl (pc', ls', st', G'))) (C : pm_Cx D dA HB b X y d p R s m args meth c) (hl : lv_has arr y.2.2.2.1 (pm_lv HB.size b ls)) (hn : ls.length = y.2.2.2.1) (hW : pm_W D dA HB b G H) (hL : ∀ q ∈ locs, HB.size ≤ q.base) (hc : cells + (G'.length - G.length) ≤ R.cells) (hs : slots + (pm_sl G' - pm_sl G) ≤ R.slots)
    (kk : ∀ (H' : Heap) (locs' : List Loc) (arr' : Array Slot), lv_has arr' y.2.2.2.1 (pm_lv HB.size b ls') → ls'.length = y.2.2.2.1 → pm_W D dA HB b G' H' → (∀ q ∈ locs', HB.size ≤ q.base) → W p l e R s m args below meth c H' locs' (cells + (G'.length - G.length)) (slots + (pm_sl G' - pm_sl G)) Q (F0 m pc' arr' (st'.map (pm_ev HB.size b)))) : W p l e R s m args below meth c H locs cells slots Q (F0 m pc arr (st.map (pm_ev HB.size b))) := by
  obtain ⟨hx, hb, hml, hown, hts, hnm, hK, hfr, hlo⟩ := id C
  simp only [pm_step] at h
  split at h
  next mx hmx =>
    split at h
    next y1 x r =>
      split at h
      next hcat =>
        obtain ⟨rfl, rfl, rfl, rfl⟩ := pm_nx_inv h
        obtain ⟨h1, h2, h3, h4⟩ := pm_mm_spec hmx
        have hr : (((r.map (pm_ev HB.size b)).map fun v => v.category)).sum + 13 ≤ R.locals := by rw [pm_ev_cats]; omega
        cases mx with
        | true =>
          refine va_mmax hx hb (by rw [hml]; exact hl.1.symm) hown (hts _ h1) (hts _ h2) (hts _ h3) (hts _ h4) (by omega) hr (by omega) (by omega) hd ?_
          exact W.widen (Nat.le_add_right _ _) (Nat.le_add_right _ _) (kk H locs arr hl hn hW hL)
        | false =>
          refine va_mmin hx hb (by rw [hml]; exact hl.1.symm) hown (hts _ h1) (hts _ h2) (hts _ h3) (hts _ h4) (by omega) hr (by omega) (by omega) hd ?_
          exact W.widen (Nat.le_add_right _ _) (Nat.le_add_right _ _) (kk H locs arr hl hn hW hL)
      next => cases h
    next => cases h
  next => exact absurd h (pm_cv_ne _)
