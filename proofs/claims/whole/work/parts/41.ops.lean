/-! what the calls that change something do to the state -/
def okP (T : Tr) : Prop := okT T ∧ okR T
def OkS (S : St) : Prop := okP S.1 ∧ (∀ t, t ∈ S.2.1 → okP t) ∧ (∀ t, S.2.2.1 = some t → okP t)
def refS (S : St) (c : Nat) : St := (S.1, S.2.1, S.2.2.1, S.2.2.2.1, nI c)
def chgS (S : St) (T' : Tr) : St := (T', pushH S.2.1 S.1, S.2.2)
theorem OkS.ref {S : St} (h : OkS S) {c : Nat} : OkS (refS S c) := h
theorem pushH_mem {hs : List Tr} {T t : Tr} (h : t ∈ pushH hs T) : t ∈ hs ∨ t = T := by
  unfold pushH at h
  rw [List.mem_append] at h
  rcases h with h | h
  · left
    split at h
    · exact List.mem_of_mem_tail h
    · exact h
  · right; simpa using h
theorem OkS.chg {S : St} (h : OkS S) {T' : Tr} (h' : okP T') : OkS (chgS S T') := ⟨h', fun t ht => (pushH_mem ht).elim (h.2.1 t) (fun e => e ▸ h.1), h.2.2⟩
theorem phF_c {α : Type} {T T' : Tr} {f f' : Nat → α → α} {z z' : α} (h1 : T' 1 = T 1) (hf : f' = f) (hz : z' = z) (n k : Nat) : phF T' f' z' n k = phF T f z n k := by
  subst hf
  subst hz
  induction n generalizing k with
  | zero => rfl
  | succ n ih => unfold phF; rw [h1, ih]
theorem ph_c {α : Type} {T T' : Tr} {f f' : Nat → α → α} {z z' : α} {k : Nat} (h1 : T' 1 = T 1) (hf : f' = f) (hz : z' = z) : ph T' f' z' k = ph T f z k := phF_c h1 hf hz k k
theorem dep_c {T T' : Tr} (h1 : T' 1 = T 1) (k : Nat) : dep T' k = dep T k := ph_c h1 rfl rfl
theorem rate_c {T T' : Tr} (h0 : T' 0 = T 0) (h1 : T' 1 = T 1) (h2 : T' 2 = T 2) (hb : T' 10 1 = T 10 1) (k : Nat) : nm T' k = nm T k ∧ dn T' k = dn T k := by
  have e1 : mu T' k = mu T k := ph_c h1 (by rw [h0, h2]) hb
  have e2 : dv T' k = dv T k := ph_c h1 (by rw [h0, h2]) rfl
  unfold nm dn
  rw [e1, e2]
  exact ⟨rfl, rfl⟩
theorem okP_c {T T' : Tr} (h : okP T) (h0 : T' 0 = T 0) (h1 : T' 1 = T 1) (h2 : T' 2 = T 2) (h7 : T' 7 = T 7) (hN : T' 10 = T 10) (hl : ∀ g, g < 4 → T' 11 g ≤ 999) (hr : ∀ k, k < T 10 0 → T' 3 k ≤ 99 ∧ T' 4 k ≤ 9 ∧ T' 5 k ≤ T' 6 k ∧ T' 6 k ≤ 4000000 ∧ T' 8 k ≤ 1 ∧ T' 9 k ≤ 99 ∧ (T 0 k ≠ 5 → T' 8 k = 0 ∧ T' 9 k = 0)) : okP T' := by
  obtain ⟨⟨w, b, s, l, n, r, c⟩, hR⟩ := h
  refine ⟨⟨⟨by rw [hN]; exact w.1, by rw [hN]; exact w.2.1, by rw [hN, h1]; exact w.2.2⟩, by rw [hN]; exact b, by rw [h0, h2]; exact s, hl, fun k a c => ?_, fun k a => ?_, by rw [h0, hN]; exact c⟩, fun k hk => ?_⟩
  · unfold okN
    rw [h0, h1, h2, h7, dep_c h1]
    exact n k a (by rw [← hN]; exact c)
  · rw [hN] at a
    have q := hr k a
    have q2 := r k a
    rw [h0, h7]
    exact ⟨q.1, q.2.1, q.2.2.1, q.2.2.2.1, q2.2.2.2.2.1, q.2.2.2.2.1, q.2.2.2.2.2.1, q.2.2.2.2.2.2⟩
  · rw [(rate_c h0 h1 h2 (by rw [hN]) k).1, (rate_c h0 h1 h2 (by rw [hN]) k).2]
    exact hR k (by rw [← hN]; exact hk)
/-- one number changes -/
theorem okP_set {T : Tr} (h : okP T) {w k v : Nat} (hw : (w = 3 ∧ v ≤ 99) ∨ (w = 4 ∧ v ≤ 9) ∨ (w = 8 ∧ v ≤ 1 ∧ T 0 k = 5) ∨ (w = 9 ∧ v ≤ 99 ∧ T 0 k = 5)) : okP (up2 T w k v) := by
  refine okP_c h (up2_na _ _ (by omega)) (up2_na _ _ (by omega)) (up2_na _ _ (by omega)) (up2_na _ _ (by omega)) (up2_na _ _ (by omega)) (fun g hg => ?_) (fun j hj => ?_)
  · rw [up2_na _ _ (by omega)]; exact h.1.2.2.2.1 g hg
  · have q := h.1.2.2.2.2.2.1 j hj
    rw [show up2 T w k v 5 = T 5 from up2_na _ _ (by omega), show up2 T w k v 6 = T 6 from up2_na _ _ (by omega)]
    have e : ∀ u, up2 T w k v u j = T u j ∨ (u = w ∧ j = k ∧ up2 T w k v u j = v) := fun u => by
      by_cases hc : u = w ∧ j = k
      · right; refine ⟨hc.1, hc.2, ?_⟩; rw [hc.1, hc.2]; exact up2_s _ _ _ _
      · left; exact up2_n _ _ hc
    have e3 := e 3
    have e4 := e 4
    have e8 := e 8
    have e9 := e 9
    refine ⟨by omega, by omega, by omega, by omega, by omega, by omega, fun h5 => ⟨?_, ?_⟩⟩
    · have := (q.2.2.2.2.2.2.2 h5).1
      rcases e8 with e | ⟨a, b, c⟩
      · omega
      · subst b; omega
    · have := (q.2.2.2.2.2.2.2 h5).2
      rcases e9 with e | ⟨a, b, c⟩
      · omega
      · subst b; omega
theorem okP_lim {T : Tr} (h : okP T) {k v : Nat} (hv : v ≤ 999) : okP (up2 T 11 k v) := by
  refine okP_c h (up2_na _ _ (by omega)) (up2_na _ _ (by omega)) (up2_na _ _ (by omega)) (up2_na _ _ (by omega)) (up2_na _ _ (by omega)) (fun g hg => ?_) (fun j hj => ?_)
  · have := h.1.2.2.2.1 g hg
    unfold up2
    split <;> omega
  · have q := h.1.2.2.2.2.2.1 j hj
    simp (disch := omega) only [up2_na]
    exact ⟨q.1, q.2.1, q.2.2.1, q.2.2.2.1, q.2.2.2.2.2.1, q.2.2.2.2.2.2.1, q.2.2.2.2.2.2.2⟩
theorem cnt_c {p q : Nat → Bool} (h : p = q) (n : Nat) : cnt p n = cnt q n := by rw [h]
/-- the figures do not speak of the limits -/
theorem RelF_lim {A : Nat → Nat → Int32} {E : Nat → Nat → Int64} {f k v : Nat} {T : Tr} (h : RelF A E f T) : RelF A E f (up2 T 11 k v) := by
  have n : ∀ w, w ≠ 11 → up2 T 11 k v w = T w := fun w hw => up2_na _ _ hw
  have e1 : up2 T 11 k v 1 = T 1 := n 1 (by decide)
  have e0 : up2 T 11 k v 0 = T 0 := n 0 (by decide)
  have e2 : up2 T 11 k v 2 = T 2 := n 2 (by decide)
  have e3 : up2 T 11 k v 3 = T 3 := n 3 (by decide)
  have e8 : up2 T 11 k v 8 = T 8 := n 8 (by decide)
  have e9 : up2 T 11 k v 9 = T 9 := n 9 (by decide)
  have e10 : up2 T 11 k v 10 = T 10 := n 10 (by decide)
  have u : und (up2 T 11 k v) = und T := by funext o j; exact ph_c e1 (by rw [e1]) rfl
  have lb : lvB (up2 T 11 k v) = lvB T := by funext o j; unfold lvB; rw [e0, u]
  have rb : rqB (up2 T 11 k v) = rqB T := by funext o j; unfold rqB; rw [e0, e8, u]
  have ls : lvs (up2 T 11 k v) = lvs T := by funext o; unfold lvs; rw [lb, e10]
  have rs : rqs (up2 T 11 k v) = rqs T := by funext o; unfold rqs; rw [rb, e10]
  have op : opn (up2 T 11 k v) = opn T := by funext o; unfold opn; rw [e2, ls, rs]
  have rr : ∀ j, rn (up2 T 11 k v) j = rn T j := fun j => ph_c e1 (by rw [e0, op]) rfl
  have dd : ∀ j, del (up2 T 11 k v) j = del T j := fun j => ph_c e1 (by rw [e3]) (by rw [e3])
  refine ⟨fun j hj => ?_, fun j hj => ?_, fun j hj => ?_, fun j hj => ?_⟩
  · rw [e10] at hj
    rw [(rate_c e0 e1 e2 (by rw [e10]) j).1, (rate_c e0 e1 e2 (by rw [e10]) j).2]
    exact h.1 j hj
  · rw [e10] at hj
    rw [dep_c e1]
    unfold arr
    rw [dd, e0, e9]
    exact h.2.1 j hj
  · rw [e10] at hj ⊢
    unfold chn chB
    rw [e1, e10, lb, rb]
    exact h.2.2.1 j hj
  · rw [e10] at hj
    unfold opc
    rw [e0, op, rr]
    exact h.2.2.2 j hj
def o_set (S : St) (x w v : Int32) : Int32 × St := if inR w 0 1 then (if isN S.1 x then (if inR v 0 (if w = 0 then 99 else 9) then (nI (S.1 (3 + xN w) (xN x)), chgS S (up2 S.1 (3 + xN w) (xN x) (xN v))) else (-3, refS S 4)) else (-3, refS S 1)) else (-1, S)
def o_request (S : St) (x v : Int32) : Int32 × St := if isL S.1 x then (if inR v 0 1 then (nI (cnt (ogB (up2 S.1 8 (xN x) (xN v))) (S.1 10 0)), chgS S (up2 S.1 8 (xN x) (xN v))) else (-2, S)) else (-1, S)
def o_limit (S : St) (x v : Int32) : Int32 × St := if inR x 0 3 then (if inR v 0 999 then ((if v < skI (up2 S.1 11 (xN x) (xN v)) (xN x) then nI 0 else nI 1), chgS S (up2 S.1 11 (xN x) (xN v))) else (-2, S)) else (-1, S)
theorem ok_set {S : St} (h : OkS S) {x w v : Int32} : OkS (o_set S x w v).2 := by
  unfold o_set
  split
  · rename_i hw
    obtain ⟨j, _, hj, rfl⟩ := inR_t (by decide) hw
    split
    · by_cases hv : inR v 0 (if nI j = 0 then 99 else 9) = true
      · rw [if_pos hv]
        refine h.chg (okP_set h.1 ?_)
        by_cases hj0 : j = 0
        · subst hj0
          rw [if_pos (by rfl)] at hv
          obtain ⟨c, _, hc, rfl⟩ := inR_t (by decide) hv
          rw [xN_n (by decide), xN_n (by omega)]
          omega
        · have : j = 1 := by omega
          subst this
          rw [if_neg (by decide)] at hv
          obtain ⟨c, _, hc, rfl⟩ := inR_t (by decide) hv
          rw [xN_n (by decide), xN_n (by omega)]
          omega
      · rw [if_neg hv]
        exact h.ref
    · exact h.ref
  · exact h
theorem isL_t {T : Tr} (hw : wf T) {x : Int32} (h : isL T x = true) : ∃ k, k < T 10 0 ∧ T 0 k = 5 ∧ x = nI k := by
  unfold isL at h
  simp only [Bool.and_eq_true, decide_eq_true_eq] at h
  obtain ⟨k, hk, rfl⟩ := isN_t hw h.1
  have := hw.2.1
  rw [xN_n (by omega)] at h
  exact ⟨k, hk, h.2, rfl⟩
theorem ok_request {S : St} (h : OkS S) {x v : Int32} : OkS (o_request S x v).2 := by
  unfold o_request
  split
  · rename_i hx
    obtain ⟨k, hk, h5, rfl⟩ := isL_t h.1.1.wf hx
    have := h.1.1.wf.2.1
    split
    · rename_i hv
      obtain ⟨c, _, hc, rfl⟩ := inR_t (by decide) hv
      refine h.chg (okP_set h.1 ?_)
      rw [xN_n (by omega), xN_n (by omega)]
      omega
    · exact h
  · exact h
theorem ok_limit {S : St} (h : OkS S) {x v : Int32} : OkS (o_limit S x v).2 := by
  unfold o_limit
  split
  · split
    · rename_i hv
      obtain ⟨c, _, hc, rfl⟩ := inR_t (by decide) hv
      refine h.chg (okP_lim h.1 ?_)
      rw [xN_n (by omega)]
      exact hc
    · exact h
  · exact h
