/-! the law, from its first instruction -/
theorem st_ok : chk1 (pm_runC 400 59 mX6_init 0 (pm_en 1 [.ref 0]) [] [.inr (6, pm_df 6)]) (fun G1 => pm_runC 400 59 mX7_init 0 (pm_en 2 [.ref 139]) [] (G1 ++ [.inr (7, pm_df 7)])) = true := by decide +kernel
section RUN
variable {X : pm_X} {d : Nat} {y : pm_M} {pc : Nat} {ls st rest : List Value} {G : pm_H} {Q : Option Value → pm_H → Prop}
theorem w_spec {k a : Nat} {z : pm_M} {fs : List Value} (hd : decode y.2.2.1 pc = .ok (.invokespecial k, 3)) (ho : pm_oi y.1 k = false) (hm : pm_mth y.1 k = some (2, 0, z)) (hG : G[a]? = some (.inr (z.1, fs))) (h8 : z.1 < 8) (hz : z.2.2.2.1 ≤ 40) (h1 : 1 ≤ z.2.2.2.1) (hr : pm_cat rest ≤ 8) : pm_wp X (d + 1) y pc ls (.ref a :: rest) G Q ↔ pm_call X d z [.ref a] G (fun r G' => pm_wp X (d + 1) y (pc + 3) ls (r.toList ++ rest) G' Q) := by
  refine pm_wp_call (pm_at_of hd rfl ?_)
  simp only [pm_step, ho]
  unfold pm_cv
  simp only [hm, List.take_zero, List.drop_zero, List.reverse_nil, hG]
  rw [if_neg (by decide), if_pos (by simp [hz]), if_pos trivial, if_pos ⟨trivial, h8, hr, h1⟩]
theorem w_new0 : pm_wp X d mL_law 0 ls st G Q ↔ pm_wp X d mL_law 3 ls (.ref G.length :: st) (G ++ [.inr (6, pm_df 6)]) Q := w_step (show decode cL_law 0 = .ok (.new 7, 3) by decide +kernel) rfl (by
  simp only [pm_step]
  rw [show pm_cls mL_law.1 7 = some 6 from by decide +kernel]
  rfl)
theorem w_new8 : pm_wp X d mL_law 8 ls st G Q ↔ pm_wp X d mL_law 11 ls (.ref G.length :: st) (G ++ [.inr (7, pm_df 7)]) Q := w_step (show decode cL_law 8 = .ok (.new 10, 3) by decide +kernel) rfl (by
  simp only [pm_step]
  rw [show pm_cls mL_law.1 10 = some 7 from by decide +kernel]
  rfl)
end RUN
theorem dc_4 : decode cL_law 4 = .ok (.invokespecial 9, 3) := by decide +kernel
theorem dc_12 : decode cL_law 12 = .ok (.invokespecial 12, 3) := by decide +kernel
theorem oi_9 : pm_oi 8 9 = false := by decide +kernel
theorem oi_12 : pm_oi 8 12 = false := by decide +kernel
theorem pm_law : pm_Law := by
  intro L xs hL
  obtain ⟨G1, G2, r1, l1, r2, gk⟩ := chk1_inv st_ok
  have c1 := pm_runC_t (X := (L, xs)) _ _ _ _ _ _ _ _ r1
  have c2 := pm_runC_t (X := (L, xs)) _ _ _ _ _ _ _ _ r2
  have v0 : pm_iv [.inr (6, pm_df 6)] := fun a n f h => by
    cases a with
    | zero => cases h
    | succ a => simp at h
  have v1 := pm_iv_run _ _ _ _ _ _ _ _ _ c1 v0
  have v2 := pm_iv_run _ _ _ _ _ _ _ _ _ c2 (pm_iv_app v1 (fun n f q => by cases q))
  unfold gok at gk
  simp only [Bool.and_eq_true, decide_eq_true_eq] at gk
  have e := pm_of gk.1 (fun a ha => (allN_iff 147).mp gk.2.1 a ha) v2
  have rel := rel_00 gk.2.2
  have lp := law_loop (X := (L, xs)) (d := 0) (u := 0) (Q := fun r G' => r = some (.int 1) ∧ G'.length ≤ 600000 ∧ pm_sl G' ≤ 7302249) hL (fun I A E J B => ⟨rfl, by rw [pm_w_len]; decide, pm_w_sl⟩) L 0 (by omega) (by omega) (gI G2) (gA G2) (gE G2) (gI G2 139) (gA G2) S00 rel.1 rel.2 OkS_00
  rw [← e] at lp
  refine (w_new0 (X := (L, xs)) (d := 60)).mpr ?_
  refine (i_L_law_3 (X := (L, xs)) (d := 60)).mpr ?_
  refine (w_spec (X := (L, xs)) (d := 59) (y := mL_law) (pc := 4) (k := 9) (a := 0) (z := mX6_init) (rest := [.ref 0]) (fs := pm_df 6) dc_4 oi_9 k_8_9 rfl (show 6 < 8 by decide) (show 1 ≤ 40 by decide) (show 1 ≤ 1 by decide) (show 1 ≤ 8 by decide)).mpr ?_
  refine ⟨400, none, G1, c1, ?_⟩
  refine (i_L_law_7 (X := (L, xs)) (d := 60)).mpr ?_
  refine (w_new8 (X := (L, xs)) (d := 60)).mpr ?_
  rw [l1]
  refine (i_L_law_11 (X := (L, xs)) (d := 60)).mpr ?_
  refine (w_spec (X := (L, xs)) (d := 59) (y := mL_law) (pc := 12) (k := 12) (a := 139) (z := mX7_init) (rest := [.ref 139]) (fs := pm_df 7) dc_12 oi_12 k_8_12 (by rw [List.getElem?_append_right (by omega), l1]; rfl) (show 7 < 8 by decide) (show 2 ≤ 40 by decide) (show 1 ≤ 2 by decide) (show 1 ≤ 8 by decide)).mpr ?_
  refine ⟨400, none, G2, c2, ?_⟩
  refine (i_L_law_15 (X := (L, xs)) (d := 60)).mpr ?_
  refine (i_L_law_16 (X := (L, xs)) (d := 60)).mpr ?_
  refine (i_L_law_17 (X := (L, xs)) (d := 60)).mpr ?_
  exact lp
