/-! one step of the pure machine is one step of the machine -/
theorem pm_in_iff {i : Int32} {n : Nat} : pm_in i n = true ↔ vp_in i n := by unfold pm_in vp_in; exact decide_eq_true_iff
theorem pm_fld_spec {o i ci k : Nat} (h : pm_fld o i = some (ci, k)) : Jvm.Cond.fieldLink (pm_R o) i (pm_T ci k).1 (pm_T ci k).2.1 (pm_T ci k).2.2.1 ∈ pm_g ∧ k < pm_N ci ∧ ci < 8 := by
  unfold pm_fld at h
  cases hf : pm_fldT.find? (fun r => r.1 == o && r.2.1 == i) with
  | none => rw [hf] at h; cases h
  | some r =>
    rw [hf] at h
    obtain ⟨o', i', ci', k', pl⟩ := r
    have h1 := List.find?_some hf
    have h2 := pm_fld_ok _ (List.mem_of_find?_eq_some hf)
    simp only [Bool.and_eq_true, beq_iff_eq] at h1
    obtain ⟨rfl, rfl⟩ := h1
    cases h
    exact ⟨pm_g_of h2.1 rfl, h2.2.1, h2.2.2⟩
theorem pm_cst_spec {o i : Nat} {v : Value} (h : pm_cst o i = some v) : ∃ p : Nat, lw_tbl[p]? = some (pm_cw o i v) := by
  unfold pm_cst at h
  cases hf : pm_cstT.find? (fun r => r.1 == o && r.2.1 == i) with
  | none => rw [hf] at h; cases h
  | some r =>
    rw [hf] at h
    obtain ⟨o', i', v', pl⟩ := r
    have h1 := List.find?_some hf
    have h2 := pm_cst_ok _ (List.mem_of_find?_eq_some hf)
    simp only [Bool.and_eq_true, beq_iff_eq] at h1
    obtain ⟨rfl, rfl⟩ := h1
    cases h
    exact ⟨_, h2⟩
theorem pm_cls_spec {o i ci : Nat} (h : pm_cls o i = some ci) : Jvm.Cond.classLink (pm_R o) i (pm_R ci) ∈ pm_g ∧ Jvm.Cond.instantiable (pm_R ci) (pm_N ci) ∈ pm_g ∧ Jvm.Cond.initialized (pm_R ci) ∈ pm_g ∧ ci < 8 := by
  unfold pm_cls at h
  cases hf : pm_clsT.find? (fun r => r.1 == o && r.2.1 == i) with
  | none => rw [hf] at h; cases h
  | some r =>
    rw [hf] at h
    obtain ⟨o', i', ci', p1, p2, p3⟩ := r
    have h1 := List.find?_some hf
    have h2 := pm_cls_ok _ (List.mem_of_find?_eq_some hf)
    simp only [Bool.and_eq_true, beq_iff_eq] at h1
    obtain ⟨rfl, rfl⟩ := h1
    cases h
    exact ⟨pm_g_of h2.1 rfl, pm_g_of h2.2.1 rfl, pm_g_of h2.2.2.1 rfl, h2.2.2.2⟩
theorem pm_oi_spec {o i : Nat} (h : pm_oi o i = true) : Jvm.Cond.methodLink (pm_R o) i Lib.objectInit ∈ pm_g := by
  unfold pm_oi at h
  obtain ⟨r, h1, h2⟩ := List.any_eq_true.mp h
  simp only [Bool.and_eq_true, beq_iff_eq] at h2
  obtain ⟨rfl, rfl⟩ := h2
  exact pm_g_of (pm_oi_ok.1 r h1) rfl
theorem pm_mm_spec {o i : Nat} {mx : Bool} (h : pm_mm o i = some mx) : Jvm.Cond.methodLink (pm_R o) i (pm_mmN mx) ∈ pm_g ∧ Jvm.Cond.static (pm_mmN mx) ∈ pm_g ∧ Jvm.Cond.initialized "java/lang/Math" ∈ pm_g ∧ (if mx then Jvm.Cond.code Lib.Math.max.name Lib.Math.max.code 2 (some .int) else Jvm.Cond.code Lib.Math.min.name Lib.Math.min.code 2 (some .int)) ∈ pm_g := by
  unfold pm_mm at h
  cases hf : pm_mmT.find? (fun r => r.1 == o && r.2.1 == i) with
  | none => rw [hf] at h; cases h
  | some r =>
    rw [hf] at h
    obtain ⟨o', i', mx', ps⟩ := r
    have h1 := List.find?_some hf
    have h2 := pm_mm_ok _ (List.mem_of_find?_eq_some hf)
    simp only [Bool.and_eq_true, beq_iff_eq] at h1
    obtain ⟨rfl, rfl⟩ := h1
    cases h
    refine ⟨pm_g_of h2.1 rfl, pm_g_of h2.2.1 rfl, pm_g_of h2.2.2.1 rfl, pm_g_of h2.2.2.2 ?_⟩
    cases mx' <;> rfl
theorem pm_cl_at : ∀ ci, ci < 8 → vwCl[ci]? = some (pm_R ci, pm_T ci, pm_N ci) := by
  intro ci h
  match ci, h with
  | 0, _ => rfl
  | 1, _ => rfl
  | 2, _ => rfl
  | 3, _ => rfl
  | 4, _ => rfl
  | 5, _ => rfl
  | 6, _ => rfl
  | 7, _ => rfl
theorem pm_nm : ∀ ci, ci < 8 → ∀ a, a < pm_N ci → ∀ b, b < pm_N ci → a ≠ b → (pm_T ci a).2.1 ≠ (pm_T ci b).2.1 := by
  intro ci h
  match ci, h with
  | 0, _ => exact nmX0
  | 1, _ => exact nmX1
  | 2, _ => exact nmX2
  | 3, _ => exact nmX3
  | 4, _ => exact nmX4
  | 5, _ => exact nmX5
  | 6, _ => exact nmX6
  | 7, _ => exact nmX7
theorem pm_ty_ok : ∀ ci, ci < 8 → ∀ k, k < pm_N ci → parseFieldDescriptor (pm_T ci k).2.2.1 = some (pm_ty ci k) := by
  intro ci h
  match ci, h with
  | 0, _ => exact tyX0_ok
  | 1, _ => exact tyX1_ok
  | 2, _ => exact tyX2_ok
  | 3, _ => exact tyX3_ok
  | 4, _ => exact tyX4_ok
  | 5, _ => exact tyX5_ok
  | 6, _ => exact tyX6_ok
  | 7, _ => exact tyX7_ok
set_option maxRecDepth 100000 in
theorem pm_lay_in : ∀ ci, ci < 8 → ∀ w ∈ u_ws (pm_R ci) (pm_T ci) (pm_N ci), w ∈ lw_tbl ∧ goodWord w = true := by decide +kernel
theorem pm_lay (ci : Nat) (h : ci < 8) : ∀ w ∈ u_ws (pm_R ci) (pm_T ci) (pm_N ci), w ∈ pm_g := fun w hw => List.mem_filter.mpr (pm_lay_in ci h w hw)
theorem pm_df_ok : ∀ ci, ci < 8 → ∀ k, k < pm_N ci → defaultValue (pm_ty ci k) = vp_V (pm_df ci) k := by decide +kernel
theorem pm_df_len : ∀ ci, ci < 8 → (pm_df ci).length = pm_N ci := by decide +kernel
