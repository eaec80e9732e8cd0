/-! the pure machine's runs are the machine's -/
theorem pm_next {l : Launch} {D : va_G} {dA : Nat → ClassId} {HB : Heap} {b : Nat} {X : pm_X} {y : pm_M} {d : Nat} {p : Program} {e : Env} {R : Room} {s : State} {m : MethodId} {args : Array Value} {below : List Frame} {meth : Method} {c : Code} {H : Heap} {locs : List Loc} {cells slots : Nat} {Q : State → Prop} {pc pc' : Nat} {ls ls' st st' : List Value} {G G' : pm_H} {arr : Array Slot}
    (h : pm_at X y pc ls st G = some (.inl (pc', ls', st', G'))) (C : pm_Cx D dA HB b X y d p R s m args meth c) (hl : lv_has arr y.2.2.2.1 (pm_lv HB.size b ls)) (hn : ls.length = y.2.2.2.1) (hW : pm_W D dA HB b G H) (hL : ∀ q ∈ locs, HB.size ≤ q.base) (hc : cells + (G'.length - G.length) ≤ R.cells) (hs : slots + (pm_sl G' - pm_sl G) ≤ R.slots)
    (kk : ∀ (H' : Heap) (locs' : List Loc) (arr' : Array Slot), lv_has arr' y.2.2.2.1 (pm_lv HB.size b ls') → ls'.length = y.2.2.2.1 → pm_W D dA HB b G' H' → (∀ q ∈ locs', HB.size ≤ q.base) → W p l e R s m args below meth c H' locs' (cells + (G'.length - G.length)) (slots + (pm_sl G' - pm_sl G)) Q (F0 m pc' arr' (st'.map (pm_ev HB.size b)))) : W p l e R s m args below meth c H locs cells slots Q (F0 m pc arr (st.map (pm_ev HB.size b))) := by
  unfold pm_at at h
  split at h
  next i len hd =>
    split at h
    next hlen =>
      cases i with
      | tableswitch dd lo hi offs => exact pm_n_tableswitch hd h C hl hn hW hL hc hs kk
      | iconst k0 => exact pm_n_iconst (by rw [hd, show len = _ from eq_of_beq hlen]; rfl) h C hl hn hW hL hc hs kk
      | bipush k0 => exact pm_n_bipush (by rw [hd, show len = _ from eq_of_beq hlen]; rfl) h C hl hn hW hL hc hs kk
      | sipush k0 => exact pm_n_sipush (by rw [hd, show len = _ from eq_of_beq hlen]; rfl) h C hl hn hW hL hc hs kk
      | lconst k0 => exact pm_n_lconst (by rw [hd, show len = _ from eq_of_beq hlen]; rfl) h C hl hn hW hL hc hs kk
      | ldc k0 => exact pm_n_ldc (by rw [hd, show len = _ from eq_of_beq hlen]; rfl) h C hl hn hW hL hc hs kk
      | ldc_w k0 => exact pm_n_ldc_w (by rw [hd, show len = _ from eq_of_beq hlen]; rfl) h C hl hn hW hL hc hs kk
      | ldc2_w k0 => exact pm_n_ldc2_w (by rw [hd, show len = _ from eq_of_beq hlen]; rfl) h C hl hn hW hL hc hs kk
      | iload_n k0 => exact pm_n_iload_n (by rw [hd, show len = _ from eq_of_beq hlen]; rfl) h C hl hn hW hL hc hs kk
      | iload k0 => exact pm_n_iload (by rw [hd, show len = _ from eq_of_beq hlen]; rfl) h C hl hn hW hL hc hs kk
      | lload_n k0 => exact pm_n_lload_n (by rw [hd, show len = _ from eq_of_beq hlen]; rfl) h C hl hn hW hL hc hs kk
      | lload k0 => exact pm_n_lload (by rw [hd, show len = _ from eq_of_beq hlen]; rfl) h C hl hn hW hL hc hs kk
      | aload_n k0 => exact pm_n_aload_n (by rw [hd, show len = _ from eq_of_beq hlen]; rfl) h C hl hn hW hL hc hs kk
      | aload k0 => exact pm_n_aload (by rw [hd, show len = _ from eq_of_beq hlen]; rfl) h C hl hn hW hL hc hs kk
      | istore_n k0 => exact pm_n_istore_n (by rw [hd, show len = _ from eq_of_beq hlen]; rfl) h C hl hn hW hL hc hs kk
      | istore k0 => exact pm_n_istore (by rw [hd, show len = _ from eq_of_beq hlen]; rfl) h C hl hn hW hL hc hs kk
      | lstore_n k0 => exact pm_n_lstore_n (by rw [hd, show len = _ from eq_of_beq hlen]; rfl) h C hl hn hW hL hc hs kk
      | lstore k0 => exact pm_n_lstore (by rw [hd, show len = _ from eq_of_beq hlen]; rfl) h C hl hn hW hL hc hs kk
      | astore_n k0 => exact pm_n_astore_n (by rw [hd, show len = _ from eq_of_beq hlen]; rfl) h C hl hn hW hL hc hs kk
      | astore k0 => exact pm_n_astore (by rw [hd, show len = _ from eq_of_beq hlen]; rfl) h C hl hn hW hL hc hs kk
      | iinc k0 k1 => exact pm_n_iinc (by rw [hd, show len = _ from eq_of_beq hlen]; rfl) h C hl hn hW hL hc hs kk
      | iadd  => exact pm_n_iadd (by rw [hd, show len = _ from eq_of_beq hlen]; rfl) h C hl hn hW hL hc hs kk
      | isub  => exact pm_n_isub (by rw [hd, show len = _ from eq_of_beq hlen]; rfl) h C hl hn hW hL hc hs kk
      | imul  => exact pm_n_imul (by rw [hd, show len = _ from eq_of_beq hlen]; rfl) h C hl hn hW hL hc hs kk
      | iand  => exact pm_n_iand (by rw [hd, show len = _ from eq_of_beq hlen]; rfl) h C hl hn hW hL hc hs kk
      | ior  => exact pm_n_ior (by rw [hd, show len = _ from eq_of_beq hlen]; rfl) h C hl hn hW hL hc hs kk
      | ixor  => exact pm_n_ixor (by rw [hd, show len = _ from eq_of_beq hlen]; rfl) h C hl hn hW hL hc hs kk
      | ishl  => exact pm_n_ishl (by rw [hd, show len = _ from eq_of_beq hlen]; rfl) h C hl hn hW hL hc hs kk
      | ishr  => exact pm_n_ishr (by rw [hd, show len = _ from eq_of_beq hlen]; rfl) h C hl hn hW hL hc hs kk
      | iushr  => exact pm_n_iushr (by rw [hd, show len = _ from eq_of_beq hlen]; rfl) h C hl hn hW hL hc hs kk
      | ladd  => exact pm_n_ladd (by rw [hd, show len = _ from eq_of_beq hlen]; rfl) h C hl hn hW hL hc hs kk
      | lsub  => exact pm_n_lsub (by rw [hd, show len = _ from eq_of_beq hlen]; rfl) h C hl hn hW hL hc hs kk
      | lmul  => exact pm_n_lmul (by rw [hd, show len = _ from eq_of_beq hlen]; rfl) h C hl hn hW hL hc hs kk
      | ldiv  => exact pm_n_ldiv (by rw [hd, show len = _ from eq_of_beq hlen]; rfl) h C hl hn hW hL hc hs kk
      | lrem  => exact pm_n_lrem (by rw [hd, show len = _ from eq_of_beq hlen]; rfl) h C hl hn hW hL hc hs kk
      | ineg  => exact pm_n_ineg (by rw [hd, show len = _ from eq_of_beq hlen]; rfl) h C hl hn hW hL hc hs kk
      | lcmp  => exact pm_n_lcmp (by rw [hd, show len = _ from eq_of_beq hlen]; rfl) h C hl hn hW hL hc hs kk
      | i2l  => exact pm_n_i2l (by rw [hd, show len = _ from eq_of_beq hlen]; rfl) h C hl hn hW hL hc hs kk
      | l2i  => exact pm_n_l2i (by rw [hd, show len = _ from eq_of_beq hlen]; rfl) h C hl hn hW hL hc hs kk
      | dup  => exact pm_n_dup (by rw [hd, show len = _ from eq_of_beq hlen]; rfl) h C hl hn hW hL hc hs kk
      | pop  => exact pm_n_pop (by rw [hd, show len = _ from eq_of_beq hlen]; rfl) h C hl hn hW hL hc hs kk
      | dup2  => exact pm_n_dup2 (by rw [hd, show len = _ from eq_of_beq hlen]; rfl) h C hl hn hW hL hc hs kk
      | ifCond k0 k1 => exact pm_n_ifCond (by rw [hd, show len = _ from eq_of_beq hlen]; rfl) h C hl hn hW hL hc hs kk
      | if_icmp k0 k1 => exact pm_n_if_icmp (by rw [hd, show len = _ from eq_of_beq hlen]; rfl) h C hl hn hW hL hc hs kk
      | goto k0 => exact pm_n_goto (by rw [hd, show len = _ from eq_of_beq hlen]; rfl) h C hl hn hW hL hc hs kk
      | getfield k0 => exact pm_n_getfield (by rw [hd, show len = _ from eq_of_beq hlen]; rfl) h C hl hn hW hL hc hs kk
      | putfield k0 => exact pm_n_putfield (by rw [hd, show len = _ from eq_of_beq hlen]; rfl) h C hl hn hW hL hc hs kk
      | iaload  => exact pm_n_iaload (by rw [hd, show len = _ from eq_of_beq hlen]; rfl) h C hl hn hW hL hc hs kk
      | baload  => exact pm_n_baload (by rw [hd, show len = _ from eq_of_beq hlen]; rfl) h C hl hn hW hL hc hs kk
      | laload  => exact pm_n_laload (by rw [hd, show len = _ from eq_of_beq hlen]; rfl) h C hl hn hW hL hc hs kk
      | aaload  => exact pm_n_aaload (by rw [hd, show len = _ from eq_of_beq hlen]; rfl) h C hl hn hW hL hc hs kk
      | iastore  => exact pm_n_iastore (by rw [hd, show len = _ from eq_of_beq hlen]; rfl) h C hl hn hW hL hc hs kk
      | bastore  => exact pm_n_bastore (by rw [hd, show len = _ from eq_of_beq hlen]; rfl) h C hl hn hW hL hc hs kk
      | lastore  => exact pm_n_lastore (by rw [hd, show len = _ from eq_of_beq hlen]; rfl) h C hl hn hW hL hc hs kk
      | aastore  => exact pm_n_aastore (by rw [hd, show len = _ from eq_of_beq hlen]; rfl) h C hl hn hW hL hc hs kk
      | arraylength  => exact pm_n_arraylength (by rw [hd, show len = _ from eq_of_beq hlen]; rfl) h C hl hn hW hL hc hs kk
      | new k0 => exact pm_n_new (by rw [hd, show len = _ from eq_of_beq hlen]; rfl) h C hl hn hW hL hc hs kk
      | newarray k0 => exact pm_n_newarray (by rw [hd, show len = _ from eq_of_beq hlen]; rfl) h C hl hn hW hL hc hs kk
      | anewarray k0 => exact pm_n_anewarray (by rw [hd, show len = _ from eq_of_beq hlen]; rfl) h C hl hn hW hL hc hs kk
      | invokespecial k0 => exact pm_n_invokespecial (by rw [hd, show len = _ from eq_of_beq hlen]; rfl) h C hl hn hW hL hc hs kk
      | invokestatic k0 => exact pm_n_invokestatic (by rw [hd, show len = _ from eq_of_beq hlen]; rfl) h C hl hn hW hL hc hs kk
      | invokevirtual k => exact absurd h (pm_cv_ne _)
      | ireturn => simp only [pm_step] at h; repeat' (split at h)
                   all_goals first | cases h | simp at h
      | lreturn => simp only [pm_step] at h; repeat' (split at h)
                   all_goals first | cases h | simp at h
      | return_ => simp only [pm_step] at h; repeat' (split at h)
                   all_goals first | cases h | simp at h
      | _ => simp [pm_step] at h
    next => cases h
  next => cases h
