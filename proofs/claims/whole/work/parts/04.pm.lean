/-! a pure machine: values with cells by number, a heap as a list of cells, steps by the decoded instruction -/
abbrev pm_E : Type := (Nat × vp_A) ⊕ (Nat × List Value)
abbrev pm_H : Type := List pm_E
abbrev pm_X : Type := Nat × (Nat → Int32)
def pm_U : Value := .double 0
def pm_fld (o i : Nat) : Option (Nat × Nat) := (pm_fldT.find? (fun r => r.1 == o && r.2.1 == i)).map (fun r => (r.2.2.1, r.2.2.2.1))
def pm_cst (o i : Nat) : Option Value := (pm_cstT.find? (fun r => r.1 == o && r.2.1 == i)).map (fun r => r.2.2.1)
def pm_cls (o i : Nat) : Option Nat := (pm_clsT.find? (fun r => r.1 == o && r.2.1 == i)).map (fun r => r.2.2.1)
def pm_mth (o i : Nat) : Option (Nat × Nat × pm_M) := (pm_mthT.find? (fun r => r.1 == o && r.2.1 == i)).map (fun r => (r.2.2.1, r.2.2.2.1, r.2.2.2.2.1))
def pm_oi (o i : Nat) : Bool := pm_oiT.any (fun r => r.1 == o && r.2.1 == i)
def pm_mm (o i : Nat) : Option Bool := (pm_mmT.find? (fun r => r.1 == o && r.2.1 == i)).map (fun r => r.2.2.1)
abbrev pm_Res : Type := (Nat × List Value × List Value × pm_H) ⊕ ((pm_M × List Value × List Value) ⊕ Option Value)
def pm_nx (pc : Nat) (ls st : List Value) (G : pm_H) : Option pm_Res := some (.inl (pc, ls, st, G))
def pm_ld (ls : List Value) (k : Nat) : Option Value := match ls[k]? with
  | some (.int x) => some (.int x)
  | _ => none
def pm_ll (ls : List Value) (k : Nat) : Option Int64 := match ls[k]?, ls[k + 1]? with
  | some (.long x), some (.double _) => some x
  | _, _ => none
def pm_la (ls : List Value) (k : Nat) : Option Value := match ls[k]? with
  | some (.ref x) => some (.ref x)
  | some (.float x) => some (.float x)
  | _ => none
def pm_bi (f : Int32 → Int32 → Int32) (pc : Nat) (ls st : List Value) (G : pm_H) : Option pm_Res := match st with
  | .int y :: .int x :: r => pm_nx (pc + 1) ls (.int (f x y) :: r) G
  | _ => none
def pm_bl (f : Int64 → Int64 → Int64) (ok : Int64 → Bool) (pc : Nat) (ls st : List Value) (G : pm_H) : Option pm_Res := match st with
  | .long y :: .long x :: r => if ok y then pm_nx (pc + 1) ls (.long (f x y) :: r) G else none
  | _ => none
def pm_go (pc : Nat) (off : Int) (ls st : List Value) (G : pm_H) : Option pm_Res := if 0 ≤ (pc : Int) + off then pm_nx ((pc : Int) + off).toNat ls st G else none
def pm_br (t : Bool) (pc : Nat) (off : Int) (ls st : List Value) (G : pm_H) : Option pm_Res := if 0 ≤ (pc : Int) + off then (if t then pm_nx ((pc : Int) + off).toNat ls st G else pm_nx (pc + 3) ls st G) else none
def pm_cz (c : ClassFile.Cond) (x : Int32) : Bool := match c with
  | .eq => decide (x = 0)
  | .ne => decide (¬ x = 0)
  | .lt => decide (x < 0)
  | .ge => decide (0 ≤ x)
  | .gt => decide (0 < x)
  | .le => decide (x ≤ 0)
def pm_cc (c : ClassFile.Cond) (x y : Int32) : Bool := match c with
  | .eq => decide (x = y)
  | .ne => decide (¬ x = y)
  | .lt => decide (x < y)
  | .ge => decide (y ≤ x)
  | .gt => decide (y < x)
  | .le => decide (x ≤ y)
def pm_fit (ty : FieldType) (v : Value) : Bool := match ty, v with
  | .int, .int _ => true
  | .boolean, .int x => x == 0 || x == 1
  | .object _, .ref _ => true
  | .array _, .ref _ => true
  | _, _ => false
def pm_in (i : Int32) (n : Nat) : Bool := decide (¬ (i < 0 ∨ n ≤ i.toNatClampNeg))
def pm_gf (G : pm_H) (a ci k : Nat) : Option Value := match G[a]? with
  | some (.inr (c, fs)) => if c = ci then fs[k]? else none
  | _ => none
def pm_pf (G : pm_H) (a ci k : Nat) (v : Value) : Option pm_H := match G[a]? with
  | some (.inr (c, fs)) => if c = ci ∧ k < fs.length then some (G.set a (.inr (c, fs.set k v))) else none
  | _ => none
/-- an array of ints (type 0) or booleans (2) -/
def pm_ai (G : pm_H) (t a : Nat) : Option (Nat × (Nat → Int32)) := match G[a]? with
  | some (.inl (t', n, .inl f)) => if t' = t then some (n, f) else none
  | _ => none
def pm_al (G : pm_H) (a : Nat) : Option (Nat × (Nat → Int64)) := match G[a]? with
  | some (.inl (t', n, .inr (.inl f))) => if t' = 1 then some (n, f) else none
  | _ => none
def pm_aq (G : pm_H) (a : Nat) : Option (Nat × (Nat → Option Nat)) := match G[a]? with
  | some (.inl (t', n, .inr (.inr (.inr (.inr f))))) => if t' = 3 then some (n, f) else none
  | _ => none
def pm_cat (st : List Value) : Nat := (st.map fun v => v.category).sum
/-- the locals with which a method begins -/
def pm_fl (vs : List Value) : List Value := vs.flatMap fun v => if v.category = 2 then [v, pm_U] else [v]
def pm_en (n : Nat) (vs : List Value) : List Value := pm_fl vs ++ List.replicate (n - (pm_fl vs).length) pm_U
def pm_len (i : Instr) : Nat := match i with
  | .bipush _ | .iload _ | .lload _ | .aload _ | .istore _ | .lstore _ | .astore _ | .newarray _ | .ldc _ => 2
  | .sipush _ | .ldc_w _ | .ldc2_w _ | .iinc _ _ | .ifCond _ _ | .if_icmp _ _ | .goto _ | .getfield _ | .putfield _ | .new _ | .anewarray _ | .invokevirtual _ | .invokestatic _ | .invokespecial _ => 3
  | _ => 1
def pm_isv (v : Value) : Bool := match v with
  | .int _ | .long _ | .ref _ | .float _ => true
  | _ => false
def pm_cv (y : pm_M) (kinds : List Nat) (i : Nat) (st : List Value) (G : pm_H) (self : Bool) : Option pm_Res := match pm_mth y.1 i with
  | some (kd, n, z) => if kinds.contains kd && decide (n ≤ st.length) && (st.take n).all pm_isv && decide (z.2.2.2.1 ≤ 40) then
      (if self then (match st.drop n with
        | .ref b :: rest => (match G[b]? with
          | some (.inr (c, _)) => if c = z.1 ∧ c < 8 ∧ pm_cat rest ≤ 8 ∧ (pm_fl (.ref b :: (st.take n).reverse)).length ≤ z.2.2.2.1 then some (.inr (.inl (z, .ref b :: (st.take n).reverse, rest))) else none
          | _ => none)
        | _ => none)
      else if pm_cat (st.drop n) ≤ 8 ∧ (pm_fl (st.take n).reverse).length ≤ z.2.2.2.1 then some (.inr (.inl (z, (st.take n).reverse, st.drop n))) else none)
    else none
  | none => none
def pm_step (X : pm_X) (y : pm_M) (i : Instr) (pc : Nat) (ls st : List Value) (G : pm_H) : Option pm_Res := match i with
  | .iconst n => pm_nx (pc + 1) ls (.int (Int32.ofInt n) :: st) G
  | .bipush n => pm_nx (pc + 2) ls (.int (Int8.ofInt n).toInt32 :: st) G
  | .sipush n => pm_nx (pc + 3) ls (.int (Int16.ofInt n).toInt32 :: st) G
  | .lconst n => pm_nx (pc + 1) ls (.long (Int64.ofNat (n : Nat)) :: st) G
  | .ldc k => (match pm_cst y.1 k with
    | some (.int v) => pm_nx (pc + 2) ls (.int v :: st) G
    | _ => none)
  | .ldc_w k => (match pm_cst y.1 k with
    | some (.int v) => pm_nx (pc + 3) ls (.int v :: st) G
    | _ => none)
  | .ldc2_w k => (match pm_cst y.1 k with
    | some (.long v) => pm_nx (pc + 3) ls (.long v :: st) G
    | _ => none)
  | .iload_n k => (match pm_ld ls k with
    | some v => pm_nx (pc + 1) ls (v :: st) G
    | none => none)
  | .iload k => (match pm_ld ls k with
    | some v => pm_nx (pc + 2) ls (v :: st) G
    | none => none)
  | .lload_n k => (match pm_ll ls k with
    | some v => pm_nx (pc + 1) ls (.long v :: st) G
    | none => none)
  | .lload k => (match pm_ll ls k with
    | some v => pm_nx (pc + 2) ls (.long v :: st) G
    | none => none)
  | .aload_n k => (match pm_la ls k with
    | some v => pm_nx (pc + 1) ls (v :: st) G
    | none => none)
  | .aload k => (match pm_la ls k with
    | some v => pm_nx (pc + 2) ls (v :: st) G
    | none => none)
  | .istore_n k => (match st with
    | .int x :: r => if (k : Nat) < ls.length then pm_nx (pc + 1) (ls.set k (.int x)) r G else none
    | _ => none)
  | .istore k => (match st with
    | .int x :: r => if k < ls.length then pm_nx (pc + 2) (ls.set k (.int x)) r G else none
    | _ => none)
  | .lstore_n k => (match st with
    | .long x :: r => if (k : Nat) + 1 < ls.length then pm_nx (pc + 1) ((ls.set k (.long x)).set (k + 1) pm_U) r G else none
    | _ => none)
  | .lstore k => (match st with
    | .long x :: r => if k + 1 < ls.length then pm_nx (pc + 2) ((ls.set k (.long x)).set (k + 1) pm_U) r G else none
    | _ => none)
  | .astore_n k => (match st with
    | .ref x :: r => if (k : Nat) < ls.length then pm_nx (pc + 1) (ls.set k (.ref x)) r G else none
    | _ => none)
  | .astore k => (match st with
    | .ref x :: r => if k < ls.length then pm_nx (pc + 2) (ls.set k (.ref x)) r G else none
    | _ => none)
  | .iinc k n => (match ls[k]? with
    | some (.int x) => if k < ls.length then pm_nx (pc + 3) (ls.set k (.int (x + Int32.ofInt n))) st G else none
    | _ => none)
  | .iadd => pm_bi (fun x y => x + y) pc ls st G
  | .isub => pm_bi (fun x y => x - y) pc ls st G
  | .imul => pm_bi (fun x y => x * y) pc ls st G
  | .iand => pm_bi (fun x y => x &&& y) pc ls st G
  | .ior => pm_bi (fun x y => x ||| y) pc ls st G
  | .ixor => pm_bi (fun x y => x ^^^ y) pc ls st G
  | .ishl => pm_bi (fun x y => x <<< (y &&& 31)) pc ls st G
  | .ishr => pm_bi (fun x y => x >>> (y &&& 31)) pc ls st G
  | .iushr => pm_bi (fun x y => (x.toUInt32 >>> (y.toUInt32 &&& Int32.toUInt32 31)).toInt32) pc ls st G
  | .ineg => (match st with
    | .int x :: r => pm_nx (pc + 1) ls (.int (-x) :: r) G
    | _ => none)
  | .ladd => pm_bl (fun x y => x + y) (fun _ => true) pc ls st G
  | .lsub => pm_bl (fun x y => x - y) (fun _ => true) pc ls st G
  | .lmul => pm_bl (fun x y => x * y) (fun _ => true) pc ls st G
  | .ldiv => pm_bl (fun x y => x / y) (fun y => !(y == 0)) pc ls st G
  | .lrem => pm_bl (fun x y => x - x / y * y) (fun y => !(y == 0)) pc ls st G
  | .lcmp => (match st with
    | .long y :: .long x :: r => pm_nx (pc + 1) ls (.int (lg_cmp x y) :: r) G
    | _ => none)
  | .i2l => (match st with
    | .int x :: r => pm_nx (pc + 1) ls (.long x.toInt64 :: r) G
    | _ => none)
  | .l2i => (match st with
    | .long x :: r => pm_nx (pc + 1) ls (.int x.toInt32 :: r) G
    | _ => none)
  | .dup => (match st with
    | .int x :: r => pm_nx (pc + 1) ls (.int x :: .int x :: r) G
    | .ref x :: r => pm_nx (pc + 1) ls (.ref x :: .ref x :: r) G
    | _ => none)
  | .pop => (match st with
    | .int _ :: r => pm_nx (pc + 1) ls r G
    | .ref _ :: r => pm_nx (pc + 1) ls r G
    | _ => none)
  | .dup2 => (match st with
    | .int x :: .ref a :: r => pm_nx (pc + 1) ls (.int x :: .ref a :: .int x :: .ref a :: r) G
    | _ => none)
  | .ifCond c off => (match st with
    | .int x :: r => pm_br (pm_cz c x) pc off ls r G
    | _ => none)
  | .if_icmp c off => (match st with
    | .int y :: .int x :: r => pm_br (pm_cc c x y) pc off ls r G
    | _ => none)
  | .goto off => pm_go pc off ls st G
  | .tableswitch d lo hi offs => (match st with
    | .int x :: r => if x.toInt < lo ∨ hi < x.toInt then pm_go pc d ls r G else (match offs[(x.toInt - lo).toNat]? with
      | some off => pm_go pc off ls r G
      | none => none)
    | _ => none)
  | .getfield k => (match pm_fld y.1 k with
    | some (ci, f) => (match st with
      | .ref a :: r => (match pm_gf G a ci f with
        | some v => pm_nx (pc + 3) ls (v :: r) G
        | none => none)
      | _ => none)
    | none => none)
  | .putfield k => (match pm_fld y.1 k with
    | some (ci, f) => (match st with
      | v :: .ref a :: r => if pm_fit (pm_ty ci f) v && (!(pm_T ci f).2.2.2 || (decide (y.2.1.name = "<init>") && decide ((pm_T ci f).1 = pm_R y.1))) then (match pm_pf G a ci f v with
        | some G' => pm_nx (pc + 3) ls r G'
        | none => none) else none
      | _ => none)
    | none => none)
  | .iaload => (match st with
    | .int i :: .ref a :: r => (match pm_ai G 0 a with
      | some (n, f) => if pm_in i n then pm_nx (pc + 1) ls (.int (f i.toNatClampNeg) :: r) G else none
      | none => none)
    | .int i :: .float _ :: r => if pm_in i X.1 then pm_nx (pc + 1) ls (.int (X.2 i.toNatClampNeg) :: r) G else none
    | _ => none)
  | .baload => (match st with
    | .int i :: .ref a :: r => (match pm_ai G 2 a with
      | some (n, f) => if pm_in i n then pm_nx (pc + 1) ls (.int (f i.toNatClampNeg) :: r) G else none
      | none => none)
    | _ => none)
  | .laload => (match st with
    | .int i :: .ref a :: r => (match pm_al G a with
      | some (n, f) => if pm_in i n then pm_nx (pc + 1) ls (.long (f i.toNatClampNeg) :: r) G else none
      | none => none)
    | _ => none)
  | .aaload => (match st with
    | .int i :: .ref a :: r => (match pm_aq G a with
      | some (n, f) => if pm_in i n then (match f i.toNatClampNeg with
        | some q => pm_nx (pc + 1) ls (.ref q :: r) G
        | none => none) else none
      | none => none)
    | _ => none)
  | .iastore => (match st with
    | .int x :: .int i :: .ref a :: r => (match pm_ai G 0 a with
      | some (n, f) => if pm_in i n then pm_nx (pc + 1) ls r (G.set a (.inl (0, n, .inl (upd f i.toNatClampNeg x)))) else none
      | none => none)
    | _ => none)
  | .bastore => (match st with
    | .int x :: .int i :: .ref a :: r => (match pm_ai G 2 a with
      | some (n, f) => if pm_in i n then pm_nx (pc + 1) ls r (G.set a (.inl (2, n, .inl (upd f i.toNatClampNeg (vp_nar .boolean x))))) else none
      | none => none)
    | _ => none)
  | .lastore => (match st with
    | .long x :: .int i :: .ref a :: r => (match pm_al G a with
      | some (n, f) => if pm_in i n then pm_nx (pc + 1) ls r (G.set a (.inl (1, n, .inr (.inl (vp_updL f i.toNatClampNeg x))))) else none
      | none => none)
    | _ => none)
  | .aastore => (match st with
    | .ref v :: .int i :: .ref a :: r => (match pm_aq G a with
      | some (n, f) => (match G[v]? with
        | some (.inr (4, _)) => if pm_in i n then pm_nx (pc + 1) ls r (G.set a (.inl (3, n, .inr (.inr (.inr (.inr (va_up f i.toNatClampNeg (some v)))))))) else none
        | _ => none)
      | none => none)
    | _ => none)
  | .arraylength => (match st with
    | .float _ :: r => pm_nx (pc + 1) ls (.int (Int32.ofNat X.1) :: r) G
    | _ => none)
  | .new k => (match pm_cls y.1 k with
    | some ci => pm_nx (pc + 3) ls (.ref G.length :: st) (G ++ [.inr (ci, pm_df ci)])
    | none => none)
  | .newarray t => (match st with
    | .int n :: r => if ¬ n < 0 ∧ n.toNatClampNeg ≤ 100000 then (match t with
      | .int => pm_nx (pc + 2) ls (.ref G.length :: r) (G ++ [.inl (0, n.toNatClampNeg, .inl (fun _ => 0))])
      | .long => pm_nx (pc + 2) ls (.ref G.length :: r) (G ++ [.inl (1, n.toNatClampNeg, .inr (.inl (fun _ => 0)))])
      | .boolean => pm_nx (pc + 2) ls (.ref G.length :: r) (G ++ [.inl (2, n.toNatClampNeg, .inl (fun _ => 0))])
      | _ => none) else none
    | _ => none)
  | .anewarray k => (match pm_cls y.1 k with
    | some 4 => (match st with
      | .int n :: r => if ¬ n < 0 ∧ n.toNatClampNeg ≤ 100000 then pm_nx (pc + 3) ls (.ref G.length :: r) (G ++ [.inl (3, n.toNatClampNeg, .inr (.inr (.inr (.inr (fun _ => none)))))]) else none
      | _ => none)
    | _ => none)
  | .invokevirtual k => pm_cv y [0] k st G true
  | .invokespecial k => if pm_oi y.1 k then (match st with
      | .ref _ :: r => if pm_cat r ≤ 8 then pm_nx (pc + 3) ls r G else none
      | _ => none) else pm_cv y [2, 4] k st G true
  | .invokestatic k => (match pm_mm y.1 k with
    | some mx => (match st with
      | .int y :: .int x :: r => if pm_cat r ≤ 8 then pm_nx (pc + 3) ls (.int (if mx then (if x < y then y else x) else (if y < x then y else x)) :: r) G else none
      | _ => none)
    | none => pm_cv y [1, 3] k st G false)
  | .ireturn => (match st with
    | [.int v] => if y.2.2.2.2 = some .int ∨ (y.2.2.2.2 = some .boolean ∧ (v = 0 ∨ v = 1)) then some (.inr (.inr (some (.int v)))) else none
    | _ => none)
  | .lreturn => (match st with
    | [.long v] => if y.2.2.2.2 = some .long then some (.inr (.inr (some (.long v)))) else none
    | _ => none)
  | .return_ => (match st with
    | [] => if y.2.2.2.2 = none then some (.inr (.inr none)) else none
    | _ => none)
  | _ => none
def pm_lok (i : Instr) (len : Nat) : Bool := match i with
  | .tableswitch _ _ _ _ => true
  | _ => len == pm_len i
def pm_at (X : pm_X) (y : pm_M) (pc : Nat) (ls st : List Value) (G : pm_H) : Option pm_Res := match decode y.2.2.1 pc with
  | .ok (i, len) => if pm_lok i len then pm_step X y i pc ls st G else none
  | _ => none
def pm_run (X : pm_X) : Nat → Nat → pm_M → Nat → List Value → List Value → pm_H → Option (Option Value × pm_H)
  | 0, _, _, _, _, _, _ => none
  | n + 1, d, y, pc, ls, st, G => match pm_at X y pc ls st G with
    | none => none
    | some (.inl (pc', ls', st', G')) => pm_run X n d y pc' ls' st' G'
    | some (.inr (.inl (z, vs, st'))) => (match d with
      | 0 => none
      | d' + 1 => (match pm_run X n d' z 0 (pm_en z.2.2.2.1 vs) [] G with
        | none => none
        | some (r, G') => pm_run X n d y (pc + 3) ls (r.toList ++ st') G'))
    | some (.inr (.inr r)) => some (r, G)
/-- the machine, at a place of a method, comes to its end with Q -/
def pm_wp (X : pm_X) (d : Nat) (y : pm_M) (pc : Nat) (ls st : List Value) (G : pm_H) (Q : Option Value → pm_H → Prop) : Prop := ∃ (n : Nat) (r : Option Value) (G' : pm_H), pm_run X n d y pc ls st G = some (r, G') ∧ Q r G'
def pm_call (X : pm_X) (d : Nat) (z : pm_M) (vs : List Value) (G : pm_H) (Q : Option Value → pm_H → Prop) : Prop := pm_wp X d z 0 (pm_en z.2.2.2.1 vs) [] G Q
theorem pm_run_up (X : pm_X) : ∀ (n d : Nat) (y : pm_M) (pc : Nat) (ls st : List Value) (G : pm_H) (o : Option Value × pm_H), pm_run X n d y pc ls st G = some o → pm_run X (n + 1) d y pc ls st G = some o := by
  intro n
  induction n with
  | zero => intro d y pc ls st G o h; simp [pm_run] at h
  | succ n ih =>
    intro d y pc ls st G o h
    rw [pm_run] at h ⊢
    cases hs : pm_at X y pc ls st G with
    | none => rw [hs] at h; simp at h
    | some a =>
      rw [hs] at h
      match a, h with
      | .inl (pc', ls', st', G'), h => exact ih _ _ _ _ _ _ _ h
      | .inr (.inr r), h => exact h
      | .inr (.inl (z, vs, st')), h =>
        cases d with
        | zero => simp at h
        | succ d =>
          simp only at h ⊢
          cases hz : pm_run X n d z 0 (pm_en z.2.2.2.1 vs) [] G with
          | none => rw [hz] at h; simp at h
          | some q =>
            obtain ⟨r, G'⟩ := q
            rw [hz] at h
            rw [ih _ _ _ _ _ _ _ hz]
            exact ih _ _ _ _ _ _ _ h
theorem pm_run_le (X : pm_X) {n m d : Nat} {y : pm_M} {pc : Nat} {ls st : List Value} {G : pm_H} {o : Option Value × pm_H} (hnm : n ≤ m) (h : pm_run X n d y pc ls st G = some o) : pm_run X m d y pc ls st G = some o := by
  induction hnm with
  | refl => exact h
  | step _ ih => exact pm_run_up X _ _ _ _ _ _ _ _ ih
theorem pm_wp_next {X : pm_X} {d : Nat} {y : pm_M} {pc pc' : Nat} {ls ls' st st' : List Value} {G G' : pm_H} {Q : Option Value → pm_H → Prop} (h : pm_at X y pc ls st G = some (.inl (pc', ls', st', G'))) : pm_wp X d y pc ls st G Q ↔ pm_wp X d y pc' ls' st' G' Q := by
  constructor
  · rintro ⟨n, r, G2, h1, h2⟩
    cases n with
    | zero => simp [pm_run] at h1
    | succ n =>
      rw [pm_run, h] at h1
      exact ⟨n, r, G2, h1, h2⟩
  · rintro ⟨n, r, G2, h1, h2⟩
    exact ⟨n + 1, r, G2, by rw [pm_run, h]; exact h1, h2⟩
theorem pm_wp_ret {X : pm_X} {d : Nat} {y : pm_M} {pc : Nat} {ls st : List Value} {G : pm_H} {Q : Option Value → pm_H → Prop} {r : Option Value} (h : pm_at X y pc ls st G = some (.inr (.inr r))) : pm_wp X d y pc ls st G Q ↔ Q r G := by
  constructor
  · rintro ⟨n, r2, G2, h1, h2⟩
    cases n with
    | zero => simp [pm_run] at h1
    | succ n =>
      rw [pm_run, h] at h1
      cases h1
      exact h2
  · intro q
    exact ⟨1, r, G, by rw [pm_run, h], q⟩
theorem pm_wp_call {X : pm_X} {d : Nat} {y : pm_M} {pc : Nat} {ls st : List Value} {G : pm_H} {Q : Option Value → pm_H → Prop} {z : pm_M} {vs st' : List Value} (h : pm_at X y pc ls st G = some (.inr (.inl (z, vs, st')))) : pm_wp X (d + 1) y pc ls st G Q ↔ pm_call X d z vs G (fun r G' => pm_wp X (d + 1) y (pc + 3) ls (r.toList ++ st') G' Q) := by
  constructor
  · rintro ⟨n, r2, G2, h1, h2⟩
    cases n with
    | zero => simp [pm_run] at h1
    | succ n =>
      rw [pm_run, h] at h1
      simp only at h1
      cases hz : pm_run X n d z 0 (pm_en z.2.2.2.1 vs) [] G with
      | none => rw [hz] at h1; simp at h1
      | some q =>
        obtain ⟨r, G'⟩ := q
        rw [hz] at h1
        exact ⟨n, r, G', hz, n, r2, G2, h1, h2⟩
  · rintro ⟨n, r, G', h1, m, r2, G2, h2, h3⟩
    refine ⟨(n + m) + 1, r2, G2, ?_, h3⟩
    rw [pm_run, h]
    simp only
    rw [pm_run_le X (Nat.le_add_right n m) h1]
    exact pm_run_le X (Nat.le_add_left m n) h2
theorem pm_wp_mono {X : pm_X} {d : Nat} {y : pm_M} {pc : Nat} {ls st : List Value} {G : pm_H} {Q Q' : Option Value → pm_H → Prop} (h : pm_wp X d y pc ls st G Q) (hq : ∀ r G', Q r G' → Q' r G') : pm_wp X d y pc ls st G Q' := by
  obtain ⟨n, r, G', h1, h2⟩ := h
  exact ⟨n, r, G', h1, hq r G' h2⟩
