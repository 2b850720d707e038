section
/-! A small machine over named cells. A cell is named by a pair (tag, index); what lies in it is two functions,
ints and longs by (tag, index, place); which cell a field or an element refers to is fixed by a layout. -/
abbrev gs_V : Type := Int32 ⊕ Int64 ⊕ (Nat × Nat)
abbrev gs_i (x : Int32) : gs_V := .inl x
abbrev gs_l (x : Int64) : gs_V := .inr (.inl x)
abbrev gs_r (t i : Nat) : gs_V := .inr (.inr (t, i))
abbrev gs_D : Type := (Nat → Nat → Nat → Int32) × (Nat → Nat → Nat → Int64)
/-- a layout: of a tag its kind (0 object, 1 int[], 2 boolean[], 3 long[], 4 reference[], 5 the script), its kind's number, its length; of a field its kind (0 int, 1 long, 2 reference); where a reference leads; the script -/
abbrev gs_Y : Type := (Nat → Nat × Nat × Nat) × (Nat → Nat → Nat) × (Nat → Nat → Nat → Nat × Nat) × (Nat → Int32)
abbrev gs_R : Type := Option (Option gs_V × gs_D)
abbrev gs_F : Type := List gs_V → gs_D → gs_R
/-- a method: its instructions with their targets, its field numbers, its constants, its callees (arguments without receiver, receiver's kind or 1000, what it does) -/
abbrev gs_P : Type := (Nat → Option (Jvm.ClassFile.Instr × Nat)) × (Nat → Option (Nat × Nat)) × (Nat → Option gs_V) × (Nat → Option (Nat × Nat × gs_F))
abbrev gs_K : Type := Nat → List (Option gs_V) → List gs_V → gs_D → gs_R
def gs_cz (ad : Nat → Nat → Nat) (v : gs_V) : Value := match v with
  | .inl x => .int x
  | .inr (.inl x) => .long x
  | .inr (.inr r) => .ref (ad r.1 r.2)
def gs_cat (v : gs_V) : Nat := match v with
  | .inr (.inl _) => 2
  | _ => 1
theorem gs_cz_cat (ad : Nat → Nat → Nat) (v : gs_V) : (gs_cz ad v).category = gs_cat v := by
  rcases v with x | x | r <;> rfl
def gs_uI (f : Nat → Nat → Nat → Int32) (t i j : Nat) (x : Int32) : Nat → Nat → Nat → Int32 := fun a b c => if a = t ∧ b = i ∧ c = j then x else f a b c
def gs_uL (f : Nat → Nat → Nat → Int64) (t i j : Nat) (x : Int64) : Nat → Nat → Nat → Int64 := fun a b c => if a = t ∧ b = i ∧ c = j then x else f a b c
def gs_wI (d : gs_D) (t i j : Nat) (x : Int32) : gs_D := (gs_uI d.1 t i j x, d.2)
def gs_wL (d : gs_D) (t i j : Nat) (x : Int64) : gs_D := (d.1, gs_uL d.2 t i j x)
-- locals
def gs_nl (o : Option gs_V) : Option gs_V := match o with
  | some (.inr (.inl _)) => none
  | o => o
def gs_clr (l : List (Option gs_V)) (i : Nat) : List (Option gs_V) := match i with
  | 0 => l
  | j + 1 => l.set j (gs_nl (l.getD j none))
def gs_st1 (l : List (Option gs_V)) (i : Nat) (v : gs_V) : List (Option gs_V) := (gs_clr l i).set i (some v)
def gs_st2 (l : List (Option gs_V)) (i : Nat) (v : gs_V) : List (Option gs_V) := ((gs_clr l i).set i (some v)).set (i + 1) none
def gs_sl (av : List gs_V) : List (Option gs_V) := av.flatMap fun v => if gs_cat v = 2 then [some v, none] else [some v]
def gs_ent (n : Nat) (av : List gs_V) : List (Option gs_V) := gs_sl av ++ List.replicate (n - (gs_sl av).length) none
/-- a table by numbers -/
def gs_lk {α : Type} (tb : List (Nat × α)) (x : Nat) : Option α := match tb with
  | [] => none
  | e :: r => match Nat.beq e.1 x with
    | true => some e.2
    | false => gs_lk r x
theorem gs_lk_mem {α : Type} {x : Nat} {v : α} : ∀ {tb : List (Nat × α)}, gs_lk tb x = some v → (x, v) ∈ tb
  | [], h => by cases h
  | e :: r, h => by
    cases hb : Nat.beq e.1 x with
    | true =>
      rw [gs_lk, hb] at h
      cases h
      rw [← Nat.eq_of_beq_eq_true hb]
      exact List.mem_cons_self
    | false =>
      rw [gs_lk, hb] at h
      exact List.mem_cons_of_mem _ (gs_lk_mem h)
-- the machine's helpers: each goes on, or there is no answer
def gs_b (b : Bool) (a : gs_R) : gs_R := match b with
  | true => a
  | false => none
def gs_ki (o : Option gs_V) (k : Int32 → gs_R) : gs_R := match o with
  | some (.inl x) => k x
  | _ => none
def gs_kl (o : Option gs_V) (k : Int64 → gs_R) : gs_R := match o with
  | some (.inr (.inl x)) => k x
  | _ => none
def gs_kr (o : Option gs_V) (k : Nat → Nat → gs_R) : gs_R := match o with
  | some (.inr (.inr q)) => k q.1 q.2
  | _ => none
def gs_1v (st : List gs_V) (k : gs_V → List gs_V → gs_R) : gs_R := match st with
  | v :: r => k v r
  | _ => none
def gs_1i (st : List gs_V) (k : Int32 → List gs_V → gs_R) : gs_R := match st with
  | .inl x :: r => k x r
  | _ => none
def gs_1l (st : List gs_V) (k : Int64 → List gs_V → gs_R) : gs_R := match st with
  | .inr (.inl x) :: r => k x r
  | _ => none
def gs_1r (st : List gs_V) (k : Nat → Nat → List gs_V → gs_R) : gs_R := match st with
  | .inr (.inr q) :: r => k q.1 q.2 r
  | _ => none
def gs_2i (st : List gs_V) (k : Int32 → Int32 → List gs_V → gs_R) : gs_R := gs_1i st fun y r => gs_1i r fun x r => k x y r
def gs_2l (st : List gs_V) (k : Int64 → Int64 → List gs_V → gs_R) : gs_R := gs_1l st fun y r => gs_1l r fun x r => k x y r
def gs_2r (st : List gs_V) (k : Int32 → Nat → Nat → List gs_V → gs_R) : gs_R := gs_1i st fun j r => gs_1r r fun t i r => k j t i r
def gs_br (c : Jvm.ClassFile.Cond) (x y : Int32) (a b : gs_R) : gs_R := match c with
  | .eq => if x = y then a else b
  | .ne => if ¬ x = y then a else b
  | .lt => if x < y then a else b
  | .ge => if y ≤ x then a else b
  | .gt => if y < x then a else b
  | .le => if x ≤ y then a else b
def gs_ix (j : Int32) (n : Nat) (a : gs_R) : gs_R := if j < 0 ∨ n ≤ j.toNatClampNeg then none else a
def gs_nz (j : Int32) (a : gs_R) : gs_R := if j = 0 then none else a
def gs_nzl (j : Int64) (a : gs_R) : gs_R := if j = 0 then none else a
def gs_fa (Y : gs_Y) (d : gs_D) (t i k : Nat) : gs_V := match Y.2.1 t k with
  | 0 => .inl (d.1 t i k)
  | 1 => .inr (.inl (d.2 t i k))
  | _ => .inr (.inr (Y.2.2.1 t i k))
def gs_ia (Y : gs_Y) (d : gs_D) (t i n : Nat) : Int32 := match (Y.1 t).1 with
  | 5 => Y.2.2.2 n
  | _ => d.1 t i n
def gs_ts (x : Int32) (lo hi : Int) (pc : Nat) (offs : Array Int) (a : gs_R) (k : Nat → gs_R) : gs_R := if x.toInt < lo ∨ hi < x.toInt then a else match offs[(x.toInt - lo).toNat]? with
  | some o => gs_b (decide (0 ≤ (pc : Int) + o)) (k ((pc : Int) + o).toNat)
  | none => none
def gs_sw (v : gs_V) (ki : Int32 → gs_R) (kl : Int64 → gs_R) (kr : gs_R) : gs_R := match v with
  | .inl z => ki z
  | .inr (.inl z) => kl z
  | _ => kr
def gs_fl (Y : gs_Y) (o : Option (Nat × Nat)) (t : Nat) (k : Nat → gs_R) : gs_R := match o with
  | some q => gs_b ((Y.1 t).1 == 0 && ((Y.1 t).2.1 == q.1 && Nat.ble (q.2 + 1) (Y.1 t).2.2)) (k q.2)
  | none => none
def gs_af (a : gs_R) (rest : List gs_V) (k : List gs_V → gs_D → gs_R) : gs_R := match a with
  | some (some v, d) => k (v :: rest) d
  | some (none, d) => k rest d
  | none => none
def gs_cs (o : Option (Nat × Nat × gs_F)) (st : List gs_V) (d : gs_D) (k : List gs_V → gs_D → gs_R) : gs_R := match o with
  | some q => gs_b (q.2.1 == 1000 && (Nat.ble q.1 st.length && Nat.ble ((st.drop q.1).map gs_cat).sum 8)) (gs_af (q.2.2 (st.take q.1).reverse d) (st.drop q.1) k)
  | none => none
def gs_cv (Y : gs_Y) (o : Option (Nat × Nat × gs_F)) (st : List gs_V) (d : gs_D) (k : List gs_V → gs_D → gs_R) : gs_R := match o with
  | some q => gs_b (Nat.ble q.2.1 999 && Nat.ble q.1 st.length) (gs_1r (st.drop q.1) fun t i r => gs_b ((Y.1 t).1 == 0 && ((Y.1 t).2.1 == q.2.1 && Nat.ble (r.map gs_cat).sum 8)) (gs_af (q.2.2 (gs_r t i :: (st.take q.1).reverse) d) r k))
  | none => none
def gs_ret (i : Jvm.ClassFile.Instr) (st : List gs_V) : Option (Option gs_V) := match i with
  | .return_ => match st with
    | [] => some none
    | _ => none
  | .ireturn => match st with
    | [.inl x] => some (some (.inl x))
    | _ => none
  | .lreturn => match st with
    | [.inr (.inl x)] => some (some (.inr (.inl x)))
    | _ => none
  | .areturn => match st with
    | [.inr (.inr q)] => some (some (.inr (.inr q)))
    | _ => none
  | _ => none
def gs_stp (Y : gs_Y) (P : gs_P) (pc : Nat) (l : List (Option gs_V)) (st : List gs_V) (d : gs_D) (k : gs_K) : gs_R := match P.1 pc with
  | none => none
  | some (i, tg) => match i with
    | .iconst n => k (pc + 1) l (gs_i (Int32.ofInt n) :: st) d
    | .bipush n => k (pc + 2) l (gs_i (Int8.ofInt n).toInt32 :: st) d
    | .sipush n => k (pc + 3) l (gs_i (Int16.ofInt n).toInt32 :: st) d
    | .lconst n => k (pc + 1) l (gs_l (Int64.ofNat n) :: st) d
    | .ldc x => gs_ki (P.2.2.1 x) fun v => k (pc + 2) l (gs_i v :: st) d
    | .ldc2_w x => gs_kl (P.2.2.1 x) fun v => k (pc + 3) l (gs_l v :: st) d
    | .iload_n n => gs_ki (l.getD n none) fun v => k (pc + 1) l (gs_i v :: st) d
    | .iload n => gs_ki (l.getD n none) fun v => k (pc + 2) l (gs_i v :: st) d
    | .lload_n n => gs_kl (l.getD n none) fun v => k (pc + 1) l (gs_l v :: st) d
    | .lload n => gs_kl (l.getD n none) fun v => k (pc + 2) l (gs_l v :: st) d
    | .aload_n n => gs_kr (l.getD n none) fun t i => k (pc + 1) l (gs_r t i :: st) d
    | .aload n => gs_kr (l.getD n none) fun t i => k (pc + 2) l (gs_r t i :: st) d
    | .istore_n n => gs_1i st fun x r => gs_b (Nat.ble (n + 1) l.length) (k (pc + 1) (gs_st1 l n (gs_i x)) r d)
    | .istore n => gs_1i st fun x r => gs_b (Nat.ble (n + 1) l.length) (k (pc + 2) (gs_st1 l n (gs_i x)) r d)
    | .lstore_n n => gs_1l st fun x r => gs_b (Nat.ble (n + 2) l.length) (k (pc + 1) (gs_st2 l n (gs_l x)) r d)
    | .lstore n => gs_1l st fun x r => gs_b (Nat.ble (n + 2) l.length) (k (pc + 2) (gs_st2 l n (gs_l x)) r d)
    | .astore_n n => gs_1r st fun t i r => gs_b (Nat.ble (n + 1) l.length) (k (pc + 1) (gs_st1 l n (gs_r t i)) r d)
    | .astore n => gs_1r st fun t i r => gs_b (Nat.ble (n + 1) l.length) (k (pc + 2) (gs_st1 l n (gs_r t i)) r d)
    | .iinc n c => gs_ki (l.getD n none) fun v => gs_b (Nat.ble (n + 1) l.length) (k (pc + 3) (gs_st1 l n (gs_i (v + Int32.ofInt c))) st d)
    | .iadd => gs_2i st fun x y r => k (pc + 1) l (gs_i (x + y) :: r) d
    | .isub => gs_2i st fun x y r => k (pc + 1) l (gs_i (x - y) :: r) d
    | .imul => gs_2i st fun x y r => k (pc + 1) l (gs_i (x * y) :: r) d
    | .iand => gs_2i st fun x y r => k (pc + 1) l (gs_i (x &&& y) :: r) d
    | .ior => gs_2i st fun x y r => k (pc + 1) l (gs_i (x ||| y) :: r) d
    | .ixor => gs_2i st fun x y r => k (pc + 1) l (gs_i (x ^^^ y) :: r) d
    | .ishl => gs_2i st fun x y r => k (pc + 1) l (gs_i (x <<< (y &&& 31)) :: r) d
    | .ishr => gs_2i st fun x y r => k (pc + 1) l (gs_i (x >>> (y &&& 31)) :: r) d
    | .idiv => gs_2i st fun x y r => gs_nz y (k (pc + 1) l (gs_i (x / y) :: r) d)
    | .irem => gs_2i st fun x y r => gs_nz y (k (pc + 1) l (gs_i (x - x / y * y) :: r) d)
    | .ineg => gs_1i st fun x r => k (pc + 1) l (gs_i (-x) :: r) d
    | .ladd => gs_2l st fun x y r => k (pc + 1) l (gs_l (x + y) :: r) d
    | .lsub => gs_2l st fun x y r => k (pc + 1) l (gs_l (x - y) :: r) d
    | .lmul => gs_2l st fun x y r => k (pc + 1) l (gs_l (x * y) :: r) d
    | .ldiv => gs_2l st fun x y r => gs_nzl y (k (pc + 1) l (gs_l (x / y) :: r) d)
    | .lrem => gs_2l st fun x y r => gs_nzl y (k (pc + 1) l (gs_l (x - x / y * y) :: r) d)
    | .lneg => gs_1l st fun x r => k (pc + 1) l (gs_l (-x) :: r) d
    | .lcmp => gs_2l st fun x y r => k (pc + 1) l (gs_i (lg_cmp x y) :: r) d
    | .i2l => gs_1i st fun x r => k (pc + 1) l (gs_l x.toInt64 :: r) d
    | .l2i => gs_1l st fun x r => k (pc + 1) l (gs_i x.toInt32 :: r) d
    | .dup => gs_1v st fun v r => gs_b (gs_cat v == 1) (k (pc + 1) l (v :: v :: r) d)
    | .pop => gs_1v st fun v r => gs_b (gs_cat v == 1) (k (pc + 1) l r d)
    | .pop2 => gs_1v st fun v r => gs_b (gs_cat v == 2) (k (pc + 1) l r d)
    | .dup_x1 => gs_1v st fun v r => gs_1v r fun w r => gs_b (gs_cat v == 1 && gs_cat w == 1) (k (pc + 1) l (v :: w :: v :: r) d)
    | .dup_x2 => gs_1v st fun v r => gs_1v r fun w r => gs_1v r fun u r => gs_b (gs_cat v == 1 && (gs_cat w == 1 && gs_cat u == 1)) (k (pc + 1) l (v :: w :: u :: v :: r) d)
    | .dup2 => gs_1v st fun v r => gs_sw v (fun _ => gs_1v r fun w r => gs_b (gs_cat w == 1) (k (pc + 1) l (v :: w :: v :: w :: r) d)) (fun _ => k (pc + 1) l (v :: v :: r) d) (gs_1v r fun w r => gs_b (gs_cat w == 1) (k (pc + 1) l (v :: w :: v :: w :: r) d))
    | .ifCond c _ => gs_1i st fun x r => gs_br c x 0 (k tg l r d) (k (pc + 3) l r d)
    | .if_icmp c _ => gs_2i st fun x y r => gs_br c x y (k tg l r d) (k (pc + 3) l r d)
    | .goto _ => k tg l st d
    | .getfield x => gs_1r st fun t i r => gs_fl Y (P.2.1 x) t fun f => k (pc + 3) l (gs_fa Y d t i f :: r) d
    | .putfield x => gs_1v st fun v r => gs_1r r fun t i r => gs_fl Y (P.2.1 x) t fun f => gs_sw v (fun z => gs_b (Y.2.1 t f == 0) (k (pc + 3) l r (gs_wI d t i f z))) (fun z => gs_b (Y.2.1 t f == 1) (k (pc + 3) l r (gs_wL d t i f z))) none
    | .iaload => gs_2r st fun j t i r => gs_b ((Y.1 t).1 == 1 || (Y.1 t).1 == 5) (gs_ix j (Y.1 t).2.2 (k (pc + 1) l (gs_i (gs_ia Y d t i j.toNatClampNeg) :: r) d))
    | .arraylength => gs_1r st fun t i r => gs_b ((Y.1 t).1 == 5) (k (pc + 1) l (gs_i (Int32.ofNat (Y.1 t).2.2) :: r) d)
    | .tableswitch _ lo hi offs => gs_1i st fun x r => gs_ts x lo hi pc offs (k tg l r d) (fun p1 => k p1 l r d)
    | .baload => gs_2r st fun j t i r => gs_b ((Y.1 t).1 == 2) (gs_ix j (Y.1 t).2.2 (k (pc + 1) l (gs_i (d.1 t i j.toNatClampNeg) :: r) d))
    | .laload => gs_2r st fun j t i r => gs_b ((Y.1 t).1 == 3) (gs_ix j (Y.1 t).2.2 (k (pc + 1) l (gs_l (d.2 t i j.toNatClampNeg) :: r) d))
    | .aaload => gs_2r st fun j t i r => gs_b ((Y.1 t).1 == 4) (gs_ix j (Y.1 t).2.2 (k (pc + 1) l (.inr (.inr (Y.2.2.1 t i j.toNatClampNeg)) :: r) d))
    | .iastore => gs_1i st fun x r => gs_2r r fun j t i r => gs_b ((Y.1 t).1 == 1) (gs_ix j (Y.1 t).2.2 (k (pc + 1) l r (gs_wI d t i j.toNatClampNeg x)))
    | .bastore => gs_1i st fun x r => gs_2r r fun j t i r => gs_b ((Y.1 t).1 == 2) (gs_ix j (Y.1 t).2.2 (k (pc + 1) l r (gs_wI d t i j.toNatClampNeg (vp_nar .boolean x))))
    | .lastore => gs_1l st fun x r => gs_2r r fun j t i r => gs_b ((Y.1 t).1 == 3) (gs_ix j (Y.1 t).2.2 (k (pc + 1) l r (gs_wL d t i j.toNatClampNeg x)))
    | .invokestatic x => gs_cs (P.2.2.2 x) st d fun st d => k (pc + 3) l st d
    | .invokevirtual x => gs_cv Y (P.2.2.2 x) st d fun st d => k (pc + 3) l st d
    | i => match gs_ret i st with
      | some r => some (r, d)
      | none => none
def gs_run (Y : gs_Y) (P : gs_P) : Nat → gs_K
  | 0 => fun _ _ _ _ => none
  | n + 1 => fun pc l st d => gs_stp Y P pc l st d (gs_run Y P n)
-- what goes on in more cases answers in more cases
theorem gs_b_m {b : Bool} {a a' : gs_R} {r} (h : a = some r → a' = some r) : gs_b b a = some r → gs_b b a' = some r := by
  cases b
  · exact id
  · exact h
theorem gs_ki_m {o : Option gs_V} {k k' : Int32 → gs_R} {r} (h : ∀ x, k x = some r → k' x = some r) : gs_ki o k = some r → gs_ki o k' = some r := by
  rcases o with _ | x | x | x <;> first | exact id | exact h _
theorem gs_kl_m {o : Option gs_V} {k k' : Int64 → gs_R} {r} (h : ∀ x, k x = some r → k' x = some r) : gs_kl o k = some r → gs_kl o k' = some r := by
  rcases o with _ | x | x | x <;> first | exact id | exact h _
theorem gs_kr_m {o : Option gs_V} {k k' : Nat → Nat → gs_R} {r} (h : ∀ x y, k x y = some r → k' x y = some r) : gs_kr o k = some r → gs_kr o k' = some r := by
  rcases o with _ | x | x | x <;> first | exact id | exact h _ _
theorem gs_1v_m {st : List gs_V} {k k' : gs_V → List gs_V → gs_R} {r} (h : ∀ x y, k x y = some r → k' x y = some r) : gs_1v st k = some r → gs_1v st k' = some r := by
  rcases st with _ | ⟨x, y⟩ <;> first | exact id | exact h _ _
theorem gs_1i_m {st : List gs_V} {k k' : Int32 → List gs_V → gs_R} {r} (h : ∀ x y, k x y = some r → k' x y = some r) : gs_1i st k = some r → gs_1i st k' = some r := by
  rcases st with _ | ⟨x | x | x, y⟩ <;> first | exact id | exact h _ _
theorem gs_1l_m {st : List gs_V} {k k' : Int64 → List gs_V → gs_R} {r} (h : ∀ x y, k x y = some r → k' x y = some r) : gs_1l st k = some r → gs_1l st k' = some r := by
  rcases st with _ | ⟨x | x | x, y⟩ <;> first | exact id | exact h _ _
theorem gs_1r_m {st : List gs_V} {k k' : Nat → Nat → List gs_V → gs_R} {r} (h : ∀ x y z, k x y z = some r → k' x y z = some r) : gs_1r st k = some r → gs_1r st k' = some r := by
  rcases st with _ | ⟨x | x | x, y⟩ <;> first | exact id | exact h _ _ _
theorem gs_2i_m {st : List gs_V} {k k' : Int32 → Int32 → List gs_V → gs_R} {r} (h : ∀ x y z, k x y z = some r → k' x y z = some r) : gs_2i st k = some r → gs_2i st k' = some r :=
  gs_1i_m fun _ _ => gs_1i_m fun _ _ => h _ _ _
theorem gs_2l_m {st : List gs_V} {k k' : Int64 → Int64 → List gs_V → gs_R} {r} (h : ∀ x y z, k x y z = some r → k' x y z = some r) : gs_2l st k = some r → gs_2l st k' = some r :=
  gs_1l_m fun _ _ => gs_1l_m fun _ _ => h _ _ _
theorem gs_2r_m {st : List gs_V} {k k' : Int32 → Nat → Nat → List gs_V → gs_R} {r} (h : ∀ x y z u, k x y z u = some r → k' x y z u = some r) : gs_2r st k = some r → gs_2r st k' = some r :=
  gs_1i_m fun _ _ => gs_1r_m fun _ _ _ => h _ _ _ _
theorem gs_br_m {c : Jvm.ClassFile.Cond} {x y : Int32} {a a' b b' : gs_R} {r} (h : a = some r → a' = some r) (h2 : b = some r → b' = some r) : gs_br c x y a b = some r → gs_br c x y a' b' = some r := by
  cases c <;> simp only [gs_br] <;> split <;> assumption
theorem gs_ix_m {j : Int32} {n : Nat} {a a' : gs_R} {r} (h : a = some r → a' = some r) : gs_ix j n a = some r → gs_ix j n a' = some r := by
  unfold gs_ix; split <;> first | exact id | exact h
theorem gs_nz_m {j : Int32} {a a' : gs_R} {r} (h : a = some r → a' = some r) : gs_nz j a = some r → gs_nz j a' = some r := by
  unfold gs_nz; split <;> first | exact id | exact h
theorem gs_nzl_m {j : Int64} {a a' : gs_R} {r} (h : a = some r → a' = some r) : gs_nzl j a = some r → gs_nzl j a' = some r := by
  unfold gs_nzl; split <;> first | exact id | exact h
theorem gs_ts_m {x : Int32} {lo hi : Int} {pc : Nat} {offs : Array Int} {a a' : gs_R} {k k' : Nat → gs_R} {r} (h : a = some r → a' = some r) (h2 : ∀ p1, k p1 = some r → k' p1 = some r) : gs_ts x lo hi pc offs a k = some r → gs_ts x lo hi pc offs a' k' = some r := by
  unfold gs_ts
  split
  · exact h
  · split
    · exact gs_b_m (h2 _)
    · exact id
theorem gs_sw_m {v : gs_V} {ki ki' : Int32 → gs_R} {kl kl' : Int64 → gs_R} {kr kr' : gs_R} {r} (h : ∀ x, ki x = some r → ki' x = some r) (h2 : ∀ x, kl x = some r → kl' x = some r) (h3 : kr = some r → kr' = some r) : gs_sw v ki kl kr = some r → gs_sw v ki' kl' kr' = some r := by
  rcases v with x | x | x
  · exact h _
  · exact h2 _
  · exact h3
theorem gs_fl_m {Y : gs_Y} {o : Option (Nat × Nat)} {t : Nat} {k k' : Nat → gs_R} {r} (h : ∀ x, k x = some r → k' x = some r) : gs_fl Y o t k = some r → gs_fl Y o t k' = some r := by
  rcases o with _ | q
  · exact id
  · exact gs_b_m (h _)
theorem gs_af_m {a : gs_R} {st : List gs_V} {k k' : List gs_V → gs_D → gs_R} {r} (h : ∀ x y, k x y = some r → k' x y = some r) : gs_af a st k = some r → gs_af a st k' = some r := by
  rcases a with _ | ⟨_ | v, d⟩
  · exact id
  · exact h _ _
  · exact h _ _
theorem gs_cs_m {o : Option (Nat × Nat × gs_F)} {st : List gs_V} {d : gs_D} {k k' : List gs_V → gs_D → gs_R} {r} (h : ∀ x y, k x y = some r → k' x y = some r) : gs_cs o st d k = some r → gs_cs o st d k' = some r := by
  rcases o with _ | q
  · exact id
  · exact gs_b_m (gs_af_m h)
theorem gs_cv_m {Y : gs_Y} {o : Option (Nat × Nat × gs_F)} {st : List gs_V} {d : gs_D} {k k' : List gs_V → gs_D → gs_R} {r} (h : ∀ x y, k x y = some r → k' x y = some r) : gs_cv Y o st d k = some r → gs_cv Y o st d k' = some r := by
  rcases o with _ | q
  · exact id
  · exact gs_b_m (gs_1r_m fun _ _ _ => gs_b_m (gs_af_m h))
set_option maxHeartbeats 4000000 in
theorem gs_stp_m {Y : gs_Y} {P : gs_P} {pc : Nat} {l : List (Option gs_V)} {st : List gs_V} {d : gs_D} {k k' : gs_K} {r} (hk : ∀ a b c e, k a b c e = some r → k' a b c e = some r) : gs_stp Y P pc l st d k = some r → gs_stp Y P pc l st d k' = some r := by
  unfold gs_stp
  rcases P.1 pc with _ | ⟨i, tg⟩
  · exact id
  · cases i <;> dsimp only <;> (repeat' (first
      | exact hk _ _ _ _
      | exact id
      | (refine gs_ki_m fun _ => ?_)
      | (refine gs_kl_m fun _ => ?_)
      | (refine gs_kr_m fun _ _ => ?_)
      | (refine gs_2i_m fun _ _ _ => ?_)
      | (refine gs_2l_m fun _ _ _ => ?_)
      | (refine gs_2r_m fun _ _ _ _ => ?_)
      | (refine gs_1i_m fun _ _ => ?_)
      | (refine gs_1l_m fun _ _ => ?_)
      | (refine gs_1r_m fun _ _ _ => ?_)
      | (refine gs_1v_m fun _ _ => ?_)
      | (refine gs_b_m ?_)
      | (refine gs_ix_m ?_)
      | (refine gs_nz_m ?_)
      | (refine gs_nzl_m ?_)
      | (refine gs_br_m ?_ ?_)
      | (refine gs_ts_m ?_ (fun _ => ?_))
      | (refine gs_fl_m fun _ => ?_)
      | (refine gs_sw_m (fun _ => ?_) (fun _ => ?_) ?_)
      | (refine gs_cs_m fun _ _ => ?_)
      | (refine gs_cv_m fun _ _ => ?_)))
theorem gs_run_s {Y : gs_Y} {P : gs_P} {r} : ∀ (n : Nat) (pc : Nat) (l : List (Option gs_V)) (st : List gs_V) (d : gs_D), gs_run Y P n pc l st d = some r → gs_run Y P (n + 1) pc l st d = some r
  | 0, _, _, _, _, h => by cases h
  | n + 1, pc, l, st, d, h => gs_stp_m (fun a b c e => gs_run_s n a b c e) h
theorem gs_run_le {Y : gs_Y} {P : gs_P} {r} {pc : Nat} {l : List (Option gs_V)} {st : List gs_V} {d : gs_D} {n : Nat} (h : gs_run Y P n pc l st d = some r) : ∀ j, gs_run Y P (n + j) pc l st d = some r
  | 0 => h
  | j + 1 => gs_run_s (n + j) _ _ _ _ (gs_run_le h j)
/-- what the machine answers, however long it runs -/
noncomputable def gs_g (Y : gs_Y) (P : gs_P) : gs_K := fun pc l st d => @dite gs_R (∃ r, ∃ n, gs_run Y P n pc l st d = some r) (Classical.propDecidable _) (fun h => some h.choose) (fun _ => none)
theorem gs_g_iff {Y : gs_Y} {P : gs_P} {r} {pc : Nat} {l : List (Option gs_V)} {st : List gs_V} {d : gs_D} : gs_g Y P pc l st d = some r ↔ ∃ n, gs_run Y P n pc l st d = some r := by
  constructor
  · intro h
    by_cases hc : ∃ r, ∃ n, gs_run Y P n pc l st d = some r
    · unfold gs_g at h
      rw [dif_pos hc] at h
      obtain ⟨n, hn⟩ := hc.choose_spec
      exact ⟨n, hn.trans h⟩
    · unfold gs_g at h
      rw [dif_neg hc] at h
      cases h
  · rintro ⟨n, hn⟩
    have hc : ∃ r, ∃ n, gs_run Y P n pc l st d = some r := ⟨r, n, hn⟩
    unfold gs_g
    rw [dif_pos hc]
    obtain ⟨n2, h2⟩ := hc.choose_spec
    have a := gs_run_le hn n2
    have b := gs_run_le h2 n
    rw [Nat.add_comm] at b
    exact b.symm.trans a
theorem gs_oext {α : Type} {a b : Option α} (h : ∀ r, a = some r ↔ b = some r) : a = b := by
  rcases a with _ | x
  · rcases b with _ | y
    · rfl
    · exact absurd ((h y).mpr rfl) (by simp)
  · exact ((h x).mp rfl).symm
section BK
variable {Y : gs_Y} {P : gs_P} {pc : Nat} {l : List (Option gs_V)} {st : List gs_V} {d : gs_D}
/-- a stretch of instructions -/
theorem gs_go (k : Nat) {pc' : Nat} {l' : List (Option gs_V)} {st' : List gs_V} {d' : gs_D} (h : ∀ n, gs_run Y P (n + k) pc l st d = gs_run Y P n pc' l' st' d') : gs_g Y P pc l st d = gs_g Y P pc' l' st' d' := by
  refine gs_oext fun r => ?_
  rw [gs_g_iff, gs_g_iff]
  constructor
  · rintro ⟨n, hn⟩
    exact ⟨n, (h n).symm.trans (gs_run_le hn k)⟩
  · rintro ⟨n, hn⟩
    exact ⟨n + k, (h n).trans hn⟩
/-- the same, its first step taken -/
theorem gs_gs (k : Nat) {pc' : Nat} {l' : List (Option gs_V)} {st' : List gs_V} {d' : gs_D} (h : ∀ n, gs_stp Y P pc l st d (gs_run Y P (n + k)) = gs_run Y P n pc' l' st' d') : gs_g Y P pc l st d = gs_g Y P pc' l' st' d' := gs_go (k + 1) h
/-- .. that ends in a branch -/
theorem gs_if (k : Nat) {b : Prop} [Decidable b] {p1 p2 : Nat} {l1 l2 : List (Option gs_V)} {s1 s2 : List gs_V} {d1 d2 : gs_D} (h : ∀ n, gs_run Y P (n + k) pc l st d = if b then gs_run Y P n p1 l1 s1 d1 else gs_run Y P n p2 l2 s2 d2) : gs_g Y P pc l st d = if b then gs_g Y P p1 l1 s1 d1 else gs_g Y P p2 l2 s2 d2 := by
  by_cases hb : b
  · rw [if_pos hb]
    exact gs_go k fun n => by rw [h n, if_pos hb]
  · rw [if_neg hb]
    exact gs_go k fun n => by rw [h n, if_neg hb]
/-- .. that answers -/
theorem gs_an (k : Nat) {a : gs_R} (h : ∀ n, gs_run Y P (n + k) pc l st d = a) : gs_g Y P pc l st d = a := by
  refine gs_oext fun r => ?_
  rw [gs_g_iff]
  constructor
  · rintro ⟨n, hn⟩
    exact (h n).symm.trans (gs_run_le hn k)
  · intro hn
    exact ⟨0 + k, (h 0).trans hn⟩
/-- .. that ends at a place of an array -/
theorem gs_gx (k : Nat) {j : Int32} {N : Nat} {p1 : Nat} {l1 : List (Option gs_V)} {s1 : List gs_V} {d1 : gs_D} (h : ∀ n, gs_run Y P (n + k) pc l st d = gs_ix j N (gs_run Y P n p1 l1 s1 d1)) : gs_g Y P pc l st d = gs_ix j N (gs_g Y P p1 l1 s1 d1) := by
  by_cases hb : j < 0 ∨ N ≤ j.toNatClampNeg
  · rw [gs_ix, if_pos hb]
    exact gs_an k fun n => by rw [h n, gs_ix, if_pos hb]
  · rw [gs_ix, if_neg hb]
    exact gs_go k fun n => by rw [h n, gs_ix, if_neg hb]
theorem gs_gz (k : Nat) {j : Int32} {p1 : Nat} {l1 : List (Option gs_V)} {s1 : List gs_V} {d1 : gs_D} (h : ∀ n, gs_run Y P (n + k) pc l st d = gs_nz j (gs_run Y P n p1 l1 s1 d1)) : gs_g Y P pc l st d = gs_nz j (gs_g Y P p1 l1 s1 d1) := by
  by_cases hb : j = 0
  · rw [gs_nz, if_pos hb]
    exact gs_an k fun n => by rw [h n, gs_nz, if_pos hb]
  · rw [gs_nz, if_neg hb]
    exact gs_go k fun n => by rw [h n, gs_nz, if_neg hb]
theorem gs_gzl (k : Nat) {j : Int64} {p1 : Nat} {l1 : List (Option gs_V)} {s1 : List gs_V} {d1 : gs_D} (h : ∀ n, gs_run Y P (n + k) pc l st d = gs_nzl j (gs_run Y P n p1 l1 s1 d1)) : gs_g Y P pc l st d = gs_nzl j (gs_g Y P p1 l1 s1 d1) := by
  by_cases hb : j = 0
  · rw [gs_nzl, if_pos hb]
    exact gs_an k fun n => by rw [h n, gs_nzl, if_pos hb]
  · rw [gs_nzl, if_neg hb]
    exact gs_go k fun n => by rw [h n, gs_nzl, if_neg hb]
/-- .. that ends in a call -/
theorem gs_gc (k : Nat) {a : gs_R} {rest : List gs_V} {p1 : Nat} {l1 : List (Option gs_V)} (h : ∀ n, gs_run Y P (n + k) pc l st d = gs_af a rest (fun s1 d1 => gs_run Y P n p1 l1 s1 d1)) : gs_g Y P pc l st d = gs_af a rest (fun s1 d1 => gs_g Y P p1 l1 s1 d1) := by
  rcases a with _ | ⟨_ | v, d'⟩
  · exact gs_an k h
  · exact gs_go k h
  · exact gs_go k h
end BK
/-- what kind of answer: 0 none, 1 an int, 2 a boolean, 3 a long, 4 a reference -/
def gs_rk (k : Nat) (r : Option gs_V) : Bool := match k with
  | 0 => match r with
    | none => true
    | _ => false
  | 1 => match r with
    | some (.inl _) => true
    | _ => false
  | 2 => match r with
    | some (.inl x) => decide (x = 0 ∨ x = 1)
    | _ => false
  | 3 => match r with
    | some (.inr (.inl _)) => true
    | _ => false
  | _ => match r with
    | some (.inr (.inr _)) => true
    | _ => false
def gs_ck (k : Nat) (a : gs_R) : gs_R := match a with
  | some (r, d) => gs_b (gs_rk k r) (some (r, d))
  | none => none
/-- a method as a function: its locals, what kind it answers, its code -/
noncomputable def gs_f (Y : gs_Y) (nL k : Nat) (P : gs_P) : gs_F := fun av d =>
  gs_b (Nat.ble (gs_sl av).length nL) (gs_ck k (gs_g Y P 0 (gs_ent nL av) [] d))
end
section
/-! The small machine is the JVM's: what it answers, the JVM comes to. -/
-- locals
def gs_rel (ad : Nat → Nat → Nat) (ls : Array Slot) (nL : Nat) (l : List (Option gs_V)) : Prop := ∃ lv, lv_has ls nL lv ∧ l.length = nL ∧ ∀ i v, l.getD i none = some v → (i, gs_cz ad v) ∈ lv
theorem gs_rel_at {ad : Nat → Nat → Nat} {ls : Array Slot} {nL : Nat} {l : List (Option gs_V)} (h : gs_rel ad ls nL l) {i : Nat} {v : gs_V} (hi : l.getD i none = some v) : ls[i]? = some (.val (gs_cz ad v)) := by
  obtain ⟨lv, h1, -, h3⟩ := h
  exact h1.2.2 _ (h3 i v hi)
theorem gs_getD_set {l : List (Option gs_V)} {i j : Nat} {x : Option gs_V} {v : gs_V} (h : (l.set i x).getD j none = some v) : (j = i ∧ x = some v) ∨ (j ≠ i ∧ l.getD j none = some v) := by
  rw [List.getD_eq_getElem?_getD, List.getElem?_set] at h
  by_cases e : i = j
  · rw [if_pos e] at h
    refine Or.inl ⟨e.symm, ?_⟩
    by_cases h2 : i < l.length
    · rw [if_pos h2] at h
      exact h
    · rw [if_neg h2] at h
      cases h
  · rw [if_neg e] at h
    exact Or.inr ⟨fun q => e q.symm, by rw [List.getD_eq_getElem?_getD]; exact h⟩
theorem gs_clr_len (l : List (Option gs_V)) (i : Nat) : (gs_clr l i).length = l.length := by
  cases i
  · rfl
  · simp [gs_clr]
theorem gs_nl_v {o : Option gs_V} {v : gs_V} (h : gs_nl o = some v) : o = some v ∧ ¬ gs_cat v = 2 := by
  rcases o with _ | x | x | x
  · cases h
  · cases h
    exact ⟨rfl, (show ¬ (1 : Nat) = 2 by decide)⟩
  · cases h
  · cases h
    exact ⟨rfl, (show ¬ (1 : Nat) = 2 by decide)⟩
theorem gs_clr_get {l : List (Option gs_V)} {i j : Nat} {v : gs_V} (h : (gs_clr l i).getD j none = some v) : l.getD j none = some v ∧ ¬ (j + 1 = i ∧ gs_cat v = 2) := by
  rcases i with _ | m
  · exact ⟨h, fun q => by omega⟩
  · rcases gs_getD_set h with ⟨e, h2⟩ | ⟨e, h2⟩
    · obtain ⟨h3, h4⟩ := gs_nl_v h2
      exact ⟨by rw [e]; exact h3, fun q => h4 q.2⟩
    · exact ⟨h2, fun q => e (by omega)⟩
theorem gs_rel_st1 {ad : Nat → Nat → Nat} {nL : Nat} {l : List (Option gs_V)} {lv : List (Nat × Value)} {i : Nat} {v : gs_V} {ls' : Array Slot} (hl : l.length = nL) (hm : ∀ i v, l.getD i none = some v → (i, gs_cz ad v) ∈ lv) (h : lv_has ls' nL ((i, gs_cz ad v) :: lv.filter (fun q => !(q.1 == i) && !(q.1 + 1 == i && q.2.category == 2)))) : gs_rel ad ls' nL (gs_st1 l i v) := by
  refine ⟨_, h, by simp [gs_st1, gs_clr_len, hl], fun j w hw => ?_⟩
  rcases gs_getD_set hw with ⟨e, e2⟩ | ⟨e, h2⟩
  · cases e2
    rw [e]
    exact List.mem_cons_self
  · obtain ⟨h3, h4⟩ := gs_clr_get h2
    refine List.mem_cons_of_mem _ (List.mem_filter.mpr ⟨hm j w h3, ?_⟩)
    simp only [gs_cz_cat, Bool.and_eq_true, Bool.not_eq_true', beq_eq_false_iff_ne, Bool.and_eq_false_imp, beq_iff_eq, ne_eq]
    exact ⟨e, fun a b => h4 ⟨a, b⟩⟩
theorem gs_rel_st2 {ad : Nat → Nat → Nat} {nL : Nat} {l : List (Option gs_V)} {lv : List (Nat × Value)} {i : Nat} {v : gs_V} {ls' : Array Slot} (hl : l.length = nL) (hm : ∀ i v, l.getD i none = some v → (i, gs_cz ad v) ∈ lv) (h : lv_has ls' nL ((i, gs_cz ad v) :: lv.filter (fun q => !(q.1 == i) && (!(q.1 == i + 1) && !(q.1 + 1 == i && q.2.category == 2))))) : gs_rel ad ls' nL (gs_st2 l i v) := by
  refine ⟨_, h, by simp [gs_st2, gs_clr_len, hl], fun j w hw => ?_⟩
  rcases gs_getD_set hw with ⟨-, e2⟩ | ⟨e1, hw⟩
  · cases e2
  rcases gs_getD_set hw with ⟨e, e2⟩ | ⟨e, h2⟩
  · cases e2
    rw [e]
    exact List.mem_cons_self
  · obtain ⟨h3, h4⟩ := gs_clr_get h2
    refine List.mem_cons_of_mem _ (List.mem_filter.mpr ⟨hm j w h3, ?_⟩)
    simp only [gs_cz_cat, Bool.and_eq_true, Bool.not_eq_true', beq_eq_false_iff_ne, Bool.and_eq_false_imp, beq_iff_eq, ne_eq]
    exact ⟨e, e1, fun a b => h4 ⟨a, b⟩⟩
theorem gs_rel_ent (ad : Nat → Nat → Nat) (k : Nat) : ∀ (av : List gs_V) (o i : Nat) (v : gs_V), (gs_sl av ++ List.replicate k none).getD i none = some v → (o + i, gs_cz ad v) ∈ lv_args o (av.map (gs_cz ad))
  | [], o, i, v, h => by
    exfalso
    rw [List.getD_eq_getElem?_getD] at h
    simp only [gs_sl, List.flatMap_nil, List.nil_append, List.getElem?_replicate] at h
    split at h <;> cases h
  | w :: av, o, i, v, h => by
    have ih := gs_rel_ent ad k av
    simp only [List.map_cons, lv_args, gs_cz_cat]
    by_cases hc : gs_cat w = 2
    · rw [if_pos hc]
      have e : gs_sl (w :: av) ++ List.replicate k none = some w :: none :: (gs_sl av ++ List.replicate k none) := by simp [gs_sl, hc]
      rw [e] at h
      rcases i with _ | _ | i
      · cases h
        exact List.mem_cons_self
      · cases h
      · have := ih (o + 2) i v h
        rw [show o + (i + 1 + 1) = o + 2 + i by omega]
        exact List.mem_cons_of_mem _ this
    · rw [if_neg hc]
      have e : gs_sl (w :: av) ++ List.replicate k none = some w :: (gs_sl av ++ List.replicate k none) := by simp [gs_sl, hc]
      rw [e] at h
      rcases i with _ | i
      · cases h
        exact List.mem_cons_self
      · have := ih (o + 1) i v h
        rw [show o + (i + 1) = o + 1 + i by omega]
        exact List.mem_cons_of_mem _ this
theorem gs_sl_len (ad : Nat → Nat → Nat) : ∀ av : List gs_V, (lg_sl (av.map (gs_cz ad))).length = (gs_sl av).length
  | [] => rfl
  | w :: av => by
    have ih := gs_sl_len ad av
    by_cases hc : gs_cat w = 2
    · simp only [lg_sl, gs_sl, List.map_cons, List.flatMap_cons, gs_cz_cat, hc, if_true, List.length_append] at ih ⊢
      rw [ih]
      rfl
    · simp only [lg_sl, gs_sl, List.map_cons, List.flatMap_cons, gs_cz_cat, hc, if_false, List.length_append] at ih ⊢
      rw [ih]
      rfl
-- cells
def gs_cont (Y : gs_Y) (cA : Nat → Nat → ClassId) (ad : Nat → Nat → Nat) (d : gs_D) (t i : Nat) : va_E := match (Y.1 t).1 with
  | 0 => .inr ((Y.1 t).2.1, (List.range (Y.1 t).2.2).map fun k => gs_cz ad (gs_fa Y d t i k))
  | 3 => .inl (cA t i, (Y.1 t).2.2, .inr (.inl (d.2 t i)))
  | 4 => .inl (cA t i, (Y.1 t).2.2, .inr (.inr (.inr (.inr fun j => some (ad (Y.2.2.1 t i j).1 (Y.2.2.1 t i j).2)))))
  | _ => .inl (cA t i, (Y.1 t).2.2, .inl (d.1 t i))
def gs_W (Y : gs_Y) (cA : Nat → Nat → ClassId) (ad : Nat → Nat → Nat) (d : gs_D) (RL : List (Nat × Nat)) : va_W := RL.map fun q => (ad q.1 q.2, gs_cont Y cA ad d q.1 q.2)
def gs_inj (RL : List (Nat × Nat)) : Prop := ∀ (i j : Nat) (q : Nat × Nat), RL[i]? = some q → RL[j]? = some q → i = j
section GW
variable {Y : gs_Y} {cA : Nat → Nat → ClassId} {ad : Nat → Nat → Nat} {d : gs_D} {RL : List (Nat × Nat)} {t i j : Nat}
theorem gs_W_at {q : Nat} (h : RL[q]? = some (t, i)) : (gs_W Y cA ad d RL)[q]? = some (ad t i, gs_cont Y cA ad d t i) := by
  unfold gs_W
  rw [List.getElem?_map, h]
  rfl
theorem gs_W_set {q : Nat} {d' : gs_D} {e : va_E} (hj : gs_inj RL) (hq : RL[q]? = some (t, i)) (he : gs_cont Y cA ad d' t i = e) (ho : ∀ a b, (a, b) ≠ (t, i) → gs_cont Y cA ad d' a b = gs_cont Y cA ad d a b) : (gs_W Y cA ad d RL).set q (ad t i, e) = gs_W Y cA ad d' RL := by
  apply List.ext_getElem?
  intro n
  rw [List.getElem?_set]
  by_cases hn : q = n
  · subst hn
    rw [if_pos rfl, gs_W_at hq, if_pos (by unfold gs_W; rw [List.length_map]; exact (List.getElem?_eq_some_iff.mp hq).1), he]
  · rw [if_neg hn]
    unfold gs_W
    rw [List.getElem?_map, List.getElem?_map]
    cases h : RL[n]? with
    | none => rfl
    | some r =>
      obtain ⟨a, b⟩ := r
      have hne : (a, b) ≠ (t, i) := fun z => hn (hj q n (t, i) hq (by rw [h, z]))
      show some (ad a b, gs_cont Y cA ad d a b) = some (ad a b, gs_cont Y cA ad d' a b)
      rw [ho a b hne]
theorem gs_fa_wI {x : Int32} {a b c : Nat} (h : ¬ (a = t ∧ b = i ∧ c = j)) : gs_fa Y (gs_wI d t i j x) a b c = gs_fa Y d a b c := by
  have e : (gs_wI d t i j x).1 a b c = d.1 a b c := if_neg h
  unfold gs_fa
  rw [e]
  rfl
theorem gs_fa_wL {x : Int64} {a b c : Nat} (h : ¬ (a = t ∧ b = i ∧ c = j)) : gs_fa Y (gs_wL d t i j x) a b c = gs_fa Y d a b c := by
  have e : (gs_wL d t i j x).2 a b c = d.2 a b c := if_neg h
  unfold gs_fa
  rw [e]
  rfl
theorem gs_ne3 {a b c : Nat} (h : (a, b) ≠ (t, i)) : ¬ (a = t ∧ b = i ∧ c = j) := fun z => h (by rw [z.1, z.2.1])
theorem gs_cont_wI {x : Int32} (a b : Nat) (h : (a, b) ≠ (t, i)) : gs_cont Y cA ad (gs_wI d t i j x) a b = gs_cont Y cA ad d a b := by
  have e : (gs_wI d t i j x).1 a b = d.1 a b := by
    funext c
    show gs_uI d.1 t i j x a b c = _
    unfold gs_uI
    rw [if_neg (gs_ne3 h)]
  unfold gs_cont
  simp only [gs_fa_wI (gs_ne3 h)]
  rw [e]
  rfl
theorem gs_cont_wL {x : Int64} (a b : Nat) (h : (a, b) ≠ (t, i)) : gs_cont Y cA ad (gs_wL d t i j x) a b = gs_cont Y cA ad d a b := by
  have e : (gs_wL d t i j x).2 a b = d.2 a b := by
    funext c
    show gs_uL d.2 t i j x a b c = _
    unfold gs_uL
    rw [if_neg (gs_ne3 h)]
  unfold gs_cont
  simp only [gs_fa_wL (gs_ne3 h)]
  rw [e]
  rfl
theorem gs_row_wI {x : Int32} : (gs_wI d t i j x).1 t i = upd (d.1 t i) j x := by
  funext c
  show gs_uI d.1 t i j x t i c = _
  unfold gs_uI upd
  by_cases h : c = j <;> simp [h]
theorem gs_row_wL {x : Int64} : (gs_wL d t i j x).2 t i = vp_updL (d.2 t i) j x := by
  funext c
  show gs_uL d.2 t i j x t i c = _
  unfold gs_uL vp_updL
  by_cases h : c = j <;> simp [h]
theorem gs_c0 (h : (Y.1 t).1 = 0) : gs_cont Y cA ad d t i = .inr ((Y.1 t).2.1, (List.range (Y.1 t).2.2).map fun k => gs_cz ad (gs_fa Y d t i k)) := by
  unfold gs_cont; rw [h]; rfl
theorem gs_c1 (h : (Y.1 t).1 = 1) : gs_cont Y cA ad d t i = .inl (cA t i, (Y.1 t).2.2, .inl (d.1 t i)) := by
  unfold gs_cont; rw [h]; rfl
theorem gs_c2 (h : (Y.1 t).1 = 2) : gs_cont Y cA ad d t i = .inl (cA t i, (Y.1 t).2.2, .inl (d.1 t i)) := by
  unfold gs_cont; rw [h]; rfl
theorem gs_c3 (h : (Y.1 t).1 = 3) : gs_cont Y cA ad d t i = .inl (cA t i, (Y.1 t).2.2, .inr (.inl (d.2 t i))) := by
  unfold gs_cont; rw [h]; rfl
theorem gs_c4 (h : (Y.1 t).1 = 4) : gs_cont Y cA ad d t i = .inl (cA t i, (Y.1 t).2.2, .inr (.inr (.inr (.inr fun j => some (ad (Y.2.2.1 t i j).1 (Y.2.2.1 t i j).2))))) := by
  unfold gs_cont; rw [h]; rfl
theorem gs_obj_wI {x : Int32} {n : Nat} (hk : Y.2.1 t j = 0) : ((List.range n).map fun k => gs_cz ad (gs_fa Y d t i k)).set j (.int x) = (List.range n).map fun k => gs_cz ad (gs_fa Y (gs_wI d t i j x) t i k) := by
  apply List.ext_getElem?
  intro m
  rw [List.getElem?_set, List.getElem?_map, List.getElem?_map, List.length_map, List.length_range]
  by_cases hm : j = m
  · subst hm
    rw [if_pos rfl]
    by_cases hn : j < n
    · rw [if_pos hn, List.getElem?_range hn]
      have e : gs_fa Y (gs_wI d t i j x) t i j = gs_i x := by
        unfold gs_fa
        rw [hk]
        exact congrArg Sum.inl (if_pos ⟨rfl, rfl, rfl⟩)
      show some (Value.int x) = some (gs_cz ad (gs_fa Y (gs_wI d t i j x) t i j))
      rw [e]
      rfl
    · rw [if_neg hn, List.getElem?_eq_none (by rw [List.length_range]; omega)]
      rfl
  · rw [if_neg hm]
    by_cases hn : m < n
    · rw [List.getElem?_range hn]
      show some (gs_cz ad (gs_fa Y d t i m)) = some (gs_cz ad (gs_fa Y (gs_wI d t i j x) t i m))
      rw [gs_fa_wI (fun z => hm z.2.2.symm)]
    · rw [List.getElem?_eq_none (by rw [List.length_range]; omega)]
      rfl
theorem gs_obj_wL {x : Int64} {n : Nat} (hk : Y.2.1 t j = 1) : ((List.range n).map fun k => gs_cz ad (gs_fa Y d t i k)).set j (.long x) = (List.range n).map fun k => gs_cz ad (gs_fa Y (gs_wL d t i j x) t i k) := by
  apply List.ext_getElem?
  intro m
  rw [List.getElem?_set, List.getElem?_map, List.getElem?_map, List.length_map, List.length_range]
  by_cases hm : j = m
  · subst hm
    rw [if_pos rfl]
    by_cases hn : j < n
    · rw [if_pos hn, List.getElem?_range hn]
      have e : gs_fa Y (gs_wL d t i j x) t i j = gs_l x := by
        unfold gs_fa
        rw [hk]
        exact congrArg (fun z => Sum.inr (Sum.inl z)) (if_pos ⟨rfl, rfl, rfl⟩)
      show some (Value.long x) = some (gs_cz ad (gs_fa Y (gs_wL d t i j x) t i j))
      rw [e]
      rfl
    · rw [if_neg hn, List.getElem?_eq_none (by rw [List.length_range]; omega)]
      rfl
  · rw [if_neg hm]
    by_cases hn : m < n
    · rw [List.getElem?_range hn]
      show some (gs_cz ad (gs_fa Y d t i m)) = some (gs_cz ad (gs_fa Y (gs_wL d t i j x) t i m))
      rw [gs_fa_wL (fun z => hm z.2.2.symm)]
    · rw [List.getElem?_eq_none (by rw [List.length_range]; omega)]
      rfl
/-- addresses don't depend on what lies in the cells -/
theorem gs_D_same {A : Nat → Prop} {d' : gs_D} (h : va_D A (gs_W Y cA ad d RL)) : va_D A (gs_W Y cA ad d' RL) := by
  have key : ∀ (k : Nat) (q : Nat × va_E), (gs_W Y cA ad d' RL)[k]? = some q → ∃ q0, (gs_W Y cA ad d RL)[k]? = some q0 ∧ q0.1 = q.1 := by
    intro k q hk
    unfold gs_W at hk ⊢
    rw [List.getElem?_map] at hk ⊢
    cases hr : RL[k]? with
    | none => rw [hr] at hk; cases hk
    | some r =>
      rw [hr] at hk
      cases hk
      exact ⟨_, rfl, rfl⟩
  refine ⟨fun i j x y hx hy hxy => ?_, fun k q hk => ?_⟩
  · obtain ⟨x0, a1, a2⟩ := key i x hx
    obtain ⟨y0, b1, b2⟩ := key j y hy
    exact h.1 i j x0 y0 a1 b1 (by rw [a2, b2, hxy])
  · obtain ⟨q0, a1, a2⟩ := key k q hk
    rw [← a2]
    exact h.2 k q0 a1
end GW
end
section
-- inversions
theorem gs_b_v {b : Bool} {a : gs_R} {r} (h : gs_b b a = some r) : b = true ∧ a = some r := by
  cases b
  · simp [gs_b] at h
  · exact ⟨rfl, h⟩
theorem gs_ki_v {o : Option gs_V} {k : Int32 → gs_R} {r} (h : gs_ki o k = some r) : ∃ x, o = some (gs_i x) ∧ k x = some r := by
  rcases o with _ | x | x | x
  · simp [gs_ki] at h
  · exact ⟨x, rfl, h⟩
  · simp [gs_ki] at h
  · simp [gs_ki] at h
theorem gs_kl_v {o : Option gs_V} {k : Int64 → gs_R} {r} (h : gs_kl o k = some r) : ∃ x, o = some (gs_l x) ∧ k x = some r := by
  rcases o with _ | x | x | x
  · simp [gs_kl] at h
  · simp [gs_kl] at h
  · exact ⟨x, rfl, h⟩
  · simp [gs_kl] at h
theorem gs_kr_v {o : Option gs_V} {k : Nat → Nat → gs_R} {r} (h : gs_kr o k = some r) : ∃ t i, o = some (gs_r t i) ∧ k t i = some r := by
  rcases o with _ | x | x | ⟨t, i⟩
  · simp [gs_kr] at h
  · simp [gs_kr] at h
  · simp [gs_kr] at h
  · exact ⟨t, i, rfl, h⟩
theorem gs_1v_v {st : List gs_V} {k : gs_V → List gs_V → gs_R} {r} (h : gs_1v st k = some r) : ∃ x t, st = x :: t ∧ k x t = some r := by
  rcases st with _ | ⟨x, y⟩
  · simp [gs_1v] at h
  · exact ⟨x, y, rfl, h⟩
theorem gs_1i_v {st : List gs_V} {k : Int32 → List gs_V → gs_R} {r} (h : gs_1i st k = some r) : ∃ x t, st = gs_i x :: t ∧ k x t = some r := by
  rcases st with _ | ⟨x | x | x, y⟩
  · simp [gs_1i] at h
  · exact ⟨x, y, rfl, h⟩
  · simp [gs_1i] at h
  · simp [gs_1i] at h
theorem gs_1l_v {st : List gs_V} {k : Int64 → List gs_V → gs_R} {r} (h : gs_1l st k = some r) : ∃ x t, st = gs_l x :: t ∧ k x t = some r := by
  rcases st with _ | ⟨x | x | x, y⟩
  · simp [gs_1l] at h
  · simp [gs_1l] at h
  · exact ⟨x, y, rfl, h⟩
  · simp [gs_1l] at h
theorem gs_1r_v {st : List gs_V} {k : Nat → Nat → List gs_V → gs_R} {r} (h : gs_1r st k = some r) : ∃ t i y, st = gs_r t i :: y ∧ k t i y = some r := by
  rcases st with _ | ⟨x | x | ⟨t, i⟩, y⟩
  · simp [gs_1r] at h
  · simp [gs_1r] at h
  · simp [gs_1r] at h
  · exact ⟨t, i, y, rfl, h⟩
theorem gs_2i_v {st : List gs_V} {k : Int32 → Int32 → List gs_V → gs_R} {r} (h : gs_2i st k = some r) : ∃ x y t, st = gs_i y :: gs_i x :: t ∧ k x y t = some r := by
  replace h := gs_1i_v h
  obtain ⟨y, t, rfl, h⟩ := h
  replace h := gs_1i_v h
  obtain ⟨x, t, rfl, h⟩ := h
  exact ⟨x, y, t, rfl, h⟩
theorem gs_2l_v {st : List gs_V} {k : Int64 → Int64 → List gs_V → gs_R} {r} (h : gs_2l st k = some r) : ∃ x y t, st = gs_l y :: gs_l x :: t ∧ k x y t = some r := by
  replace h := gs_1l_v h
  obtain ⟨y, t, rfl, h⟩ := h
  replace h := gs_1l_v h
  obtain ⟨x, t, rfl, h⟩ := h
  exact ⟨x, y, t, rfl, h⟩
theorem gs_2r_v {st : List gs_V} {k : Int32 → Nat → Nat → List gs_V → gs_R} {r} (h : gs_2r st k = some r) : ∃ j t i y, st = gs_i j :: gs_r t i :: y ∧ k j t i y = some r := by
  replace h := gs_1i_v h
  obtain ⟨j, y, rfl, h⟩ := h
  replace h := gs_1r_v h
  obtain ⟨t, i, y, rfl, h⟩ := h
  exact ⟨j, t, i, y, rfl, h⟩
theorem gs_ix_v {j : Int32} {n : Nat} {a : gs_R} {r} (h : gs_ix j n a = some r) : vp_in j n ∧ a = some r := by
  unfold gs_ix at h
  split at h
  · cases h
  · exact ⟨by assumption, h⟩
theorem gs_nz_v {j : Int32} {a : gs_R} {r} (h : gs_nz j a = some r) : ¬ j = 0 ∧ a = some r := by
  unfold gs_nz at h
  split at h
  · cases h
  · exact ⟨by assumption, h⟩
theorem gs_nzl_v {j : Int64} {a : gs_R} {r} (h : gs_nzl j a = some r) : ¬ j = 0 ∧ a = some r := by
  unfold gs_nzl at h
  split at h
  · cases h
  · exact ⟨by assumption, h⟩
theorem gs_fl_v {Y : gs_Y} {o : Option (Nat × Nat)} {t : Nat} {k : Nat → gs_R} {r} (h : gs_fl Y o t k = some r) : ∃ f, o = some ((Y.1 t).2.1, f) ∧ (Y.1 t).1 = 0 ∧ f < (Y.1 t).2.2 ∧ k f = some r := by
  rcases o with _ | ⟨ci, f⟩
  · simp [gs_fl] at h
  · obtain ⟨hb, h⟩ := gs_b_v h
    simp only [Bool.and_eq_true, beq_iff_eq] at hb
    exact ⟨f, by rw [hb.2.1], hb.1, Nat.le_of_ble_eq_true hb.2.2, h⟩
theorem gs_ift {b : Prop} [Decidable b] {a a' : gs_R} {r} (h : (if b then a else a') = some r) (hb : b) : a = some r := by rw [if_pos hb] at h; exact h
theorem gs_ifn {b : Prop} [Decidable b] {a a' : gs_R} {r} (h : (if b then a else a') = some r) (hb : ¬ b) : a' = some r := by rw [if_neg hb] at h; exact h
-- references that are there
def gs_ok (pr : Nat → Nat → Bool) (v : gs_V) : Prop := match v with
  | .inr (.inr q) => pr q.1 q.2 = true
  | _ => True
def gs_oks (pr : Nat → Nat → Bool) (st : List gs_V) : Prop := ∀ v ∈ st, gs_ok pr v
theorem gs_oks.tl {pr : Nat → Nat → Bool} {v : gs_V} {st : List gs_V} (h : gs_oks pr (v :: st)) : gs_oks pr st := fun w hw => h w (List.mem_cons_of_mem _ hw)
theorem gs_oks.hd {pr : Nat → Nat → Bool} {v : gs_V} {st : List gs_V} (h : gs_oks pr (v :: st)) : gs_ok pr v := h v List.mem_cons_self
theorem gs_oks.cn {pr : Nat → Nat → Bool} {v : gs_V} {st : List gs_V} (h : gs_oks pr st) (hv : gs_ok pr v) : gs_oks pr (v :: st) := fun w hw => by
  rcases List.mem_cons.mp hw with e | e
  · rw [e]; exact hv
  · exact h w e
theorem gs_oks.i {pr : Nat → Nat → Bool} {x : Int32} {st : List gs_V} (h : gs_oks pr st) : gs_oks pr (gs_i x :: st) := h.cn trivial
theorem gs_oks.l {pr : Nat → Nat → Bool} {x : Int64} {st : List gs_V} (h : gs_oks pr st) : gs_oks pr (gs_l x :: st) := h.cn trivial
def gs_okl (pr : Nat → Nat → Bool) (l : List (Option gs_V)) : Prop := ∀ i v, l.getD i none = some v → gs_ok pr v
theorem gs_okl.s1 {pr : Nat → Nat → Bool} {l : List (Option gs_V)} {i : Nat} {v : gs_V} (h : gs_okl pr l) (hv : gs_ok pr v) : gs_okl pr (gs_st1 l i v) := fun j w hw => by
  rcases gs_getD_set hw with ⟨-, e⟩ | ⟨-, h2⟩
  · cases e; exact hv
  · exact h j w (gs_clr_get h2).1
theorem gs_okl.s2 {pr : Nat → Nat → Bool} {l : List (Option gs_V)} {i : Nat} {v : gs_V} (h : gs_okl pr l) (hv : gs_ok pr v) : gs_okl pr (gs_st2 l i v) := fun j w hw => by
  rcases gs_getD_set hw with ⟨-, e⟩ | ⟨-, hw⟩
  · cases e
  rcases gs_getD_set hw with ⟨-, e⟩ | ⟨-, h2⟩
  · cases e; exact hv
  · exact h j w (gs_clr_get h2).1
-- an instruction's length, where it is fixed, and its offset
def gs_len (i : Jvm.ClassFile.Instr) : Option Nat := match i with
  | .bipush _ | .ldc _ | .iload _ | .lload _ | .aload _ | .istore _ | .lstore _ | .astore _ => some 2
  | .sipush _ | .ldc2_w _ | .iinc _ _ | .ifCond _ _ | .if_icmp _ _ | .goto _ | .getfield _ | .putfield _ | .invokestatic _ | .invokevirtual _ => some 3
  | .tableswitch _ _ _ _ | .lookupswitch _ _ => none
  | _ => some 1
def gs_off (i : Jvm.ClassFile.Instr) : Option Int := match i with
  | .ifCond _ o | .if_icmp _ o | .goto o => some o
  | .tableswitch o _ _ _ => some o
  | _ => none
-- what is asked of a layout
def gs_lay (Y : gs_Y) (cA : Nat → Nat → ClassId) (RL : List (Nat × Nat)) (pr : Nat → Nat → Bool) (cl : List vw_C) (tys : List (ClassId × FieldType)) (Ts : List Cond) : Prop :=
  ((∀ t i, pr t i = true → (Y.1 t).1 ≠ 5 → ∃ q : Nat, RL[q]? = some (t, i)) ∧ gs_inj RL)
  ∧ ((∀ t i, pr t i = true → (Y.1 t).1 = 1 → ∃ q : Nat, tys[q]? = some (cA t i, FieldType.int)) ∧ (∀ t i, pr t i = true → (Y.1 t).1 = 2 → ∃ q : Nat, tys[q]? = some (cA t i, FieldType.boolean)) ∧ (∀ t i, pr t i = true → (Y.1 t).1 = 3 → ∃ q : Nat, tys[q]? = some (cA t i, FieldType.long)) ∧ (∀ t i, pr t i = true → (Y.1 t).1 = 4 → ∃ (q : Nat) (C : String), tys[q]? = some (cA t i, FieldType.object C)))
  ∧ ((∀ t i k, pr t i = true → (Y.1 t).1 = 4 → k < (Y.1 t).2.2 → pr (Y.2.2.1 t i k).1 (Y.2.2.1 t i k).2 = true) ∧ (∀ d t i k, pr t i = true → (Y.1 t).1 = 0 → k < (Y.1 t).2.2 → gs_ok pr (gs_fa Y d t i k)))
  ∧ (∀ (ci : Nat) (C : String) (T : u_T) (N : Nat), cl[ci]? = some (C, T, N) → (∀ w ∈ u_ws C T N, w ∈ Ts) ∧ (∃ ty0 : Nat → FieldType, ∀ k, k < N → parseFieldDescriptor (T k).2.2.1 = some (ty0 k)) ∧ (∀ a, a < N → ∀ b, b < N → a ≠ b → (T a).2.1 ≠ (T b).2.1))
  ∧ (∀ (t : Nat) (C : String) (T : u_T) (N f : Nat), (Y.1 t).1 = 0 → cl[(Y.1 t).2.1]? = some (C, T, N) → f < (Y.1 t).2.2 → (Y.2.1 t f = 0 → parseFieldDescriptor (T f).2.2.1 = some .int) ∧ (Y.2.1 t f = 1 → parseFieldDescriptor (T f).2.2.1 = some .long))
-- what is asked of a method's tables
def gs_mok (cc : ByteArray) (Ts : List Cond) (own : String) (cl : List vw_C) (P : gs_P) : Prop :=
  (∀ pc i tg, P.1 pc = some (i, tg) → ∃ len, decode cc pc = .ok (i, len) ∧ (∀ n, gs_len i = some n → len = n) ∧ (∀ o, gs_off i = some o → (pc : Int) + o = (tg : Int)))
  ∧ (∀ x ci f, P.2.1 x = some (ci, f) → ∃ (C : String) (T : u_T) (N : Nat), cl[ci]? = some (C, T, N) ∧ f < N ∧ (Cond.fieldLink own x (T f).1 (T f).2.1 (T f).2.2.1 ∈ Ts ∨ ∃ host, Cond.fieldLinkNest own x (T f).1 (T f).2.1 (T f).2.2.1 host ∈ Ts))
  ∧ (∀ pc x tg, P.1 pc = some (.putfield x, tg) → ∀ (ci f : Nat) (C : String) (T : u_T) (N : Nat), P.2.1 x = some (ci, f) → cl[ci]? = some (C, T, N) → (T f).2.2.2 = false)
  ∧ ((∀ x v, P.2.2.1 x = some (.inl v) → Cond.constant own x v ∈ Ts) ∧ (∀ x v, P.2.2.1 x = some (.inr (.inl v)) → Cond.constantLong own x v ∈ Ts))
section GS
variable {p : Program} {l : Launch} {e : Env} {R : Room} {s : State} {m : MethodId} {args : Array Value} {below : List Frame} {meth : Method} {c : Code} {cells slots : Nat} {Q : State → Prop} {cc : ByteArray} {nL : Nat} {own : String} {Ts : List Cond} {D : va_G} {cl : List vw_C} {tys : List (ClassId × FieldType)} {A : Nat → Prop} {Y : gs_Y} {cA : Nat → Nat → ClassId} {ad : Nat → Nat → Nat} {RL : List (Nat × Nat)} {pr : Nat → Nat → Bool} {P : gs_P}
def gs_B (Y : gs_Y) (cA : Nat → Nat → ClassId) (ad : Nat → Nat → Nat) (D : va_G) (cl : List vw_C) (RL : List (Nat × Nat)) (pr : Nat → Nat → Bool) (A : Nat → Prop) (H0 : Heap) (nL : Nat) (lo : List (Option gs_V)) (d : gs_D) (ls : Array Slot) (H : Heap) (locs : List Loc) : Prop :=
  gs_rel ad ls nL lo ∧ gs_okl pr lo ∧ va_P D cl (gs_W Y cA ad d RL) H ∧ va_D A (gs_W Y cA ad d RL) ∧ va_S A H0 H locs
/-- a call does what f says -/
def gs_co (p : Program) (l : Launch) (e : Env) (R : Room) (s : State) (m : MethodId) (args : Array Value) (below : List Frame) (meth : Method) (c : Code) (cells slots : Nat) (Q : State → Prop) (Y : gs_Y) (cA : Nat → Nat → ClassId) (ad : Nat → Nat → Nat) (D : va_G) (cl : List vw_C) (RL : List (Nat × Nat)) (pr : Nat → Nat → Bool) (A : Nat → Prop) (nL : Nat) (cc : ByteArray) (ins : Jvm.ClassFile.Instr) (f : gs_F) (gd : List gs_V → Prop) : Prop :=
  ∀ (pc : Nat) (ls : Array Slot) (H : Heap) (locs : List Loc) (lo : List (Option gs_V)) (d : gs_D) (av rest : List gs_V) (r : Option gs_V) (d' : gs_D), decode cc pc = .ok (ins, 3) → gs_B Y cA ad D cl RL pr A s.heap nL lo d ls H locs → gs_oks pr av → gd av → (rest.map gs_cat).sum ≤ 8 → f av d = some (r, d') →
    (∀ (H' : Heap) (locs' : List Loc), (∀ v, r = some v → gs_ok pr v) → gs_B Y cA ad D cl RL pr A s.heap nL lo d' ls H' locs' → W p l e R s m args below meth c H' locs' cells slots Q (F0 m (pc + 3) ls ((r.toList ++ rest).map (gs_cz ad)))) →
    W p l e R s m args below meth c H locs cells slots Q (F0 m pc ls ((av.reverse ++ rest).map (gs_cz ad)))
def gs_gv (Y : gs_Y) (n cr : Nat) (av : List gs_V) : Prop := ∃ t i av', av = gs_r t i :: av' ∧ (Y.1 t).1 = 0 ∧ (Y.1 t).2.1 = cr ∧ av'.length = n
set_option maxHeartbeats 4000000 in
theorem gs_step (hx : p.tables.exec = Jvm.exec) (hb : c.code = cc) (hown : s.vm.findClass own = some m.cls) (hts : ∀ w ∈ Ts, w.before args s = true) (hK : va_K D cl tys s) (hL : gs_lay Y cA RL pr cl tys Ts) (hM : gs_mok cc Ts own cl P)
    (hcs : ∀ x n f, P.2.2.2 x = some (n, 1000, f) → gs_co p l e R s m args below meth c cells slots Q Y cA ad D cl RL pr A nL cc (.invokestatic x) f (fun av => av.length = n))
    (hcv : ∀ x n cr f, cr ≤ 999 → P.2.2.2 x = some (n, cr, f) → gs_co p l e R s m args below meth c cells slots Q Y cA ad D cl RL pr A nL cc (.invokevirtual x) f (gs_gv Y n cr))
    (h5 : ∀ t i, pr t i = true → (Y.1 t).1 = 5 → va_X (ad t i) (Y.1 t).2.2 Y.2.2.2 s s.heap ∧ ad t i < s.heap.size ∧ ¬ A (ad t i))
    {pc : Nat} {lo : List (Option gs_V)} {st : List gs_V} {d : gs_D} {ls : Array Slot} {H : Heap} {locs : List Loc} {k : gs_K} {res : Option gs_V × gs_D} (h : gs_stp Y P pc lo st d k = some res) (hB : gs_B Y cA ad D cl RL pr A s.heap nL lo d ls H locs) (hst : gs_oks pr st)
    (kk : ∀ pc' lo' st' d' ls' H' locs', k pc' lo' st' d' = some res → gs_B Y cA ad D cl RL pr A s.heap nL lo' d' ls' H' locs' → gs_oks pr st' → W p l e R s m args below meth c H' locs' cells slots Q (F0 m pc' ls' (st'.map (gs_cz ad))))
    (hfin : ∀ i tg r, P.1 pc = some (i, tg) → gs_ret i st = some r → res = (r, d) → W p l e R s m args below meth c H locs cells slots Q (F0 m pc ls (st.map (gs_cz ad)))) :
    W p l e R s m args below meth c H locs cells slots Q (F0 m pc ls (st.map (gs_cz ad))) := by
  cases hi : P.1 pc with
  | none => simp [gs_stp, hi] at h
  | some ii =>
  obtain ⟨i, tg⟩ := ii
  obtain ⟨len, hd, hlen, hoff⟩ := hM.1 pc i tg hi
  unfold gs_stp at h
  rw [hi] at h
  obtain ⟨⟨hpr, hinj⟩, ⟨hk1, hk2, hk3, hk4⟩, ⟨hr4, hr0⟩, hcls, hfty⟩ := hL
  obtain ⟨-, hfld, hput, hcon, hcol⟩ := hM
  obtain ⟨⟨lv, hlv, hll, hlm⟩, hokl, hP, hD, hS⟩ := hB
  have hBr : gs_rel ad ls nL lo := ⟨lv, hlv, hll, hlm⟩
  have hB : gs_B Y cA ad D cl RL pr A s.heap nL lo d ls H locs := ⟨hBr, hokl, hP, hD, hS⟩
  cases i with
  | iconst n =>
    cases hlen 1 rfl
    exact lv_iconst hx hb hd rfl (kk _ _ _ _ _ _ _ h hB hst.i)
  | bipush n =>
    cases hlen 2 rfl
    exact lv_bipush hx hb hd rfl (kk _ _ _ _ _ _ _ h hB hst.i)
  | sipush n =>
    cases hlen 3 rfl
    exact lv_sipush hx hb hd rfl (kk _ _ _ _ _ _ _ h hB hst.i)
  | lconst n =>
    cases hlen 1 rfl
    exact lv_lconst hx hb hd rfl (kk _ _ _ _ _ _ _ h hB hst.l)
  | ldc x =>
    cases hlen 2 rfl
    replace h := gs_ki_v h
    obtain ⟨v, hv, h⟩ := h
    exact lv_ldc hx hb hown (hts _ (hcon x v hv)) hd (kk _ _ _ _ _ _ _ h hB hst.i)
  | ldc2_w x =>
    cases hlen 3 rfl
    replace h := gs_kl_v h
    obtain ⟨v, hv, h⟩ := h
    exact lv_ldc2 hx hb hown (hts _ (hcol x v hv)) hd (kk _ _ _ _ _ _ _ h hB hst.l)
  | iload_n n =>
    cases hlen 1 rfl
    replace h := gs_ki_v h
    obtain ⟨v, hv, h⟩ := h
    exact lv_iload_n hx hb hd rfl (gs_rel_at hBr hv) (kk _ _ _ _ _ _ _ h hB hst.i)
  | iload n =>
    cases hlen 2 rfl
    replace h := gs_ki_v h
    obtain ⟨v, hv, h⟩ := h
    exact lv_iload hx hb hd (gs_rel_at hBr hv) (kk _ _ _ _ _ _ _ h hB hst.i)
  | lload_n n =>
    cases hlen 1 rfl
    replace h := gs_kl_v h
    obtain ⟨v, hv, h⟩ := h
    exact lv_lload_n hx hb hd rfl (gs_rel_at hBr hv) (kk _ _ _ _ _ _ _ h hB hst.l)
  | lload n =>
    cases hlen 2 rfl
    replace h := gs_kl_v h
    obtain ⟨v, hv, h⟩ := h
    exact lv_lload hx hb hd (gs_rel_at hBr hv) (kk _ _ _ _ _ _ _ h hB hst.l)
  | aload_n n =>
    cases hlen 1 rfl
    replace h := gs_kr_v h
    obtain ⟨t, i, hv, h⟩ := h
    exact lv_aload_n hx hb hd rfl (gs_rel_at hBr hv) (kk _ _ _ _ _ _ _ h hB (hst.cn (hokl _ _ hv)))
  | aload n =>
    cases hlen 2 rfl
    replace h := gs_kr_v h
    obtain ⟨t, i, hv, h⟩ := h
    exact lv_aload hx hb hd (gs_rel_at hBr hv) (kk _ _ _ _ _ _ _ h hB (hst.cn (hokl _ _ hv)))
  | istore_n n =>
    cases hlen 1 rfl
    replace h := gs_1i_v h
    obtain ⟨x, r, rfl, h⟩ := h
    replace h := gs_b_v h
    obtain ⟨hn, h⟩ := h
    exact lv_istore_n hx hb hd rfl hlv (by rw [← hll]; exact Nat.le_of_ble_eq_true hn) rfl fun ls' hl' => kk _ _ _ _ _ _ _ h ⟨gs_rel_st1 (v := gs_i x) hll hlm hl', hokl.s1 trivial, hP, hD, hS⟩ hst.tl
  | istore n =>
    cases hlen 2 rfl
    replace h := gs_1i_v h
    obtain ⟨x, r, rfl, h⟩ := h
    replace h := gs_b_v h
    obtain ⟨hn, h⟩ := h
    exact lv_istore hx hb hd hlv (by rw [← hll]; exact Nat.le_of_ble_eq_true hn) rfl fun ls' hl' => kk _ _ _ _ _ _ _ h ⟨gs_rel_st1 (v := gs_i x) hll hlm hl', hokl.s1 trivial, hP, hD, hS⟩ hst.tl
  | lstore_n n =>
    cases hlen 1 rfl
    replace h := gs_1l_v h
    obtain ⟨x, r, rfl, h⟩ := h
    replace h := gs_b_v h
    obtain ⟨hn, h⟩ := h
    exact lv_lstore_n hx hb hd rfl hlv (by rw [← hll]; exact Nat.le_of_ble_eq_true hn) rfl fun ls' hl' => kk _ _ _ _ _ _ _ h ⟨gs_rel_st2 (v := gs_l x) hll hlm hl', hokl.s2 trivial, hP, hD, hS⟩ hst.tl
  | lstore n =>
    cases hlen 2 rfl
    replace h := gs_1l_v h
    obtain ⟨x, r, rfl, h⟩ := h
    replace h := gs_b_v h
    obtain ⟨hn, h⟩ := h
    exact lv_lstore hx hb hd hlv (by rw [← hll]; exact Nat.le_of_ble_eq_true hn) rfl fun ls' hl' => kk _ _ _ _ _ _ _ h ⟨gs_rel_st2 (v := gs_l x) hll hlm hl', hokl.s2 trivial, hP, hD, hS⟩ hst.tl
  | astore_n n =>
    cases hlen 1 rfl
    replace h := gs_1r_v h
    obtain ⟨t, i, r, rfl, h⟩ := h
    replace h := gs_b_v h
    obtain ⟨hn, h⟩ := h
    exact lv_astore_n hx hb hd rfl hlv (by rw [← hll]; exact Nat.le_of_ble_eq_true hn) rfl fun ls' hl' => kk _ _ _ _ _ _ _ h ⟨gs_rel_st1 (v := gs_r t i) hll hlm hl', hokl.s1 hst.hd, hP, hD, hS⟩ hst.tl
  | astore n =>
    cases hlen 2 rfl
    replace h := gs_1r_v h
    obtain ⟨t, i, r, rfl, h⟩ := h
    replace h := gs_b_v h
    obtain ⟨hn, h⟩ := h
    exact lv_astore hx hb hd hlv (by rw [← hll]; exact Nat.le_of_ble_eq_true hn) rfl fun ls' hl' => kk _ _ _ _ _ _ _ h ⟨gs_rel_st1 (v := gs_r t i) hll hlm hl', hokl.s1 hst.hd, hP, hD, hS⟩ hst.tl
  | iinc n z =>
    cases hlen 3 rfl
    replace h := gs_ki_v h
    obtain ⟨v, hv, h⟩ := h
    replace h := gs_b_v h
    obtain ⟨hn, h⟩ := h
    obtain ⟨q, hq⟩ := List.getElem?_of_mem (hlm _ _ hv)
    exact lv_iinc hx hb hd hlv hq rfl (by rw [← hll]; exact Nat.le_of_ble_eq_true hn) rfl fun ls' hl' => kk _ _ _ _ _ _ _ h ⟨gs_rel_st1 (v := gs_i (v + Int32.ofInt z)) hll hlm hl', hokl.s1 trivial, hP, hD, hS⟩ hst
  | iadd =>
    cases hlen 1 rfl
    replace h := gs_2i_v h
    obtain ⟨x, y, r, rfl, h⟩ := h
    exact lv_iadd hx hb hd (kk _ _ _ _ _ _ _ h hB hst.tl.tl.i)
  | isub =>
    cases hlen 1 rfl
    replace h := gs_2i_v h
    obtain ⟨x, y, r, rfl, h⟩ := h
    exact lv_isub hx hb hd (kk _ _ _ _ _ _ _ h hB hst.tl.tl.i)
  | imul =>
    cases hlen 1 rfl
    replace h := gs_2i_v h
    obtain ⟨x, y, r, rfl, h⟩ := h
    exact lv_imul hx hb hd (kk _ _ _ _ _ _ _ h hB hst.tl.tl.i)
  | iand =>
    cases hlen 1 rfl
    replace h := gs_2i_v h
    obtain ⟨x, y, r, rfl, h⟩ := h
    exact lv_iand hx hb hd (kk _ _ _ _ _ _ _ h hB hst.tl.tl.i)
  | ior =>
    cases hlen 1 rfl
    replace h := gs_2i_v h
    obtain ⟨x, y, r, rfl, h⟩ := h
    exact lv_ior hx hb hd (kk _ _ _ _ _ _ _ h hB hst.tl.tl.i)
  | ixor =>
    cases hlen 1 rfl
    replace h := gs_2i_v h
    obtain ⟨x, y, r, rfl, h⟩ := h
    exact lv_ixor hx hb hd (kk _ _ _ _ _ _ _ h hB hst.tl.tl.i)
  | ishl =>
    cases hlen 1 rfl
    replace h := gs_2i_v h
    obtain ⟨x, y, r, rfl, h⟩ := h
    exact lv_ishl hx hb hd (kk _ _ _ _ _ _ _ h hB hst.tl.tl.i)
  | ishr =>
    cases hlen 1 rfl
    replace h := gs_2i_v h
    obtain ⟨x, y, r, rfl, h⟩ := h
    exact lv_ishr hx hb hd (kk _ _ _ _ _ _ _ h hB hst.tl.tl.i)
  | idiv =>
    cases hlen 1 rfl
    replace h := gs_2i_v h
    obtain ⟨x, y, r, rfl, h⟩ := h
    replace h := gs_nz_v h
    obtain ⟨hn, h⟩ := h
    exact lv_idiv hx hb hd hn (kk _ _ _ _ _ _ _ h hB hst.tl.tl.i)
  | irem =>
    cases hlen 1 rfl
    replace h := gs_2i_v h
    obtain ⟨x, y, r, rfl, h⟩ := h
    replace h := gs_nz_v h
    obtain ⟨hn, h⟩ := h
    exact lv_irem hx hb hd hn (kk _ _ _ _ _ _ _ h hB hst.tl.tl.i)
  | ineg =>
    cases hlen 1 rfl
    replace h := gs_1i_v h
    obtain ⟨x, r, rfl, h⟩ := h
    exact lv_ineg hx hb hd (kk _ _ _ _ _ _ _ h hB hst.tl.i)
  | ladd =>
    cases hlen 1 rfl
    replace h := gs_2l_v h
    obtain ⟨x, y, r, rfl, h⟩ := h
    exact lv_ladd hx hb hd (kk _ _ _ _ _ _ _ h hB hst.tl.tl.l)
  | lsub =>
    cases hlen 1 rfl
    replace h := gs_2l_v h
    obtain ⟨x, y, r, rfl, h⟩ := h
    exact lv_lsub hx hb hd (kk _ _ _ _ _ _ _ h hB hst.tl.tl.l)
  | lmul =>
    cases hlen 1 rfl
    replace h := gs_2l_v h
    obtain ⟨x, y, r, rfl, h⟩ := h
    exact lv_lmul hx hb hd (kk _ _ _ _ _ _ _ h hB hst.tl.tl.l)
  | ldiv =>
    cases hlen 1 rfl
    replace h := gs_2l_v h
    obtain ⟨x, y, r, rfl, h⟩ := h
    replace h := gs_nzl_v h
    obtain ⟨hn, h⟩ := h
    exact lv_ldiv hx hb hd hn (kk _ _ _ _ _ _ _ h hB hst.tl.tl.l)
  | lrem =>
    cases hlen 1 rfl
    replace h := gs_2l_v h
    obtain ⟨x, y, r, rfl, h⟩ := h
    replace h := gs_nzl_v h
    obtain ⟨hn, h⟩ := h
    exact lv_lrem hx hb hd hn (kk _ _ _ _ _ _ _ h hB hst.tl.tl.l)
  | lneg =>
    cases hlen 1 rfl
    replace h := gs_1l_v h
    obtain ⟨x, r, rfl, h⟩ := h
    exact lv_lneg hx hb hd (kk _ _ _ _ _ _ _ h hB hst.tl.l)
  | lcmp =>
    cases hlen 1 rfl
    replace h := gs_2l_v h
    obtain ⟨x, y, r, rfl, h⟩ := h
    exact W.lcmp hx hb hd (kk _ _ _ _ _ _ _ h hB hst.tl.tl.i)
  | i2l =>
    cases hlen 1 rfl
    replace h := gs_1i_v h
    obtain ⟨x, r, rfl, h⟩ := h
    exact lv_i2l hx hb hd rfl (kk _ _ _ _ _ _ _ h hB hst.tl.l)
  | l2i =>
    cases hlen 1 rfl
    replace h := gs_1l_v h
    obtain ⟨x, r, rfl, h⟩ := h
    exact lv_l2i hx hb hd rfl (kk _ _ _ _ _ _ _ h hB hst.tl.i)
  | dup =>
    cases hlen 1 rfl
    replace h := gs_1v_v h
    obtain ⟨v, r, rfl, h⟩ := h
    replace h := gs_b_v h
    obtain ⟨hv, h⟩ := h
    exact lv_dup hx hb hd ((gs_cz_cat ad v).trans (beq_iff_eq.mp hv)) (kk _ _ _ _ _ _ _ h hB (hst.cn hst.hd))
  | pop =>
    cases hlen 1 rfl
    replace h := gs_1v_v h
    obtain ⟨v, r, rfl, h⟩ := h
    replace h := gs_b_v h
    obtain ⟨hv, h⟩ := h
    exact lv_pop hx hb hd ((gs_cz_cat ad v).trans (beq_iff_eq.mp hv)) (kk _ _ _ _ _ _ _ h hB hst.tl)
  | pop2 =>
    cases hlen 1 rfl
    replace h := gs_1v_v h
    obtain ⟨v, r, rfl, h⟩ := h
    replace h := gs_b_v h
    obtain ⟨hv, h⟩ := h
    exact lv_pop2_2 hx hb hd ((gs_cz_cat ad v).trans (beq_iff_eq.mp hv)) (kk _ _ _ _ _ _ _ h hB hst.tl)
  | dup_x1 =>
    cases hlen 1 rfl
    replace h := gs_1v_v h
    obtain ⟨v, r, rfl, h⟩ := h
    replace h := gs_1v_v h
    obtain ⟨w, r, rfl, h⟩ := h
    replace h := gs_b_v h
    obtain ⟨hv, h⟩ := h
    simp only [Bool.and_eq_true, beq_iff_eq] at hv
    exact lv_dup_x1 hx hb hd ((gs_cz_cat ad v).trans hv.1) ((gs_cz_cat ad w).trans hv.2) (kk _ _ _ _ _ _ _ h hB (((hst.tl.tl.cn hst.hd).cn hst.tl.hd).cn hst.hd))
  | dup_x2 =>
    cases hlen 1 rfl
    replace h := gs_1v_v h
    obtain ⟨v, r, rfl, h⟩ := h
    replace h := gs_1v_v h
    obtain ⟨w, r, rfl, h⟩ := h
    replace h := gs_1v_v h
    obtain ⟨u, r, rfl, h⟩ := h
    replace h := gs_b_v h
    obtain ⟨hv, h⟩ := h
    simp only [Bool.and_eq_true, beq_iff_eq] at hv
    exact lv_dup_x2 hx hb hd ((gs_cz_cat ad v).trans hv.1) ((gs_cz_cat ad w).trans hv.2.1) ((gs_cz_cat ad u).trans hv.2.2) (kk _ _ _ _ _ _ _ h hB ((((hst.tl.tl.tl.cn hst.hd).cn hst.tl.tl.hd).cn hst.tl.hd).cn hst.hd))
  | dup2 =>
    cases hlen 1 rfl
    replace h := gs_1v_v h
    obtain ⟨v, r, rfl, h⟩ := h
    have two : ∀ (hc : gs_cat v = 1) (h : (gs_1v r fun w r => gs_b (gs_cat w == 1) (k (pc + 1) lo (v :: w :: v :: w :: r) d)) = some res), W p l e R s m args below meth c H locs cells slots Q (F0 m pc ls ((v :: r).map (gs_cz ad))) := by
      intro hc h2
      replace h2 := gs_1v_v h2
      obtain ⟨w, r2, hr, h2⟩ := h2
      subst hr
      replace h2 := gs_b_v h2
      obtain ⟨hv, h2⟩ := h2
      exact lv_dup2_11 hx hb hd ((gs_cz_cat ad v).trans hc) ((gs_cz_cat ad w).trans (beq_iff_eq.mp hv)) (kk _ _ _ _ _ _ _ h2 hB ((hst.cn hst.tl.hd).cn hst.hd))
    rcases v with x | x | x
    · exact two rfl h
    · exact lv_dup2_2 hx hb hd rfl (kk _ _ _ _ _ _ _ h hB (hst.cn hst.hd))
    · exact two rfl h
  | ifCond q o =>
    cases hlen 3 rfl
    replace h := gs_1i_v h
    obtain ⟨x, r, rfl, h⟩ := h
    have ht := hoff _ rfl
    cases q
    · exact lv_if_eq hx hb hd ht (fun hc => kk _ _ _ _ _ _ _ (gs_ift (b := x = 0) h hc) hB hst.tl) (fun hc => kk _ _ _ _ _ _ _ (gs_ifn (b := x = 0) h hc) hB hst.tl)
    · exact lv_if_ne hx hb hd ht (fun hc => kk _ _ _ _ _ _ _ (gs_ift (b := ¬ x = 0) h hc) hB hst.tl) (fun hc => kk _ _ _ _ _ _ _ (gs_ifn (b := ¬ x = 0) h (fun z => z hc)) hB hst.tl)
    · exact lv_if_lt hx hb hd ht (fun hc => kk _ _ _ _ _ _ _ (gs_ift (b := x < 0) h hc) hB hst.tl) (fun hc => kk _ _ _ _ _ _ _ (gs_ifn (b := x < 0) h hc) hB hst.tl)
    · exact lv_if_ge hx hb hd ht (fun hc => kk _ _ _ _ _ _ _ (gs_ift (b := 0 ≤ x) h hc) hB hst.tl) (fun hc => kk _ _ _ _ _ _ _ (gs_ifn (b := 0 ≤ x) h hc) hB hst.tl)
    · exact lv_if_gt hx hb hd ht (fun hc => kk _ _ _ _ _ _ _ (gs_ift (b := 0 < x) h hc) hB hst.tl) (fun hc => kk _ _ _ _ _ _ _ (gs_ifn (b := 0 < x) h hc) hB hst.tl)
    · exact lv_if_le hx hb hd ht (fun hc => kk _ _ _ _ _ _ _ (gs_ift (b := x ≤ 0) h hc) hB hst.tl) (fun hc => kk _ _ _ _ _ _ _ (gs_ifn (b := x ≤ 0) h hc) hB hst.tl)
  | if_icmp q o =>
    cases hlen 3 rfl
    replace h := gs_2i_v h
    obtain ⟨x, y, r, rfl, h⟩ := h
    have ht := hoff _ rfl
    cases q
    · exact lv_icmp_eq hx hb hd ht (fun hc => kk _ _ _ _ _ _ _ (gs_ift (b := x = y) h hc) hB hst.tl.tl) (fun hc => kk _ _ _ _ _ _ _ (gs_ifn (b := x = y) h hc) hB hst.tl.tl)
    · exact lv_icmp_ne hx hb hd ht (fun hc => kk _ _ _ _ _ _ _ (gs_ift (b := ¬ x = y) h hc) hB hst.tl.tl) (fun hc => kk _ _ _ _ _ _ _ (gs_ifn (b := ¬ x = y) h (fun z => z hc)) hB hst.tl.tl)
    · exact lv_icmp_lt hx hb hd ht (fun hc => kk _ _ _ _ _ _ _ (gs_ift (b := x < y) h hc) hB hst.tl.tl) (fun hc => kk _ _ _ _ _ _ _ (gs_ifn (b := x < y) h hc) hB hst.tl.tl)
    · exact lv_icmp_ge hx hb hd ht (fun hc => kk _ _ _ _ _ _ _ (gs_ift (b := y ≤ x) h hc) hB hst.tl.tl) (fun hc => kk _ _ _ _ _ _ _ (gs_ifn (b := y ≤ x) h hc) hB hst.tl.tl)
    · exact lv_icmp_gt hx hb hd ht (fun hc => kk _ _ _ _ _ _ _ (gs_ift (b := y < x) h hc) hB hst.tl.tl) (fun hc => kk _ _ _ _ _ _ _ (gs_ifn (b := y < x) h hc) hB hst.tl.tl)
    · exact lv_icmp_le hx hb hd ht (fun hc => kk _ _ _ _ _ _ _ (gs_ift (b := x ≤ y) h hc) hB hst.tl.tl) (fun hc => kk _ _ _ _ _ _ _ (gs_ifn (b := x ≤ y) h hc) hB hst.tl.tl)
  | goto o =>
    cases hlen 3 rfl
    exact lv_goto hx hb hd (hoff _ rfl) (kk _ _ _ _ _ _ _ h hB hst)
  | getfield x =>
    cases hlen 3 rfl
    replace h := gs_1r_v h
    obtain ⟨t, i, r, rfl, h⟩ := h
    replace h := gs_fl_v h
    obtain ⟨f, hf, h0, hfl, h⟩ := h
    obtain ⟨q, hq⟩ := hpr t i hst.hd (by rw [h0]; decide)
    obtain ⟨C, T, N, hc, hfN, hlk⟩ := hfld x _ _ hf
    have he : (gs_W Y cA ad d RL)[q]? = some (ad t i, .inr ((Y.1 t).2.1, (List.range (Y.1 t).2.2).map fun k => gs_cz ad (gs_fa Y d t i k))) := by rw [gs_W_at hq, gs_c0 h0]
    have hv : ((List.range (Y.1 t).2.2).map fun k => gs_cz ad (gs_fa Y d t i k))[f]? = some (gs_cz ad (gs_fa Y d t i f)) := by rw [List.getElem?_map, List.getElem?_range hfl]; rfl
    have hk := kk _ _ _ _ _ _ _ h hB (hst.tl.cn (hr0 d t i f hst.hd h0 hfl))
    rcases hlk with hlk | ⟨host, hlk⟩
    · exact va_get hx hb hts (hcls _ C T N hc).1 hown hK hP q he hc f hfN (hts _ hlk) (fun _ h9 => h9) hv hd hk
    · exact va_getN hx hb hts (hcls _ C T N hc).1 hown hK hP q he hc f hfN (hts _ hlk) (fun _ h9 => h9) hv hd hk
  | putfield x =>
    cases hlen 3 rfl
    replace h := gs_1v_v h
    obtain ⟨v, r, rfl, h⟩ := h
    replace h := gs_1r_v h
    obtain ⟨t, i, r, rfl, h⟩ := h
    replace h := gs_fl_v h
    obtain ⟨f, hf, h0, hfl, h⟩ := h
    obtain ⟨q, hq⟩ := hpr t i hst.tl.hd (by rw [h0]; decide)
    obtain ⟨C, T, N, hc, hfN, hlk⟩ := hfld x _ _ hf
    obtain ⟨hin, ⟨ty0, hty⟩, hnm⟩ := hcls _ C T N hc
    have hfin2 := hput pc x tg hi _ f C T N hf hc
    have he : (gs_W Y cA ad d RL)[q]? = some (ad t i, .inr ((Y.1 t).2.1, (List.range (Y.1 t).2.2).map fun k => gs_cz ad (gs_fa Y d t i k))) := by rw [gs_W_at hq, gs_c0 h0]
    have hlf : f < ((List.range (Y.1 t).2.2).map fun k => gs_cz ad (gs_fa Y d t i k)).length := by rw [List.length_map, List.length_range]; exact hfl
    rcases v with z | z | z
    · obtain ⟨hb0, h⟩ := gs_b_v h
      have hk0 := beq_iff_eq.mp hb0
      have eW := gs_W_set (cA := cA) (ad := ad) (d := d) (d' := gs_wI d t i f z) hinj hq (gs_c0 h0) (fun a b hn => gs_cont_wI a b hn)
      rw [← gs_obj_wI hk0] at eW
      have hk : ∀ (H1 : Heap) (locs1 : List Loc), va_P D cl ((gs_W Y cA ad d RL).set q (ad t i, .inr ((Y.1 t).2.1, ((List.range (Y.1 t).2.2).map fun k => gs_cz ad (gs_fa Y d t i k)).set f (.int z)))) H1 → va_D A ((gs_W Y cA ad d RL).set q (ad t i, .inr ((Y.1 t).2.1, ((List.range (Y.1 t).2.2).map fun k => gs_cz ad (gs_fa Y d t i k)).set f (.int z)))) → va_S A s.heap H1 locs1 → W p l e R s m args below meth c H1 locs1 cells slots Q (F0 m (pc + 3) ls (r.map (gs_cz ad))) := by
        intro H1 locs1 a1 a2 a3
        rw [eW] at a1 a2
        exact kk _ _ _ _ _ _ _ h ⟨hBr, hokl, a1, a2, a3⟩ hst.tl.tl
      rcases hlk with hlk | ⟨host, hlk⟩
      · exact va_put hx hb hts hin ty0 hty hnm hown hK hP hD hS q he hc f hfN (hts _ hlk) (fun _ h9 => h9) hfin2 ((hfty t C T N f h0 hc hfl).1 hk0) rfl rfl hlf hd hk
      · exact va_putN hx hb hts hin ty0 hty hnm hown hK hP hD hS q he hc f hfN (hts _ hlk) (fun _ h9 => h9) hfin2 ((hfty t C T N f h0 hc hfl).1 hk0) rfl rfl hlf hd hk
    · obtain ⟨hb0, h⟩ := gs_b_v h
      have hk0 := beq_iff_eq.mp hb0
      have eW := gs_W_set (cA := cA) (ad := ad) (d := d) (d' := gs_wL d t i f z) hinj hq (gs_c0 h0) (fun a b hn => gs_cont_wL a b hn)
      rw [← gs_obj_wL hk0] at eW
      have hk : ∀ (H1 : Heap) (locs1 : List Loc), va_P D cl ((gs_W Y cA ad d RL).set q (ad t i, .inr ((Y.1 t).2.1, ((List.range (Y.1 t).2.2).map fun k => gs_cz ad (gs_fa Y d t i k)).set f (.long z)))) H1 → va_D A ((gs_W Y cA ad d RL).set q (ad t i, .inr ((Y.1 t).2.1, ((List.range (Y.1 t).2.2).map fun k => gs_cz ad (gs_fa Y d t i k)).set f (.long z)))) → va_S A s.heap H1 locs1 → W p l e R s m args below meth c H1 locs1 cells slots Q (F0 m (pc + 3) ls (r.map (gs_cz ad))) := by
        intro H1 locs1 a1 a2 a3
        rw [eW] at a1 a2
        exact kk _ _ _ _ _ _ _ h ⟨hBr, hokl, a1, a2, a3⟩ hst.tl.tl
      rcases hlk with hlk | ⟨host, hlk⟩
      · exact va_put hx hb hts hin ty0 hty hnm hown hK hP hD hS q he hc f hfN (hts _ hlk) (fun _ h9 => h9) hfin2 ((hfty t C T N f h0 hc hfl).2 hk0) rfl rfl hlf hd hk
      · exact va_putN hx hb hts hin ty0 hty hnm hown hK hP hD hS q he hc f hfN (hts _ hlk) (fun _ h9 => h9) hfin2 ((hfty t C T N f h0 hc hfl).2 hk0) rfl rfl hlf hd hk
    · simp [gs_sw] at h
  | iaload =>
    cases hlen 1 rfl
    replace h := gs_2r_v h
    obtain ⟨j, t, i, r, rfl, h⟩ := h
    replace h := gs_b_v h
    obtain ⟨hb0, h⟩ := h
    rw [Bool.or_eq_true] at hb0
    replace h := gs_ix_v h
    obtain ⟨hn, h⟩ := h
    rcases hb0 with hb0 | hb0
    · have h0 := beq_iff_eq.mp hb0
      obtain ⟨q, hq⟩ := hpr t i hst.tl.hd (by rw [h0]; decide)
      have hv : gs_ia Y d t i j.toNatClampNeg = d.1 t i j.toNatClampNeg := by unfold gs_ia; rw [h0]; rfl
      rw [hv] at h
      obtain ⟨z, hz⟩ := hk1 t i hst.tl.hd h0
      exact va_iald hx hb hK hP q z (by rw [gs_W_at hq, gs_c1 h0]) hz hn hd (kk _ _ _ _ _ _ _ h hB hst.tl.tl.i)
    · have h0 := beq_iff_eq.mp hb0
      obtain ⟨x1, x2, x3⟩ := h5 t i hst.tl.hd h0
      have hv : gs_ia Y d t i j.toNatClampNeg = Y.2.2.2 j.toNatClampNeg := by unfold gs_ia; rw [h0]; rfl
      rw [hv] at h
      exact va_sld hx hb x1 x2 x3 hS hn hd (kk _ _ _ _ _ _ _ h hB hst.tl.tl.i)
  | arraylength =>
    cases hlen 1 rfl
    replace h := gs_1r_v h
    obtain ⟨t, i, r, rfl, h⟩ := h
    replace h := gs_b_v h
    obtain ⟨hb0, h⟩ := h
    obtain ⟨x1, x2, x3⟩ := h5 t i hst.hd (beq_iff_eq.mp hb0)
    exact va_slen hx hb x1 x2 x3 hS hd (kk _ _ _ _ _ _ _ h hB hst.tl.i)
  | tableswitch df lo1 hi1 offs =>
    replace h := gs_1i_v h
    obtain ⟨x, r, rfl, h⟩ := h
    unfold gs_ts at h
    split at h
    · rename_i hc
      exact lv_tableOut hx hb hd hc (hoff _ rfl) (kk _ _ _ _ _ _ _ h hB hst.tl)
    · rename_i hc
      split at h
      · rename_i o ho
        replace h := gs_b_v h
        obtain ⟨hb0, h⟩ := h
        exact lv_tableIn hx hb hd (fun z => hc (Or.inl z)) (fun z => hc (Or.inr z)) ho (Int.toNat_of_nonneg (of_decide_eq_true hb0)).symm (kk _ _ _ _ _ _ _ h hB hst.tl)
      · cases h
  | baload =>
    cases hlen 1 rfl
    replace h := gs_2r_v h
    obtain ⟨j, t, i, r, rfl, h⟩ := h
    replace h := gs_b_v h
    obtain ⟨hb0, h⟩ := h
    have h0 := beq_iff_eq.mp hb0
    replace h := gs_ix_v h
    obtain ⟨hn, h⟩ := h
    obtain ⟨q, hq⟩ := hpr t i hst.tl.hd (by rw [h0]; decide)
    obtain ⟨z, hz⟩ := hk2 t i hst.tl.hd h0
    exact va_zald hx hb hK hP q z (by rw [gs_W_at hq, gs_c2 h0]) hz hn hd (kk _ _ _ _ _ _ _ h hB hst.tl.tl.i)
  | laload =>
    cases hlen 1 rfl
    replace h := gs_2r_v h
    obtain ⟨j, t, i, r, rfl, h⟩ := h
    replace h := gs_b_v h
    obtain ⟨hb0, h⟩ := h
    have h0 := beq_iff_eq.mp hb0
    replace h := gs_ix_v h
    obtain ⟨hn, h⟩ := h
    obtain ⟨q, hq⟩ := hpr t i hst.tl.hd (by rw [h0]; decide)
    obtain ⟨z, hz⟩ := hk3 t i hst.tl.hd h0
    exact va_lald hx hb hK hP q z (by rw [gs_W_at hq, gs_c3 h0]) hz hn hd (kk _ _ _ _ _ _ _ h hB hst.tl.tl.l)
  | aaload =>
    cases hlen 1 rfl
    replace h := gs_2r_v h
    obtain ⟨j, t, i, r, rfl, h⟩ := h
    replace h := gs_b_v h
    obtain ⟨hb0, h⟩ := h
    have h0 := beq_iff_eq.mp hb0
    replace h := gs_ix_v h
    obtain ⟨hn, h⟩ := h
    obtain ⟨q, hq⟩ := hpr t i hst.tl.hd (by rw [h0]; decide)
    obtain ⟨z, C, hC⟩ := hk4 t i hst.tl.hd h0
    have hlt : j.toNatClampNeg < (Y.1 t).2.2 := Nat.not_le.mp fun z => hn (Or.inr z)
    exact va_aldq (f := fun j => some (ad (Y.2.2.1 t i j).1 (Y.2.2.1 t i j).2)) hx hb hK hP q z (by rw [gs_W_at hq, gs_c4 h0]) hC hn hd (kk _ _ _ _ _ _ _ h hB (hst.tl.tl.cn (hr4 t i _ hst.tl.hd h0 hlt)))
  | iastore =>
    cases hlen 1 rfl
    replace h := gs_1i_v h
    obtain ⟨x, r, rfl, h⟩ := h
    replace h := gs_2r_v h
    obtain ⟨j, t, i, r, rfl, h⟩ := h
    replace h := gs_b_v h
    obtain ⟨hb0, h⟩ := h
    have h0 := beq_iff_eq.mp hb0
    replace h := gs_ix_v h
    obtain ⟨hn, h⟩ := h
    obtain ⟨q, hq⟩ := hpr t i hst.tl.tl.hd (by rw [h0]; decide)
    have e := gs_W_set (cA := cA) (ad := ad) (d := d) (d' := gs_wI d t i j.toNatClampNeg x) hinj hq (gs_c1 h0) (fun a b hn => gs_cont_wI a b hn)
    rw [gs_row_wI] at e
    obtain ⟨z, hz⟩ := hk1 t i hst.tl.tl.hd h0
    exact va_iast hx hb hK hP hD hS q z (by rw [gs_W_at hq, gs_c1 h0]) hz hn hd fun H1 locs1 a1 a2 a3 => kk _ _ _ _ _ _ _ h ⟨hBr, hokl, e ▸ a1, e ▸ a2, a3⟩ hst.tl.tl.tl
  | bastore =>
    cases hlen 1 rfl
    replace h := gs_1i_v h
    obtain ⟨x, r, rfl, h⟩ := h
    replace h := gs_2r_v h
    obtain ⟨j, t, i, r, rfl, h⟩ := h
    replace h := gs_b_v h
    obtain ⟨hb0, h⟩ := h
    have h0 := beq_iff_eq.mp hb0
    replace h := gs_ix_v h
    obtain ⟨hn, h⟩ := h
    obtain ⟨q, hq⟩ := hpr t i hst.tl.tl.hd (by rw [h0]; decide)
    have e := gs_W_set (cA := cA) (ad := ad) (d := d) (d' := gs_wI d t i j.toNatClampNeg (vp_nar .boolean x)) hinj hq (gs_c2 h0) (fun a b hn => gs_cont_wI a b hn)
    rw [gs_row_wI] at e
    obtain ⟨z, hz⟩ := hk2 t i hst.tl.tl.hd h0
    exact va_zast hx hb hK hP hD hS q z (by rw [gs_W_at hq, gs_c2 h0]) hz hn hd fun H1 locs1 a1 a2 a3 => kk _ _ _ _ _ _ _ h ⟨hBr, hokl, e ▸ a1, e ▸ a2, a3⟩ hst.tl.tl.tl
  | lastore =>
    cases hlen 1 rfl
    replace h := gs_1l_v h
    obtain ⟨x, r, rfl, h⟩ := h
    replace h := gs_2r_v h
    obtain ⟨j, t, i, r, rfl, h⟩ := h
    replace h := gs_b_v h
    obtain ⟨hb0, h⟩ := h
    have h0 := beq_iff_eq.mp hb0
    replace h := gs_ix_v h
    obtain ⟨hn, h⟩ := h
    obtain ⟨q, hq⟩ := hpr t i hst.tl.tl.hd (by rw [h0]; decide)
    have e := gs_W_set (cA := cA) (ad := ad) (d := d) (d' := gs_wL d t i j.toNatClampNeg x) hinj hq (gs_c3 h0) (fun a b hn => gs_cont_wL a b hn)
    rw [gs_row_wL] at e
    obtain ⟨z, hz⟩ := hk3 t i hst.tl.tl.hd h0
    exact va_last hx hb hK hP hD hS q z (by rw [gs_W_at hq, gs_c3 h0]) hz hn hd fun H1 locs1 a1 a2 a3 => kk _ _ _ _ _ _ _ h ⟨hBr, hokl, e ▸ a1, e ▸ a2, a3⟩ hst.tl.tl.tl
  | invokestatic x =>
    cases hlen 3 rfl
    simp only at h
    cases hq : P.2.2.2 x with
    | none => rw [hq] at h; simp [gs_cs] at h
    | some q =>
      obtain ⟨n, cr, f⟩ := q
      rw [hq] at h
      replace h := gs_b_v h
      obtain ⟨hg, h⟩ := h
      simp only [Bool.and_eq_true, beq_iff_eq] at hg
      obtain ⟨hcr, hg⟩ := hg
      subst hcr
      have hn := Nat.le_of_ble_eq_true hg.1
      have h : gs_af (f (st.take n).reverse d) (st.drop n) (fun st d => k (pc + 3) lo st d) = some res := h
      cases hf : f (st.take n).reverse d with
      | none => rw [hf] at h; simp [gs_af] at h
      | some rr =>
        obtain ⟨r, d'⟩ := rr
        have e : (st.take n).reverse.reverse ++ st.drop n = st := by rw [List.reverse_reverse, List.take_append_drop]
        have hco := hcs x n f hq pc ls H locs lo d (st.take n).reverse (st.drop n) r d' hd hB (fun v hv => hst v (List.mem_of_mem_take (List.mem_reverse.mp hv))) (by show (st.take n).reverse.length = n; rw [List.length_reverse, List.length_take, Nat.min_eq_left hn]) (Nat.le_of_ble_eq_true hg.2) hf
        rw [e] at hco
        refine hco fun H' locs' hr hB' => ?_
        have hdr : gs_oks pr (st.drop n) := fun v hv => hst v (List.mem_of_mem_drop hv)
        rw [hf] at h
        rcases r with _ | v
        · exact kk _ _ _ _ _ _ _ h hB' hdr
        · exact kk _ _ _ _ _ _ _ h hB' (hdr.cn (hr v rfl))
  | invokevirtual x =>
    cases hlen 3 rfl
    simp only at h
    cases hq : P.2.2.2 x with
    | none => rw [hq] at h; simp [gs_cv] at h
    | some q =>
      obtain ⟨n, cr, f⟩ := q
      rw [hq] at h
      replace h := gs_b_v h
      obtain ⟨hg, h⟩ := h
      rw [Bool.and_eq_true] at hg
      have hcr := Nat.le_of_ble_eq_true hg.1
      have hn := Nat.le_of_ble_eq_true hg.2
      replace h := gs_1r_v h
      obtain ⟨t, i, r0, hdrop, h⟩ := h
      replace h := gs_b_v h
      obtain ⟨hg, h⟩ := h
      simp only [Bool.and_eq_true, beq_iff_eq] at hg
      have h : gs_af (f (gs_r t i :: (st.take n).reverse) d) r0 (fun st d => k (pc + 3) lo st d) = some res := h
      cases hf : f (gs_r t i :: (st.take n).reverse) d with
      | none => rw [hf] at h; simp [gs_af] at h
      | some rr =>
        obtain ⟨r, d'⟩ := rr
        have e : (gs_r t i :: (st.take n).reverse).reverse ++ r0 = st := by
          rw [List.reverse_cons, List.reverse_reverse, List.append_assoc, List.singleton_append, ← hdrop, List.take_append_drop]
        have hsub : gs_oks pr (gs_r t i :: r0) := fun v hv => hst v (List.mem_of_mem_drop (by rw [hdrop]; exact hv))
        have hav : gs_oks pr (gs_r t i :: (st.take n).reverse) := gs_oks.cn (fun v hv => hst v (List.mem_of_mem_take (List.mem_reverse.mp hv))) hsub.hd
        have hco := hcv x n cr f hcr hq pc ls H locs lo d (gs_r t i :: (st.take n).reverse) r0 r d' hd hB hav ⟨t, i, _, rfl, hg.1, hg.2.1, by rw [List.length_reverse, List.length_take, Nat.min_eq_left hn]⟩ (Nat.le_of_ble_eq_true hg.2.2) hf
        rw [e] at hco
        refine hco fun H' locs' hr hB' => ?_
        rw [hf] at h
        rcases r with _ | v
        · exact kk _ _ _ _ _ _ _ h hB' hsub.tl
        · exact kk _ _ _ _ _ _ _ h hB' (hsub.tl.cn (hr v rfl))
  | return_ =>
    simp only at h
    cases hr : gs_ret .return_ st with
    | none => rw [hr] at h; cases h
    | some r => rw [hr] at h; exact hfin _ _ r hi hr (Option.some.inj h).symm
  | ireturn =>
    simp only at h
    cases hr : gs_ret .ireturn st with
    | none => rw [hr] at h; cases h
    | some r => rw [hr] at h; exact hfin _ _ r hi hr (Option.some.inj h).symm
  | lreturn =>
    simp only at h
    cases hr : gs_ret .lreturn st with
    | none => rw [hr] at h; cases h
    | some r => rw [hr] at h; exact hfin _ _ r hi hr (Option.some.inj h).symm
  | areturn =>
    simp only at h
    cases hr : gs_ret .areturn st with
    | none => rw [hr] at h; cases h
    | some r => rw [hr] at h; exact hfin _ _ r hi hr (Option.some.inj h).symm
  | _ => simp [gs_ret] at h
end GS
end
section
theorem gs_ent_in : ∀ {av : List gs_V} {k i : Nat} {v : gs_V}, (gs_sl av ++ List.replicate k none).getD i none = some v → v ∈ av
  | [], k, i, v, h => by
    exfalso
    rw [List.getD_eq_getElem?_getD] at h
    simp only [gs_sl, List.flatMap_nil, List.nil_append, List.getElem?_replicate] at h
    split at h <;> cases h
  | w :: av, k, i, v, h => by
    by_cases hc : gs_cat w = 2
    · have e : gs_sl (w :: av) ++ List.replicate k none = some w :: none :: (gs_sl av ++ List.replicate k none) := by simp [gs_sl, hc]
      rw [e] at h
      rcases i with _ | _ | i
      · cases h
        exact List.mem_cons_self
      · cases h
      · exact List.mem_cons_of_mem _ (gs_ent_in (k := k) (i := i) h)
    · have e : gs_sl (w :: av) ++ List.replicate k none = some w :: (gs_sl av ++ List.replicate k none) := by simp [gs_sl, hc]
      rw [e] at h
      rcases i with _ | i
      · cases h
        exact List.mem_cons_self
      · exact List.mem_cons_of_mem _ (gs_ent_in (k := k) (i := i) h)
def gs_T (cA : Nat → Nat → ClassId) (RL : List (Nat × Nat)) (TL : Nat → Option FieldType) : List (ClassId × FieldType) := RL.filterMap fun q => (TL q.1).map fun ty => (cA q.1 q.2, ty)
def gs_Q (Y : gs_Y) (cA : Nat → Nat → ClassId) (ad : Nat → Nat → Nat) (D : va_G) (cl : List vw_C) (RL : List (Nat × Nat)) (pr : Nat → Nat → Bool) (r : Option gs_V) (d' : gs_D) (A : Nat → Prop) : Array Value → State → Outcome → State → Prop := fun _ st oc t =>
  (oc = .returned (r.map (gs_cz ad)) ∧ (∀ v, r = some v → gs_ok pr v) ∧ va_P D cl (gs_W Y cA ad d' RL) t.heap) ∧ va_F A st t
/-- words on private members of a nest mate: they go along from state to state -/
def gs_isN (w : Cond) : Bool := match w with
  | .fieldLinkNest .. => true
  | .methodLinkNest .. => true
  | _ => false
theorem gs_isN_t {w : Cond} (h : gs_isN w = true) : w.onTables = true := by
  cases w <;> first | rfl | (simp [gs_isN] at h; done)
theorem gs_nw_w {NW : List Cond} (hN : ∀ w ∈ NW, gs_isN w = true) {s U : State} (hW : s.WarmedH U.vm) (h : ∀ w ∈ NW, va_Nw w s) : ∀ w ∈ NW, va_Nw w U := by
  intro w hw
  have h1 := hN w hw
  have h2 := h w hw
  cases w <;> first | exact va_Nw.warmF hW h2 | exact va_Nw.warmM hW h2 | (simp [gs_isN] at h1; done)
/-- the contract: wherever the machine answers, the method does so -/
def gs_C (l : Launch) (Y : gs_Y) (RL : List (Nat × Nat)) (pr : Nat → Nat → Bool) (cl : List vw_C) (TL : Nat → Option FieldType) (NW : List Cond) (y : MethodName) (ws : List Cond) (rm : Room) (f : gs_F) : Prop :=
  ∀ (D : va_G) (cA : Nat → Nat → ClassId) (ad : Nat → Nat → Nat) (av : List gs_V) (d : gs_D) (r : Option gs_V) (d' : gs_D) (sz : Nat), f av d = some (r, d') → gs_oks pr av →
    Met l y ws rm (va_Pc (av.map (gs_cz ad)) (fun U => U.heap.size = sz ∧ va_P D cl (gs_W Y cA ad d RL) U.heap ∧ va_K D cl (gs_T cA RL TL) U ∧ va_D (fun _ => True) (gs_W Y cA ad d RL) ∧ ∀ w ∈ NW, va_Nw w U)) (gs_Q Y cA ad D cl RL pr r d' (va_A (gs_W Y cA ad d RL) sz)) 0 0 (va_A (gs_W Y cA ad d RL) sz)
/-- what a call of a static method rests on -/
def gs_sc (l : Launch) (Y : gs_Y) (RL : List (Nat × Nat)) (pr : Nat → Nat → Bool) (cl : List vw_C) (TL : Nat → Option FieldType) (NW Ts : List Cond) (own : String) (rm : Room) (x n : Nat) (f : gs_F) : Prop :=
  ∃ (y : MethodName) (ws ws' : List Cond) (rm2 : Room) (bytes : ByteArray) (maxL : Nat) (ret : Option FieldType), gs_C l Y RL pr cl TL NW y ws rm2 f ∧ GoodIn Ts ws ∧ ws = Cond.code y bytes maxL ret :: ws' ∧ (rm2.cells = 0 ∧ rm2.slots = 0) ∧ (rm2.frames + 1 ≤ rm.frames ∧ 8 + (maxL + 11) + rm2.locals ≤ rm.locals)
    ∧ (Cond.methodLink own x y ∈ Ts ∨ ∃ host, Cond.methodLinkNest own x y host ∈ Ts) ∧ Cond.static y ∈ Ts ∧ Cond.initialized y.cls ∈ Ts ∧ (y.cls ≠ "java/lang/invoke/MethodHandle" ∧ y.cls ≠ "java/lang/invoke/VarHandle" ∧ (parseMethodDescriptor y.desc).map (fun d => d.parameters.length) = some n)
/-- .. of an object's method -/
def gs_vc (l : Launch) (Y : gs_Y) (RL : List (Nat × Nat)) (pr : Nat → Nat → Bool) (cl : List vw_C) (TL : Nat → Option FieldType) (NW Ts : List Cond) (own : String) (rm : Room) (x n cr : Nat) (f : gs_F) : Prop :=
  ∃ (y : MethodName) (ws ws' : List Cond) (rm2 : Room) (bytes : ByteArray) (maxL : Nat) (ret : Option FieldType), gs_C l Y RL pr cl TL NW y ws rm2 f ∧ GoodIn Ts ws ∧ ws = Cond.code y bytes maxL ret :: ws' ∧ (rm2.cells = 0 ∧ rm2.slots = 0) ∧ (rm2.frames + 1 ≤ rm.frames ∧ 8 + (maxL + 11) + rm2.locals ≤ rm.locals)
    ∧ (Cond.methodLink own x y ∈ Ts ∨ ∃ host, Cond.methodLinkNest own x y host ∈ Ts) ∧ (Cond.instanceMethod y ∈ Ts ∧ Cond.selects y.cls y y ∈ Ts) ∧ Cond.initialized y.cls ∈ Ts ∧ (y.cls ≠ "java/lang/invoke/MethodHandle" ∧ y.cls ≠ "java/lang/invoke/VarHandle" ∧ (parseMethodDescriptor y.desc).map (fun d => d.parameters.length) = some n) ∧ ∃ T N, cl[cr]? = some (y.cls, T, N)
/-- System.arraycopy, between int[] or between long[] -/
def gs_ac (Y : gs_Y) : gs_F := fun av d => match av with
  | [.inr (.inr a), .inl sp, .inr (.inr b), .inl dp, .inl n] => gs_b (decide (¬ sp < 0 ∧ ¬ dp < 0 ∧ ¬ n < 0 ∧ sp.toNatClampNeg + n.toNatClampNeg ≤ (Y.1 a.1).2.2 ∧ dp.toNatClampNeg + n.toNatClampNeg ≤ (Y.1 b.1).2.2)) (match (Y.1 a.1).1, (Y.1 b.1).1 with
    | 1, 1 => some (none, (fun t i => if t = b.1 ∧ i = b.2 then va_cpy (d.1 a.1 a.2) (d.1 b.1 b.2) sp.toNatClampNeg dp.toNatClampNeg n.toNatClampNeg else d.1 t i), d.2)
    | 3, 3 => some (none, d.1, (fun t i => if t = b.1 ∧ i = b.2 then va_cpy (d.2 a.1 a.2) (d.2 b.1 b.2) sp.toNatClampNeg dp.toNatClampNeg n.toNatClampNeg else d.2 t i))
    | _, _ => none)
  | _ => none
def gs_acw (Y : gs_Y) (Ts : List Cond) (own : String) (rm : Room) (x n : Nat) (f : gs_F) : Prop :=
  f = gs_ac Y ∧ n = 5 ∧ (Cond.methodLink own x arraycopyName ∈ Ts ∧ Cond.native arraycopyName ∈ Ts ∧ Cond.static arraycopyName ∈ Ts ∧ Cond.initialized "java/lang/System" ∈ Ts) ∧ (1 ≤ rm.frames ∧ 8 + (nativeFrameWords "java/lang/System" "arraycopy" 5 + 11) ≤ rm.locals)
theorem gs_cont_x {Y : gs_Y} {cA : Nat → Nat → ClassId} {ad : Nat → Nat → Nat} {d d' : gs_D} {a b : Nat} (h1 : d'.1 a b = d.1 a b) (h2 : d'.2 a b = d.2 a b) : gs_cont Y cA ad d' a b = gs_cont Y cA ad d a b := by
  have e : ∀ k, gs_fa Y d' a b k = gs_fa Y d a b k := fun k => by
    unfold gs_fa
    rw [h1, h2]
  unfold gs_cont
  simp only [e]
  rw [h1, h2]
section GC
variable {NW : List Cond} {p : Program} {l : Launch} {e : Env} {R : Room} {s : State} {m : MethodId} {args : Array Value} {below : List Frame} {meth : Method} {c : Code} {cells slots : Nat} {Q : State → Prop} {cc : ByteArray} {nL : Nat} {own : String} {Ts : List Cond} {D : va_G} {cl : List vw_C} {TL : Nat → Option FieldType} {A : Nat → Prop} {Y : gs_Y} {cA : Nat → Nat → ClassId} {ad : Nat → Nat → Nat} {RL : List (Nat × Nat)} {pr : Nat → Nat → Bool} {P : gs_P}
theorem gs_call {H : Heap} {locs : List Loc} {pc : Nat} {ls : Array Slot} {st0 : List Value} {rest : List gs_V} {r : Option gs_V} {d' : gs_D} {A1 : Nat → Prop} {a : Array Value} {free : Addr → Prop} {H0 : Heap} (hr : va_Run p l e R s m args below meth c H locs cells slots 0 0 (F0 m pc ls st0) (rest.map (gs_cz ad)) (gs_Q Y cA ad D cl RL pr r d' A1 a) free) (hS : va_S A H0 H locs) (hA : ∀ q, q < H.size → A1 q → A q) (hf : ∀ q, free q → A q)
    (kk : ∀ (H1 : Heap) (locs1 : List Loc), (∀ v, r = some v → gs_ok pr v) → va_P D cl (gs_W Y cA ad d' RL) H1 → va_S A H0 H1 locs1 → W p l e R s m args below meth c H1 locs1 cells slots Q (F0 m (pc + 3) ls ((r.toList ++ rest).map (gs_cz ad)))) : W p l e R s m args below meth c H locs cells slots Q (F0 m pc ls st0) := by
  intro T hT X
  obtain ⟨v, st₀, t, T', L, h0, X', hL, e1, e2, ⟨⟨hv, hok, hb⟩, hz, hk⟩, st⟩ := hr T hT X
  have hv' : v = r.map (gs_cz ad) := Outcome.returned.inj hv
  subst hv'
  rw [h0] at hz hk
  obtain ⟨t2, a1, b1⟩ := kk T'.heap (locs ++ L) hok (by rw [e1]; exact hb)
    ⟨Nat.le_trans hS.1 (by rw [e1]; exact hz), fun q h1 h2 => by rw [e1, hk q (Nat.lt_of_lt_of_le h1 hS.1) (fun z => h2 (hA q (Nat.lt_of_lt_of_le h1 hS.1) z))]; exact hS.2.1 q h1 h2, fun q hq => by
      rcases List.mem_append.mp hq with h | h
      · exact hS.2.2 q h
      · exact hf _ (hL q h)⟩ T' rfl X'
  refine ⟨t2, st t2 ?_, b1⟩
  rcases r with _ | v
  · exact a1
  · exact a1
theorem gs_blind {D : va_G} {cl : List vw_C} {tys : List (ClassId × FieldType)} {av : List Value} {sz : Nat} {w : va_W} {NW : List Cond} (hN : ∀ w ∈ NW, gs_isN w = true) : FrameBlind (va_Pc av (fun U => U.heap.size = sz ∧ va_P D cl w U.heap ∧ va_K D cl tys U ∧ va_D (fun _ => True) w ∧ ∀ w ∈ NW, va_Nw w U)) := fun a U g mk q => by
  obtain ⟨q0, q1, qP, qK, qD, qN⟩ := q
  exact ⟨q0, q1, qP, va_K.moved (u := U) (U := U.calling g mk a) (Vm.Alike.refl U.vm) qK, qD, fun w hw => va_Nw.same (gs_isN_t (hN w hw)) (u := U) (U := U.calling g mk a) rfl (qN w hw)⟩
theorem gs_room {pc : Nat} {ls : Array Slot} {st : List Value} {rest : List gs_V} (h : (rest.map gs_cat).sum ≤ 8) : 2 * (F0 m pc ls st).monitorRoom + ((rest.map (gs_cz ad)).map fun v => v.category).sum ≤ 8 := by
  refine lv_room ?_
  rw [List.map_map]
  have e : ((fun v : Value => v.category) ∘ gs_cz ad) = gs_cat := by
    funext v
    exact gs_cz_cat ad v
  rw [e]
  exact h
theorem gs_co_S (hx : p.tables.exec = Jvm.exec) (hb : c.code = cc) (hml : c.maxLocals = nL) (hown : s.vm.findClass own = some m.cls) (hts : ∀ w ∈ Ts, w.before args s = true) (hK : va_K D cl (gs_T cA RL TL) s) (hN : ∀ w ∈ NW, gs_isN w = true) (hnw : ∀ w ∈ NW, va_Nw w s) (hA : ∀ q, s.heap.size ≤ q → A q) (hcl : cells ≤ R.cells ∧ slots ≤ R.slots) {x n : Nat} {f : gs_F} (h : gs_sc l Y RL pr cl TL NW Ts own R x n f) :
    gs_co p l e R s m args below meth c cells slots Q Y cA ad D cl RL pr A nL cc (.invokestatic x) f (fun av => av.length = n) := by
  obtain ⟨y, ws, ws', rm2, bytes, maxL, ret, hC, hG, hw, ⟨hrc, hrs⟩, hR, hlk, hstc, hini, hd⟩ := h
  intro pc ls H locs lo d av rest r d' hdc hB hav hgd hsum hf kk
  obtain ⟨hrel, hokl, hP, hD, hS⟩ := hB
  have hM := hC D cA ad av d r d' H.size hf hav
  have hFc : ∀ q, va_A (gs_W Y cA ad d RL) H.size q → A q := fun q hq => by
    rcases hq with ⟨k, e, hk⟩ | hq
    · exact hD.2 k _ hk
    · exact hA q (Nat.le_trans hS.1 hq)
  have hps : PreS s H (va_Pc (av.map (gs_cz ad)) (fun U => U.heap.size = H.size ∧ va_P D cl (gs_W Y cA ad d RL) U.heap ∧ va_K D cl (gs_T cA RL TL) U ∧ va_D (fun _ => True) (gs_W Y cA ad d RL) ∧ ∀ w ∈ NW, va_Nw w U)) (av.map (gs_cz ad)) := ⟨gs_blind hN, fun U hU hW => ⟨rfl, by rw [hU], by rw [hU]; exact hP, va_K.moved hW.alike hK, hD.weaken (fun _ _ _ _ => trivial), gs_nw_w hN hW hnw⟩⟩
  have hstk : (av.reverse ++ rest).map (gs_cz ad) = (av.map (gs_cz ad)).reverse ++ rest.map (gs_cz ad) := by rw [List.map_append, List.map_reverse]
  have hsz : ls.size = nL := by
    obtain ⟨lv, h1, -, -⟩ := hrel
    exact h1.1
  have run : va_Run p l e R s m args below meth c H locs cells slots 0 0 (F0 m pc ls ((av.reverse ++ rest).map (gs_cz ad))) (rest.map (gs_cz ad)) (gs_Q Y cA ad D cl RL pr r d' (va_A (gs_W Y cA ad d RL) H.size) (av.map (gs_cz ad)).toArray) (va_A (gs_W Y cA ad d RL) H.size) := by
    rcases hlk with hlk | ⟨host, hlk⟩
    · exact va_runS ⟨hx, hb, hml, hown, hts⟩ hM ⟨callB_of n hts hG hw hrc hrs (hts _ hini) (hts _ hlk) hd hR, hts _ hstc⟩ hps rfl (by rw [List.length_map]; exact hgd) hsz hstk (gs_room hsum) hdc hcl
    · exact va_runSN ⟨hx, hb, hml, hown, hts⟩ hM ⟨va_cnB n hts hG hw hrc hrs (va_Nw.of rfl (hts _ hlk)) (hts _ hini) hd hR, hts _ hstc, trivial⟩ hps rfl (by rw [List.length_map]; exact hgd) hsz hstk (gs_room hsum) hdc hcl
  exact gs_call run hS (fun q _ h => hFc q h) hFc (fun H1 locs1 hok hP1 hS1 => kk H1 locs1 hok ⟨hrel, hokl, hP1, gs_D_same hD, hS1⟩)
theorem gs_co_V (hx : p.tables.exec = Jvm.exec) (hb : c.code = cc) (hml : c.maxLocals = nL) (hown : s.vm.findClass own = some m.cls) (hts : ∀ w ∈ Ts, w.before args s = true) (hK : va_K D cl (gs_T cA RL TL) s) (hN : ∀ w ∈ NW, gs_isN w = true) (hnw : ∀ w ∈ NW, va_Nw w s) (hA : ∀ q, s.heap.size ≤ q → A q) (hcl : cells ≤ R.cells ∧ slots ≤ R.slots) (hpr : ∀ t i, pr t i = true → (Y.1 t).1 ≠ 5 → ∃ q : Nat, RL[q]? = some (t, i)) {x n cr : Nat} {f : gs_F} (h : gs_vc l Y RL pr cl TL NW Ts own R x n cr f) :
    gs_co p l e R s m args below meth c cells slots Q Y cA ad D cl RL pr A nL cc (.invokevirtual x) f (gs_gv Y n cr) := by
  obtain ⟨y, ws, ws', rm2, bytes, maxL, ret, hC, hG, hw, ⟨hrc, hrs⟩, hR, hlk, ⟨hins, hsel⟩, hini, hd, T, N, hcr⟩ := h
  intro pc ls H locs lo d av rest r d' hdc hB hav hgd hsum hf kk
  obtain ⟨t, i, av', rfl, h0, h1, hlen⟩ := hgd
  obtain ⟨hrel, hokl, hP, hD, hS⟩ := hB
  have hM := hC D cA ad (gs_r t i :: av') d r d' H.size hf hav
  have hFc : ∀ q, va_A (gs_W Y cA ad d RL) H.size q → A q := fun q hq => by
    rcases hq with ⟨k, e, hk⟩ | hq
    · exact hD.2 k _ hk
    · exact hA q (Nat.le_trans hS.1 hq)
  obtain ⟨q, hq⟩ := hpr t i hav.hd (by rw [h0]; decide)
  have he : (gs_W Y cA ad d RL)[q]? = some (ad t i, .inr (cr, (List.range (Y.1 t).2.2).map fun k => gs_cz ad (gs_fa Y d t i k))) := by rw [gs_W_at hq, gs_c0 h0, h1]
  have hps : PreV s H y.cls (ad t i) (va_Pc ((gs_r t i :: av').map (gs_cz ad)) (fun U => U.heap.size = H.size ∧ va_P D cl (gs_W Y cA ad d RL) U.heap ∧ va_K D cl (gs_T cA RL TL) U ∧ va_D (fun _ => True) (gs_W Y cA ad d RL) ∧ ∀ w ∈ NW, va_Nw w U)) (av'.map (gs_cz ad)) := ⟨gs_blind hN, va_recv hK hP hcr he, fun U hU hW => ⟨rfl, by rw [hU], by rw [hU]; exact hP, va_K.moved hW.alike hK, hD.weaken (fun _ _ _ _ => trivial), gs_nw_w hN hW hnw⟩⟩
  have hstk : ((gs_r t i :: av').reverse ++ rest).map (gs_cz ad) = (av'.map (gs_cz ad)).reverse ++ .ref (ad t i) :: rest.map (gs_cz ad) := by
    rw [List.reverse_cons, List.append_assoc, List.map_append, List.map_reverse]
    rfl
  have hsz : ls.size = nL := by
    obtain ⟨lv, h1, -, -⟩ := hrel
    exact h1.1
  have run : va_Run p l e R s m args below meth c H locs cells slots 0 0 (F0 m pc ls (((gs_r t i :: av').reverse ++ rest).map (gs_cz ad))) (rest.map (gs_cz ad)) (gs_Q Y cA ad D cl RL pr r d' (va_A (gs_W Y cA ad d RL) H.size) (Value.ref (ad t i) :: av'.map (gs_cz ad)).toArray) (va_A (gs_W Y cA ad d RL) H.size) := by
    rcases hlk with hlk | ⟨host, hlk⟩
    · exact va_runV ⟨hx, hb, hml, hown, hts⟩ hM ⟨callB_of n hts hG hw hrc hrs (hts _ hini) (hts _ hlk) hd hR, hts _ hins, hts _ hsel⟩ hps rfl (by rw [List.length_map]; exact hlen) hsz hstk (gs_room hsum) hdc hcl
    · exact va_runVN ⟨hx, hb, hml, hown, hts⟩ hM ⟨va_cnB n hts hG hw hrc hrs (va_Nw.of rfl (hts _ hlk)) (hts _ hini) hd hR, hts _ hins, hts _ hsel⟩ hps rfl (by rw [List.length_map]; exact hlen) hsz hstk (gs_room hsum) hdc hcl
  exact gs_call run hS (fun q _ h => hFc q h) hFc (fun H1 locs1 hok hP1 hS1 => kk H1 locs1 hok ⟨hrel, hokl, hP1, gs_D_same hD, hS1⟩)
theorem gs_co_ac {tys : List (ClassId × FieldType)} (hx : p.tables.exec = Jvm.exec) (hb : c.code = cc) (hml : c.maxLocals = nL) (hown : s.vm.findClass own = some m.cls) (hts : ∀ w ∈ Ts, w.before args s = true) (hK : va_K D cl tys s) (hpr : ∀ t i, pr t i = true → (Y.1 t).1 ≠ 5 → ∃ q : Nat, RL[q]? = some (t, i)) (hinj : gs_inj RL) (hk1 : ∀ t i, pr t i = true → (Y.1 t).1 = 1 → ∃ q : Nat, tys[q]? = some (cA t i, FieldType.int)) (hk3 : ∀ t i, pr t i = true → (Y.1 t).1 = 3 → ∃ q : Nat, tys[q]? = some (cA t i, FieldType.long)) {x n : Nat} {f : gs_F} (h : gs_acw Y Ts own R x n f) :
    gs_co p l e R s m args below meth c cells slots Q Y cA ad D cl RL pr A nL cc (.invokestatic x) f (fun av => av.length = n) := by
  obtain ⟨rfl, rfl, ⟨w1, w2, w3, w4⟩, hfr, hlo⟩ := h
  intro pc ls H locs lo d av rest r d' hdc hB hav hgd hsum hf kk
  obtain ⟨hrel, hokl, hP, hD, hS⟩ := hB
  have hsz : ls.size = nL := by
    obtain ⟨lv, h1, -, -⟩ := hrel
    exact h1.1
  have hro : ((rest.map (gs_cz ad)).map fun v => v.category).sum + (nativeFrameWords "java/lang/System" "arraycopy" 5 + 11) ≤ R.locals := by
    rw [List.map_map]
    have e : ((fun v : Value => v.category) ∘ gs_cz ad) = gs_cat := by
      funext v
      exact gs_cz_cat ad v
    rw [e]
    omega
  unfold gs_ac at hf
  split at hf
  · rename_i a sp b dp z
    obtain ⟨a0, a1⟩ := a
    obtain ⟨b0, b1⟩ := b
    obtain ⟨hb0, hf⟩ := gs_b_v hf
    obtain ⟨h1, h2, h3, h4, h5⟩ := of_decide_eq_true hb0
    split at hf
    · rename_i ka kb
      have ka : (Y.1 a0).1 = 1 := ka
      have kb : (Y.1 b0).1 = 1 := kb
      obtain ⟨q0, hq0⟩ := hpr a0 a1 hav.hd (by rw [ka]; decide)
      obtain ⟨q1, hq1⟩ := hpr b0 b1 hav.tl.tl.hd (by rw [kb]; decide)
      have hd' := (Prod.mk.inj (Option.some.inj hf)).2
      have hr' := (Prod.mk.inj (Option.some.inj hf)).1
      have e1 : d'.1 b0 b1 = va_cpy (d.1 a0 a1) (d.1 b0 b1) sp.toNatClampNeg dp.toNatClampNeg z.toNatClampNeg := by
        rw [← hd']
        exact if_pos ⟨rfl, rfl⟩
      have e2 : ∀ t i, (t, i) ≠ (b0, b1) → d'.1 t i = d.1 t i ∧ d'.2 t i = d.2 t i := by
        intro t i hn
        rw [← hd']
        exact ⟨if_neg fun z => hn (by rw [z.1, z.2]), rfl⟩
      have e := gs_W_set (Y := Y) (cA := cA) (ad := ad) (d := d) (d' := d') hinj hq1 (gs_c1 kb) (fun t i hn => gs_cont_x (e2 t i hn).1 (e2 t i hn).2)
      rw [e1] at e
      subst hr'
      obtain ⟨z0, hz0⟩ := hk1 a0 a1 hav.hd ka
      obtain ⟨z1, hz1⟩ := hk1 b0 b1 hav.tl.tl.hd kb
      exact va_copyi hx hb (hml.trans hsz.symm) hown (hts _ w1) (hts _ w2) (hts _ w3) (hts _ w4) hK hP hD hS q0 q1 z0 z1 (by rw [gs_W_at hq0, gs_c1 ka]) (by rw [gs_W_at hq1, gs_c1 kb]) hz0 hz1 rfl h1 h2 h3 h4 h5 (fun _ _ => rfl) hfr hro hdc fun H1 locs1 y1 y2 y3 => kk H1 locs1 (fun v hv => by cases hv) ⟨hrel, hokl, e ▸ y1, e ▸ y2, y3⟩
    · rename_i ka kb
      have ka : (Y.1 a0).1 = 3 := ka
      have kb : (Y.1 b0).1 = 3 := kb
      obtain ⟨q0, hq0⟩ := hpr a0 a1 hav.hd (by rw [ka]; decide)
      obtain ⟨q1, hq1⟩ := hpr b0 b1 hav.tl.tl.hd (by rw [kb]; decide)
      have hd' := (Prod.mk.inj (Option.some.inj hf)).2
      have hr' := (Prod.mk.inj (Option.some.inj hf)).1
      have e1 : d'.2 b0 b1 = va_cpy (d.2 a0 a1) (d.2 b0 b1) sp.toNatClampNeg dp.toNatClampNeg z.toNatClampNeg := by
        rw [← hd']
        exact if_pos ⟨rfl, rfl⟩
      have e2 : ∀ t i, (t, i) ≠ (b0, b1) → d'.1 t i = d.1 t i ∧ d'.2 t i = d.2 t i := by
        intro t i hn
        rw [← hd']
        exact ⟨rfl, if_neg fun z => hn (by rw [z.1, z.2])⟩
      have e := gs_W_set (Y := Y) (cA := cA) (ad := ad) (d := d) (d' := d') hinj hq1 (gs_c3 kb) (fun t i hn => gs_cont_x (e2 t i hn).1 (e2 t i hn).2)
      rw [e1] at e
      subst hr'
      obtain ⟨z0, hz0⟩ := hk3 a0 a1 hav.hd ka
      obtain ⟨z1, hz1⟩ := hk3 b0 b1 hav.tl.tl.hd kb
      exact va_copyl hx hb (hml.trans hsz.symm) hown (hts _ w1) (hts _ w2) (hts _ w3) (hts _ w4) hK hP hD hS q0 q1 z0 z1 (by rw [gs_W_at hq0, gs_c3 ka]) (by rw [gs_W_at hq1, gs_c3 kb]) hz0 hz1 rfl h1 h2 h3 h4 h5 (fun _ _ => rfl) hfr hro hdc fun H1 locs1 y1 y2 y3 => kk H1 locs1 (fun v hv => by cases hv) ⟨hrel, hokl, e ▸ y1, e ▸ y2, y3⟩
    · cases hf
  · cases hf
theorem gs_sound {tys : List (ClassId × FieldType)} (hx : p.tables.exec = Jvm.exec) (hb : c.code = cc) (hown : s.vm.findClass own = some m.cls) (hts : ∀ w ∈ Ts, w.before args s = true) (hK : va_K D cl tys s) (hL : gs_lay Y cA RL pr cl tys Ts) (hM : gs_mok cc Ts own cl P)
    (hcs : ∀ x n f, P.2.2.2 x = some (n, 1000, f) → gs_co p l e R s m args below meth c cells slots Q Y cA ad D cl RL pr A nL cc (.invokestatic x) f (fun av => av.length = n))
    (hcv : ∀ x n cr f, cr ≤ 999 → P.2.2.2 x = some (n, cr, f) → gs_co p l e R s m args below meth c cells slots Q Y cA ad D cl RL pr A nL cc (.invokevirtual x) f (gs_gv Y n cr))
    (h5 : ∀ t i, pr t i = true → (Y.1 t).1 = 5 → va_X (ad t i) (Y.1 t).2.2 Y.2.2.2 s s.heap ∧ ad t i < s.heap.size ∧ ¬ A (ad t i))
    {r : Option gs_V} {d' : gs_D} (hfin : ∀ pc i tg st lo ls H locs, P.1 pc = some (i, tg) → gs_ret i st = some r → gs_B Y cA ad D cl RL pr A s.heap nL lo d' ls H locs → gs_oks pr st → W p l e R s m args below meth c H locs cells slots Q (F0 m pc ls (st.map (gs_cz ad)))) :
    ∀ (n pc : Nat) (lo : List (Option gs_V)) (st : List gs_V) (d : gs_D) (ls : Array Slot) (H : Heap) (locs : List Loc), gs_run Y P n pc lo st d = some (r, d') → gs_B Y cA ad D cl RL pr A s.heap nL lo d ls H locs → gs_oks pr st → W p l e R s m args below meth c H locs cells slots Q (F0 m pc ls (st.map (gs_cz ad))) := by
  intro n
  induction n with
  | zero =>
    intro pc lo st d ls H locs h
    cases h
  | succ n ih =>
    intro pc lo st d ls H locs h hB hst
    exact gs_step hx hb hown hts hK hL hM hcs hcv h5 h hB hst (fun pc' lo' st' d1 ls' H' locs' h' hB' hst' => ih pc' lo' st' d1 ls' H' locs' h' hB' hst') (fun i tg r1 hi hr he => by cases he; exact hfin pc i tg st lo ls H locs hi hr hB hst)
end GC
set_option maxHeartbeats 4000000 in
theorem gs_C_of {l : Launch} {Y : gs_Y} {RL : List (Nat × Nat)} {pr : Nat → Nat → Bool} {cl : List vw_C} {TL : Nat → Option FieldType} {y : MethodName} {NW ws ws' : List Cond} {rm : Room} {cc : ByteArray} {maxL : Nat} {ret : Option FieldType} {k : Nat} {P : gs_P} (hy : plainName y.cls = true) (hw : ws = Cond.code y cc maxL ret :: ws')
    (hk : (k = 0 ∧ ret = none) ∨ (k = 1 ∧ ret = some .int) ∨ (k = 2 ∧ ret = some .boolean) ∨ (k = 3 ∧ ret = some .long) ∨ (k = 4 ∧ ∃ n, ret = some (.object n))) (hrm : rm.cells = 0 ∧ rm.slots = 0)
    (hN : ∀ w ∈ NW, gs_isN w = true) (hL : ∀ cA, gs_lay Y cA RL pr cl (gs_T cA RL TL) (ws ++ NW)) (hM : gs_mok cc (ws ++ NW) y.cls cl P)
    (hY5 : ∀ t, (Y.1 t).1 ≠ 5)
    (hcs : ∀ x n f, P.2.2.2 x = some (n, 1000, f) → gs_sc l Y RL pr cl TL NW (ws ++ NW) y.cls rm x n f ∨ gs_acw Y (ws ++ NW) y.cls rm x n f)
    (hcv : ∀ x n cr f, cr ≤ 999 → P.2.2.2 x = some (n, cr, f) → gs_vc l Y RL pr cl TL NW (ws ++ NW) y.cls rm x n cr f)   : gs_C l Y RL pr cl TL NW y ws rm (gs_f Y maxL k P) := by
  intro D cA ad av d r d' sz hf hav
  obtain ⟨hlen, hf⟩ := gs_b_v hf
  have hg : gs_g Y P 0 (gs_ent maxL av) [] d = some (r, d') ∧ gs_rk k r = true := by
    cases hg : gs_g Y P 0 (gs_ent maxL av) [] d with
    | none => rw [hg] at hf; cases hf
    | some q =>
      obtain ⟨r1, d1⟩ := q
      rw [hg] at hf
      obtain ⟨h1, h2⟩ := gs_b_v hf
      cases h2
      exact ⟨rfl, h1⟩
  obtain ⟨hg, hrk⟩ := hg
  obtain ⟨n, hn⟩ := gs_g_iff.mp hg
  refine Met.ofW (cc := cc) (maxL := maxL) (ret := ret) hy hw ?_
  intro p e s m args below meth c s₁ B hml hv
  obtain ⟨rfl, hsz, hP, hK, hD0, hnw⟩ := hv
  have hx := B.exec
  have hb := B.bytes
  have hr := B.returns
  have hts0 := atoms_spec (ws := ws) B.pre
  have hts : ∀ w ∈ ws ++ NW, w.before (av.map (gs_cz ad)).toArray s = true := fun w hw => (List.mem_append.mp hw).elim (hts0 w) (fun h => va_Nw.use (gs_isN_t (hN w h)) (hnw w h))
  have hown : s.vm.findClass y.cls = some m.cls := findClass_of_methodNamed B.named
  have hlocks := B.notSynchronized
  subst hsz
  have hD := hD0.self (sz := s.heap.size)
  have hA : ∀ q : Nat, s.heap.size ≤ q → va_A (gs_W Y cA ad d RL) s.heap.size q := fun q h => Or.inr h
  have hlv := lv_entry (av.map (gs_cz ad)) (n := maxL) (by rw [gs_sl_len]; exact Nat.le_of_ble_eq_true hlen)
  rw [lg_entry_eq]
  generalize (lg_sl (av.map (gs_cz ad)) ++ List.replicate (maxL - (lg_sl (av.map (gs_cz ad))).length) Slot.unset).toArray = ls at hlv ⊢
  have hrel : gs_rel ad ls maxL (gs_ent maxL av) := by
    refine ⟨_, hlv, ?_, fun i v h => ?_⟩
    · have := Nat.le_of_ble_eq_true hlen
      simp only [gs_ent, List.length_append, List.length_replicate]
      omega
    · have := gs_rel_ent ad _ av 0 i v h
      rwa [Nat.zero_add] at this
  have hokl : gs_okl pr (gs_ent maxL av) := fun i v h => hav v (gs_ent_in h)
  have hcl : (0 : Nat) ≤ (headSpec ws rm).room.cells ∧ (0 : Nat) ≤ (headSpec ws rm).room.slots := ⟨Nat.zero_le _, Nat.zero_le _⟩
  refine gs_sound hx hb hown hts hK (hL cA) hM (fun x n f h1 => (hcs x n f h1).elim (fun h => gs_co_S hx hb hml hown hts hK hN hnw hA hcl h) (fun h => gs_co_ac hx hb hml hown hts hK (hL cA).1.1 (hL cA).1.2 (hL cA).2.1.1 (hL cA).2.1.2.2.1 h)) (fun x n cr f h1 h2 => gs_co_V hx hb hml hown hts hK hN hnw hA hcl (hL cA).1.1 (hcv x n cr f h1 h2)) (fun t i _ h => absurd h (hY5 t)) ?_ n 0 _ [] d ls s.heap [] hn ⟨hrel, hokl, hP, hD, va_S.rf⟩ (fun _ h => by cases h)
  intro pc i tg st lo ls' H locs hi hrt hB hst
  obtain ⟨len, hd, hln, -⟩ := hM.1 pc i tg hi
  have hq : (∀ v, r = some v → gs_ok pr v) → ∀ t : State, t.heap = H → s.WarmedH t.vm → gs_Q Y cA ad D cl RL pr r d' (va_A (gs_W Y cA ad d RL) s.heap.size) (av.map (gs_cz ad)).toArray s (.returned (r.map (gs_cz ad))) t := fun ho t ht _ => ⟨⟨rfl, ho, by rw [ht]; exact hB.2.2.1⟩, hB.2.2.2.2.F ht⟩
  have hfr : ∀ q ∈ locs, va_A (gs_W Y cA ad d RL) s.heap.size q.base := hB.2.2.2.2.2.2
  unfold gs_ret at hrt
  split at hrt
  · split at hrt
    · cases hrt
      cases hln 1 rfl
      rcases hk with ⟨rfl, rfl⟩ | ⟨rfl, -⟩ | ⟨rfl, -⟩ | ⟨rfl, -⟩ | ⟨rfl, -⟩
      · exact W.vret hx hb hr (hq (fun v h => by cases h)) hfr hd
      · simp [gs_rk] at hrk
      · simp [gs_rk] at hrk
      · simp [gs_rk] at hrk
      · simp [gs_rk] at hrk
    · cases hrt
  · split at hrt
    · rename_i x
      cases hrt
      cases hln 1 rfl
      rcases hk with ⟨rfl, -⟩ | ⟨rfl, rfl⟩ | ⟨rfl, rfl⟩ | ⟨rfl, -⟩ | ⟨rfl, -⟩
      · simp [gs_rk] at hrk
      · exact W.iret hx hb hr (hq (fun v h => hst v (by cases h; exact List.mem_cons_self))) hfr hd
      · have hx01 : x = 0 ∨ x = 1 := of_decide_eq_true hrk
        refine W.zret hx hb hr ?_ (hq (fun v h => hst v (by cases h; exact List.mem_cons_self))) hfr hd
        rcases hx01 with rfl | rfl <;> rfl
      · simp [gs_rk] at hrk
      · simp [gs_rk] at hrk
    · cases hrt
  · split at hrt
    · cases hrt
      cases hln 1 rfl
      rcases hk with ⟨rfl, -⟩ | ⟨rfl, -⟩ | ⟨rfl, -⟩ | ⟨rfl, rfl⟩ | ⟨rfl, -⟩
      · simp [gs_rk] at hrk
      · simp [gs_rk] at hrk
      · simp [gs_rk] at hrk
      · exact W.lret hx hb hr (hq (fun v h => hst v (by cases h; exact List.mem_cons_self))) hfr hd
      · simp [gs_rk] at hrk
    · cases hrt
  · split at hrt
    · cases hrt
      cases hln 1 rfl
      rcases hk with ⟨rfl, -⟩ | ⟨rfl, -⟩ | ⟨rfl, -⟩ | ⟨rfl, -⟩ | ⟨rfl, nm, rfl⟩
      · simp [gs_rk] at hrk
      · simp [gs_rk] at hrk
      · simp [gs_rk] at hrk
      · simp [gs_rk] at hrk
      · exact W.aret hx hb hr (Or.inl ⟨nm, rfl⟩) (Or.inr ⟨_, rfl⟩) (hq (fun v h => hst v (by cases h; exact List.mem_cons_self))) hfr hd
    · cases hrt
  · cases hrt
end
