section
/-! A small machine over named cells. A cell is named by a pair (tag, index); what lies in it is two functions,
ints and longs by (tag, index, place); which cell a field or an element refers to is fixed by a layout. -/
abbrev gs_V : Type := Int32 ⊕ Int64 ⊕ (Nat × Nat)
abbrev gs_i (x : Int32) : gs_V := .inl x
abbrev gs_l (x : Int64) : gs_V := .inr (.inl x)
abbrev gs_r (t i : Nat) : gs_V := .inr (.inr (t, i))
abbrev gs_D : Type := (Nat → Nat → Nat → Int32) × (Nat → Nat → Nat → Int64)
/-- a layout: of a tag its kind (0 object, 1 int[], 2 boolean[], 3 long[], 4 reference[], 5 the script), its kind's number, its length; of a field its kind (0 int, 1 long, 2 reference); where a reference leads; the script -/
abbrev gs_Y : Type := (Nat → Nat × Nat × Nat) × (Nat → Nat → Nat) × (Nat → Nat → Nat → Nat × Nat) × (Nat → Int32)
abbrev gs_R : Type := Option (Option gs_V × gs_D)
abbrev gs_F : Type := List gs_V → gs_D → gs_R
/-- a method: its instructions with their targets, its field numbers, its constants, its callees (arguments without receiver, receiver's kind or 1000, what it does) -/
abbrev gs_P : Type := (Nat → Option (Jvm.ClassFile.Instr × Nat)) × (Nat → Option (Nat × Nat)) × (Nat → Option gs_V) × (Nat → Option (Nat × Nat × gs_F))
abbrev gs_K : Type := Nat → List (Option gs_V) → List gs_V → gs_D → gs_R
def gs_cz (ad : Nat → Nat → Nat) (v : gs_V) : Value := match v with
  | .inl x => .int x
  | .inr (.inl x) => .long x
  | .inr (.inr r) => .ref (ad r.1 r.2)
def gs_cat (v : gs_V) : Nat := match v with
  | .inr (.inl _) => 2
  | _ => 1
theorem gs_cz_cat (ad : Nat → Nat → Nat) (v : gs_V) : (gs_cz ad v).category = gs_cat v := by
  rcases v with x | x | r <;> rfl
def gs_uI (f : Nat → Nat → Nat → Int32) (t i j : Nat) (x : Int32) : Nat → Nat → Nat → Int32 := fun a b c => if a = t ∧ b = i ∧ c = j then x else f a b c
def gs_uL (f : Nat → Nat → Nat → Int64) (t i j : Nat) (x : Int64) : Nat → Nat → Nat → Int64 := fun a b c => if a = t ∧ b = i ∧ c = j then x else f a b c
def gs_wI (d : gs_D) (t i j : Nat) (x : Int32) : gs_D := (gs_uI d.1 t i j x, d.2)
def gs_wL (d : gs_D) (t i j : Nat) (x : Int64) : gs_D := (d.1, gs_uL d.2 t i j x)
-- locals
def gs_nl (o : Option gs_V) : Option gs_V := match o with
  | some (.inr (.inl _)) => none
  | o => o
def gs_clr (l : List (Option gs_V)) (i : Nat) : List (Option gs_V) := match i with
  | 0 => l
  | j + 1 => l.set j (gs_nl (l.getD j none))
def gs_st1 (l : List (Option gs_V)) (i : Nat) (v : gs_V) : List (Option gs_V) := (gs_clr l i).set i (some v)
def gs_st2 (l : List (Option gs_V)) (i : Nat) (v : gs_V) : List (Option gs_V) := ((gs_clr l i).set i (some v)).set (i + 1) none
def gs_sl (av : List gs_V) : List (Option gs_V) := av.flatMap fun v => if gs_cat v = 2 then [some v, none] else [some v]
def gs_ent (n : Nat) (av : List gs_V) : List (Option gs_V) := gs_sl av ++ List.replicate (n - (gs_sl av).length) none
/-- a table by numbers -/
def gs_lk {α : Type} (tb : List (Nat × α)) (x : Nat) : Option α := match tb with
  | [] => none
  | e :: r => match Nat.beq e.1 x with
    | true => some e.2
    | false => gs_lk r x
theorem gs_lk_mem {α : Type} {x : Nat} {v : α} : ∀ {tb : List (Nat × α)}, gs_lk tb x = some v → (x, v) ∈ tb
  | [], h => by cases h
  | e :: r, h => by
    cases hb : Nat.beq e.1 x with
    | true =>
      rw [gs_lk, hb] at h
      cases h
      rw [← Nat.eq_of_beq_eq_true hb]
      exact List.mem_cons_self
    | false =>
      rw [gs_lk, hb] at h
      exact List.mem_cons_of_mem _ (gs_lk_mem h)
-- the machine's helpers: each goes on, or there is no answer
def gs_b (b : Bool) (a : gs_R) : gs_R := match b with
  | true => a
  | false => none
def gs_ki (o : Option gs_V) (k : Int32 → gs_R) : gs_R := match o with
  | some (.inl x) => k x
  | _ => none
def gs_kl (o : Option gs_V) (k : Int64 → gs_R) : gs_R := match o with
  | some (.inr (.inl x)) => k x
  | _ => none
def gs_kr (o : Option gs_V) (k : Nat → Nat → gs_R) : gs_R := match o with
  | some (.inr (.inr q)) => k q.1 q.2
  | _ => none
def gs_1v (st : List gs_V) (k : gs_V → List gs_V → gs_R) : gs_R := match st with
  | v :: r => k v r
  | _ => none
def gs_1i (st : List gs_V) (k : Int32 → List gs_V → gs_R) : gs_R := match st with
  | .inl x :: r => k x r
  | _ => none
def gs_1l (st : List gs_V) (k : Int64 → List gs_V → gs_R) : gs_R := match st with
  | .inr (.inl x) :: r => k x r
  | _ => none
def gs_1r (st : List gs_V) (k : Nat → Nat → List gs_V → gs_R) : gs_R := match st with
  | .inr (.inr q) :: r => k q.1 q.2 r
  | _ => none
def gs_2i (st : List gs_V) (k : Int32 → Int32 → List gs_V → gs_R) : gs_R := gs_1i st fun y r => gs_1i r fun x r => k x y r
def gs_2l (st : List gs_V) (k : Int64 → Int64 → List gs_V → gs_R) : gs_R := gs_1l st fun y r => gs_1l r fun x r => k x y r
def gs_2r (st : List gs_V) (k : Int32 → Nat → Nat → List gs_V → gs_R) : gs_R := gs_1i st fun j r => gs_1r r fun t i r => k j t i r
def gs_br (c : Jvm.ClassFile.Cond) (x y : Int32) (a b : gs_R) : gs_R := match c with
  | .eq => if x = y then a else b
  | .ne => if ¬ x = y then a else b
  | .lt => if x < y then a else b
  | .ge => if y ≤ x then a else b
  | .gt => if y < x then a else b
  | .le => if x ≤ y then a else b
def gs_ix (j : Int32) (n : Nat) (a : gs_R) : gs_R := if j < 0 ∨ n ≤ j.toNatClampNeg then none else a
def gs_nz (j : Int32) (a : gs_R) : gs_R := if j = 0 then none else a
def gs_nzl (j : Int64) (a : gs_R) : gs_R := if j = 0 then none else a
def gs_fa (Y : gs_Y) (d : gs_D) (t i k : Nat) : gs_V := match Y.2.1 t k with
  | 0 => .inl (d.1 t i k)
  | 1 => .inr (.inl (d.2 t i k))
  | _ => .inr (.inr (Y.2.2.1 t i k))
def gs_ia (Y : gs_Y) (d : gs_D) (t i n : Nat) : Int32 := match (Y.1 t).1 with
  | 5 => Y.2.2.2 n
  | _ => d.1 t i n
def gs_ts (x : Int32) (lo hi : Int) (pc : Nat) (offs : Array Int) (a : gs_R) (k : Nat → gs_R) : gs_R := if x.toInt < lo ∨ hi < x.toInt then a else match offs[(x.toInt - lo).toNat]? with
  | some o => gs_b (decide (0 ≤ (pc : Int) + o)) (k ((pc : Int) + o).toNat)
  | none => none
def gs_sw (v : gs_V) (ki : Int32 → gs_R) (kl : Int64 → gs_R) (kr : gs_R) : gs_R := match v with
  | .inl z => ki z
  | .inr (.inl z) => kl z
  | _ => kr
def gs_fl (Y : gs_Y) (o : Option (Nat × Nat)) (t : Nat) (k : Nat → gs_R) : gs_R := match o with
  | some q => gs_b ((Y.1 t).1 == 0 && ((Y.1 t).2.1 == q.1 && Nat.ble (q.2 + 1) (Y.1 t).2.2)) (k q.2)
  | none => none
def gs_af (a : gs_R) (rest : List gs_V) (k : List gs_V → gs_D → gs_R) : gs_R := match a with
  | some (some v, d) => k (v :: rest) d
  | some (none, d) => k rest d
  | none => none
def gs_cs (o : Option (Nat × Nat × gs_F)) (st : List gs_V) (d : gs_D) (k : List gs_V → gs_D → gs_R) : gs_R := match o with
  | some q => gs_b (q.2.1 == 1000 && (Nat.ble q.1 st.length && Nat.ble ((st.drop q.1).map gs_cat).sum 8)) (gs_af (q.2.2 (st.take q.1).reverse d) (st.drop q.1) k)
  | none => none
def gs_cv (Y : gs_Y) (o : Option (Nat × Nat × gs_F)) (st : List gs_V) (d : gs_D) (k : List gs_V → gs_D → gs_R) : gs_R := match o with
  | some q => gs_b (Nat.ble q.2.1 999 && Nat.ble q.1 st.length) (gs_1r (st.drop q.1) fun t i r => gs_b ((Y.1 t).1 == 0 && ((Y.1 t).2.1 == q.2.1 && Nat.ble (r.map gs_cat).sum 8)) (gs_af (q.2.2 (gs_r t i :: (st.take q.1).reverse) d) r k))
  | none => none
def gs_ret (i : Jvm.ClassFile.Instr) (st : List gs_V) : Option (Option gs_V) := match i with
  | .return_ => match st with
    | [] => some none
    | _ => none
  | .ireturn => match st with
    | [.inl x] => some (some (.inl x))
    | _ => none
  | .lreturn => match st with
    | [.inr (.inl x)] => some (some (.inr (.inl x)))
    | _ => none
  | .areturn => match st with
    | [.inr (.inr q)] => some (some (.inr (.inr q)))
    | _ => none
  | _ => none
def gs_stp (Y : gs_Y) (P : gs_P) (pc : Nat) (l : List (Option gs_V)) (st : List gs_V) (d : gs_D) (k : gs_K) : gs_R := match P.1 pc with
  | none => none
  | some (i, tg) => match i with
    | .iconst n => k (pc + 1) l (gs_i (Int32.ofInt n) :: st) d
    | .bipush n => k (pc + 2) l (gs_i (Int8.ofInt n).toInt32 :: st) d
    | .sipush n => k (pc + 3) l (gs_i (Int16.ofInt n).toInt32 :: st) d
    | .lconst n => k (pc + 1) l (gs_l (Int64.ofNat n) :: st) d
    | .ldc x => gs_ki (P.2.2.1 x) fun v => k (pc + 2) l (gs_i v :: st) d
    | .ldc2_w x => gs_kl (P.2.2.1 x) fun v => k (pc + 3) l (gs_l v :: st) d
    | .iload_n n => gs_ki (l.getD n none) fun v => k (pc + 1) l (gs_i v :: st) d
    | .iload n => gs_ki (l.getD n none) fun v => k (pc + 2) l (gs_i v :: st) d
    | .lload_n n => gs_kl (l.getD n none) fun v => k (pc + 1) l (gs_l v :: st) d
    | .lload n => gs_kl (l.getD n none) fun v => k (pc + 2) l (gs_l v :: st) d
    | .aload_n n => gs_kr (l.getD n none) fun t i => k (pc + 1) l (gs_r t i :: st) d
    | .aload n => gs_kr (l.getD n none) fun t i => k (pc + 2) l (gs_r t i :: st) d
    | .istore_n n => gs_1i st fun x r => gs_b (Nat.ble (n + 1) l.length) (k (pc + 1) (gs_st1 l n (gs_i x)) r d)
    | .istore n => gs_1i st fun x r => gs_b (Nat.ble (n + 1) l.length) (k (pc + 2) (gs_st1 l n (gs_i x)) r d)
    | .lstore_n n => gs_1l st fun x r => gs_b (Nat.ble (n + 2) l.length) (k (pc + 1) (gs_st2 l n (gs_l x)) r d)
    | .lstore n => gs_1l st fun x r => gs_b (Nat.ble (n + 2) l.length) (k (pc + 2) (gs_st2 l n (gs_l x)) r d)
    | .astore_n n => gs_1r st fun t i r => gs_b (Nat.ble (n + 1) l.length) (k (pc + 1) (gs_st1 l n (gs_r t i)) r d)
    | .astore n => gs_1r st fun t i r => gs_b (Nat.ble (n + 1) l.length) (k (pc + 2) (gs_st1 l n (gs_r t i)) r d)
    | .iinc n c => gs_ki (l.getD n none) fun v => gs_b (Nat.ble (n + 1) l.length) (k (pc + 3) (gs_st1 l n (gs_i (v + Int32.ofInt c))) st d)
    | .iadd => gs_2i st fun x y r => k (pc + 1) l (gs_i (x + y) :: r) d
    | .isub => gs_2i st fun x y r => k (pc + 1) l (gs_i (x - y) :: r) d
    | .imul => gs_2i st fun x y r => k (pc + 1) l (gs_i (x * y) :: r) d
    | .iand => gs_2i st fun x y r => k (pc + 1) l (gs_i (x &&& y) :: r) d
    | .ior => gs_2i st fun x y r => k (pc + 1) l (gs_i (x ||| y) :: r) d
    | .ixor => gs_2i st fun x y r => k (pc + 1) l (gs_i (x ^^^ y) :: r) d
    | .ishl => gs_2i st fun x y r => k (pc + 1) l (gs_i (x <<< (y &&& 31)) :: r) d
    | .ishr => gs_2i st fun x y r => k (pc + 1) l (gs_i (x >>> (y &&& 31)) :: r) d
    | .idiv => gs_2i st fun x y r => gs_nz y (k (pc + 1) l (gs_i (x / y) :: r) d)
    | .irem => gs_2i st fun x y r => gs_nz y (k (pc + 1) l (gs_i (x - x / y * y) :: r) d)
    | .ineg => gs_1i st fun x r => k (pc + 1) l (gs_i (-x) :: r) d
    | .ladd => gs_2l st fun x y r => k (pc + 1) l (gs_l (x + y) :: r) d
    | .lsub => gs_2l st fun x y r => k (pc + 1) l (gs_l (x - y) :: r) d
    | .lmul => gs_2l st fun x y r => k (pc + 1) l (gs_l (x * y) :: r) d
    | .ldiv => gs_2l st fun x y r => gs_nzl y (k (pc + 1) l (gs_l (x / y) :: r) d)
    | .lrem => gs_2l st fun x y r => gs_nzl y (k (pc + 1) l (gs_l (x - x / y * y) :: r) d)
    | .lneg => gs_1l st fun x r => k (pc + 1) l (gs_l (-x) :: r) d
    | .lcmp => gs_2l st fun x y r => k (pc + 1) l (gs_i (lg_cmp x y) :: r) d
    | .i2l => gs_1i st fun x r => k (pc + 1) l (gs_l x.toInt64 :: r) d
    | .l2i => gs_1l st fun x r => k (pc + 1) l (gs_i x.toInt32 :: r) d
    | .dup => gs_1v st fun v r => gs_b (gs_cat v == 1) (k (pc + 1) l (v :: v :: r) d)
    | .pop => gs_1v st fun v r => gs_b (gs_cat v == 1) (k (pc + 1) l r d)
    | .pop2 => gs_1v st fun v r => gs_b (gs_cat v == 2) (k (pc + 1) l r d)
    | .dup_x1 => gs_1v st fun v r => gs_1v r fun w r => gs_b (gs_cat v == 1 && gs_cat w == 1) (k (pc + 1) l (v :: w :: v :: r) d)
    | .dup_x2 => gs_1v st fun v r => gs_1v r fun w r => gs_1v r fun u r => gs_b (gs_cat v == 1 && (gs_cat w == 1 && gs_cat u == 1)) (k (pc + 1) l (v :: w :: u :: v :: r) d)
    | .dup2 => gs_1v st fun v r => gs_sw v (fun _ => gs_1v r fun w r => gs_b (gs_cat w == 1) (k (pc + 1) l (v :: w :: v :: w :: r) d)) (fun _ => k (pc + 1) l (v :: v :: r) d) (gs_1v r fun w r => gs_b (gs_cat w == 1) (k (pc + 1) l (v :: w :: v :: w :: r) d))
    | .ifCond c _ => gs_1i st fun x r => gs_br c x 0 (k tg l r d) (k (pc + 3) l r d)
    | .if_icmp c _ => gs_2i st fun x y r => gs_br c x y (k tg l r d) (k (pc + 3) l r d)
    | .goto _ => k tg l st d
    | .getfield x => gs_1r st fun t i r => gs_fl Y (P.2.1 x) t fun f => k (pc + 3) l (gs_fa Y d t i f :: r) d
    | .putfield x => gs_1v st fun v r => gs_1r r fun t i r => gs_fl Y (P.2.1 x) t fun f => gs_sw v (fun z => gs_b (Y.2.1 t f == 0) (k (pc + 3) l r (gs_wI d t i f z))) (fun z => gs_b (Y.2.1 t f == 1) (k (pc + 3) l r (gs_wL d t i f z))) none
    | .iaload => gs_2r st fun j t i r => gs_b ((Y.1 t).1 == 1 || (Y.1 t).1 == 5) (gs_ix j (Y.1 t).2.2 (k (pc + 1) l (gs_i (gs_ia Y d t i j.toNatClampNeg) :: r) d))
    | .arraylength => gs_1r st fun t i r => gs_b ((Y.1 t).1 == 5) (k (pc + 1) l (gs_i (Int32.ofNat (Y.1 t).2.2) :: r) d)
    | .tableswitch _ lo hi offs => gs_1i st fun x r => gs_ts x lo hi pc offs (k tg l r d) (fun p1 => k p1 l r d)
    | .baload => gs_2r st fun j t i r => gs_b ((Y.1 t).1 == 2) (gs_ix j (Y.1 t).2.2 (k (pc + 1) l (gs_i (d.1 t i j.toNatClampNeg) :: r) d))
    | .laload => gs_2r st fun j t i r => gs_b ((Y.1 t).1 == 3) (gs_ix j (Y.1 t).2.2 (k (pc + 1) l (gs_l (d.2 t i j.toNatClampNeg) :: r) d))
    | .aaload => gs_2r st fun j t i r => gs_b ((Y.1 t).1 == 4) (gs_ix j (Y.1 t).2.2 (k (pc + 1) l (.inr (.inr (Y.2.2.1 t i j.toNatClampNeg)) :: r) d))
    | .iastore => gs_1i st fun x r => gs_2r r fun j t i r => gs_b ((Y.1 t).1 == 1) (gs_ix j (Y.1 t).2.2 (k (pc + 1) l r (gs_wI d t i j.toNatClampNeg x)))
    | .bastore => gs_1i st fun x r => gs_2r r fun j t i r => gs_b ((Y.1 t).1 == 2) (gs_ix j (Y.1 t).2.2 (k (pc + 1) l r (gs_wI d t i j.toNatClampNeg (vp_nar .boolean x))))
    | .lastore => gs_1l st fun x r => gs_2r r fun j t i r => gs_b ((Y.1 t).1 == 3) (gs_ix j (Y.1 t).2.2 (k (pc + 1) l r (gs_wL d t i j.toNatClampNeg x)))
    | .invokestatic x => gs_cs (P.2.2.2 x) st d fun st d => k (pc + 3) l st d
    | .invokevirtual x => gs_cv Y (P.2.2.2 x) st d fun st d => k (pc + 3) l st d
    | i => match gs_ret i st with
      | some r => some (r, d)
      | none => none
def gs_run (Y : gs_Y) (P : gs_P) : Nat → gs_K
  | 0 => fun _ _ _ _ => none
  | n + 1 => fun pc l st d => gs_stp Y P pc l st d (gs_run Y P n)
-- what goes on in more cases answers in more cases
theorem gs_b_m {b : Bool} {a a' : gs_R} {r} (h : a = some r → a' = some r) : gs_b b a = some r → gs_b b a' = some r := by
  cases b
  · exact id
  · exact h
theorem gs_ki_m {o : Option gs_V} {k k' : Int32 → gs_R} {r} (h : ∀ x, k x = some r → k' x = some r) : gs_ki o k = some r → gs_ki o k' = some r := by
  rcases o with _ | x | x | x <;> first | exact id | exact h _
theorem gs_kl_m {o : Option gs_V} {k k' : Int64 → gs_R} {r} (h : ∀ x, k x = some r → k' x = some r) : gs_kl o k = some r → gs_kl o k' = some r := by
  rcases o with _ | x | x | x <;> first | exact id | exact h _
theorem gs_kr_m {o : Option gs_V} {k k' : Nat → Nat → gs_R} {r} (h : ∀ x y, k x y = some r → k' x y = some r) : gs_kr o k = some r → gs_kr o k' = some r := by
  rcases o with _ | x | x | x <;> first | exact id | exact h _ _
theorem gs_1v_m {st : List gs_V} {k k' : gs_V → List gs_V → gs_R} {r} (h : ∀ x y, k x y = some r → k' x y = some r) : gs_1v st k = some r → gs_1v st k' = some r := by
  rcases st with _ | ⟨x, y⟩ <;> first | exact id | exact h _ _
theorem gs_1i_m {st : List gs_V} {k k' : Int32 → List gs_V → gs_R} {r} (h : ∀ x y, k x y = some r → k' x y = some r) : gs_1i st k = some r → gs_1i st k' = some r := by
  rcases st with _ | ⟨x | x | x, y⟩ <;> first | exact id | exact h _ _
theorem gs_1l_m {st : List gs_V} {k k' : Int64 → List gs_V → gs_R} {r} (h : ∀ x y, k x y = some r → k' x y = some r) : gs_1l st k = some r → gs_1l st k' = some r := by
  rcases st with _ | ⟨x | x | x, y⟩ <;> first | exact id | exact h _ _
theorem gs_1r_m {st : List gs_V} {k k' : Nat → Nat → List gs_V → gs_R} {r} (h : ∀ x y z, k x y z = some r → k' x y z = some r) : gs_1r st k = some r → gs_1r st k' = some r := by
  rcases st with _ | ⟨x | x | x, y⟩ <;> first | exact id | exact h _ _ _
theorem gs_2i_m {st : List gs_V} {k k' : Int32 → Int32 → List gs_V → gs_R} {r} (h : ∀ x y z, k x y z = some r → k' x y z = some r) : gs_2i st k = some r → gs_2i st k' = some r :=
  gs_1i_m fun _ _ => gs_1i_m fun _ _ => h _ _ _
theorem gs_2l_m {st : List gs_V} {k k' : Int64 → Int64 → List gs_V → gs_R} {r} (h : ∀ x y z, k x y z = some r → k' x y z = some r) : gs_2l st k = some r → gs_2l st k' = some r :=
  gs_1l_m fun _ _ => gs_1l_m fun _ _ => h _ _ _
theorem gs_2r_m {st : List gs_V} {k k' : Int32 → Nat → Nat → List gs_V → gs_R} {r} (h : ∀ x y z u, k x y z u = some r → k' x y z u = some r) : gs_2r st k = some r → gs_2r st k' = some r :=
  gs_1i_m fun _ _ => gs_1r_m fun _ _ _ => h _ _ _ _
theorem gs_br_m {c : Jvm.ClassFile.Cond} {x y : Int32} {a a' b b' : gs_R} {r} (h : a = some r → a' = some r) (h2 : b = some r → b' = some r) : gs_br c x y a b = some r → gs_br c x y a' b' = some r := by
  cases c <;> simp only [gs_br] <;> split <;> assumption
theorem gs_ix_m {j : Int32} {n : Nat} {a a' : gs_R} {r} (h : a = some r → a' = some r) : gs_ix j n a = some r → gs_ix j n a' = some r := by
  unfold gs_ix; split <;> first | exact id | exact h
theorem gs_nz_m {j : Int32} {a a' : gs_R} {r} (h : a = some r → a' = some r) : gs_nz j a = some r → gs_nz j a' = some r := by
  unfold gs_nz; split <;> first | exact id | exact h
theorem gs_nzl_m {j : Int64} {a a' : gs_R} {r} (h : a = some r → a' = some r) : gs_nzl j a = some r → gs_nzl j a' = some r := by
  unfold gs_nzl; split <;> first | exact id | exact h
theorem gs_ts_m {x : Int32} {lo hi : Int} {pc : Nat} {offs : Array Int} {a a' : gs_R} {k k' : Nat → gs_R} {r} (h : a = some r → a' = some r) (h2 : ∀ p1, k p1 = some r → k' p1 = some r) : gs_ts x lo hi pc offs a k = some r → gs_ts x lo hi pc offs a' k' = some r := by
  unfold gs_ts
  split
  · exact h
  · split
    · exact gs_b_m (h2 _)
    · exact id
theorem gs_sw_m {v : gs_V} {ki ki' : Int32 → gs_R} {kl kl' : Int64 → gs_R} {kr kr' : gs_R} {r} (h : ∀ x, ki x = some r → ki' x = some r) (h2 : ∀ x, kl x = some r → kl' x = some r) (h3 : kr = some r → kr' = some r) : gs_sw v ki kl kr = some r → gs_sw v ki' kl' kr' = some r := by
  rcases v with x | x | x
  · exact h _
  · exact h2 _
  · exact h3
theorem gs_fl_m {Y : gs_Y} {o : Option (Nat × Nat)} {t : Nat} {k k' : Nat → gs_R} {r} (h : ∀ x, k x = some r → k' x = some r) : gs_fl Y o t k = some r → gs_fl Y o t k' = some r := by
  rcases o with _ | q
  · exact id
  · exact gs_b_m (h _)
theorem gs_af_m {a : gs_R} {st : List gs_V} {k k' : List gs_V → gs_D → gs_R} {r} (h : ∀ x y, k x y = some r → k' x y = some r) : gs_af a st k = some r → gs_af a st k' = some r := by
  rcases a with _ | ⟨_ | v, d⟩
  · exact id
  · exact h _ _
  · exact h _ _
theorem gs_cs_m {o : Option (Nat × Nat × gs_F)} {st : List gs_V} {d : gs_D} {k k' : List gs_V → gs_D → gs_R} {r} (h : ∀ x y, k x y = some r → k' x y = some r) : gs_cs o st d k = some r → gs_cs o st d k' = some r := by
  rcases o with _ | q
  · exact id
  · exact gs_b_m (gs_af_m h)
theorem gs_cv_m {Y : gs_Y} {o : Option (Nat × Nat × gs_F)} {st : List gs_V} {d : gs_D} {k k' : List gs_V → gs_D → gs_R} {r} (h : ∀ x y, k x y = some r → k' x y = some r) : gs_cv Y o st d k = some r → gs_cv Y o st d k' = some r := by
  rcases o with _ | q
  · exact id
  · exact gs_b_m (gs_1r_m fun _ _ _ => gs_b_m (gs_af_m h))
set_option maxHeartbeats 4000000 in
theorem gs_stp_m {Y : gs_Y} {P : gs_P} {pc : Nat} {l : List (Option gs_V)} {st : List gs_V} {d : gs_D} {k k' : gs_K} {r} (hk : ∀ a b c e, k a b c e = some r → k' a b c e = some r) : gs_stp Y P pc l st d k = some r → gs_stp Y P pc l st d k' = some r := by
  unfold gs_stp
  rcases P.1 pc with _ | ⟨i, tg⟩
  · exact id
  · cases i <;> dsimp only <;> (repeat' (first
      | exact hk _ _ _ _
      | exact id
      | (refine gs_ki_m fun _ => ?_)
      | (refine gs_kl_m fun _ => ?_)
      | (refine gs_kr_m fun _ _ => ?_)
      | (refine gs_2i_m fun _ _ _ => ?_)
      | (refine gs_2l_m fun _ _ _ => ?_)
      | (refine gs_2r_m fun _ _ _ _ => ?_)
      | (refine gs_1i_m fun _ _ => ?_)
      | (refine gs_1l_m fun _ _ => ?_)
      | (refine gs_1r_m fun _ _ _ => ?_)
      | (refine gs_1v_m fun _ _ => ?_)
      | (refine gs_b_m ?_)
      | (refine gs_ix_m ?_)
      | (refine gs_nz_m ?_)
      | (refine gs_nzl_m ?_)
      | (refine gs_br_m ?_ ?_)
      | (refine gs_ts_m ?_ (fun _ => ?_))
      | (refine gs_fl_m fun _ => ?_)
      | (refine gs_sw_m (fun _ => ?_) (fun _ => ?_) ?_)
      | (refine gs_cs_m fun _ _ => ?_)
      | (refine gs_cv_m fun _ _ => ?_)))
theorem gs_run_s {Y : gs_Y} {P : gs_P} {r} : ∀ (n : Nat) (pc : Nat) (l : List (Option gs_V)) (st : List gs_V) (d : gs_D), gs_run Y P n pc l st d = some r → gs_run Y P (n + 1) pc l st d = some r
  | 0, _, _, _, _, h => by cases h
  | n + 1, pc, l, st, d, h => gs_stp_m (fun a b c e => gs_run_s n a b c e) h
theorem gs_run_le {Y : gs_Y} {P : gs_P} {r} {pc : Nat} {l : List (Option gs_V)} {st : List gs_V} {d : gs_D} {n : Nat} (h : gs_run Y P n pc l st d = some r) : ∀ j, gs_run Y P (n + j) pc l st d = some r
  | 0 => h
  | j + 1 => gs_run_s (n + j) _ _ _ _ (gs_run_le h j)
/-- what the machine answers, however long it runs -/
noncomputable def gs_g (Y : gs_Y) (P : gs_P) : gs_K := fun pc l st d => @dite gs_R (∃ r, ∃ n, gs_run Y P n pc l st d = some r) (Classical.propDecidable _) (fun h => some h.choose) (fun _ => none)
theorem gs_g_iff {Y : gs_Y} {P : gs_P} {r} {pc : Nat} {l : List (Option gs_V)} {st : List gs_V} {d : gs_D} : gs_g Y P pc l st d = some r ↔ ∃ n, gs_run Y P n pc l st d = some r := by
  constructor
  · intro h
    by_cases hc : ∃ r, ∃ n, gs_run Y P n pc l st d = some r
    · unfold gs_g at h
      rw [dif_pos hc] at h
      obtain ⟨n, hn⟩ := hc.choose_spec
      exact ⟨n, hn.trans h⟩
    · unfold gs_g at h
      rw [dif_neg hc] at h
      cases h
  · rintro ⟨n, hn⟩
    have hc : ∃ r, ∃ n, gs_run Y P n pc l st d = some r := ⟨r, n, hn⟩
    unfold gs_g
    rw [dif_pos hc]
    obtain ⟨n2, h2⟩ := hc.choose_spec
    have a := gs_run_le hn n2
    have b := gs_run_le h2 n
    rw [Nat.add_comm] at b
    exact b.symm.trans a
theorem gs_oext {α : Type} {a b : Option α} (h : ∀ r, a = some r ↔ b = some r) : a = b := by
  rcases a with _ | x
  · rcases b with _ | y
    · rfl
    · exact absurd ((h y).mpr rfl) (by simp)
  · exact ((h x).mp rfl).symm
section BK
variable {Y : gs_Y} {P : gs_P} {pc : Nat} {l : List (Option gs_V)} {st : List gs_V} {d : gs_D}
/-- a stretch of instructions -/
theorem gs_go (k : Nat) {pc' : Nat} {l' : List (Option gs_V)} {st' : List gs_V} {d' : gs_D} (h : ∀ n, gs_run Y P (n + k) pc l st d = gs_run Y P n pc' l' st' d') : gs_g Y P pc l st d = gs_g Y P pc' l' st' d' := by
  refine gs_oext fun r => ?_
  rw [gs_g_iff, gs_g_iff]
  constructor
  · rintro ⟨n, hn⟩
    exact ⟨n, (h n).symm.trans (gs_run_le hn k)⟩
  · rintro ⟨n, hn⟩
    exact ⟨n + k, (h n).trans hn⟩
/-- the same, its first step taken -/
theorem gs_gs (k : Nat) {pc' : Nat} {l' : List (Option gs_V)} {st' : List gs_V} {d' : gs_D} (h : ∀ n, gs_stp Y P pc l st d (gs_run Y P (n + k)) = gs_run Y P n pc' l' st' d') : gs_g Y P pc l st d = gs_g Y P pc' l' st' d' := gs_go (k + 1) h
/-- .. that ends in a branch -/
theorem gs_if (k : Nat) {b : Prop} [Decidable b] {p1 p2 : Nat} {l1 l2 : List (Option gs_V)} {s1 s2 : List gs_V} {d1 d2 : gs_D} (h : ∀ n, gs_run Y P (n + k) pc l st d = if b then gs_run Y P n p1 l1 s1 d1 else gs_run Y P n p2 l2 s2 d2) : gs_g Y P pc l st d = if b then gs_g Y P p1 l1 s1 d1 else gs_g Y P p2 l2 s2 d2 := by
  by_cases hb : b
  · rw [if_pos hb]
    exact gs_go k fun n => by rw [h n, if_pos hb]
  · rw [if_neg hb]
    exact gs_go k fun n => by rw [h n, if_neg hb]
/-- .. that answers -/
theorem gs_an (k : Nat) {a : gs_R} (h : ∀ n, gs_run Y P (n + k) pc l st d = a) : gs_g Y P pc l st d = a := by
  refine gs_oext fun r => ?_
  rw [gs_g_iff]
  constructor
  · rintro ⟨n, hn⟩
    exact (h n).symm.trans (gs_run_le hn k)
  · intro hn
    exact ⟨0 + k, (h 0).trans hn⟩
/-- .. that ends at a place of an array -/
theorem gs_gx (k : Nat) {j : Int32} {N : Nat} {p1 : Nat} {l1 : List (Option gs_V)} {s1 : List gs_V} {d1 : gs_D} (h : ∀ n, gs_run Y P (n + k) pc l st d = gs_ix j N (gs_run Y P n p1 l1 s1 d1)) : gs_g Y P pc l st d = gs_ix j N (gs_g Y P p1 l1 s1 d1) := by
  by_cases hb : j < 0 ∨ N ≤ j.toNatClampNeg
  · rw [gs_ix, if_pos hb]
    exact gs_an k fun n => by rw [h n, gs_ix, if_pos hb]
  · rw [gs_ix, if_neg hb]
    exact gs_go k fun n => by rw [h n, gs_ix, if_neg hb]
theorem gs_gz (k : Nat) {j : Int32} {p1 : Nat} {l1 : List (Option gs_V)} {s1 : List gs_V} {d1 : gs_D} (h : ∀ n, gs_run Y P (n + k) pc l st d = gs_nz j (gs_run Y P n p1 l1 s1 d1)) : gs_g Y P pc l st d = gs_nz j (gs_g Y P p1 l1 s1 d1) := by
  by_cases hb : j = 0
  · rw [gs_nz, if_pos hb]
    exact gs_an k fun n => by rw [h n, gs_nz, if_pos hb]
  · rw [gs_nz, if_neg hb]
    exact gs_go k fun n => by rw [h n, gs_nz, if_neg hb]
theorem gs_gzl (k : Nat) {j : Int64} {p1 : Nat} {l1 : List (Option gs_V)} {s1 : List gs_V} {d1 : gs_D} (h : ∀ n, gs_run Y P (n + k) pc l st d = gs_nzl j (gs_run Y P n p1 l1 s1 d1)) : gs_g Y P pc l st d = gs_nzl j (gs_g Y P p1 l1 s1 d1) := by
  by_cases hb : j = 0
  · rw [gs_nzl, if_pos hb]
    exact gs_an k fun n => by rw [h n, gs_nzl, if_pos hb]
  · rw [gs_nzl, if_neg hb]
    exact gs_go k fun n => by rw [h n, gs_nzl, if_neg hb]
/-- .. that ends in a call -/
theorem gs_gc (k : Nat) {a : gs_R} {rest : List gs_V} {p1 : Nat} {l1 : List (Option gs_V)} (h : ∀ n, gs_run Y P (n + k) pc l st d = gs_af a rest (fun s1 d1 => gs_run Y P n p1 l1 s1 d1)) : gs_g Y P pc l st d = gs_af a rest (fun s1 d1 => gs_g Y P p1 l1 s1 d1) := by
  rcases a with _ | ⟨_ | v, d'⟩
  · exact gs_an k h
  · exact gs_go k h
  · exact gs_go k h
end BK
/-- what kind of answer: 0 none, 1 an int, 2 a boolean, 3 a long, 4 a reference -/
def gs_rk (k : Nat) (r : Option gs_V) : Bool := match k with
  | 0 => match r with
    | none => true
    | _ => false
  | 1 => match r with
    | some (.inl _) => true
    | _ => false
  | 2 => match r with
    | some (.inl x) => decide (x = 0 ∨ x = 1)
    | _ => false
  | 3 => match r with
    | some (.inr (.inl _)) => true
    | _ => false
  | _ => match r with
    | some (.inr (.inr _)) => true
    | _ => false
def gs_ck (k : Nat) (a : gs_R) : gs_R := match a with
  | some (r, d) => gs_b (gs_rk k r) (some (r, d))
  | none => none
/-- a method as a function: its locals, what kind it answers, its code -/
noncomputable def gs_f (Y : gs_Y) (nL k : Nat) (P : gs_P) : gs_F := fun av d =>
  gs_b (Nat.ble (gs_sl av).length nL) (gs_ck k (gs_g Y P 0 (gs_ent nL av) [] d))
/-- System.arraycopy, between int[] or between long[] -/
def gs_ac (Y : gs_Y) : gs_F := fun av d => match av with
  | [.inr (.inr a), .inl sp, .inr (.inr b), .inl dp, .inl n] => gs_b (decide (¬ sp < 0 ∧ ¬ dp < 0 ∧ ¬ n < 0 ∧ sp.toNatClampNeg + n.toNatClampNeg ≤ (Y.1 a.1).2.2 ∧ dp.toNatClampNeg + n.toNatClampNeg ≤ (Y.1 b.1).2.2)) (match (Y.1 a.1).1, (Y.1 b.1).1 with
    | 1, 1 => some (none, (fun t i => if t = b.1 ∧ i = b.2 then va_cpy (d.1 a.1 a.2) (d.1 b.1 b.2) sp.toNatClampNeg dp.toNatClampNeg n.toNatClampNeg else d.1 t i), d.2)
    | 3, 3 => some (none, d.1, (fun t i => if t = b.1 ∧ i = b.2 then va_cpy (d.2 a.1 a.2) (d.2 b.1 b.2) sp.toNatClampNeg dp.toNatClampNeg n.toNatClampNeg else d.2 t i))
    | _, _ => none)
  | _ => none
end
section
/-! The layout: which cells there are, and what they are. -/
def gs_ii (b i : Nat) : Nat := 40 * b + i
/-- a tag's kind, its number, its length -/
def gs_y1 : List (Nat × Nat × Nat × Nat) := [(0, 0, 0, 3), (1, 0, 1, 3), (2, 2, 1, 10), (3, 0, 2, 6), (4, 0, 3, 4), (5, 3, 2, 18), (6, 3, 2, 18), (7, 1, 0, 3), (8, 1, 0, 3), (9, 1, 0, 36), (10, 3, 2, 36), (11, 4, 3, 40), (12, 1, 0, 10), (13, 0, 4, 7), (20, 0, 5, 6), (21, 3, 2, 430), (22, 3, 2, 430), (23, 1, 0, 10), (24, 3, 2, 540), (25, 1, 0, 10)]
/-- how many of a tag -/
def gs_y0 : List (Nat × Nat) := [(0, 1), (1, 2), (2, 1), (3, 2), (4, 2), (5, 2), (6, 2), (7, 2), (8, 2), (9, 2), (10, 2), (11, 2), (12, 2), (13, 80), (20, 1), (21, 1), (22, 1), (23, 1), (24, 1), (25, 1)]
/-- the int fields -/
def gs_y2 : List (Nat × List Nat) := [(1, [0]), (4, [1, 3]), (13, [0, 1, 2, 3, 4, 5, 6]), (20, [3])]
def gs_or {α : Type} (o : Option α) (a : α) : α := match o with
  | some x => x
  | none => a
def gs_k2 (t k : Nat) : Nat := match (gs_or (gs_lk gs_y2 t) []).elem k with
  | true => 0
  | false => 2
/-- where a reference leads: of an object's field -/
def gs_y3 : List (Nat × List (Nat × Nat)) := [(1, [(1, 3), (2, 4)]), (3, [(0, 5), (1, 6), (2, 7), (3, 8), (4, 9), (5, 10)]), (4, [(0, 11), (2, 12)]), (20, [(0, 21), (1, 22), (2, 23), (4, 24), (5, 25)])]
def gs_k3 (t i k : Nat) : Nat × Nat := match Nat.beq t 11 with
  | true => (13, gs_ii i k)
  | false => match Nat.beq t 0 with
    | true => gs_or (gs_lk [(0, 1, 0), (1, 1, 1), (2, 2, 0)] k) (99, 0)
    | false => (gs_or (gs_lk (gs_or (gs_lk gs_y3 t) []) k) 99, i)
def Y0 : gs_Y := (fun t => gs_or (gs_lk gs_y1 t) (9, 0, 0), gs_k2, gs_k3, fun _ => 0)
def gs_pr (t i : Nat) : Bool := Nat.ble (i + 1) (gs_or (gs_lk gs_y0 t) 0)
def gs_RL : List (Nat × Nat) := gs_y0.flatMap fun e => (List.range e.2).map fun i => (e.1, i)
theorem gs_RL_pr {t i : Nat} (h : gs_pr t i = true) : ∃ q : Nat, gs_RL[q]? = some (t, i) := by
  have h := Nat.le_of_ble_eq_true h
  refine List.getElem?_of_mem ?_
  unfold gs_RL
  cases e : gs_lk gs_y0 t with
  | none =>
    rw [e] at h
    exact absurd h (by simp [gs_or])
  | some n =>
    rw [e] at h
    exact List.mem_flatMap.mpr ⟨(t, n), gs_lk_mem e, List.mem_map.mpr ⟨i, List.mem_range.mpr h, rfl⟩⟩
theorem gs_RL_nd : gs_RL.Nodup := by decide +kernel
end
section
/-! Numbers: every int is gs_n of an integer, every long gs_m of one. -/
def gs_n (x : Int) : Int32 := Int32.ofInt x
def gs_m (x : Int) : Int64 := Int64.ofInt x
theorem gs_ofi (x : Int) : Int32.ofInt x = gs_n x := rfl
theorem gs_n_of (x : Int32) : gs_n x.toInt = x := Int32.ofInt_toInt x
theorem gs_m_of (x : Int64) : gs_m x.toInt = x := Int64.ofInt_toInt x
theorem gs_n_rg (x : Int32) : -2147483648 ≤ x.toInt ∧ x.toInt < 2147483648 := by
  have a := x.le_toInt
  have b := x.toInt_lt
  omega
theorem gs_n_i {a : Int} (h1 : -2147483648 ≤ a) (h2 : a < 2147483648) : (gs_n a).toInt = a := Int32.toInt_ofInt_of_le (by omega) (by omega)
theorem gs_m_i {a : Int} (h1 : -9223372036854775808 ≤ a) (h2 : a < 9223372036854775808) : (gs_m a).toInt = a := Int64.toInt_ofInt_of_le (by omega) (by omega)
theorem gs_n_add (a b : Int) : gs_n a + gs_n b = gs_n (a + b) := (Int32.ofInt_add a b).symm
theorem gs_n_sub (a b : Int) : gs_n a - gs_n b = gs_n (a - b) := (Int32.ofInt_sub a b).symm
theorem gs_n_mul (a b : Int) : gs_n a * gs_n b = gs_n (a * b) := (Int32.ofInt_mul a b).symm
theorem gs_n_neg (a : Int) : -gs_n a = gs_n (-a) := Int32.neg_ofInt
theorem gs_m_add (a b : Int) : gs_m a + gs_m b = gs_m (a + b) := (Int64.ofInt_add a b).symm
theorem gs_m_sub (a b : Int) : gs_m a - gs_m b = gs_m (a - b) := (Int64.ofInt_sub a b).symm
theorem gs_m_mul (a b : Int) : gs_m a * gs_m b = gs_m (a * b) := (Int64.ofInt_mul a b).symm
theorem gs_m_neg (a : Int) : -gs_m a = gs_m (-a) := Int64.neg_ofInt
theorem gs_n_div {a b : Int} (h1 : 0 ≤ a) (h2 : a < 2147483648) (h3 : 0 < b) (h4 : b < 2147483648) : gs_n a / gs_n b = gs_n (a / b) := by
  have e := Int32.ofInt_tdiv (a := a) (b := b) (by rw [Int32.toInt_minValue]; omega) (by rw [Int32.toInt_maxValue]; omega) (by rw [Int32.toInt_minValue]; omega) (by rw [Int32.toInt_maxValue]; omega)
  rw [Int.tdiv_eq_ediv_of_nonneg h1] at e
  exact e.symm
theorem gs_m_div {a b : Int} (h1 : 0 ≤ a) (h2 : a < 9223372036854775808) (h3 : 0 < b) (h4 : b < 9223372036854775808) : gs_m a / gs_m b = gs_m (a / b) := by
  have e := Int64.ofInt_tdiv (a := a) (b := b) (by rw [Int64.toInt_minValue]; omega) (by rw [Int64.toInt_maxValue]; omega) (by rw [Int64.toInt_minValue]; omega) (by rw [Int64.toInt_maxValue]; omega)
  rw [Int.tdiv_eq_ediv_of_nonneg h1] at e
  exact e.symm
theorem gs_n_l {a : Int} (h1 : -2147483648 ≤ a) (h2 : a < 2147483648) : (gs_n a).toInt64 = gs_m a := Int32.toInt64_ofInt (by rw [Int32.toInt_minValue]; omega) (by rw [Int32.toInt_maxValue]; omega)
theorem gs_m_n (a : Int) : (gs_m a).toInt32 = gs_n a := Int64.toInt32_ofInt
theorem gs_n_c {a : Int} (h1 : -2147483648 ≤ a) (h2 : a < 2147483648) : (gs_n a).toNatClampNeg = a.toNat := Int32.toNatClampNeg_ofInt_of_le (by omega) (by omega)
theorem gs_n8 {a : Int} (h1 : -128 ≤ a) (h2 : a ≤ 127) : (Int8.ofInt a).toInt32 = gs_n a := Int8.toInt32_ofInt (by rw [Int8.toInt_minValue]; omega) (by rw [Int8.toInt_maxValue]; omega)
theorem gs_n16 {a : Int} (h1 : -32768 ≤ a) (h2 : a ≤ 32767) : (Int16.ofInt a).toInt32 = gs_n a := Int16.toInt32_ofInt (by rw [Int16.toInt_minValue]; omega) (by rw [Int16.toInt_maxValue]; omega)
def gs_k0 : Int64 := Int64.ofNat ((0 : Fin 2) : Nat)
def gs_k1 : Int64 := Int64.ofNat ((1 : Fin 2) : Nat)
theorem gs_k0_m : gs_k0 = gs_m 0 := by decide
theorem gs_k1_m : gs_k1 = gs_m 1 := by decide
theorem gs_00 : (0 : Int32) = gs_n 0 := by decide
-- compares
theorem gs_eq_iff {a b : Int} (h1 : -2147483648 ≤ a) (h2 : a < 2147483648) (h3 : -2147483648 ≤ b) (h4 : b < 2147483648) : gs_n a = gs_n b ↔ a = b := by
  rw [← Int32.toInt_inj, gs_n_i h1 h2, gs_n_i h3 h4]
theorem gs_lt_iff {a b : Int} (h1 : -2147483648 ≤ a) (h2 : a < 2147483648) (h3 : -2147483648 ≤ b) (h4 : b < 2147483648) : gs_n a < gs_n b ↔ a < b := by
  rw [Int32.lt_iff_toInt_lt, gs_n_i h1 h2, gs_n_i h3 h4]
theorem gs_le_iff {a b : Int} (h1 : -2147483648 ≤ a) (h2 : a < 2147483648) (h3 : -2147483648 ≤ b) (h4 : b < 2147483648) : gs_n a ≤ gs_n b ↔ a ≤ b := by
  rw [Int32.le_iff_toInt_le, gs_n_i h1 h2, gs_n_i h3 h4]
theorem gs_eq_t {a b : Int} (h : a = b) : (gs_n a = gs_n b) = True := by rw [h]; exact eq_self _
theorem gs_eq_f1 {a b : Int} (h : a < b) (h1 : -2147483648 ≤ a) (h2 : b < 2147483648) : (gs_n a = gs_n b) = False := eq_false fun z => by
  have := (gs_eq_iff h1 (by omega) (by omega) h2).mp z
  omega
theorem gs_eq_f2 {a b : Int} (h : b < a) (h1 : -2147483648 ≤ b) (h2 : a < 2147483648) : (gs_n a = gs_n b) = False := eq_false fun z => by
  have := (gs_eq_iff (by omega) h2 h1 (by omega)).mp z
  omega
theorem gs_lt_t {a b : Int} (h : a < b) (h1 : -2147483648 ≤ a) (h2 : b < 2147483648) : (gs_n a < gs_n b) = True := eq_true ((gs_lt_iff h1 (by omega) (by omega) h2).mpr h)
theorem gs_lt_f {a b : Int} (h : b ≤ a) (h1 : -2147483648 ≤ b) (h2 : a < 2147483648) : (gs_n a < gs_n b) = False := eq_false fun z => by
  have := (gs_lt_iff (by omega) h2 h1 (by omega)).mp z
  omega
theorem gs_le_t {a b : Int} (h : a ≤ b) (h1 : -2147483648 ≤ a) (h2 : b < 2147483648) : (gs_n a ≤ gs_n b) = True := eq_true ((gs_le_iff h1 (by omega) (by omega) h2).mpr h)
theorem gs_le_f {a b : Int} (h : b < a) (h1 : -2147483648 ≤ b) (h2 : a < 2147483648) : (gs_n a ≤ gs_n b) = False := eq_false fun z => by
  have := (gs_le_iff (by omega) h2 h1 (by omega)).mp z
  omega
theorem gs_meq_iff {a b : Int} (h1 : -9223372036854775808 ≤ a) (h2 : a < 9223372036854775808) (h3 : -9223372036854775808 ≤ b) (h4 : b < 9223372036854775808) : gs_m a = gs_m b ↔ a = b := by
  rw [← Int64.toInt_inj, gs_m_i h1 h2, gs_m_i h3 h4]
theorem gs_mlt_iff {a b : Int} (h1 : -9223372036854775808 ≤ a) (h2 : a < 9223372036854775808) (h3 : -9223372036854775808 ≤ b) (h4 : b < 9223372036854775808) : gs_m a < gs_m b ↔ a < b := by
  rw [Int64.lt_iff_toInt_lt, gs_m_i h1 h2, gs_m_i h3 h4]
theorem gs_cmp_lt {a b : Int} (h : a < b) (h1 : -9223372036854775808 ≤ a) (h2 : b < 9223372036854775808) : lg_cmp (gs_m a) (gs_m b) = gs_n (-1) := by
  have x1 := gs_mlt_iff (a := b) (b := a) (by omega) h2 h1 (by omega)
  have x2 := gs_meq_iff (a := a) (b := b) h1 (by omega) (by omega) h2
  unfold lg_cmp
  rw [if_neg (fun z => by have := x1.mp z; omega), if_neg (fun z => by have := x2.mp z; omega)]
  decide
theorem gs_cmp_eq {a b : Int} (h : a = b) : lg_cmp (gs_m a) (gs_m b) = gs_n 0 := by
  subst h
  unfold lg_cmp
  rw [if_neg (fun z => Int64.lt_irrefl z), if_pos rfl]
  decide
theorem gs_cmp_gt {a b : Int} (h : b < a) (h1 : -9223372036854775808 ≤ b) (h2 : a < 9223372036854775808) : lg_cmp (gs_m a) (gs_m b) = gs_n 1 := by
  have x1 := gs_mlt_iff (a := b) (b := a) h1 (by omega) (by omega) h2
  unfold lg_cmp
  rw [if_pos (x1.mpr h)]
  decide
-- truth values
def gs_z (b : Bool) : Int := match b with
  | true => 1
  | false => 0
theorem gs_z_t {b : Bool} (h : b = true) : gs_z b = 1 := by rw [h]; rfl
theorem gs_z_f {b : Bool} (h : b = false) : gs_z b = 0 := by rw [h]; rfl
-- the machine's helpers, where they go on
theorem gs_ix_n {a : Int} {N : Nat} {x : gs_R} (h0 : 0 ≤ a) (h1 : a < N) (h2 : a < 2147483648) : gs_ix (gs_n a) N x = x := by
  unfold gs_ix
  rw [if_neg]
  rintro (h | h)
  · rw [gs_00, gs_lt_iff (by omega) (by omega) (by omega) (by omega)] at h
    omega
  · rw [gs_n_c (by omega) h2] at h
    omega
theorem gs_nz_n {a : Int} {x : gs_R} (h0 : 0 < a) (h1 : a < 2147483648) : gs_nz (gs_n a) x = x := by
  unfold gs_nz
  rw [if_neg]
  rw [gs_00, gs_eq_iff (by omega) (by omega) (by omega) (by omega)]
  omega
theorem gs_nzl_g {a : Int} {x : gs_R} (h0 : 0 < a) (h1 : a < 9223372036854775808) : gs_nzl (gs_m a) x = x := by
  unfold gs_nzl
  rw [if_neg]
  rw [show (0 : Int64) = gs_m 0 by decide, gs_meq_iff (by omega) (by omega) (by omega) (by omega)]
  omega
theorem gs_af1 {v : gs_V} {d : gs_D} {r : List gs_V} {k : List gs_V → gs_D → gs_R} : gs_af (some (some v, d)) r k = k (v :: r) d := rfl
theorem gs_af0 {d : gs_D} {r : List gs_V} {k : List gs_V → gs_D → gs_R} : gs_af (some (none, d)) r k = k r d := rfl
theorem gs_ck0 {d : gs_D} : gs_ck 0 (some (none, d)) = some (none, d) := rfl
theorem gs_ck1 {d : gs_D} {x : Int32} : gs_ck 1 (some (some (gs_i x), d)) = some (some (gs_i x), d) := rfl
theorem gs_ck2 {d : gs_D} {b : Bool} : gs_ck 2 (some (some (gs_i (gs_n (gs_z b))), d)) = some (some (gs_i (gs_n (gs_z b))), d) := by
  have e : gs_rk 2 (some (gs_i (gs_n (gs_z b)))) = true := by cases b <;> decide
  show gs_b (gs_rk 2 (some (gs_i (gs_n (gs_z b))))) _ = _
  rw [e]
  rfl
theorem gs_ck2t {d : gs_D} : gs_ck 2 (some (some (gs_i (gs_n 1)), d)) = some (some (gs_i (gs_n 1)), d) := gs_ck2 (b := true)
theorem gs_ck2f {d : gs_D} : gs_ck 2 (some (some (gs_i (gs_n 0)), d)) = some (some (gs_i (gs_n 0)), d) := gs_ck2 (b := false)
theorem gs_ck3 {d : gs_D} {x : Int64} : gs_ck 3 (some (some (gs_l x), d)) = some (some (gs_l x), d) := rfl
theorem gs_ck4 {d : gs_D} {t i : Nat} : gs_ck 4 (some (some (gs_r t i), d)) = some (some (gs_r t i), d) := rfl
theorem gs_nar1 : vp_nar .boolean (gs_n 1) = gs_n 1 := by decide
theorem gs_nar0 : vp_nar .boolean (gs_n 0) = gs_n 0 := by decide
-- reading what was written
theorem gs_rI {d : gs_D} {t i j a b c : Nat} {x : Int32} : (gs_wI d t i j x).1 a b c = if a = t ∧ b = i ∧ c = j then x else d.1 a b c := rfl
theorem gs_rIL {d : gs_D} {t i j : Nat} {x : Int32} : (gs_wI d t i j x).2 = d.2 := rfl
theorem gs_rL {d : gs_D} {t i j a b c : Nat} {x : Int64} : (gs_wL d t i j x).2 a b c = if a = t ∧ b = i ∧ c = j then x else d.2 a b c := rfl
theorem gs_rLI {d : gs_D} {t i j : Nat} {x : Int64} : (gs_wL d t i j x).1 = d.1 := rfl
theorem gs_zd_t {c : Prop} {i : Decidable c} (h : c) : gs_z (@decide c i) = 1 := gs_z_t (decide_eq_true h)
theorem gs_zd_f {c : Prop} {i : Decidable c} (h : ¬ c) : gs_z (@decide c i) = 0 := gs_z_f (decide_eq_false h)
theorem gs_zt_t : gs_z true = 1 := rfl
theorem gs_zt_f : gs_z false = 0 := rfl
theorem gs_ck_ite {k : Nat} {c : Prop} {i : Decidable c} {a b : gs_R} : gs_ck k (@ite gs_R c i a b) = @ite gs_R c i (gs_ck k a) (gs_ck k b) := by
  by_cases h : c
  · rw [if_pos h, if_pos h]
  · rw [if_neg h, if_neg h]
theorem gs_cge {a b : Int} (h1 : -9223372036854775808 ≤ a) (h2 : a < 9223372036854775808) (h3 : -9223372036854775808 ≤ b) (h4 : b < 9223372036854775808) : (gs_n 0 ≤ lg_cmp (gs_m a) (gs_m b)) ↔ b ≤ a := by
  rcases Int.lt_trichotomy a b with z | z | z
  · rw [gs_cmp_lt z h1 h4, gs_le_iff (by omega) (by omega) (by omega) (by omega)]
    omega
  · rw [gs_cmp_eq z, gs_le_iff (by omega) (by omega) (by omega) (by omega)]
    omega
  · rw [gs_cmp_gt z h3 h2, gs_le_iff (by omega) (by omega) (by omega) (by omega)]
    omega
theorem gs_clt {a b : Int} (h1 : -9223372036854775808 ≤ a) (h2 : a < 9223372036854775808) (h3 : -9223372036854775808 ≤ b) (h4 : b < 9223372036854775808) : (lg_cmp (gs_m a) (gs_m b) < gs_n 0) ↔ a < b := by
  rcases Int.lt_trichotomy a b with z | z | z
  · rw [gs_cmp_lt z h1 h4, gs_lt_iff (by omega) (by omega) (by omega) (by omega)]
    omega
  · rw [gs_cmp_eq z, gs_lt_iff (by omega) (by omega) (by omega) (by omega)]
    omega
  · rw [gs_cmp_gt z h3 h2, gs_lt_iff (by omega) (by omega) (by omega) (by omega)]
    omega
theorem gs_cle {a b : Int} (h1 : -9223372036854775808 ≤ a) (h2 : a < 9223372036854775808) (h3 : -9223372036854775808 ≤ b) (h4 : b < 9223372036854775808) : (lg_cmp (gs_m a) (gs_m b) ≤ gs_n 0) ↔ a ≤ b := by
  rcases Int.lt_trichotomy a b with z | z | z
  · rw [gs_cmp_lt z h1 h4, gs_le_iff (by omega) (by omega) (by omega) (by omega)]
    omega
  · rw [gs_cmp_eq z, gs_le_iff (by omega) (by omega) (by omega) (by omega)]
    omega
  · rw [gs_cmp_gt z h3 h2, gs_le_iff (by omega) (by omega) (by omega) (by omega)]
    omega
theorem gs_cgt {a b : Int} (h1 : -9223372036854775808 ≤ a) (h2 : a < 9223372036854775808) (h3 : -9223372036854775808 ≤ b) (h4 : b < 9223372036854775808) : (gs_n 0 < lg_cmp (gs_m a) (gs_m b)) ↔ b < a := by
  rcases Int.lt_trichotomy a b with z | z | z
  · rw [gs_cmp_lt z h1 h4, gs_lt_iff (by omega) (by omega) (by omega) (by omega)]
    omega
  · rw [gs_cmp_eq z, gs_lt_iff (by omega) (by omega) (by omega) (by omega)]
    omega
  · rw [gs_cmp_gt z h3 h2, gs_lt_iff (by omega) (by omega) (by omega) (by omega)]
    omega
theorem gs_ceq {a b : Int} (h1 : -9223372036854775808 ≤ a) (h2 : a < 9223372036854775808) (h3 : -9223372036854775808 ≤ b) (h4 : b < 9223372036854775808) : (lg_cmp (gs_m a) (gs_m b) = gs_n 0) ↔ a = b := by
  rcases Int.lt_trichotomy a b with z | z | z
  · rw [gs_cmp_lt z h1 h4, gs_eq_iff (by omega) (by omega) (by omega) (by omega)]
    omega
  · rw [gs_cmp_eq z, gs_eq_iff (by omega) (by omega) (by omega) (by omega)]
    omega
  · rw [gs_cmp_gt z h3 h2, gs_eq_iff (by omega) (by omega) (by omega) (by omega)]
    omega
theorem gs_tn (k : Nat) : (k : Int).toNat = k := by omega
end
section
def f_S_arraycopy : gs_F := gs_ac Y0
def I_G_isParticipant : List (Nat × Jvm.ClassFile.Instr × Nat) := [(0, .iload_n 0, 0), (1, .ifCond .lt 13, 14), (4, .iload_n 0, 0), (5, .bipush 6, 0), (7, .if_icmp .ge 7, 14), (10, .iconst 1, 0), (11, .goto 4, 15), (14, .iconst 0, 0), (15, .ireturn, 0)]
def F_G_isParticipant : List (Nat × Nat × Nat) := []
def K_G_isParticipant : List (Nat × gs_V) := []
noncomputable def C_G_isParticipant : List (Nat × Nat × Nat × gs_F) := []
noncomputable def P_G_isParticipant : gs_P := (gs_lk I_G_isParticipant, gs_lk F_G_isParticipant, gs_lk K_G_isParticipant, gs_lk C_G_isParticipant)
noncomputable def f_G_isParticipant : gs_F := gs_f Y0 1 2 P_G_isParticipant
theorem e_G_isParticipant (a0 : Int32) (d : gs_D) : f_G_isParticipant [(gs_i a0)] d = gs_ck 2 (gs_g Y0 P_G_isParticipant 0 [some (gs_i a0)] [] d) := rfl
theorem k_G_isParticipant_0 (a0 : Int32) (d : gs_D) : gs_g Y0 P_G_isParticipant 0 [some (gs_i a0)] [] d = if a0 < 0 then gs_g Y0 P_G_isParticipant 14 [some (gs_i a0)] [] d else gs_g Y0 P_G_isParticipant 4 [some (gs_i a0)] [] d := gs_if 2 (fun _ => rfl)
theorem k_G_isParticipant_4 (a0 : Int32) (d : gs_D) : gs_g Y0 P_G_isParticipant 4 [some (gs_i a0)] [] d = if (Int8.ofInt 6).toInt32 ≤ a0 then gs_g Y0 P_G_isParticipant 14 [some (gs_i a0)] [] d else gs_g Y0 P_G_isParticipant 10 [some (gs_i a0)] [] d := gs_if 3 (fun _ => rfl)
theorem k_G_isParticipant_10 (a0 : Int32) (d : gs_D) : gs_g Y0 P_G_isParticipant 10 [some (gs_i a0)] [] d = some (some (gs_i (gs_n 1)), d) := gs_an 3 (fun _ => rfl)
theorem k_G_isParticipant_14 (a0 : Int32) (d : gs_D) : gs_g Y0 P_G_isParticipant 14 [some (gs_i a0)] [] d = some (some (gs_i (gs_n 0)), d) := gs_an 2 (fun _ => rfl)
def I_G_isAsset : List (Nat × Jvm.ClassFile.Instr × Nat) := [(0, .iload_n 0, 0), (1, .ifCond .lt 12, 13), (4, .iload_n 0, 0), (5, .iconst 3, 0), (6, .if_icmp .ge 7, 13), (9, .iconst 1, 0), (10, .goto 4, 14), (13, .iconst 0, 0), (14, .ireturn, 0)]
def F_G_isAsset : List (Nat × Nat × Nat) := []
def K_G_isAsset : List (Nat × gs_V) := []
noncomputable def C_G_isAsset : List (Nat × Nat × Nat × gs_F) := []
noncomputable def P_G_isAsset : gs_P := (gs_lk I_G_isAsset, gs_lk F_G_isAsset, gs_lk K_G_isAsset, gs_lk C_G_isAsset)
noncomputable def f_G_isAsset : gs_F := gs_f Y0 1 2 P_G_isAsset
theorem e_G_isAsset (a0 : Int32) (d : gs_D) : f_G_isAsset [(gs_i a0)] d = gs_ck 2 (gs_g Y0 P_G_isAsset 0 [some (gs_i a0)] [] d) := rfl
theorem k_G_isAsset_0 (a0 : Int32) (d : gs_D) : gs_g Y0 P_G_isAsset 0 [some (gs_i a0)] [] d = if a0 < 0 then gs_g Y0 P_G_isAsset 13 [some (gs_i a0)] [] d else gs_g Y0 P_G_isAsset 4 [some (gs_i a0)] [] d := gs_if 2 (fun _ => rfl)
theorem k_G_isAsset_4 (a0 : Int32) (d : gs_D) : gs_g Y0 P_G_isAsset 4 [some (gs_i a0)] [] d = if (gs_n 3) ≤ a0 then gs_g Y0 P_G_isAsset 13 [some (gs_i a0)] [] d else gs_g Y0 P_G_isAsset 9 [some (gs_i a0)] [] d := gs_if 3 (fun _ => rfl)
theorem k_G_isAsset_9 (a0 : Int32) (d : gs_D) : gs_g Y0 P_G_isAsset 9 [some (gs_i a0)] [] d = some (some (gs_i (gs_n 1)), d) := gs_an 3 (fun _ => rfl)
theorem k_G_isAsset_13 (a0 : Int32) (d : gs_D) : gs_g Y0 P_G_isAsset 13 [some (gs_i a0)] [] d = some (some (gs_i (gs_n 0)), d) := gs_an 2 (fun _ => rfl)
def I_G_isAmount : List (Nat × Jvm.ClassFile.Instr × Nat) := [(0, .iload_n 0, 0), (1, .iconst 1, 0), (2, .if_icmp .lt 13, 15), (5, .iload_n 0, 0), (6, .ldc 73, 0), (8, .if_icmp .gt 7, 15), (11, .iconst 1, 0), (12, .goto 4, 16), (15, .iconst 0, 0), (16, .ireturn, 0)]
def F_G_isAmount : List (Nat × Nat × Nat) := []
def K_G_isAmount : List (Nat × gs_V) := [(73, gs_i (gs_n 1000000))]
noncomputable def C_G_isAmount : List (Nat × Nat × Nat × gs_F) := []
noncomputable def P_G_isAmount : gs_P := (gs_lk I_G_isAmount, gs_lk F_G_isAmount, gs_lk K_G_isAmount, gs_lk C_G_isAmount)
noncomputable def f_G_isAmount : gs_F := gs_f Y0 1 2 P_G_isAmount
theorem e_G_isAmount (a0 : Int32) (d : gs_D) : f_G_isAmount [(gs_i a0)] d = gs_ck 2 (gs_g Y0 P_G_isAmount 0 [some (gs_i a0)] [] d) := rfl
theorem k_G_isAmount_0 (a0 : Int32) (d : gs_D) : gs_g Y0 P_G_isAmount 0 [some (gs_i a0)] [] d = if a0 < (gs_n 1) then gs_g Y0 P_G_isAmount 15 [some (gs_i a0)] [] d else gs_g Y0 P_G_isAmount 5 [some (gs_i a0)] [] d := gs_if 3 (fun _ => rfl)
theorem k_G_isAmount_5 (a0 : Int32) (d : gs_D) : gs_g Y0 P_G_isAmount 5 [some (gs_i a0)] [] d = if (gs_n 1000000) < a0 then gs_g Y0 P_G_isAmount 15 [some (gs_i a0)] [] d else gs_g Y0 P_G_isAmount 11 [some (gs_i a0)] [] d := gs_if 3 (fun _ => rfl)
theorem k_G_isAmount_11 (a0 : Int32) (d : gs_D) : gs_g Y0 P_G_isAmount 11 [some (gs_i a0)] [] d = some (some (gs_i (gs_n 1)), d) := gs_an 3 (fun _ => rfl)
theorem k_G_isAmount_15 (a0 : Int32) (d : gs_D) : gs_g Y0 P_G_isAmount 15 [some (gs_i a0)] [] d = some (some (gs_i (gs_n 0)), d) := gs_an 2 (fun _ => rfl)
def I_G_holding : List (Nat × Jvm.ClassFile.Instr × Nat) := [(0, .iload_n 0, 0), (1, .iconst 3, 0), (2, .imul, 0), (3, .iload_n 1, 0), (4, .iadd, 0), (5, .ireturn, 0)]
def F_G_holding : List (Nat × Nat × Nat) := []
def K_G_holding : List (Nat × gs_V) := []
noncomputable def C_G_holding : List (Nat × Nat × Nat × gs_F) := []
noncomputable def P_G_holding : gs_P := (gs_lk I_G_holding, gs_lk F_G_holding, gs_lk K_G_holding, gs_lk C_G_holding)
noncomputable def f_G_holding : gs_F := gs_f Y0 2 1 P_G_holding
theorem e_G_holding (a0 : Int32) (a1 : Int32) (d : gs_D) : f_G_holding [(gs_i a0), (gs_i a1)] d = gs_ck 1 (gs_g Y0 P_G_holding 0 [some (gs_i a0), some (gs_i a1)] [] d) := rfl
theorem k_G_holding_0 (a0 : Int32) (a1 : Int32) (d : gs_D) : gs_g Y0 P_G_holding 0 [some (gs_i a0), some (gs_i a1)] [] d = some (some (gs_i ((a0 * (gs_n 3)) + a1)), d) := gs_an 6 (fun _ => rfl)
def I_G_issue : List (Nat × Jvm.ClassFile.Instr × Nat) := [(0, .iload_n 1, 0), (1, .invokestatic 23, 0), (4, .ifCond .eq 27, 31), (7, .iload_n 2, 0), (8, .invokestatic 27, 0), (11, .ifCond .eq 20, 31), (14, .iload_n 3, 0), (15, .invokestatic 30, 0), (18, .ifCond .eq 13, 31), (21, .aload_n 0, 0), (22, .getfield 12, 0), (25, .getfield 33, 0), (28, .ifCond .eq 5, 33), (31, .iconst 0, 0), (32, .ireturn, 0), (33, .aload_n 0, 0), (34, .getfield 12, 0), (37, .getfield 37, 0), (40, .getfield 41, 0), (43, .iload_n 1, 0), (44, .iload_n 2, 0), (45, .invokestatic 47, 0), (48, .dup2, 0), (49, .laload, 0), (50, .iload_n 3, 0), (51, .i2l, 0), (52, .ladd, 0), (53, .lastore, 0), (54, .iconst 1, 0), (55, .ireturn, 0)]
def F_G_issue : List (Nat × Nat × Nat) := [(12, 0, 0), (33, 1, 0), (37, 1, 1), (41, 2, 0)]
def K_G_issue : List (Nat × gs_V) := []
noncomputable def C_G_issue : List (Nat × Nat × Nat × gs_F) := [(23, 1, 1000, f_G_isParticipant), (27, 1, 1000, f_G_isAsset), (30, 1, 1000, f_G_isAmount), (47, 2, 1000, f_G_holding)]
noncomputable def P_G_issue : gs_P := (gs_lk I_G_issue, gs_lk F_G_issue, gs_lk K_G_issue, gs_lk C_G_issue)
noncomputable def f_G_issue : gs_F := gs_f Y0 4 2 P_G_issue
theorem e_G_issue (a0 : Nat) (a1 : Int32) (a2 : Int32) (a3 : Int32) (d : gs_D) : f_G_issue [(gs_r 0 a0), (gs_i a1), (gs_i a2), (gs_i a3)] d = gs_ck 2 (gs_g Y0 P_G_issue 0 [some (gs_r 0 a0), some (gs_i a1), some (gs_i a2), some (gs_i a3)] [] d) := rfl
theorem k_G_issue_0 (a0 : Nat) (a1 : Int32) (a2 : Int32) (a3 : Int32) (d : gs_D) : gs_g Y0 P_G_issue 0 [some (gs_r 0 a0), some (gs_i a1), some (gs_i a2), some (gs_i a3)] [] d = gs_af (f_G_isParticipant [(gs_i a1)] d) [] (fun s9 d9 => gs_g Y0 P_G_issue 4 [some (gs_r 0 a0), some (gs_i a1), some (gs_i a2), some (gs_i a3)] s9 d9) := gs_gc 2 (fun _ => rfl)
theorem k_G_issue_4 (a0 : Nat) (a1 : Int32) (a2 : Int32) (a3 : Int32) (s0 : Int32) (d : gs_D) : gs_g Y0 P_G_issue 4 [some (gs_r 0 a0), some (gs_i a1), some (gs_i a2), some (gs_i a3)] [(gs_i s0)] d = if s0 = 0 then gs_g Y0 P_G_issue 31 [some (gs_r 0 a0), some (gs_i a1), some (gs_i a2), some (gs_i a3)] [] d else gs_g Y0 P_G_issue 7 [some (gs_r 0 a0), some (gs_i a1), some (gs_i a2), some (gs_i a3)] [] d := gs_if 1 (fun _ => rfl)
theorem k_G_issue_7 (a0 : Nat) (a1 : Int32) (a2 : Int32) (a3 : Int32) (d : gs_D) : gs_g Y0 P_G_issue 7 [some (gs_r 0 a0), some (gs_i a1), some (gs_i a2), some (gs_i a3)] [] d = gs_af (f_G_isAsset [(gs_i a2)] d) [] (fun s9 d9 => gs_g Y0 P_G_issue 11 [some (gs_r 0 a0), some (gs_i a1), some (gs_i a2), some (gs_i a3)] s9 d9) := gs_gc 2 (fun _ => rfl)
theorem k_G_issue_11 (a0 : Nat) (a1 : Int32) (a2 : Int32) (a3 : Int32) (s0 : Int32) (d : gs_D) : gs_g Y0 P_G_issue 11 [some (gs_r 0 a0), some (gs_i a1), some (gs_i a2), some (gs_i a3)] [(gs_i s0)] d = if s0 = 0 then gs_g Y0 P_G_issue 31 [some (gs_r 0 a0), some (gs_i a1), some (gs_i a2), some (gs_i a3)] [] d else gs_g Y0 P_G_issue 14 [some (gs_r 0 a0), some (gs_i a1), some (gs_i a2), some (gs_i a3)] [] d := gs_if 1 (fun _ => rfl)
theorem k_G_issue_14 (a0 : Nat) (a1 : Int32) (a2 : Int32) (a3 : Int32) (d : gs_D) : gs_g Y0 P_G_issue 14 [some (gs_r 0 a0), some (gs_i a1), some (gs_i a2), some (gs_i a3)] [] d = gs_af (f_G_isAmount [(gs_i a3)] d) [] (fun s9 d9 => gs_g Y0 P_G_issue 18 [some (gs_r 0 a0), some (gs_i a1), some (gs_i a2), some (gs_i a3)] s9 d9) := gs_gc 2 (fun _ => rfl)
theorem k_G_issue_18 (a0 : Nat) (a1 : Int32) (a2 : Int32) (a3 : Int32) (s0 : Int32) (d : gs_D) : gs_g Y0 P_G_issue 18 [some (gs_r 0 a0), some (gs_i a1), some (gs_i a2), some (gs_i a3)] [(gs_i s0)] d = if s0 = 0 then gs_g Y0 P_G_issue 31 [some (gs_r 0 a0), some (gs_i a1), some (gs_i a2), some (gs_i a3)] [] d else gs_g Y0 P_G_issue 21 [some (gs_r 0 a0), some (gs_i a1), some (gs_i a2), some (gs_i a3)] [] d := gs_if 1 (fun _ => rfl)
theorem k_G_issue_21 (a0 : Nat) (a1 : Int32) (a2 : Int32) (a3 : Int32) (d : gs_D) : gs_g Y0 P_G_issue 21 [some (gs_r 0 a0), some (gs_i a1), some (gs_i a2), some (gs_i a3)] [] d = if (d.1 1 0 0) = 0 then gs_g Y0 P_G_issue 33 [some (gs_r 0 a0), some (gs_i a1), some (gs_i a2), some (gs_i a3)] [] d else gs_g Y0 P_G_issue 31 [some (gs_r 0 a0), some (gs_i a1), some (gs_i a2), some (gs_i a3)] [] d := gs_if 4 (fun _ => rfl)
theorem k_G_issue_31 (a0 : Nat) (a1 : Int32) (a2 : Int32) (a3 : Int32) (d : gs_D) : gs_g Y0 P_G_issue 31 [some (gs_r 0 a0), some (gs_i a1), some (gs_i a2), some (gs_i a3)] [] d = some (some (gs_i (gs_n 0)), d) := gs_an 2 (fun _ => rfl)
theorem k_G_issue_33 (a0 : Nat) (a1 : Int32) (a2 : Int32) (a3 : Int32) (d : gs_D) : gs_g Y0 P_G_issue 33 [some (gs_r 0 a0), some (gs_i a1), some (gs_i a2), some (gs_i a3)] [] d = gs_af (f_G_holding [(gs_i a1), (gs_i a2)] d) [(gs_r 5 0)] (fun s9 d9 => gs_g Y0 P_G_issue 48 [some (gs_r 0 a0), some (gs_i a1), some (gs_i a2), some (gs_i a3)] s9 d9) := gs_gc 7 (fun _ => rfl)
theorem k_G_issue_48 (a0 : Nat) (a1 : Int32) (a2 : Int32) (a3 : Int32) (s0 : Nat) (s1 : Int32) (d : gs_D) : gs_g Y0 P_G_issue 48 [some (gs_r 0 a0), some (gs_i a1), some (gs_i a2), some (gs_i a3)] [(gs_i s1), (gs_r 5 s0)] d = gs_ix s1 18 (gs_g Y0 P_G_issue 50 [some (gs_r 0 a0), some (gs_i a1), some (gs_i a2), some (gs_i a3)] [(gs_l (d.2 5 s0 s1.toNatClampNeg)), (gs_i s1), (gs_r 5 s0)] d) := gs_gx 2 (fun _ => rfl)
theorem k_G_issue_50 (a0 : Nat) (a1 : Int32) (a2 : Int32) (a3 : Int32) (s0 : Nat) (s1 : Int32) (s2 : Int64) (d : gs_D) : gs_g Y0 P_G_issue 50 [some (gs_r 0 a0), some (gs_i a1), some (gs_i a2), some (gs_i a3)] [(gs_l s2), (gs_i s1), (gs_r 5 s0)] d = gs_ix s1 18 (gs_g Y0 P_G_issue 54 [some (gs_r 0 a0), some (gs_i a1), some (gs_i a2), some (gs_i a3)] [] (gs_wL d 5 s0 s1.toNatClampNeg (s2 + a3.toInt64))) := gs_gx 4 (fun _ => rfl)
theorem k_G_issue_54 (a0 : Nat) (a1 : Int32) (a2 : Int32) (a3 : Int32) (d : gs_D) : gs_g Y0 P_G_issue 54 [some (gs_r 0 a0), some (gs_i a1), some (gs_i a2), some (gs_i a3)] [] d = some (some (gs_i (gs_n 1)), d) := gs_an 2 (fun _ => rfl)
def I_G_isSecurity : List (Nat × Jvm.ClassFile.Instr × Nat) := [(0, .iload_n 0, 0), (1, .invokestatic 27, 0), (4, .ifCond .eq 11, 15), (7, .iload_n 0, 0), (8, .ifCond .eq 7, 15), (11, .iconst 1, 0), (12, .goto 4, 16), (15, .iconst 0, 0), (16, .ireturn, 0)]
def F_G_isSecurity : List (Nat × Nat × Nat) := []
def K_G_isSecurity : List (Nat × gs_V) := []
noncomputable def C_G_isSecurity : List (Nat × Nat × Nat × gs_F) := [(27, 1, 1000, f_G_isAsset)]
noncomputable def P_G_isSecurity : gs_P := (gs_lk I_G_isSecurity, gs_lk F_G_isSecurity, gs_lk K_G_isSecurity, gs_lk C_G_isSecurity)
noncomputable def f_G_isSecurity : gs_F := gs_f Y0 1 2 P_G_isSecurity
theorem e_G_isSecurity (a0 : Int32) (d : gs_D) : f_G_isSecurity [(gs_i a0)] d = gs_ck 2 (gs_g Y0 P_G_isSecurity 0 [some (gs_i a0)] [] d) := rfl
theorem k_G_isSecurity_0 (a0 : Int32) (d : gs_D) : gs_g Y0 P_G_isSecurity 0 [some (gs_i a0)] [] d = gs_af (f_G_isAsset [(gs_i a0)] d) [] (fun s9 d9 => gs_g Y0 P_G_isSecurity 4 [some (gs_i a0)] s9 d9) := gs_gc 2 (fun _ => rfl)
theorem k_G_isSecurity_4 (a0 : Int32) (s0 : Int32) (d : gs_D) : gs_g Y0 P_G_isSecurity 4 [some (gs_i a0)] [(gs_i s0)] d = if s0 = 0 then gs_g Y0 P_G_isSecurity 15 [some (gs_i a0)] [] d else gs_g Y0 P_G_isSecurity 7 [some (gs_i a0)] [] d := gs_if 1 (fun _ => rfl)
theorem k_G_isSecurity_7 (a0 : Int32) (d : gs_D) : gs_g Y0 P_G_isSecurity 7 [some (gs_i a0)] [] d = if a0 = 0 then gs_g Y0 P_G_isSecurity 15 [some (gs_i a0)] [] d else gs_g Y0 P_G_isSecurity 11 [some (gs_i a0)] [] d := gs_if 2 (fun _ => rfl)
theorem k_G_isSecurity_11 (a0 : Int32) (d : gs_D) : gs_g Y0 P_G_isSecurity 11 [some (gs_i a0)] [] d = some (some (gs_i (gs_n 1)), d) := gs_an 3 (fun _ => rfl)
theorem k_G_isSecurity_15 (a0 : Int32) (d : gs_D) : gs_g Y0 P_G_isSecurity 15 [some (gs_i a0)] [] d = some (some (gs_i (gs_n 0)), d) := gs_an 2 (fun _ => rfl)
def I_A_creditOf : List (Nat × Jvm.ClassFile.Instr × Nat) := [(0, .iload_n 1, 0), (1, .iconst 3, 0), (2, .imul, 0), (3, .istore_n 2, 0), (4, .lconst 0, 0), (5, .lstore_n 3, 0), (6, .iconst 1, 0), (7, .istore 5, 0), (9, .iload 5, 0), (11, .iconst 3, 0), (12, .if_icmp .ge 46, 58), (15, .lload_n 3, 0), (16, .aload_n 0, 0), (17, .getfield 15, 0), (20, .iload_n 2, 0), (21, .iload 5, 0), (23, .iadd, 0), (24, .laload, 0), (25, .aload_n 0, 0), (26, .getfield 18, 0), (29, .iload 5, 0), (31, .iaload, 0), (32, .i2l, 0), (33, .lmul, 0), (34, .bipush 100, 0), (36, .aload_n 0, 0), (37, .getfield 22, 0), (40, .iload 5, 0), (42, .iaload, 0), (43, .isub, 0), (44, .i2l, 0), (45, .lmul, 0), (46, .ldc2_w 31, 0), (49, .ldiv, 0), (50, .ladd, 0), (51, .lstore_n 3, 0), (52, .iinc 5 1, 0), (55, .goto (-46), 9), (58, .lload_n 3, 0), (59, .lreturn, 0)]
def F_A_creditOf : List (Nat × Nat × Nat) := [(15, 2, 1), (18, 2, 2), (22, 2, 3)]
def K_A_creditOf : List (Nat × gs_V) := [(31, gs_l (gs_m 100))]
noncomputable def C_A_creditOf : List (Nat × Nat × Nat × gs_F) := []
noncomputable def P_A_creditOf : gs_P := (gs_lk I_A_creditOf, gs_lk F_A_creditOf, gs_lk K_A_creditOf, gs_lk C_A_creditOf)
noncomputable def f_A_creditOf : gs_F := gs_f Y0 6 3 P_A_creditOf
theorem e_A_creditOf (a0 : Nat) (a1 : Int32) (d : gs_D) : f_A_creditOf [(gs_r 3 a0), (gs_i a1)] d = gs_ck 3 (gs_g Y0 P_A_creditOf 0 [some (gs_r 3 a0), some (gs_i a1), none, none, none, none] [] d) := rfl
theorem k_A_creditOf_0 (a0 : Nat) (a1 : Int32) (d : gs_D) : gs_g Y0 P_A_creditOf 0 [some (gs_r 3 a0), some (gs_i a1), none, none, none, none] [] d = gs_g Y0 P_A_creditOf 9 [some (gs_r 3 a0), some (gs_i a1), some (gs_i (a1 * (gs_n 3))), some (gs_l gs_k0), none, some (gs_i (gs_n 1))] [] d := gs_gs 7 (fun _ => rfl)
theorem k_A_creditOf_9 (a0 : Nat) (a1 : Int32) (a2 : Int32) (a3 : Int64) (a5 : Int32) (d : gs_D) : gs_g Y0 P_A_creditOf 9 [some (gs_r 3 a0), some (gs_i a1), some (gs_i a2), some (gs_l a3), none, some (gs_i a5)] [] d = if (gs_n 3) ≤ a5 then gs_g Y0 P_A_creditOf 58 [some (gs_r 3 a0), some (gs_i a1), some (gs_i a2), some (gs_l a3), none, some (gs_i a5)] [] d else gs_g Y0 P_A_creditOf 15 [some (gs_r 3 a0), some (gs_i a1), some (gs_i a2), some (gs_l a3), none, some (gs_i a5)] [] d := gs_if 3 (fun _ => rfl)
theorem k_A_creditOf_15 (a0 : Nat) (a1 : Int32) (a2 : Int32) (a3 : Int64) (a5 : Int32) (d : gs_D) : gs_g Y0 P_A_creditOf 15 [some (gs_r 3 a0), some (gs_i a1), some (gs_i a2), some (gs_l a3), none, some (gs_i a5)] [] d = gs_ix (a2 + a5) 18 (gs_g Y0 P_A_creditOf 25 [some (gs_r 3 a0), some (gs_i a1), some (gs_i a2), some (gs_l a3), none, some (gs_i a5)] [(gs_l (d.2 6 a0 (a2 + a5).toNatClampNeg)), (gs_l a3)] d) := gs_gx 7 (fun _ => rfl)
theorem k_A_creditOf_25 (a0 : Nat) (a1 : Int32) (a2 : Int32) (a3 : Int64) (a5 : Int32) (s0 : Int64) (s1 : Int64) (d : gs_D) : gs_g Y0 P_A_creditOf 25 [some (gs_r 3 a0), some (gs_i a1), some (gs_i a2), some (gs_l a3), none, some (gs_i a5)] [(gs_l s1), (gs_l s0)] d = gs_ix a5 3 (gs_g Y0 P_A_creditOf 32 [some (gs_r 3 a0), some (gs_i a1), some (gs_i a2), some (gs_l a3), none, some (gs_i a5)] [(gs_i (d.1 7 a0 a5.toNatClampNeg)), (gs_l s1), (gs_l s0)] d) := gs_gx 4 (fun _ => rfl)
theorem k_A_creditOf_32 (a0 : Nat) (a1 : Int32) (a2 : Int32) (a3 : Int64) (a5 : Int32) (s0 : Int64) (s1 : Int64) (s2 : Int32) (d : gs_D) : gs_g Y0 P_A_creditOf 32 [some (gs_r 3 a0), some (gs_i a1), some (gs_i a2), some (gs_l a3), none, some (gs_i a5)] [(gs_i s2), (gs_l s1), (gs_l s0)] d = gs_ix a5 3 (gs_g Y0 P_A_creditOf 43 [some (gs_r 3 a0), some (gs_i a1), some (gs_i a2), some (gs_l a3), none, some (gs_i a5)] [(gs_i (d.1 8 a0 a5.toNatClampNeg)), (gs_i (Int8.ofInt 100).toInt32), (gs_l (s1 * s2.toInt64)), (gs_l s0)] d) := gs_gx 7 (fun _ => rfl)
theorem k_A_creditOf_43 (a0 : Nat) (a1 : Int32) (a2 : Int32) (a3 : Int64) (a5 : Int32) (s0 : Int64) (s1 : Int64) (s2 : Int32) (s3 : Int32) (d : gs_D) : gs_g Y0 P_A_creditOf 43 [some (gs_r 3 a0), some (gs_i a1), some (gs_i a2), some (gs_l a3), none, some (gs_i a5)] [(gs_i s3), (gs_i s2), (gs_l s1), (gs_l s0)] d = gs_nzl (gs_m 100) (gs_g Y0 P_A_creditOf 50 [some (gs_r 3 a0), some (gs_i a1), some (gs_i a2), some (gs_l a3), none, some (gs_i a5)] [(gs_l ((s1 * (s2 - s3).toInt64) / (gs_m 100))), (gs_l s0)] d) := gs_gzl 5 (fun _ => rfl)
theorem k_A_creditOf_50 (a0 : Nat) (a1 : Int32) (a2 : Int32) (a3 : Int64) (a5 : Int32) (s0 : Int64) (s1 : Int64) (d : gs_D) : gs_g Y0 P_A_creditOf 50 [some (gs_r 3 a0), some (gs_i a1), some (gs_i a2), some (gs_l a3), none, some (gs_i a5)] [(gs_l s1), (gs_l s0)] d = gs_g Y0 P_A_creditOf 9 [some (gs_r 3 a0), some (gs_i a1), some (gs_i a2), some (gs_l (s0 + s1)), none, some (gs_i (a5 + gs_n 1))] [] d := gs_gs 3 (fun _ => rfl)
theorem k_A_creditOf_58 (a0 : Nat) (a1 : Int32) (a2 : Int32) (a3 : Int64) (a5 : Int32) (d : gs_D) : gs_g Y0 P_A_creditOf 58 [some (gs_r 3 a0), some (gs_i a1), some (gs_i a2), some (gs_l a3), none, some (gs_i a5)] [] d = some (some (gs_l a3), d) := gs_an 2 (fun _ => rfl)
def I_A_room : List (Nat × Jvm.ClassFile.Instr × Nat) := [(0, .iload_n 1, 0), (1, .bipush 18, 0), (3, .if_icmp .lt 39, 42), (6, .iload_n 1, 0), (7, .bipush 18, 0), (9, .isub, 0), (10, .istore_n 2, 0), (11, .aload_n 0, 0), (12, .getfield 25, 0), (15, .iload_n 2, 0), (16, .iaload, 0), (17, .iconst (-1), 0), (18, .if_icmp .ne 9, 27), (21, .ldc2_w 33, 0), (24, .goto 17, 41), (27, .aload_n 0, 0), (28, .getfield 25, 0), (31, .iload_n 2, 0), (32, .iaload, 0), (33, .i2l, 0), (34, .aload_n 0, 0), (35, .getfield 28, 0), (38, .iload_n 2, 0), (39, .laload, 0), (40, .lsub, 0), (41, .lreturn, 0), (42, .iload_n 1, 0), (43, .iconst 3, 0), (44, .irem, 0), (45, .ifCond .ne 7, 52), (48, .iconst 1, 0), (49, .goto 4, 53), (52, .iconst 0, 0), (53, .istore_n 2, 0), (54, .iload_n 2, 0), (55, .ifCond .eq 20, 75), (58, .aload_n 0, 0), (59, .getfield 9, 0), (62, .iload_n 1, 0), (63, .laload, 0), (64, .aload_n 0, 0), (65, .iload_n 1, 0), (66, .iconst 3, 0), (67, .idiv, 0), (68, .invokevirtual 35, 0), (71, .ladd, 0), (72, .goto 9, 81), (75, .aload_n 0, 0), (76, .getfield 9, 0), (79, .iload_n 1, 0), (80, .laload, 0), (81, .lreturn, 0)]
def F_A_room : List (Nat × Nat × Nat) := [(25, 2, 4), (28, 2, 5), (9, 2, 0)]
def K_A_room : List (Nat × gs_V) := [(33, gs_l (gs_m 4611686018427387904))]
noncomputable def C_A_room : List (Nat × Nat × Nat × gs_F) := [(35, 1, 2, f_A_creditOf)]
noncomputable def P_A_room : gs_P := (gs_lk I_A_room, gs_lk F_A_room, gs_lk K_A_room, gs_lk C_A_room)
noncomputable def f_A_room : gs_F := gs_f Y0 3 3 P_A_room
theorem e_A_room (a0 : Nat) (a1 : Int32) (d : gs_D) : f_A_room [(gs_r 3 a0), (gs_i a1)] d = gs_ck 3 (gs_g Y0 P_A_room 0 [some (gs_r 3 a0), some (gs_i a1), none] [] d) := rfl
theorem k_A_room_0 (a0 : Nat) (a1 : Int32) (d : gs_D) : gs_g Y0 P_A_room 0 [some (gs_r 3 a0), some (gs_i a1), none] [] d = if a1 < (Int8.ofInt 18).toInt32 then gs_g Y0 P_A_room 42 [some (gs_r 3 a0), some (gs_i a1), none] [] d else gs_g Y0 P_A_room 6 [some (gs_r 3 a0), some (gs_i a1), none] [] d := gs_if 3 (fun _ => rfl)
theorem k_A_room_6 (a0 : Nat) (a1 : Int32) (d : gs_D) : gs_g Y0 P_A_room 6 [some (gs_r 3 a0), some (gs_i a1), none] [] d = gs_ix (a1 - (Int8.ofInt 18).toInt32) 36 (gs_g Y0 P_A_room 17 [some (gs_r 3 a0), some (gs_i a1), some (gs_i (a1 - (Int8.ofInt 18).toInt32))] [(gs_i (d.1 9 a0 (a1 - (Int8.ofInt 18).toInt32).toNatClampNeg))] d) := gs_gx 8 (fun _ => rfl)
theorem k_A_room_17 (a0 : Nat) (a1 : Int32) (a2 : Int32) (s0 : Int32) (d : gs_D) : gs_g Y0 P_A_room 17 [some (gs_r 3 a0), some (gs_i a1), some (gs_i a2)] [(gs_i s0)] d = if ¬ s0 = (gs_n (-1)) then gs_g Y0 P_A_room 27 [some (gs_r 3 a0), some (gs_i a1), some (gs_i a2)] [] d else gs_g Y0 P_A_room 21 [some (gs_r 3 a0), some (gs_i a1), some (gs_i a2)] [] d := gs_if 2 (fun _ => rfl)
theorem k_A_room_21 (a0 : Nat) (a1 : Int32) (a2 : Int32) (d : gs_D) : gs_g Y0 P_A_room 21 [some (gs_r 3 a0), some (gs_i a1), some (gs_i a2)] [] d = some (some (gs_l (gs_m 4611686018427387904)), d) := gs_an 3 (fun _ => rfl)
theorem k_A_room_27 (a0 : Nat) (a1 : Int32) (a2 : Int32) (d : gs_D) : gs_g Y0 P_A_room 27 [some (gs_r 3 a0), some (gs_i a1), some (gs_i a2)] [] d = gs_ix a2 36 (gs_g Y0 P_A_room 33 [some (gs_r 3 a0), some (gs_i a1), some (gs_i a2)] [(gs_i (d.1 9 a0 a2.toNatClampNeg))] d) := gs_gx 4 (fun _ => rfl)
theorem k_A_room_33 (a0 : Nat) (a1 : Int32) (a2 : Int32) (s0 : Int32) (d : gs_D) : gs_g Y0 P_A_room 33 [some (gs_r 3 a0), some (gs_i a1), some (gs_i a2)] [(gs_i s0)] d = gs_ix a2 36 (gs_g Y0 P_A_room 40 [some (gs_r 3 a0), some (gs_i a1), some (gs_i a2)] [(gs_l (d.2 10 a0 a2.toNatClampNeg)), (gs_l s0.toInt64)] d) := gs_gx 5 (fun _ => rfl)
theorem k_A_room_40 (a0 : Nat) (a1 : Int32) (a2 : Int32) (s0 : Int64) (s1 : Int64) (d : gs_D) : gs_g Y0 P_A_room 40 [some (gs_r 3 a0), some (gs_i a1), some (gs_i a2)] [(gs_l s1), (gs_l s0)] d = some (some (gs_l (s0 - s1)), d) := gs_an 2 (fun _ => rfl)
theorem k_A_room_42 (a0 : Nat) (a1 : Int32) (d : gs_D) : gs_g Y0 P_A_room 42 [some (gs_r 3 a0), some (gs_i a1), none] [] d = gs_nz (gs_n 3) (gs_g Y0 P_A_room 45 [some (gs_r 3 a0), some (gs_i a1), none] [(gs_i (a1 - a1 / (gs_n 3) * (gs_n 3)))] d) := gs_gz 3 (fun _ => rfl)
theorem k_A_room_45 (a0 : Nat) (a1 : Int32) (s0 : Int32) (d : gs_D) : gs_g Y0 P_A_room 45 [some (gs_r 3 a0), some (gs_i a1), none] [(gs_i s0)] d = if ¬ s0 = 0 then gs_g Y0 P_A_room 52 [some (gs_r 3 a0), some (gs_i a1), none] [] d else gs_g Y0 P_A_room 48 [some (gs_r 3 a0), some (gs_i a1), none] [] d := gs_if 1 (fun _ => rfl)
theorem k_A_room_48 (a0 : Nat) (a1 : Int32) (d : gs_D) : gs_g Y0 P_A_room 48 [some (gs_r 3 a0), some (gs_i a1), none] [] d = if (gs_n 1) = 0 then gs_g Y0 P_A_room 75 [some (gs_r 3 a0), some (gs_i a1), some (gs_i (gs_n 1))] [] d else gs_g Y0 P_A_room 58 [some (gs_r 3 a0), some (gs_i a1), some (gs_i (gs_n 1))] [] d := gs_if 5 (fun _ => rfl)
theorem k_A_room_52 (a0 : Nat) (a1 : Int32) (d : gs_D) : gs_g Y0 P_A_room 52 [some (gs_r 3 a0), some (gs_i a1), none] [] d = if (gs_n 0) = 0 then gs_g Y0 P_A_room 75 [some (gs_r 3 a0), some (gs_i a1), some (gs_i (gs_n 0))] [] d else gs_g Y0 P_A_room 58 [some (gs_r 3 a0), some (gs_i a1), some (gs_i (gs_n 0))] [] d := gs_if 4 (fun _ => rfl)
theorem k_A_room_58 (a0 : Nat) (a1 : Int32) (a2 : Int32) (d : gs_D) : gs_g Y0 P_A_room 58 [some (gs_r 3 a0), some (gs_i a1), some (gs_i a2)] [] d = gs_ix a1 18 (gs_g Y0 P_A_room 64 [some (gs_r 3 a0), some (gs_i a1), some (gs_i a2)] [(gs_l (d.2 5 a0 a1.toNatClampNeg))] d) := gs_gx 4 (fun _ => rfl)
theorem k_A_room_64 (a0 : Nat) (a1 : Int32) (a2 : Int32) (s0 : Int64) (d : gs_D) : gs_g Y0 P_A_room 64 [some (gs_r 3 a0), some (gs_i a1), some (gs_i a2)] [(gs_l s0)] d = gs_nz (gs_n 3) (gs_g Y0 P_A_room 68 [some (gs_r 3 a0), some (gs_i a1), some (gs_i a2)] [(gs_i (a1 / (gs_n 3))), (gs_r 3 a0), (gs_l s0)] d) := gs_gz 4 (fun _ => rfl)
theorem k_A_room_68 (a0 : Nat) (a1 : Int32) (a2 : Int32) (s0 : Int64) (s1 : Nat) (s2 : Int32) (d : gs_D) : gs_g Y0 P_A_room 68 [some (gs_r 3 a0), some (gs_i a1), some (gs_i a2)] [(gs_i s2), (gs_r 3 s1), (gs_l s0)] d = gs_af (f_A_creditOf [(gs_r 3 s1), (gs_i s2)] d) [(gs_l s0)] (fun s9 d9 => gs_g Y0 P_A_room 71 [some (gs_r 3 a0), some (gs_i a1), some (gs_i a2)] s9 d9) := gs_gc 1 (fun _ => rfl)
theorem k_A_room_71 (a0 : Nat) (a1 : Int32) (a2 : Int32) (s0 : Int64) (s1 : Int64) (d : gs_D) : gs_g Y0 P_A_room 71 [some (gs_r 3 a0), some (gs_i a1), some (gs_i a2)] [(gs_l s1), (gs_l s0)] d = some (some (gs_l (s0 + s1)), d) := gs_an 3 (fun _ => rfl)
theorem k_A_room_75 (a0 : Nat) (a1 : Int32) (a2 : Int32) (d : gs_D) : gs_g Y0 P_A_room 75 [some (gs_r 3 a0), some (gs_i a1), some (gs_i a2)] [] d = gs_ix a1 18 (gs_g Y0 P_A_room 81 [some (gs_r 3 a0), some (gs_i a1), some (gs_i a2)] [(gs_l (d.2 5 a0 a1.toNatClampNeg))] d) := gs_gx 4 (fun _ => rfl)
theorem k_A_room_81 (a0 : Nat) (a1 : Int32) (a2 : Int32) (s0 : Int64) (d : gs_D) : gs_g Y0 P_A_room 81 [some (gs_r 3 a0), some (gs_i a1), some (gs_i a2)] [(gs_l s0)] d = some (some (gs_l s0), d) := gs_an 1 (fun _ => rfl)
def I_A_firstBelowFloor : List (Nat × Jvm.ClassFile.Instr × Nat) := [(0, .iconst 0, 0), (1, .istore_n 1, 0), (2, .iload_n 1, 0), (3, .bipush 54, 0), (5, .if_icmp .ge 21, 26), (8, .aload_n 0, 0), (9, .iload_n 1, 0), (10, .invokevirtual 39, 0), (13, .lconst 0, 0), (14, .lcmp, 0), (15, .ifCond .ge 5, 20), (18, .iload_n 1, 0), (19, .ireturn, 0), (20, .iinc 1 1, 0), (23, .goto (-21), 2), (26, .iconst (-1), 0), (27, .ireturn, 0)]
def F_A_firstBelowFloor : List (Nat × Nat × Nat) := []
def K_A_firstBelowFloor : List (Nat × gs_V) := []
noncomputable def C_A_firstBelowFloor : List (Nat × Nat × Nat × gs_F) := [(39, 1, 2, f_A_room)]
noncomputable def P_A_firstBelowFloor : gs_P := (gs_lk I_A_firstBelowFloor, gs_lk F_A_firstBelowFloor, gs_lk K_A_firstBelowFloor, gs_lk C_A_firstBelowFloor)
noncomputable def f_A_firstBelowFloor : gs_F := gs_f Y0 2 1 P_A_firstBelowFloor
theorem e_A_firstBelowFloor (a0 : Nat) (d : gs_D) : f_A_firstBelowFloor [(gs_r 3 a0)] d = gs_ck 1 (gs_g Y0 P_A_firstBelowFloor 0 [some (gs_r 3 a0), none] [] d) := rfl
theorem k_A_firstBelowFloor_0 (a0 : Nat) (d : gs_D) : gs_g Y0 P_A_firstBelowFloor 0 [some (gs_r 3 a0), none] [] d = gs_g Y0 P_A_firstBelowFloor 2 [some (gs_r 3 a0), some (gs_i (gs_n 0))] [] d := gs_gs 1 (fun _ => rfl)
theorem k_A_firstBelowFloor_2 (a0 : Nat) (a1 : Int32) (d : gs_D) : gs_g Y0 P_A_firstBelowFloor 2 [some (gs_r 3 a0), some (gs_i a1)] [] d = if (Int8.ofInt 54).toInt32 ≤ a1 then gs_g Y0 P_A_firstBelowFloor 26 [some (gs_r 3 a0), some (gs_i a1)] [] d else gs_g Y0 P_A_firstBelowFloor 8 [some (gs_r 3 a0), some (gs_i a1)] [] d := gs_if 3 (fun _ => rfl)
theorem k_A_firstBelowFloor_8 (a0 : Nat) (a1 : Int32) (d : gs_D) : gs_g Y0 P_A_firstBelowFloor 8 [some (gs_r 3 a0), some (gs_i a1)] [] d = gs_af (f_A_room [(gs_r 3 a0), (gs_i a1)] d) [] (fun s9 d9 => gs_g Y0 P_A_firstBelowFloor 13 [some (gs_r 3 a0), some (gs_i a1)] s9 d9) := gs_gc 3 (fun _ => rfl)
theorem k_A_firstBelowFloor_13 (a0 : Nat) (a1 : Int32) (s0 : Int64) (d : gs_D) : gs_g Y0 P_A_firstBelowFloor 13 [some (gs_r 3 a0), some (gs_i a1)] [(gs_l s0)] d = if 0 ≤ (lg_cmp s0 gs_k0) then gs_g Y0 P_A_firstBelowFloor 20 [some (gs_r 3 a0), some (gs_i a1)] [] d else gs_g Y0 P_A_firstBelowFloor 18 [some (gs_r 3 a0), some (gs_i a1)] [] d := gs_if 3 (fun _ => rfl)
theorem k_A_firstBelowFloor_18 (a0 : Nat) (a1 : Int32) (d : gs_D) : gs_g Y0 P_A_firstBelowFloor 18 [some (gs_r 3 a0), some (gs_i a1)] [] d = some (some (gs_i a1), d) := gs_an 2 (fun _ => rfl)
theorem k_A_firstBelowFloor_20 (a0 : Nat) (a1 : Int32) (d : gs_D) : gs_g Y0 P_A_firstBelowFloor 20 [some (gs_r 3 a0), some (gs_i a1)] [] d = gs_g Y0 P_A_firstBelowFloor 2 [some (gs_r 3 a0), some (gs_i (a1 + gs_n 1))] [] d := gs_gs 1 (fun _ => rfl)
theorem k_A_firstBelowFloor_26 (a0 : Nat) (a1 : Int32) (d : gs_D) : gs_g Y0 P_A_firstBelowFloor 26 [some (gs_r 3 a0), some (gs_i a1)] [] d = some (some (gs_i (gs_n (-1))), d) := gs_an 2 (fun _ => rfl)
def I_A_reprice : List (Nat × Jvm.ClassFile.Instr × Nat) := [(0, .aload_n 0, 0), (1, .getfield 18, 0), (4, .iload_n 1, 0), (5, .iaload, 0), (6, .istore 4, 0), (8, .aload_n 0, 0), (9, .getfield 22, 0), (12, .iload_n 1, 0), (13, .iaload, 0), (14, .istore 5, 0), (16, .aload_n 0, 0), (17, .getfield 18, 0), (20, .iload_n 1, 0), (21, .iload_n 2, 0), (22, .iastore, 0), (23, .aload_n 0, 0), (24, .getfield 22, 0), (27, .iload_n 1, 0), (28, .iload_n 3, 0), (29, .iastore, 0), (30, .aload_n 0, 0), (31, .invokevirtual 70, 0), (34, .iconst (-1), 0), (35, .if_icmp .ne 5, 40), (38, .iconst 1, 0), (39, .ireturn, 0), (40, .aload_n 0, 0), (41, .getfield 18, 0), (44, .iload_n 1, 0), (45, .iload 4, 0), (47, .iastore, 0), (48, .aload_n 0, 0), (49, .getfield 22, 0), (52, .iload_n 1, 0), (53, .iload 5, 0), (55, .iastore, 0), (56, .iconst 0, 0), (57, .ireturn, 0)]
def F_A_reprice : List (Nat × Nat × Nat) := [(18, 2, 2), (22, 2, 3)]
def K_A_reprice : List (Nat × gs_V) := []
noncomputable def C_A_reprice : List (Nat × Nat × Nat × gs_F) := [(70, 0, 2, f_A_firstBelowFloor)]
noncomputable def P_A_reprice : gs_P := (gs_lk I_A_reprice, gs_lk F_A_reprice, gs_lk K_A_reprice, gs_lk C_A_reprice)
noncomputable def f_A_reprice : gs_F := gs_f Y0 6 2 P_A_reprice
theorem e_A_reprice (a0 : Nat) (a1 : Int32) (a2 : Int32) (a3 : Int32) (d : gs_D) : f_A_reprice [(gs_r 3 a0), (gs_i a1), (gs_i a2), (gs_i a3)] d = gs_ck 2 (gs_g Y0 P_A_reprice 0 [some (gs_r 3 a0), some (gs_i a1), some (gs_i a2), some (gs_i a3), none, none] [] d) := rfl
theorem k_A_reprice_0 (a0 : Nat) (a1 : Int32) (a2 : Int32) (a3 : Int32) (d : gs_D) : gs_g Y0 P_A_reprice 0 [some (gs_r 3 a0), some (gs_i a1), some (gs_i a2), some (gs_i a3), none, none] [] d = gs_ix a1 3 (gs_g Y0 P_A_reprice 6 [some (gs_r 3 a0), some (gs_i a1), some (gs_i a2), some (gs_i a3), none, none] [(gs_i (d.1 7 a0 a1.toNatClampNeg))] d) := gs_gx 4 (fun _ => rfl)
theorem k_A_reprice_6 (a0 : Nat) (a1 : Int32) (a2 : Int32) (a3 : Int32) (s0 : Int32) (d : gs_D) : gs_g Y0 P_A_reprice 6 [some (gs_r 3 a0), some (gs_i a1), some (gs_i a2), some (gs_i a3), none, none] [(gs_i s0)] d = gs_ix a1 3 (gs_g Y0 P_A_reprice 14 [some (gs_r 3 a0), some (gs_i a1), some (gs_i a2), some (gs_i a3), some (gs_i s0), none] [(gs_i (d.1 8 a0 a1.toNatClampNeg))] d) := gs_gx 5 (fun _ => rfl)
theorem k_A_reprice_14 (a0 : Nat) (a1 : Int32) (a2 : Int32) (a3 : Int32) (a4 : Int32) (s0 : Int32) (d : gs_D) : gs_g Y0 P_A_reprice 14 [some (gs_r 3 a0), some (gs_i a1), some (gs_i a2), some (gs_i a3), some (gs_i a4), none] [(gs_i s0)] d = gs_ix a1 3 (gs_g Y0 P_A_reprice 23 [some (gs_r 3 a0), some (gs_i a1), some (gs_i a2), some (gs_i a3), some (gs_i a4), some (gs_i s0)] [] (gs_wI d 7 a0 a1.toNatClampNeg a2)) := gs_gx 6 (fun _ => rfl)
theorem k_A_reprice_23 (a0 : Nat) (a1 : Int32) (a2 : Int32) (a3 : Int32) (a4 : Int32) (a5 : Int32) (d : gs_D) : gs_g Y0 P_A_reprice 23 [some (gs_r 3 a0), some (gs_i a1), some (gs_i a2), some (gs_i a3), some (gs_i a4), some (gs_i a5)] [] d = gs_ix a1 3 (gs_g Y0 P_A_reprice 30 [some (gs_r 3 a0), some (gs_i a1), some (gs_i a2), some (gs_i a3), some (gs_i a4), some (gs_i a5)] [] (gs_wI d 8 a0 a1.toNatClampNeg a3)) := gs_gx 5 (fun _ => rfl)
theorem k_A_reprice_30 (a0 : Nat) (a1 : Int32) (a2 : Int32) (a3 : Int32) (a4 : Int32) (a5 : Int32) (d : gs_D) : gs_g Y0 P_A_reprice 30 [some (gs_r 3 a0), some (gs_i a1), some (gs_i a2), some (gs_i a3), some (gs_i a4), some (gs_i a5)] [] d = gs_af (f_A_firstBelowFloor [(gs_r 3 a0)] d) [] (fun s9 d9 => gs_g Y0 P_A_reprice 34 [some (gs_r 3 a0), some (gs_i a1), some (gs_i a2), some (gs_i a3), some (gs_i a4), some (gs_i a5)] s9 d9) := gs_gc 2 (fun _ => rfl)
theorem k_A_reprice_34 (a0 : Nat) (a1 : Int32) (a2 : Int32) (a3 : Int32) (a4 : Int32) (a5 : Int32) (s0 : Int32) (d : gs_D) : gs_g Y0 P_A_reprice 34 [some (gs_r 3 a0), some (gs_i a1), some (gs_i a2), some (gs_i a3), some (gs_i a4), some (gs_i a5)] [(gs_i s0)] d = if ¬ s0 = (gs_n (-1)) then gs_g Y0 P_A_reprice 40 [some (gs_r 3 a0), some (gs_i a1), some (gs_i a2), some (gs_i a3), some (gs_i a4), some (gs_i a5)] [] d else gs_g Y0 P_A_reprice 38 [some (gs_r 3 a0), some (gs_i a1), some (gs_i a2), some (gs_i a3), some (gs_i a4), some (gs_i a5)] [] d := gs_if 2 (fun _ => rfl)
theorem k_A_reprice_38 (a0 : Nat) (a1 : Int32) (a2 : Int32) (a3 : Int32) (a4 : Int32) (a5 : Int32) (d : gs_D) : gs_g Y0 P_A_reprice 38 [some (gs_r 3 a0), some (gs_i a1), some (gs_i a2), some (gs_i a3), some (gs_i a4), some (gs_i a5)] [] d = some (some (gs_i (gs_n 1)), d) := gs_an 2 (fun _ => rfl)
theorem k_A_reprice_40 (a0 : Nat) (a1 : Int32) (a2 : Int32) (a3 : Int32) (a4 : Int32) (a5 : Int32) (d : gs_D) : gs_g Y0 P_A_reprice 40 [some (gs_r 3 a0), some (gs_i a1), some (gs_i a2), some (gs_i a3), some (gs_i a4), some (gs_i a5)] [] d = gs_ix a1 3 (gs_g Y0 P_A_reprice 48 [some (gs_r 3 a0), some (gs_i a1), some (gs_i a2), some (gs_i a3), some (gs_i a4), some (gs_i a5)] [] (gs_wI d 7 a0 a1.toNatClampNeg a4)) := gs_gx 5 (fun _ => rfl)
theorem k_A_reprice_48 (a0 : Nat) (a1 : Int32) (a2 : Int32) (a3 : Int32) (a4 : Int32) (a5 : Int32) (d : gs_D) : gs_g Y0 P_A_reprice 48 [some (gs_r 3 a0), some (gs_i a1), some (gs_i a2), some (gs_i a3), some (gs_i a4), some (gs_i a5)] [] d = gs_ix a1 3 (gs_g Y0 P_A_reprice 56 [some (gs_r 3 a0), some (gs_i a1), some (gs_i a2), some (gs_i a3), some (gs_i a4), some (gs_i a5)] [] (gs_wI d 8 a0 a1.toNatClampNeg a5)) := gs_gx 5 (fun _ => rfl)
theorem k_A_reprice_56 (a0 : Nat) (a1 : Int32) (a2 : Int32) (a3 : Int32) (a4 : Int32) (a5 : Int32) (d : gs_D) : gs_g Y0 P_A_reprice 56 [some (gs_r 3 a0), some (gs_i a1), some (gs_i a2), some (gs_i a3), some (gs_i a4), some (gs_i a5)] [] d = some (some (gs_i (gs_n 0)), d) := gs_an 2 (fun _ => rfl)
def I_G_terms : List (Nat × Jvm.ClassFile.Instr × Nat) := [(0, .iload_n 1, 0), (1, .invokestatic 51, 0), (4, .ifCond .eq 14, 18), (7, .iload_n 2, 0), (8, .ifCond .lt 10, 18), (11, .iload_n 2, 0), (12, .sipush 1000, 0), (15, .if_icmp .le 5, 20), (18, .iconst 0, 0), (19, .ireturn, 0), (20, .iload_n 3, 0), (21, .ifCond .lt 19, 40), (24, .iload_n 3, 0), (25, .bipush 100, 0), (27, .if_icmp .gt 13, 40), (30, .aload_n 0, 0), (31, .getfield 12, 0), (34, .getfield 33, 0), (37, .ifCond .eq 5, 42), (40, .iconst 0, 0), (41, .ireturn, 0), (42, .aload_n 0, 0), (43, .getfield 12, 0), (46, .getfield 37, 0), (49, .iload_n 1, 0), (50, .iload_n 2, 0), (51, .iload_n 3, 0), (52, .invokevirtual 54, 0), (55, .ireturn, 0)]
def F_G_terms : List (Nat × Nat × Nat) := [(12, 0, 0), (33, 1, 0), (37, 1, 1)]
def K_G_terms : List (Nat × gs_V) := []
noncomputable def C_G_terms : List (Nat × Nat × Nat × gs_F) := [(51, 1, 1000, f_G_isSecurity), (54, 3, 2, f_A_reprice)]
noncomputable def P_G_terms : gs_P := (gs_lk I_G_terms, gs_lk F_G_terms, gs_lk K_G_terms, gs_lk C_G_terms)
noncomputable def f_G_terms : gs_F := gs_f Y0 4 2 P_G_terms
theorem e_G_terms (a0 : Nat) (a1 : Int32) (a2 : Int32) (a3 : Int32) (d : gs_D) : f_G_terms [(gs_r 0 a0), (gs_i a1), (gs_i a2), (gs_i a3)] d = gs_ck 2 (gs_g Y0 P_G_terms 0 [some (gs_r 0 a0), some (gs_i a1), some (gs_i a2), some (gs_i a3)] [] d) := rfl
theorem k_G_terms_0 (a0 : Nat) (a1 : Int32) (a2 : Int32) (a3 : Int32) (d : gs_D) : gs_g Y0 P_G_terms 0 [some (gs_r 0 a0), some (gs_i a1), some (gs_i a2), some (gs_i a3)] [] d = gs_af (f_G_isSecurity [(gs_i a1)] d) [] (fun s9 d9 => gs_g Y0 P_G_terms 4 [some (gs_r 0 a0), some (gs_i a1), some (gs_i a2), some (gs_i a3)] s9 d9) := gs_gc 2 (fun _ => rfl)
theorem k_G_terms_4 (a0 : Nat) (a1 : Int32) (a2 : Int32) (a3 : Int32) (s0 : Int32) (d : gs_D) : gs_g Y0 P_G_terms 4 [some (gs_r 0 a0), some (gs_i a1), some (gs_i a2), some (gs_i a3)] [(gs_i s0)] d = if s0 = 0 then gs_g Y0 P_G_terms 18 [some (gs_r 0 a0), some (gs_i a1), some (gs_i a2), some (gs_i a3)] [] d else gs_g Y0 P_G_terms 7 [some (gs_r 0 a0), some (gs_i a1), some (gs_i a2), some (gs_i a3)] [] d := gs_if 1 (fun _ => rfl)
theorem k_G_terms_7 (a0 : Nat) (a1 : Int32) (a2 : Int32) (a3 : Int32) (d : gs_D) : gs_g Y0 P_G_terms 7 [some (gs_r 0 a0), some (gs_i a1), some (gs_i a2), some (gs_i a3)] [] d = if a2 < 0 then gs_g Y0 P_G_terms 18 [some (gs_r 0 a0), some (gs_i a1), some (gs_i a2), some (gs_i a3)] [] d else gs_g Y0 P_G_terms 11 [some (gs_r 0 a0), some (gs_i a1), some (gs_i a2), some (gs_i a3)] [] d := gs_if 2 (fun _ => rfl)
theorem k_G_terms_11 (a0 : Nat) (a1 : Int32) (a2 : Int32) (a3 : Int32) (d : gs_D) : gs_g Y0 P_G_terms 11 [some (gs_r 0 a0), some (gs_i a1), some (gs_i a2), some (gs_i a3)] [] d = if a2 ≤ (Int16.ofInt 1000).toInt32 then gs_g Y0 P_G_terms 20 [some (gs_r 0 a0), some (gs_i a1), some (gs_i a2), some (gs_i a3)] [] d else gs_g Y0 P_G_terms 18 [some (gs_r 0 a0), some (gs_i a1), some (gs_i a2), some (gs_i a3)] [] d := gs_if 3 (fun _ => rfl)
theorem k_G_terms_18 (a0 : Nat) (a1 : Int32) (a2 : Int32) (a3 : Int32) (d : gs_D) : gs_g Y0 P_G_terms 18 [some (gs_r 0 a0), some (gs_i a1), some (gs_i a2), some (gs_i a3)] [] d = some (some (gs_i (gs_n 0)), d) := gs_an 2 (fun _ => rfl)
theorem k_G_terms_20 (a0 : Nat) (a1 : Int32) (a2 : Int32) (a3 : Int32) (d : gs_D) : gs_g Y0 P_G_terms 20 [some (gs_r 0 a0), some (gs_i a1), some (gs_i a2), some (gs_i a3)] [] d = if a3 < 0 then gs_g Y0 P_G_terms 40 [some (gs_r 0 a0), some (gs_i a1), some (gs_i a2), some (gs_i a3)] [] d else gs_g Y0 P_G_terms 24 [some (gs_r 0 a0), some (gs_i a1), some (gs_i a2), some (gs_i a3)] [] d := gs_if 2 (fun _ => rfl)
theorem k_G_terms_24 (a0 : Nat) (a1 : Int32) (a2 : Int32) (a3 : Int32) (d : gs_D) : gs_g Y0 P_G_terms 24 [some (gs_r 0 a0), some (gs_i a1), some (gs_i a2), some (gs_i a3)] [] d = if (Int8.ofInt 100).toInt32 < a3 then gs_g Y0 P_G_terms 40 [some (gs_r 0 a0), some (gs_i a1), some (gs_i a2), some (gs_i a3)] [] d else gs_g Y0 P_G_terms 30 [some (gs_r 0 a0), some (gs_i a1), some (gs_i a2), some (gs_i a3)] [] d := gs_if 3 (fun _ => rfl)
theorem k_G_terms_30 (a0 : Nat) (a1 : Int32) (a2 : Int32) (a3 : Int32) (d : gs_D) : gs_g Y0 P_G_terms 30 [some (gs_r 0 a0), some (gs_i a1), some (gs_i a2), some (gs_i a3)] [] d = if (d.1 1 0 0) = 0 then gs_g Y0 P_G_terms 42 [some (gs_r 0 a0), some (gs_i a1), some (gs_i a2), some (gs_i a3)] [] d else gs_g Y0 P_G_terms 40 [some (gs_r 0 a0), some (gs_i a1), some (gs_i a2), some (gs_i a3)] [] d := gs_if 4 (fun _ => rfl)
theorem k_G_terms_40 (a0 : Nat) (a1 : Int32) (a2 : Int32) (a3 : Int32) (d : gs_D) : gs_g Y0 P_G_terms 40 [some (gs_r 0 a0), some (gs_i a1), some (gs_i a2), some (gs_i a3)] [] d = some (some (gs_i (gs_n 0)), d) := gs_an 2 (fun _ => rfl)
theorem k_G_terms_42 (a0 : Nat) (a1 : Int32) (a2 : Int32) (a3 : Int32) (d : gs_D) : gs_g Y0 P_G_terms 42 [some (gs_r 0 a0), some (gs_i a1), some (gs_i a2), some (gs_i a3)] [] d = gs_af (f_A_reprice [(gs_r 3 0), (gs_i a1), (gs_i a2), (gs_i a3)] d) [] (fun s9 d9 => gs_g Y0 P_G_terms 55 [some (gs_r 0 a0), some (gs_i a1), some (gs_i a2), some (gs_i a3)] s9 d9) := gs_gc 7 (fun _ => rfl)
theorem k_G_terms_55 (a0 : Nat) (a1 : Int32) (a2 : Int32) (a3 : Int32) (s0 : Int32) (d : gs_D) : gs_g Y0 P_G_terms 55 [some (gs_r 0 a0), some (gs_i a1), some (gs_i a2), some (gs_i a3)] [(gs_i s0)] d = some (some (gs_i s0), d) := gs_an 1 (fun _ => rfl)
def I_A_movePledge : List (Nat × Jvm.ClassFile.Instr × Nat) := [(0, .aload_n 0, 0), (1, .getfield 9, 0), (4, .iload_n 1, 0), (5, .iload_n 2, 0), (6, .invokestatic 54, 0), (9, .dup2, 0), (10, .laload, 0), (11, .iload_n 3, 0), (12, .i2l, 0), (13, .lsub, 0), (14, .lastore, 0), (15, .aload_n 0, 0), (16, .getfield 15, 0), (19, .iload_n 1, 0), (20, .iload_n 2, 0), (21, .invokestatic 54, 0), (24, .dup2, 0), (25, .laload, 0), (26, .iload_n 3, 0), (27, .i2l, 0), (28, .ladd, 0), (29, .lastore, 0), (30, .return_, 0)]
def F_A_movePledge : List (Nat × Nat × Nat) := [(9, 2, 0), (15, 2, 1)]
def K_A_movePledge : List (Nat × gs_V) := []
noncomputable def C_A_movePledge : List (Nat × Nat × Nat × gs_F) := [(54, 2, 1000, f_G_holding)]
noncomputable def P_A_movePledge : gs_P := (gs_lk I_A_movePledge, gs_lk F_A_movePledge, gs_lk K_A_movePledge, gs_lk C_A_movePledge)
noncomputable def f_A_movePledge : gs_F := gs_f Y0 4 0 P_A_movePledge
theorem e_A_movePledge (a0 : Nat) (a1 : Int32) (a2 : Int32) (a3 : Int32) (d : gs_D) : f_A_movePledge [(gs_r 3 a0), (gs_i a1), (gs_i a2), (gs_i a3)] d = gs_ck 0 (gs_g Y0 P_A_movePledge 0 [some (gs_r 3 a0), some (gs_i a1), some (gs_i a2), some (gs_i a3)] [] d) := rfl
theorem k_A_movePledge_0 (a0 : Nat) (a1 : Int32) (a2 : Int32) (a3 : Int32) (d : gs_D) : gs_g Y0 P_A_movePledge 0 [some (gs_r 3 a0), some (gs_i a1), some (gs_i a2), some (gs_i a3)] [] d = gs_af (f_G_holding [(gs_i a1), (gs_i a2)] d) [(gs_r 5 a0)] (fun s9 d9 => gs_g Y0 P_A_movePledge 9 [some (gs_r 3 a0), some (gs_i a1), some (gs_i a2), some (gs_i a3)] s9 d9) := gs_gc 5 (fun _ => rfl)
theorem k_A_movePledge_9 (a0 : Nat) (a1 : Int32) (a2 : Int32) (a3 : Int32) (s0 : Nat) (s1 : Int32) (d : gs_D) : gs_g Y0 P_A_movePledge 9 [some (gs_r 3 a0), some (gs_i a1), some (gs_i a2), some (gs_i a3)] [(gs_i s1), (gs_r 5 s0)] d = gs_ix s1 18 (gs_g Y0 P_A_movePledge 11 [some (gs_r 3 a0), some (gs_i a1), some (gs_i a2), some (gs_i a3)] [(gs_l (d.2 5 s0 s1.toNatClampNeg)), (gs_i s1), (gs_r 5 s0)] d) := gs_gx 2 (fun _ => rfl)
theorem k_A_movePledge_11 (a0 : Nat) (a1 : Int32) (a2 : Int32) (a3 : Int32) (s0 : Nat) (s1 : Int32) (s2 : Int64) (d : gs_D) : gs_g Y0 P_A_movePledge 11 [some (gs_r 3 a0), some (gs_i a1), some (gs_i a2), some (gs_i a3)] [(gs_l s2), (gs_i s1), (gs_r 5 s0)] d = gs_ix s1 18 (gs_g Y0 P_A_movePledge 15 [some (gs_r 3 a0), some (gs_i a1), some (gs_i a2), some (gs_i a3)] [] (gs_wL d 5 s0 s1.toNatClampNeg (s2 - a3.toInt64))) := gs_gx 4 (fun _ => rfl)
theorem k_A_movePledge_15 (a0 : Nat) (a1 : Int32) (a2 : Int32) (a3 : Int32) (d : gs_D) : gs_g Y0 P_A_movePledge 15 [some (gs_r 3 a0), some (gs_i a1), some (gs_i a2), some (gs_i a3)] [] d = gs_af (f_G_holding [(gs_i a1), (gs_i a2)] d) [(gs_r 6 a0)] (fun s9 d9 => gs_g Y0 P_A_movePledge 24 [some (gs_r 3 a0), some (gs_i a1), some (gs_i a2), some (gs_i a3)] s9 d9) := gs_gc 5 (fun _ => rfl)
theorem k_A_movePledge_24 (a0 : Nat) (a1 : Int32) (a2 : Int32) (a3 : Int32) (s0 : Nat) (s1 : Int32) (d : gs_D) : gs_g Y0 P_A_movePledge 24 [some (gs_r 3 a0), some (gs_i a1), some (gs_i a2), some (gs_i a3)] [(gs_i s1), (gs_r 6 s0)] d = gs_ix s1 18 (gs_g Y0 P_A_movePledge 26 [some (gs_r 3 a0), some (gs_i a1), some (gs_i a2), some (gs_i a3)] [(gs_l (d.2 6 s0 s1.toNatClampNeg)), (gs_i s1), (gs_r 6 s0)] d) := gs_gx 2 (fun _ => rfl)
theorem k_A_movePledge_26 (a0 : Nat) (a1 : Int32) (a2 : Int32) (a3 : Int32) (s0 : Nat) (s1 : Int32) (s2 : Int64) (d : gs_D) : gs_g Y0 P_A_movePledge 26 [some (gs_r 3 a0), some (gs_i a1), some (gs_i a2), some (gs_i a3)] [(gs_l s2), (gs_i s1), (gs_r 6 s0)] d = gs_ix s1 18 (gs_g Y0 P_A_movePledge 30 [some (gs_r 3 a0), some (gs_i a1), some (gs_i a2), some (gs_i a3)] [] (gs_wL d 6 s0 s1.toNatClampNeg (s2 + a3.toInt64))) := gs_gx 4 (fun _ => rfl)
theorem k_A_movePledge_30 (a0 : Nat) (a1 : Int32) (a2 : Int32) (a3 : Int32) (d : gs_D) : gs_g Y0 P_A_movePledge 30 [some (gs_r 3 a0), some (gs_i a1), some (gs_i a2), some (gs_i a3)] [] d = some (none, d) := gs_an 1 (fun _ => rfl)
def I_Q_at : List (Nat × Jvm.ClassFile.Instr × Nat) := [(0, .aload_n 0, 0), (1, .getfield 11, 0), (4, .aload_n 0, 0), (5, .getfield 21, 0), (8, .iload_n 1, 0), (9, .iaload, 0), (10, .aaload, 0), (11, .areturn, 0)]
def F_Q_at : List (Nat × Nat × Nat) := [(11, 3, 0), (21, 3, 2)]
def K_Q_at : List (Nat × gs_V) := []
noncomputable def C_Q_at : List (Nat × Nat × Nat × gs_F) := []
noncomputable def P_Q_at : gs_P := (gs_lk I_Q_at, gs_lk F_Q_at, gs_lk K_Q_at, gs_lk C_Q_at)
noncomputable def f_Q_at : gs_F := gs_f Y0 2 4 P_Q_at
theorem e_Q_at (a0 : Nat) (a1 : Int32) (d : gs_D) : f_Q_at [(gs_r 4 a0), (gs_i a1)] d = gs_ck 4 (gs_g Y0 P_Q_at 0 [some (gs_r 4 a0), some (gs_i a1)] [] d) := rfl
theorem k_Q_at_0 (a0 : Nat) (a1 : Int32) (d : gs_D) : gs_g Y0 P_Q_at 0 [some (gs_r 4 a0), some (gs_i a1)] [] d = gs_ix a1 10 (gs_g Y0 P_Q_at 10 [some (gs_r 4 a0), some (gs_i a1)] [(gs_i (d.1 12 a0 a1.toNatClampNeg)), (gs_r 11 a0)] d) := gs_gx 6 (fun _ => rfl)
theorem k_Q_at_10 (a0 : Nat) (a1 : Int32) (s0 : Nat) (s1 : Int32) (d : gs_D) : gs_g Y0 P_Q_at 10 [some (gs_r 4 a0), some (gs_i a1)] [(gs_i s1), (gs_r 11 s0)] d = gs_ix s1 40 (gs_g Y0 P_Q_at 11 [some (gs_r 4 a0), some (gs_i a1)] [(gs_r 13 (gs_ii s0 s1.toNatClampNeg))] d) := gs_gx 1 (fun _ => rfl)
theorem k_Q_at_11 (a0 : Nat) (a1 : Int32) (s0 : Nat) (d : gs_D) : gs_g Y0 P_Q_at 11 [some (gs_r 4 a0), some (gs_i a1)] [(gs_r 13 s0)] d = some (some (gs_r 13 s0), d) := gs_an 1 (fun _ => rfl)
def I_I_meets : List (Nat × Jvm.ClassFile.Instr × Nat) := [(0, .aload_n 0, 0), (1, .getfield 25, 0), (4, .ifCond .le 23, 27), (7, .aload_n 1, 0), (8, .getfield 25, 0), (11, .ifCond .le 16, 27), (14, .aload_n 0, 0), (15, .getfield 28, 0), (18, .aload_n 1, 0), (19, .getfield 28, 0), (22, .if_icmp .ne 5, 27), (25, .iconst 1, 0), (26, .ireturn, 0), (27, .aload_n 0, 0), (28, .getfield 9, 0), (31, .ifCond .le 36, 67), (34, .aload_n 1, 0), (35, .getfield 9, 0), (38, .ifCond .le 29, 67), (41, .aload_n 0, 0), (42, .getfield 15, 0), (45, .aload_n 1, 0), (46, .getfield 15, 0), (49, .if_icmp .ne 18, 67), (52, .aload_n 0, 0), (53, .getfield 18, 0), (56, .aload_n 1, 0), (57, .getfield 18, 0), (60, .if_icmp .ne 7, 67), (63, .iconst 1, 0), (64, .goto 4, 68), (67, .iconst 0, 0), (68, .ireturn, 0)]
def F_I_meets : List (Nat × Nat × Nat) := [(25, 4, 4), (28, 4, 1), (9, 4, 3), (15, 4, 0), (18, 4, 2)]
def K_I_meets : List (Nat × gs_V) := []
noncomputable def C_I_meets : List (Nat × Nat × Nat × gs_F) := []
noncomputable def P_I_meets : gs_P := (gs_lk I_I_meets, gs_lk F_I_meets, gs_lk K_I_meets, gs_lk C_I_meets)
noncomputable def f_I_meets : gs_F := gs_f Y0 2 2 P_I_meets
theorem e_I_meets (a0 : Nat) (a1 : Nat) (d : gs_D) : f_I_meets [(gs_r 13 a0), (gs_r 13 a1)] d = gs_ck 2 (gs_g Y0 P_I_meets 0 [some (gs_r 13 a0), some (gs_r 13 a1)] [] d) := rfl
theorem k_I_meets_0 (a0 : Nat) (a1 : Nat) (d : gs_D) : gs_g Y0 P_I_meets 0 [some (gs_r 13 a0), some (gs_r 13 a1)] [] d = if (d.1 13 a0 4) ≤ 0 then gs_g Y0 P_I_meets 27 [some (gs_r 13 a0), some (gs_r 13 a1)] [] d else gs_g Y0 P_I_meets 7 [some (gs_r 13 a0), some (gs_r 13 a1)] [] d := gs_if 3 (fun _ => rfl)
theorem k_I_meets_7 (a0 : Nat) (a1 : Nat) (d : gs_D) : gs_g Y0 P_I_meets 7 [some (gs_r 13 a0), some (gs_r 13 a1)] [] d = if (d.1 13 a1 4) ≤ 0 then gs_g Y0 P_I_meets 27 [some (gs_r 13 a0), some (gs_r 13 a1)] [] d else gs_g Y0 P_I_meets 14 [some (gs_r 13 a0), some (gs_r 13 a1)] [] d := gs_if 3 (fun _ => rfl)
theorem k_I_meets_14 (a0 : Nat) (a1 : Nat) (d : gs_D) : gs_g Y0 P_I_meets 14 [some (gs_r 13 a0), some (gs_r 13 a1)] [] d = if ¬ (d.1 13 a0 1) = (d.1 13 a1 1) then gs_g Y0 P_I_meets 27 [some (gs_r 13 a0), some (gs_r 13 a1)] [] d else gs_g Y0 P_I_meets 25 [some (gs_r 13 a0), some (gs_r 13 a1)] [] d := gs_if 5 (fun _ => rfl)
theorem k_I_meets_25 (a0 : Nat) (a1 : Nat) (d : gs_D) : gs_g Y0 P_I_meets 25 [some (gs_r 13 a0), some (gs_r 13 a1)] [] d = some (some (gs_i (gs_n 1)), d) := gs_an 2 (fun _ => rfl)
theorem k_I_meets_27 (a0 : Nat) (a1 : Nat) (d : gs_D) : gs_g Y0 P_I_meets 27 [some (gs_r 13 a0), some (gs_r 13 a1)] [] d = if (d.1 13 a0 3) ≤ 0 then gs_g Y0 P_I_meets 67 [some (gs_r 13 a0), some (gs_r 13 a1)] [] d else gs_g Y0 P_I_meets 34 [some (gs_r 13 a0), some (gs_r 13 a1)] [] d := gs_if 3 (fun _ => rfl)
theorem k_I_meets_34 (a0 : Nat) (a1 : Nat) (d : gs_D) : gs_g Y0 P_I_meets 34 [some (gs_r 13 a0), some (gs_r 13 a1)] [] d = if (d.1 13 a1 3) ≤ 0 then gs_g Y0 P_I_meets 67 [some (gs_r 13 a0), some (gs_r 13 a1)] [] d else gs_g Y0 P_I_meets 41 [some (gs_r 13 a0), some (gs_r 13 a1)] [] d := gs_if 3 (fun _ => rfl)
theorem k_I_meets_41 (a0 : Nat) (a1 : Nat) (d : gs_D) : gs_g Y0 P_I_meets 41 [some (gs_r 13 a0), some (gs_r 13 a1)] [] d = if ¬ (d.1 13 a0 0) = (d.1 13 a1 0) then gs_g Y0 P_I_meets 67 [some (gs_r 13 a0), some (gs_r 13 a1)] [] d else gs_g Y0 P_I_meets 52 [some (gs_r 13 a0), some (gs_r 13 a1)] [] d := gs_if 5 (fun _ => rfl)
theorem k_I_meets_52 (a0 : Nat) (a1 : Nat) (d : gs_D) : gs_g Y0 P_I_meets 52 [some (gs_r 13 a0), some (gs_r 13 a1)] [] d = if ¬ (d.1 13 a0 2) = (d.1 13 a1 2) then gs_g Y0 P_I_meets 67 [some (gs_r 13 a0), some (gs_r 13 a1)] [] d else gs_g Y0 P_I_meets 63 [some (gs_r 13 a0), some (gs_r 13 a1)] [] d := gs_if 5 (fun _ => rfl)
theorem k_I_meets_63 (a0 : Nat) (a1 : Nat) (d : gs_D) : gs_g Y0 P_I_meets 63 [some (gs_r 13 a0), some (gs_r 13 a1)] [] d = some (some (gs_i (gs_n 1)), d) := gs_an 3 (fun _ => rfl)
theorem k_I_meets_67 (a0 : Nat) (a1 : Nat) (d : gs_D) : gs_g Y0 P_I_meets 67 [some (gs_r 13 a0), some (gs_r 13 a1)] [] d = some (some (gs_i (gs_n 0)), d) := gs_an 2 (fun _ => rfl)
def I_Q_countAhead : List (Nat × Jvm.ClassFile.Instr × Nat) := [(0, .iconst 0, 0), (1, .istore_n 2, 0), (2, .iconst 0, 0), (3, .istore_n 3, 0), (4, .iload_n 3, 0), (5, .iload_n 1, 0), (6, .if_icmp .ge 28, 34), (9, .aload_n 0, 0), (10, .iload_n 1, 0), (11, .invokevirtual 29, 0), (14, .aload_n 0, 0), (15, .iload_n 3, 0), (16, .invokevirtual 29, 0), (19, .invokevirtual 33, 0), (22, .ifCond .eq 6, 28), (25, .iinc 2 1, 0), (28, .iinc 3 1, 0), (31, .goto (-27), 4), (34, .iload_n 2, 0), (35, .ireturn, 0)]
def F_Q_countAhead : List (Nat × Nat × Nat) := []
def K_Q_countAhead : List (Nat × gs_V) := []
noncomputable def C_Q_countAhead : List (Nat × Nat × Nat × gs_F) := [(29, 1, 3, f_Q_at), (33, 1, 4, f_I_meets)]
noncomputable def P_Q_countAhead : gs_P := (gs_lk I_Q_countAhead, gs_lk F_Q_countAhead, gs_lk K_Q_countAhead, gs_lk C_Q_countAhead)
noncomputable def f_Q_countAhead : gs_F := gs_f Y0 4 1 P_Q_countAhead
theorem e_Q_countAhead (a0 : Nat) (a1 : Int32) (d : gs_D) : f_Q_countAhead [(gs_r 4 a0), (gs_i a1)] d = gs_ck 1 (gs_g Y0 P_Q_countAhead 0 [some (gs_r 4 a0), some (gs_i a1), none, none] [] d) := rfl
theorem k_Q_countAhead_0 (a0 : Nat) (a1 : Int32) (d : gs_D) : gs_g Y0 P_Q_countAhead 0 [some (gs_r 4 a0), some (gs_i a1), none, none] [] d = gs_g Y0 P_Q_countAhead 4 [some (gs_r 4 a0), some (gs_i a1), some (gs_i (gs_n 0)), some (gs_i (gs_n 0))] [] d := gs_gs 3 (fun _ => rfl)
theorem k_Q_countAhead_4 (a0 : Nat) (a1 : Int32) (a2 : Int32) (a3 : Int32) (d : gs_D) : gs_g Y0 P_Q_countAhead 4 [some (gs_r 4 a0), some (gs_i a1), some (gs_i a2), some (gs_i a3)] [] d = if a1 ≤ a3 then gs_g Y0 P_Q_countAhead 34 [some (gs_r 4 a0), some (gs_i a1), some (gs_i a2), some (gs_i a3)] [] d else gs_g Y0 P_Q_countAhead 9 [some (gs_r 4 a0), some (gs_i a1), some (gs_i a2), some (gs_i a3)] [] d := gs_if 3 (fun _ => rfl)
theorem k_Q_countAhead_9 (a0 : Nat) (a1 : Int32) (a2 : Int32) (a3 : Int32) (d : gs_D) : gs_g Y0 P_Q_countAhead 9 [some (gs_r 4 a0), some (gs_i a1), some (gs_i a2), some (gs_i a3)] [] d = gs_af (f_Q_at [(gs_r 4 a0), (gs_i a1)] d) [] (fun s9 d9 => gs_g Y0 P_Q_countAhead 14 [some (gs_r 4 a0), some (gs_i a1), some (gs_i a2), some (gs_i a3)] s9 d9) := gs_gc 3 (fun _ => rfl)
theorem k_Q_countAhead_14 (a0 : Nat) (a1 : Int32) (a2 : Int32) (a3 : Int32) (s0 : Nat) (d : gs_D) : gs_g Y0 P_Q_countAhead 14 [some (gs_r 4 a0), some (gs_i a1), some (gs_i a2), some (gs_i a3)] [(gs_r 13 s0)] d = gs_af (f_Q_at [(gs_r 4 a0), (gs_i a3)] d) [(gs_r 13 s0)] (fun s9 d9 => gs_g Y0 P_Q_countAhead 19 [some (gs_r 4 a0), some (gs_i a1), some (gs_i a2), some (gs_i a3)] s9 d9) := gs_gc 3 (fun _ => rfl)
theorem k_Q_countAhead_19 (a0 : Nat) (a1 : Int32) (a2 : Int32) (a3 : Int32) (s0 : Nat) (s1 : Nat) (d : gs_D) : gs_g Y0 P_Q_countAhead 19 [some (gs_r 4 a0), some (gs_i a1), some (gs_i a2), some (gs_i a3)] [(gs_r 13 s1), (gs_r 13 s0)] d = gs_af (f_I_meets [(gs_r 13 s0), (gs_r 13 s1)] d) [] (fun s9 d9 => gs_g Y0 P_Q_countAhead 22 [some (gs_r 4 a0), some (gs_i a1), some (gs_i a2), some (gs_i a3)] s9 d9) := gs_gc 1 (fun _ => rfl)
theorem k_Q_countAhead_22 (a0 : Nat) (a1 : Int32) (a2 : Int32) (a3 : Int32) (s0 : Int32) (d : gs_D) : gs_g Y0 P_Q_countAhead 22 [some (gs_r 4 a0), some (gs_i a1), some (gs_i a2), some (gs_i a3)] [(gs_i s0)] d = if s0 = 0 then gs_g Y0 P_Q_countAhead 28 [some (gs_r 4 a0), some (gs_i a1), some (gs_i a2), some (gs_i a3)] [] d else gs_g Y0 P_Q_countAhead 25 [some (gs_r 4 a0), some (gs_i a1), some (gs_i a2), some (gs_i a3)] [] d := gs_if 1 (fun _ => rfl)
theorem k_Q_countAhead_25 (a0 : Nat) (a1 : Int32) (a2 : Int32) (a3 : Int32) (d : gs_D) : gs_g Y0 P_Q_countAhead 25 [some (gs_r 4 a0), some (gs_i a1), some (gs_i a2), some (gs_i a3)] [] d = gs_g Y0 P_Q_countAhead 4 [some (gs_r 4 a0), some (gs_i a1), some (gs_i (a2 + gs_n 1)), some (gs_i (a3 + gs_n 1))] [] d := gs_gs 2 (fun _ => rfl)
theorem k_Q_countAhead_28 (a0 : Nat) (a1 : Int32) (a2 : Int32) (a3 : Int32) (d : gs_D) : gs_g Y0 P_Q_countAhead 28 [some (gs_r 4 a0), some (gs_i a1), some (gs_i a2), some (gs_i a3)] [] d = gs_g Y0 P_Q_countAhead 4 [some (gs_r 4 a0), some (gs_i a1), some (gs_i a2), some (gs_i (a3 + gs_n 1))] [] d := gs_gs 1 (fun _ => rfl)
theorem k_Q_countAhead_34 (a0 : Nat) (a1 : Int32) (a2 : Int32) (a3 : Int32) (d : gs_D) : gs_g Y0 P_Q_countAhead 34 [some (gs_r 4 a0), some (gs_i a1), some (gs_i a2), some (gs_i a3)] [] d = some (some (gs_i a2), d) := gs_an 2 (fun _ => rfl)
def I_G_pair : List (Nat × Jvm.ClassFile.Instr × Nat) := [(0, .iload_n 0, 0), (1, .bipush 6, 0), (3, .imul, 0), (4, .iload_n 1, 0), (5, .iadd, 0), (6, .ireturn, 0)]
def F_G_pair : List (Nat × Nat × Nat) := []
def K_G_pair : List (Nat × gs_V) := []
noncomputable def C_G_pair : List (Nat × Nat × Nat × gs_F) := []
noncomputable def P_G_pair : gs_P := (gs_lk I_G_pair, gs_lk F_G_pair, gs_lk K_G_pair, gs_lk C_G_pair)
noncomputable def f_G_pair : gs_F := gs_f Y0 2 1 P_G_pair
theorem e_G_pair (a0 : Int32) (a1 : Int32) (d : gs_D) : f_G_pair [(gs_i a0), (gs_i a1)] d = gs_ck 1 (gs_g Y0 P_G_pair 0 [some (gs_i a0), some (gs_i a1)] [] d) := rfl
theorem k_G_pair_0 (a0 : Int32) (a1 : Int32) (d : gs_D) : gs_g Y0 P_G_pair 0 [some (gs_i a0), some (gs_i a1)] [] d = some (some (gs_i ((a0 * (Int8.ofInt 6).toInt32) + a1)), d) := gs_an 6 (fun _ => rfl)
def I_G_bilateral : List (Nat × Jvm.ClassFile.Instr × Nat) := [(0, .bipush 18, 0), (2, .iload_n 0, 0), (3, .iload_n 1, 0), (4, .invokestatic 77, 0), (7, .iadd, 0), (8, .ireturn, 0)]
def F_G_bilateral : List (Nat × Nat × Nat) := []
def K_G_bilateral : List (Nat × gs_V) := []
noncomputable def C_G_bilateral : List (Nat × Nat × Nat × gs_F) := [(77, 2, 1000, f_G_pair)]
noncomputable def P_G_bilateral : gs_P := (gs_lk I_G_bilateral, gs_lk F_G_bilateral, gs_lk K_G_bilateral, gs_lk C_G_bilateral)
noncomputable def f_G_bilateral : gs_F := gs_f Y0 2 1 P_G_bilateral
theorem e_G_bilateral (a0 : Int32) (a1 : Int32) (d : gs_D) : f_G_bilateral [(gs_i a0), (gs_i a1)] d = gs_ck 1 (gs_g Y0 P_G_bilateral 0 [some (gs_i a0), some (gs_i a1)] [] d) := rfl
theorem k_G_bilateral_0 (a0 : Int32) (a1 : Int32) (d : gs_D) : gs_g Y0 P_G_bilateral 0 [some (gs_i a0), some (gs_i a1)] [] d = gs_af (f_G_pair [(gs_i a0), (gs_i a1)] d) [(gs_i (Int8.ofInt 18).toInt32)] (fun s9 d9 => gs_g Y0 P_G_bilateral 7 [some (gs_i a0), some (gs_i a1)] s9 d9) := gs_gc 4 (fun _ => rfl)
theorem k_G_bilateral_7 (a0 : Int32) (a1 : Int32) (s0 : Int32) (s1 : Int32) (d : gs_D) : gs_g Y0 P_G_bilateral 7 [some (gs_i a0), some (gs_i a1)] [(gs_i s1), (gs_i s0)] d = some (some (gs_i (s0 + s1)), d) := gs_an 2 (fun _ => rfl)
def I_A_covers : List (Nat × Jvm.ClassFile.Instr × Nat) := [(0, .aload_n 1, 0), (1, .getfield 42, 0), (4, .ifCond .le 29, 33), (7, .aload_n 0, 0), (8, .aload_n 1, 0), (9, .getfield 48, 0), (12, .aload_n 1, 0), (13, .getfield 51, 0), (16, .invokestatic 54, 0), (19, .invokevirtual 39, 0), (22, .aload_n 1, 0), (23, .getfield 42, 0), (26, .i2l, 0), (27, .lcmp, 0), (28, .ifCond .ge 5, 33), (31, .iconst 0, 0), (32, .ireturn, 0), (33, .aload_n 1, 0), (34, .getfield 58, 0), (37, .ifCond .eq 48, 85), (40, .aload_n 0, 0), (41, .aload_n 1, 0), (42, .getfield 61, 0), (45, .iconst 0, 0), (46, .invokestatic 54, 0), (49, .invokevirtual 39, 0), (52, .aload_n 1, 0), (53, .getfield 58, 0), (56, .i2l, 0), (57, .lcmp, 0), (58, .ifCond .lt 31, 89), (61, .aload_n 0, 0), (62, .aload_n 1, 0), (63, .getfield 61, 0), (66, .aload_n 1, 0), (67, .getfield 48, 0), (70, .invokestatic 64, 0), (73, .invokevirtual 39, 0), (76, .aload_n 1, 0), (77, .getfield 58, 0), (80, .i2l, 0), (81, .lcmp, 0), (82, .ifCond .lt 7, 89), (85, .iconst 1, 0), (86, .goto 4, 90), (89, .iconst 0, 0), (90, .ireturn, 0)]
def F_A_covers : List (Nat × Nat × Nat) := [(42, 4, 3), (48, 4, 0), (51, 4, 2), (58, 4, 4), (61, 4, 1)]
def K_A_covers : List (Nat × gs_V) := []
noncomputable def C_A_covers : List (Nat × Nat × Nat × gs_F) := [(54, 2, 1000, f_G_holding), (39, 1, 2, f_A_room), (64, 2, 1000, f_G_bilateral)]
noncomputable def P_A_covers : gs_P := (gs_lk I_A_covers, gs_lk F_A_covers, gs_lk K_A_covers, gs_lk C_A_covers)
noncomputable def f_A_covers : gs_F := gs_f Y0 2 2 P_A_covers
theorem e_A_covers (a0 : Nat) (a1 : Nat) (d : gs_D) : f_A_covers [(gs_r 3 a0), (gs_r 13 a1)] d = gs_ck 2 (gs_g Y0 P_A_covers 0 [some (gs_r 3 a0), some (gs_r 13 a1)] [] d) := rfl
theorem k_A_covers_0 (a0 : Nat) (a1 : Nat) (d : gs_D) : gs_g Y0 P_A_covers 0 [some (gs_r 3 a0), some (gs_r 13 a1)] [] d = if (d.1 13 a1 3) ≤ 0 then gs_g Y0 P_A_covers 33 [some (gs_r 3 a0), some (gs_r 13 a1)] [] d else gs_g Y0 P_A_covers 7 [some (gs_r 3 a0), some (gs_r 13 a1)] [] d := gs_if 3 (fun _ => rfl)
theorem k_A_covers_7 (a0 : Nat) (a1 : Nat) (d : gs_D) : gs_g Y0 P_A_covers 7 [some (gs_r 3 a0), some (gs_r 13 a1)] [] d = gs_af (f_G_holding [(gs_i (d.1 13 a1 0)), (gs_i (d.1 13 a1 2))] d) [(gs_r 3 a0)] (fun s9 d9 => gs_g Y0 P_A_covers 19 [some (gs_r 3 a0), some (gs_r 13 a1)] s9 d9) := gs_gc 6 (fun _ => rfl)
theorem k_A_covers_19 (a0 : Nat) (a1 : Nat) (s0 : Nat) (s1 : Int32) (d : gs_D) : gs_g Y0 P_A_covers 19 [some (gs_r 3 a0), some (gs_r 13 a1)] [(gs_i s1), (gs_r 3 s0)] d = gs_af (f_A_room [(gs_r 3 s0), (gs_i s1)] d) [] (fun s9 d9 => gs_g Y0 P_A_covers 22 [some (gs_r 3 a0), some (gs_r 13 a1)] s9 d9) := gs_gc 1 (fun _ => rfl)
theorem k_A_covers_22 (a0 : Nat) (a1 : Nat) (s0 : Int64) (d : gs_D) : gs_g Y0 P_A_covers 22 [some (gs_r 3 a0), some (gs_r 13 a1)] [(gs_l s0)] d = if 0 ≤ (lg_cmp s0 (d.1 13 a1 3).toInt64) then gs_g Y0 P_A_covers 33 [some (gs_r 3 a0), some (gs_r 13 a1)] [] d else gs_g Y0 P_A_covers 31 [some (gs_r 3 a0), some (gs_r 13 a1)] [] d := gs_if 5 (fun _ => rfl)
theorem k_A_covers_31 (a0 : Nat) (a1 : Nat) (d : gs_D) : gs_g Y0 P_A_covers 31 [some (gs_r 3 a0), some (gs_r 13 a1)] [] d = some (some (gs_i (gs_n 0)), d) := gs_an 2 (fun _ => rfl)
theorem k_A_covers_33 (a0 : Nat) (a1 : Nat) (d : gs_D) : gs_g Y0 P_A_covers 33 [some (gs_r 3 a0), some (gs_r 13 a1)] [] d = if (d.1 13 a1 4) = 0 then gs_g Y0 P_A_covers 85 [some (gs_r 3 a0), some (gs_r 13 a1)] [] d else gs_g Y0 P_A_covers 40 [some (gs_r 3 a0), some (gs_r 13 a1)] [] d := gs_if 3 (fun _ => rfl)
theorem k_A_covers_40 (a0 : Nat) (a1 : Nat) (d : gs_D) : gs_g Y0 P_A_covers 40 [some (gs_r 3 a0), some (gs_r 13 a1)] [] d = gs_af (f_G_holding [(gs_i (d.1 13 a1 1)), (gs_i (gs_n 0))] d) [(gs_r 3 a0)] (fun s9 d9 => gs_g Y0 P_A_covers 49 [some (gs_r 3 a0), some (gs_r 13 a1)] s9 d9) := gs_gc 5 (fun _ => rfl)
theorem k_A_covers_49 (a0 : Nat) (a1 : Nat) (s0 : Nat) (s1 : Int32) (d : gs_D) : gs_g Y0 P_A_covers 49 [some (gs_r 3 a0), some (gs_r 13 a1)] [(gs_i s1), (gs_r 3 s0)] d = gs_af (f_A_room [(gs_r 3 s0), (gs_i s1)] d) [] (fun s9 d9 => gs_g Y0 P_A_covers 52 [some (gs_r 3 a0), some (gs_r 13 a1)] s9 d9) := gs_gc 1 (fun _ => rfl)
theorem k_A_covers_52 (a0 : Nat) (a1 : Nat) (s0 : Int64) (d : gs_D) : gs_g Y0 P_A_covers 52 [some (gs_r 3 a0), some (gs_r 13 a1)] [(gs_l s0)] d = if (lg_cmp s0 (d.1 13 a1 4).toInt64) < 0 then gs_g Y0 P_A_covers 89 [some (gs_r 3 a0), some (gs_r 13 a1)] [] d else gs_g Y0 P_A_covers 61 [some (gs_r 3 a0), some (gs_r 13 a1)] [] d := gs_if 5 (fun _ => rfl)
theorem k_A_covers_61 (a0 : Nat) (a1 : Nat) (d : gs_D) : gs_g Y0 P_A_covers 61 [some (gs_r 3 a0), some (gs_r 13 a1)] [] d = gs_af (f_G_bilateral [(gs_i (d.1 13 a1 1)), (gs_i (d.1 13 a1 0))] d) [(gs_r 3 a0)] (fun s9 d9 => gs_g Y0 P_A_covers 73 [some (gs_r 3 a0), some (gs_r 13 a1)] s9 d9) := gs_gc 6 (fun _ => rfl)
theorem k_A_covers_73 (a0 : Nat) (a1 : Nat) (s0 : Nat) (s1 : Int32) (d : gs_D) : gs_g Y0 P_A_covers 73 [some (gs_r 3 a0), some (gs_r 13 a1)] [(gs_i s1), (gs_r 3 s0)] d = gs_af (f_A_room [(gs_r 3 s0), (gs_i s1)] d) [] (fun s9 d9 => gs_g Y0 P_A_covers 76 [some (gs_r 3 a0), some (gs_r 13 a1)] s9 d9) := gs_gc 1 (fun _ => rfl)
theorem k_A_covers_76 (a0 : Nat) (a1 : Nat) (s0 : Int64) (d : gs_D) : gs_g Y0 P_A_covers 76 [some (gs_r 3 a0), some (gs_r 13 a1)] [(gs_l s0)] d = if (lg_cmp s0 (d.1 13 a1 4).toInt64) < 0 then gs_g Y0 P_A_covers 89 [some (gs_r 3 a0), some (gs_r 13 a1)] [] d else gs_g Y0 P_A_covers 85 [some (gs_r 3 a0), some (gs_r 13 a1)] [] d := gs_if 5 (fun _ => rfl)
theorem k_A_covers_85 (a0 : Nat) (a1 : Nat) (d : gs_D) : gs_g Y0 P_A_covers 85 [some (gs_r 3 a0), some (gs_r 13 a1)] [] d = some (some (gs_i (gs_n 1)), d) := gs_an 3 (fun _ => rfl)
theorem k_A_covers_89 (a0 : Nat) (a1 : Nat) (d : gs_D) : gs_g Y0 P_A_covers 89 [some (gs_r 3 a0), some (gs_r 13 a1)] [] d = some (some (gs_i (gs_n 0)), d) := gs_an 2 (fun _ => rfl)
def I_G_firstReady : List (Nat × Jvm.ClassFile.Instr × Nat) := [(0, .iconst 0, 0), (1, .istore_n 1, 0), (2, .iload_n 1, 0), (3, .aload_n 0, 0), (4, .getfield 12, 0), (7, .getfield 91, 0), (10, .getfield 179, 0), (13, .if_icmp .ge 49, 62), (16, .aload_n 0, 0), (17, .getfield 12, 0), (20, .getfield 91, 0), (23, .iload_n 1, 0), (24, .invokevirtual 158, 0), (27, .ifCond .ne 29, 56), (30, .aload_n 0, 0), (31, .getfield 12, 0), (34, .getfield 37, 0), (37, .aload_n 0, 0), (38, .getfield 12, 0), (41, .getfield 91, 0), (44, .iload_n 1, 0), (45, .invokevirtual 171, 0), (48, .invokevirtual 182, 0), (51, .ifCond .eq 5, 56), (54, .iload_n 1, 0), (55, .ireturn, 0), (56, .iinc 1 1, 0), (59, .goto (-57), 2), (62, .iconst (-1), 0), (63, .ireturn, 0)]
def F_G_firstReady : List (Nat × Nat × Nat) := [(12, 0, 0), (91, 1, 2), (179, 3, 3), (37, 1, 1)]
def K_G_firstReady : List (Nat × gs_V) := []
noncomputable def C_G_firstReady : List (Nat × Nat × Nat × gs_F) := [(158, 1, 3, f_Q_countAhead), (171, 1, 3, f_Q_at), (182, 1, 2, f_A_covers)]
noncomputable def P_G_firstReady : gs_P := (gs_lk I_G_firstReady, gs_lk F_G_firstReady, gs_lk K_G_firstReady, gs_lk C_G_firstReady)
noncomputable def f_G_firstReady : gs_F := gs_f Y0 2 1 P_G_firstReady
theorem e_G_firstReady (a0 : Nat) (d : gs_D) : f_G_firstReady [(gs_r 0 a0)] d = gs_ck 1 (gs_g Y0 P_G_firstReady 0 [some (gs_r 0 a0), none] [] d) := rfl
theorem k_G_firstReady_0 (a0 : Nat) (d : gs_D) : gs_g Y0 P_G_firstReady 0 [some (gs_r 0 a0), none] [] d = gs_g Y0 P_G_firstReady 2 [some (gs_r 0 a0), some (gs_i (gs_n 0))] [] d := gs_gs 1 (fun _ => rfl)
theorem k_G_firstReady_2 (a0 : Nat) (a1 : Int32) (d : gs_D) : gs_g Y0 P_G_firstReady 2 [some (gs_r 0 a0), some (gs_i a1)] [] d = if (d.1 4 0 3) ≤ a1 then gs_g Y0 P_G_firstReady 62 [some (gs_r 0 a0), some (gs_i a1)] [] d else gs_g Y0 P_G_firstReady 16 [some (gs_r 0 a0), some (gs_i a1)] [] d := gs_if 6 (fun _ => rfl)
theorem k_G_firstReady_16 (a0 : Nat) (a1 : Int32) (d : gs_D) : gs_g Y0 P_G_firstReady 16 [some (gs_r 0 a0), some (gs_i a1)] [] d = gs_af (f_Q_countAhead [(gs_r 4 0), (gs_i a1)] d) [] (fun s9 d9 => gs_g Y0 P_G_firstReady 27 [some (gs_r 0 a0), some (gs_i a1)] s9 d9) := gs_gc 5 (fun _ => rfl)
theorem k_G_firstReady_27 (a0 : Nat) (a1 : Int32) (s0 : Int32) (d : gs_D) : gs_g Y0 P_G_firstReady 27 [some (gs_r 0 a0), some (gs_i a1)] [(gs_i s0)] d = if ¬ s0 = 0 then gs_g Y0 P_G_firstReady 56 [some (gs_r 0 a0), some (gs_i a1)] [] d else gs_g Y0 P_G_firstReady 30 [some (gs_r 0 a0), some (gs_i a1)] [] d := gs_if 1 (fun _ => rfl)
theorem k_G_firstReady_30 (a0 : Nat) (a1 : Int32) (d : gs_D) : gs_g Y0 P_G_firstReady 30 [some (gs_r 0 a0), some (gs_i a1)] [] d = gs_af (f_Q_at [(gs_r 4 0), (gs_i a1)] d) [(gs_r 3 0)] (fun s9 d9 => gs_g Y0 P_G_firstReady 48 [some (gs_r 0 a0), some (gs_i a1)] s9 d9) := gs_gc 8 (fun _ => rfl)
theorem k_G_firstReady_48 (a0 : Nat) (a1 : Int32) (s0 : Nat) (s1 : Nat) (d : gs_D) : gs_g Y0 P_G_firstReady 48 [some (gs_r 0 a0), some (gs_i a1)] [(gs_r 13 s1), (gs_r 3 s0)] d = gs_af (f_A_covers [(gs_r 3 s0), (gs_r 13 s1)] d) [] (fun s9 d9 => gs_g Y0 P_G_firstReady 51 [some (gs_r 0 a0), some (gs_i a1)] s9 d9) := gs_gc 1 (fun _ => rfl)
theorem k_G_firstReady_51 (a0 : Nat) (a1 : Int32) (s0 : Int32) (d : gs_D) : gs_g Y0 P_G_firstReady 51 [some (gs_r 0 a0), some (gs_i a1)] [(gs_i s0)] d = if s0 = 0 then gs_g Y0 P_G_firstReady 56 [some (gs_r 0 a0), some (gs_i a1)] [] d else gs_g Y0 P_G_firstReady 54 [some (gs_r 0 a0), some (gs_i a1)] [] d := gs_if 1 (fun _ => rfl)
theorem k_G_firstReady_54 (a0 : Nat) (a1 : Int32) (d : gs_D) : gs_g Y0 P_G_firstReady 54 [some (gs_r 0 a0), some (gs_i a1)] [] d = some (some (gs_i a1), d) := gs_an 2 (fun _ => rfl)
theorem k_G_firstReady_56 (a0 : Nat) (a1 : Int32) (d : gs_D) : gs_g Y0 P_G_firstReady 56 [some (gs_r 0 a0), some (gs_i a1)] [] d = gs_g Y0 P_G_firstReady 2 [some (gs_r 0 a0), some (gs_i (a1 + gs_n 1))] [] d := gs_gs 1 (fun _ => rfl)
theorem k_G_firstReady_62 (a0 : Nat) (a1 : Int32) (d : gs_D) : gs_g Y0 P_G_firstReady 62 [some (gs_r 0 a0), some (gs_i a1)] [] d = some (some (gs_i (gs_n (-1))), d) := gs_an 2 (fun _ => rfl)
def I_A_move : List (Nat × Jvm.ClassFile.Instr × Nat) := [(0, .iload_n 2, 0), (1, .i2l, 0), (2, .aload_n 1, 0), (3, .getfield 42, 0), (6, .i2l, 0), (7, .lmul, 0), (8, .lstore_n 3, 0), (9, .iload_n 2, 0), (10, .i2l, 0), (11, .aload_n 1, 0), (12, .getfield 58, 0), (15, .i2l, 0), (16, .lmul, 0), (17, .lstore 5, 0), (19, .aload_n 0, 0), (20, .getfield 9, 0), (23, .aload_n 1, 0), (24, .getfield 48, 0), (27, .aload_n 1, 0), (28, .getfield 51, 0), (31, .invokestatic 54, 0), (34, .dup2, 0), (35, .laload, 0), (36, .lload_n 3, 0), (37, .lsub, 0), (38, .lastore, 0), (39, .aload_n 0, 0), (40, .getfield 9, 0), (43, .aload_n 1, 0), (44, .getfield 61, 0), (47, .aload_n 1, 0), (48, .getfield 51, 0), (51, .invokestatic 54, 0), (54, .dup2, 0), (55, .laload, 0), (56, .lload_n 3, 0), (57, .ladd, 0), (58, .lastore, 0), (59, .aload_n 0, 0), (60, .getfield 9, 0), (63, .aload_n 1, 0), (64, .getfield 61, 0), (67, .iconst 0, 0), (68, .invokestatic 54, 0), (71, .dup2, 0), (72, .laload, 0), (73, .lload 5, 0), (75, .lsub, 0), (76, .lastore, 0), (77, .aload_n 0, 0), (78, .getfield 9, 0), (81, .aload_n 1, 0), (82, .getfield 48, 0), (85, .iconst 0, 0), (86, .invokestatic 54, 0), (89, .dup2, 0), (90, .laload, 0), (91, .lload 5, 0), (93, .ladd, 0), (94, .lastore, 0), (95, .aload_n 0, 0), (96, .getfield 28, 0), (99, .aload_n 1, 0), (100, .getfield 61, 0), (103, .aload_n 1, 0), (104, .getfield 48, 0), (107, .invokestatic 67, 0), (110, .dup2, 0), (111, .laload, 0), (112, .lload 5, 0), (114, .ladd, 0), (115, .lastore, 0), (116, .aload_n 0, 0), (117, .getfield 28, 0), (120, .aload_n 1, 0), (121, .getfield 48, 0), (124, .aload_n 1, 0), (125, .getfield 61, 0), (128, .invokestatic 67, 0), (131, .dup2, 0), (132, .laload, 0), (133, .lload 5, 0), (135, .lsub, 0), (136, .lastore, 0), (137, .return_, 0)]
def F_A_move : List (Nat × Nat × Nat) := [(42, 4, 3), (58, 4, 4), (9, 2, 0), (48, 4, 0), (51, 4, 2), (61, 4, 1), (28, 2, 5)]
def K_A_move : List (Nat × gs_V) := []
noncomputable def C_A_move : List (Nat × Nat × Nat × gs_F) := [(54, 2, 1000, f_G_holding), (67, 2, 1000, f_G_pair)]
noncomputable def P_A_move : gs_P := (gs_lk I_A_move, gs_lk F_A_move, gs_lk K_A_move, gs_lk C_A_move)
noncomputable def f_A_move : gs_F := gs_f Y0 7 0 P_A_move
theorem e_A_move (a0 : Nat) (a1 : Nat) (a2 : Int32) (d : gs_D) : f_A_move [(gs_r 3 a0), (gs_r 13 a1), (gs_i a2)] d = gs_ck 0 (gs_g Y0 P_A_move 0 [some (gs_r 3 a0), some (gs_r 13 a1), some (gs_i a2), none, none, none, none] [] d) := rfl
theorem k_A_move_0 (a0 : Nat) (a1 : Nat) (a2 : Int32) (d : gs_D) : gs_g Y0 P_A_move 0 [some (gs_r 3 a0), some (gs_r 13 a1), some (gs_i a2), none, none, none, none] [] d = gs_af (f_G_holding [(gs_i (d.1 13 a1 0)), (gs_i (d.1 13 a1 2))] d) [(gs_r 5 a0)] (fun s9 d9 => gs_g Y0 P_A_move 34 [some (gs_r 3 a0), some (gs_r 13 a1), some (gs_i a2), some (gs_l (a2.toInt64 * (d.1 13 a1 3).toInt64)), none, some (gs_l (a2.toInt64 * (d.1 13 a1 4).toInt64)), none] s9 d9) := gs_gc 21 (fun _ => rfl)
theorem k_A_move_34 (a0 : Nat) (a1 : Nat) (a2 : Int32) (a3 : Int64) (a5 : Int64) (s0 : Nat) (s1 : Int32) (d : gs_D) : gs_g Y0 P_A_move 34 [some (gs_r 3 a0), some (gs_r 13 a1), some (gs_i a2), some (gs_l a3), none, some (gs_l a5), none] [(gs_i s1), (gs_r 5 s0)] d = gs_ix s1 18 (gs_g Y0 P_A_move 36 [some (gs_r 3 a0), some (gs_r 13 a1), some (gs_i a2), some (gs_l a3), none, some (gs_l a5), none] [(gs_l (d.2 5 s0 s1.toNatClampNeg)), (gs_i s1), (gs_r 5 s0)] d) := gs_gx 2 (fun _ => rfl)
theorem k_A_move_36 (a0 : Nat) (a1 : Nat) (a2 : Int32) (a3 : Int64) (a5 : Int64) (s0 : Nat) (s1 : Int32) (s2 : Int64) (d : gs_D) : gs_g Y0 P_A_move 36 [some (gs_r 3 a0), some (gs_r 13 a1), some (gs_i a2), some (gs_l a3), none, some (gs_l a5), none] [(gs_l s2), (gs_i s1), (gs_r 5 s0)] d = gs_ix s1 18 (gs_g Y0 P_A_move 39 [some (gs_r 3 a0), some (gs_r 13 a1), some (gs_i a2), some (gs_l a3), none, some (gs_l a5), none] [] (gs_wL d 5 s0 s1.toNatClampNeg (s2 - a3))) := gs_gx 3 (fun _ => rfl)
theorem k_A_move_39 (a0 : Nat) (a1 : Nat) (a2 : Int32) (a3 : Int64) (a5 : Int64) (d : gs_D) : gs_g Y0 P_A_move 39 [some (gs_r 3 a0), some (gs_r 13 a1), some (gs_i a2), some (gs_l a3), none, some (gs_l a5), none] [] d = gs_af (f_G_holding [(gs_i (d.1 13 a1 1)), (gs_i (d.1 13 a1 2))] d) [(gs_r 5 a0)] (fun s9 d9 => gs_g Y0 P_A_move 54 [some (gs_r 3 a0), some (gs_r 13 a1), some (gs_i a2), some (gs_l a3), none, some (gs_l a5), none] s9 d9) := gs_gc 7 (fun _ => rfl)
theorem k_A_move_54 (a0 : Nat) (a1 : Nat) (a2 : Int32) (a3 : Int64) (a5 : Int64) (s0 : Nat) (s1 : Int32) (d : gs_D) : gs_g Y0 P_A_move 54 [some (gs_r 3 a0), some (gs_r 13 a1), some (gs_i a2), some (gs_l a3), none, some (gs_l a5), none] [(gs_i s1), (gs_r 5 s0)] d = gs_ix s1 18 (gs_g Y0 P_A_move 56 [some (gs_r 3 a0), some (gs_r 13 a1), some (gs_i a2), some (gs_l a3), none, some (gs_l a5), none] [(gs_l (d.2 5 s0 s1.toNatClampNeg)), (gs_i s1), (gs_r 5 s0)] d) := gs_gx 2 (fun _ => rfl)
theorem k_A_move_56 (a0 : Nat) (a1 : Nat) (a2 : Int32) (a3 : Int64) (a5 : Int64) (s0 : Nat) (s1 : Int32) (s2 : Int64) (d : gs_D) : gs_g Y0 P_A_move 56 [some (gs_r 3 a0), some (gs_r 13 a1), some (gs_i a2), some (gs_l a3), none, some (gs_l a5), none] [(gs_l s2), (gs_i s1), (gs_r 5 s0)] d = gs_ix s1 18 (gs_g Y0 P_A_move 59 [some (gs_r 3 a0), some (gs_r 13 a1), some (gs_i a2), some (gs_l a3), none, some (gs_l a5), none] [] (gs_wL d 5 s0 s1.toNatClampNeg (s2 + a3))) := gs_gx 3 (fun _ => rfl)
theorem k_A_move_59 (a0 : Nat) (a1 : Nat) (a2 : Int32) (a3 : Int64) (a5 : Int64) (d : gs_D) : gs_g Y0 P_A_move 59 [some (gs_r 3 a0), some (gs_r 13 a1), some (gs_i a2), some (gs_l a3), none, some (gs_l a5), none] [] d = gs_af (f_G_holding [(gs_i (d.1 13 a1 1)), (gs_i (gs_n 0))] d) [(gs_r 5 a0)] (fun s9 d9 => gs_g Y0 P_A_move 71 [some (gs_r 3 a0), some (gs_r 13 a1), some (gs_i a2), some (gs_l a3), none, some (gs_l a5), none] s9 d9) := gs_gc 6 (fun _ => rfl)
theorem k_A_move_71 (a0 : Nat) (a1 : Nat) (a2 : Int32) (a3 : Int64) (a5 : Int64) (s0 : Nat) (s1 : Int32) (d : gs_D) : gs_g Y0 P_A_move 71 [some (gs_r 3 a0), some (gs_r 13 a1), some (gs_i a2), some (gs_l a3), none, some (gs_l a5), none] [(gs_i s1), (gs_r 5 s0)] d = gs_ix s1 18 (gs_g Y0 P_A_move 73 [some (gs_r 3 a0), some (gs_r 13 a1), some (gs_i a2), some (gs_l a3), none, some (gs_l a5), none] [(gs_l (d.2 5 s0 s1.toNatClampNeg)), (gs_i s1), (gs_r 5 s0)] d) := gs_gx 2 (fun _ => rfl)
theorem k_A_move_73 (a0 : Nat) (a1 : Nat) (a2 : Int32) (a3 : Int64) (a5 : Int64) (s0 : Nat) (s1 : Int32) (s2 : Int64) (d : gs_D) : gs_g Y0 P_A_move 73 [some (gs_r 3 a0), some (gs_r 13 a1), some (gs_i a2), some (gs_l a3), none, some (gs_l a5), none] [(gs_l s2), (gs_i s1), (gs_r 5 s0)] d = gs_ix s1 18 (gs_g Y0 P_A_move 77 [some (gs_r 3 a0), some (gs_r 13 a1), some (gs_i a2), some (gs_l a3), none, some (gs_l a5), none] [] (gs_wL d 5 s0 s1.toNatClampNeg (s2 - a5))) := gs_gx 3 (fun _ => rfl)
theorem k_A_move_77 (a0 : Nat) (a1 : Nat) (a2 : Int32) (a3 : Int64) (a5 : Int64) (d : gs_D) : gs_g Y0 P_A_move 77 [some (gs_r 3 a0), some (gs_r 13 a1), some (gs_i a2), some (gs_l a3), none, some (gs_l a5), none] [] d = gs_af (f_G_holding [(gs_i (d.1 13 a1 0)), (gs_i (gs_n 0))] d) [(gs_r 5 a0)] (fun s9 d9 => gs_g Y0 P_A_move 89 [some (gs_r 3 a0), some (gs_r 13 a1), some (gs_i a2), some (gs_l a3), none, some (gs_l a5), none] s9 d9) := gs_gc 6 (fun _ => rfl)
theorem k_A_move_89 (a0 : Nat) (a1 : Nat) (a2 : Int32) (a3 : Int64) (a5 : Int64) (s0 : Nat) (s1 : Int32) (d : gs_D) : gs_g Y0 P_A_move 89 [some (gs_r 3 a0), some (gs_r 13 a1), some (gs_i a2), some (gs_l a3), none, some (gs_l a5), none] [(gs_i s1), (gs_r 5 s0)] d = gs_ix s1 18 (gs_g Y0 P_A_move 91 [some (gs_r 3 a0), some (gs_r 13 a1), some (gs_i a2), some (gs_l a3), none, some (gs_l a5), none] [(gs_l (d.2 5 s0 s1.toNatClampNeg)), (gs_i s1), (gs_r 5 s0)] d) := gs_gx 2 (fun _ => rfl)
theorem k_A_move_91 (a0 : Nat) (a1 : Nat) (a2 : Int32) (a3 : Int64) (a5 : Int64) (s0 : Nat) (s1 : Int32) (s2 : Int64) (d : gs_D) : gs_g Y0 P_A_move 91 [some (gs_r 3 a0), some (gs_r 13 a1), some (gs_i a2), some (gs_l a3), none, some (gs_l a5), none] [(gs_l s2), (gs_i s1), (gs_r 5 s0)] d = gs_ix s1 18 (gs_g Y0 P_A_move 95 [some (gs_r 3 a0), some (gs_r 13 a1), some (gs_i a2), some (gs_l a3), none, some (gs_l a5), none] [] (gs_wL d 5 s0 s1.toNatClampNeg (s2 + a5))) := gs_gx 3 (fun _ => rfl)
theorem k_A_move_95 (a0 : Nat) (a1 : Nat) (a2 : Int32) (a3 : Int64) (a5 : Int64) (d : gs_D) : gs_g Y0 P_A_move 95 [some (gs_r 3 a0), some (gs_r 13 a1), some (gs_i a2), some (gs_l a3), none, some (gs_l a5), none] [] d = gs_af (f_G_pair [(gs_i (d.1 13 a1 1)), (gs_i (d.1 13 a1 0))] d) [(gs_r 10 a0)] (fun s9 d9 => gs_g Y0 P_A_move 110 [some (gs_r 3 a0), some (gs_r 13 a1), some (gs_i a2), some (gs_l a3), none, some (gs_l a5), none] s9 d9) := gs_gc 7 (fun _ => rfl)
theorem k_A_move_110 (a0 : Nat) (a1 : Nat) (a2 : Int32) (a3 : Int64) (a5 : Int64) (s0 : Nat) (s1 : Int32) (d : gs_D) : gs_g Y0 P_A_move 110 [some (gs_r 3 a0), some (gs_r 13 a1), some (gs_i a2), some (gs_l a3), none, some (gs_l a5), none] [(gs_i s1), (gs_r 10 s0)] d = gs_ix s1 36 (gs_g Y0 P_A_move 112 [some (gs_r 3 a0), some (gs_r 13 a1), some (gs_i a2), some (gs_l a3), none, some (gs_l a5), none] [(gs_l (d.2 10 s0 s1.toNatClampNeg)), (gs_i s1), (gs_r 10 s0)] d) := gs_gx 2 (fun _ => rfl)
theorem k_A_move_112 (a0 : Nat) (a1 : Nat) (a2 : Int32) (a3 : Int64) (a5 : Int64) (s0 : Nat) (s1 : Int32) (s2 : Int64) (d : gs_D) : gs_g Y0 P_A_move 112 [some (gs_r 3 a0), some (gs_r 13 a1), some (gs_i a2), some (gs_l a3), none, some (gs_l a5), none] [(gs_l s2), (gs_i s1), (gs_r 10 s0)] d = gs_ix s1 36 (gs_g Y0 P_A_move 116 [some (gs_r 3 a0), some (gs_r 13 a1), some (gs_i a2), some (gs_l a3), none, some (gs_l a5), none] [] (gs_wL d 10 s0 s1.toNatClampNeg (s2 + a5))) := gs_gx 3 (fun _ => rfl)
theorem k_A_move_116 (a0 : Nat) (a1 : Nat) (a2 : Int32) (a3 : Int64) (a5 : Int64) (d : gs_D) : gs_g Y0 P_A_move 116 [some (gs_r 3 a0), some (gs_r 13 a1), some (gs_i a2), some (gs_l a3), none, some (gs_l a5), none] [] d = gs_af (f_G_pair [(gs_i (d.1 13 a1 0)), (gs_i (d.1 13 a1 1))] d) [(gs_r 10 a0)] (fun s9 d9 => gs_g Y0 P_A_move 131 [some (gs_r 3 a0), some (gs_r 13 a1), some (gs_i a2), some (gs_l a3), none, some (gs_l a5), none] s9 d9) := gs_gc 7 (fun _ => rfl)
theorem k_A_move_131 (a0 : Nat) (a1 : Nat) (a2 : Int32) (a3 : Int64) (a5 : Int64) (s0 : Nat) (s1 : Int32) (d : gs_D) : gs_g Y0 P_A_move 131 [some (gs_r 3 a0), some (gs_r 13 a1), some (gs_i a2), some (gs_l a3), none, some (gs_l a5), none] [(gs_i s1), (gs_r 10 s0)] d = gs_ix s1 36 (gs_g Y0 P_A_move 133 [some (gs_r 3 a0), some (gs_r 13 a1), some (gs_i a2), some (gs_l a3), none, some (gs_l a5), none] [(gs_l (d.2 10 s0 s1.toNatClampNeg)), (gs_i s1), (gs_r 10 s0)] d) := gs_gx 2 (fun _ => rfl)
theorem k_A_move_133 (a0 : Nat) (a1 : Nat) (a2 : Int32) (a3 : Int64) (a5 : Int64) (s0 : Nat) (s1 : Int32) (s2 : Int64) (d : gs_D) : gs_g Y0 P_A_move 133 [some (gs_r 3 a0), some (gs_r 13 a1), some (gs_i a2), some (gs_l a3), none, some (gs_l a5), none] [(gs_l s2), (gs_i s1), (gs_r 10 s0)] d = gs_ix s1 36 (gs_g Y0 P_A_move 137 [some (gs_r 3 a0), some (gs_r 13 a1), some (gs_i a2), some (gs_l a3), none, some (gs_l a5), none] [] (gs_wL d 10 s0 s1.toNatClampNeg (s2 - a5))) := gs_gx 3 (fun _ => rfl)
theorem k_A_move_137 (a0 : Nat) (a1 : Nat) (a2 : Int32) (a3 : Int64) (a5 : Int64) (d : gs_D) : gs_g Y0 P_A_move 137 [some (gs_r 3 a0), some (gs_r 13 a1), some (gs_i a2), some (gs_l a3), none, some (gs_l a5), none] [] d = some (none, d) := gs_an 1 (fun _ => rfl)
def I_Q_removeAt : List (Nat × Jvm.ClassFile.Instr × Nat) := [(0, .aload_n 0, 0), (1, .dup, 0), (2, .getfield 25, 0), (5, .iconst 1, 0), (6, .isub, 0), (7, .putfield 25, 0), (10, .iload_n 1, 0), (11, .istore_n 2, 0), (12, .iload_n 2, 0), (13, .aload_n 0, 0), (14, .getfield 25, 0), (17, .if_icmp .ge 23, 40), (20, .aload_n 0, 0), (21, .getfield 21, 0), (24, .iload_n 2, 0), (25, .aload_n 0, 0), (26, .getfield 21, 0), (29, .iload_n 2, 0), (30, .iconst 1, 0), (31, .iadd, 0), (32, .iaload, 0), (33, .iastore, 0), (34, .iinc 2 1, 0), (37, .goto (-25), 12), (40, .return_, 0)]
def F_Q_removeAt : List (Nat × Nat × Nat) := [(25, 3, 3), (21, 3, 2)]
def K_Q_removeAt : List (Nat × gs_V) := []
noncomputable def C_Q_removeAt : List (Nat × Nat × Nat × gs_F) := []
noncomputable def P_Q_removeAt : gs_P := (gs_lk I_Q_removeAt, gs_lk F_Q_removeAt, gs_lk K_Q_removeAt, gs_lk C_Q_removeAt)
noncomputable def f_Q_removeAt : gs_F := gs_f Y0 3 0 P_Q_removeAt
theorem e_Q_removeAt (a0 : Nat) (a1 : Int32) (d : gs_D) : f_Q_removeAt [(gs_r 4 a0), (gs_i a1)] d = gs_ck 0 (gs_g Y0 P_Q_removeAt 0 [some (gs_r 4 a0), some (gs_i a1), none] [] d) := rfl
theorem k_Q_removeAt_0 (a0 : Nat) (a1 : Int32) (d : gs_D) : gs_g Y0 P_Q_removeAt 0 [some (gs_r 4 a0), some (gs_i a1), none] [] d = gs_g Y0 P_Q_removeAt 12 [some (gs_r 4 a0), some (gs_i a1), some (gs_i a1)] [] (gs_wI d 4 a0 3 ((d.1 4 a0 3) - (gs_n 1))) := gs_gs 7 (fun _ => rfl)
theorem k_Q_removeAt_12 (a0 : Nat) (a1 : Int32) (a2 : Int32) (d : gs_D) : gs_g Y0 P_Q_removeAt 12 [some (gs_r 4 a0), some (gs_i a1), some (gs_i a2)] [] d = if (d.1 4 a0 3) ≤ a2 then gs_g Y0 P_Q_removeAt 40 [some (gs_r 4 a0), some (gs_i a1), some (gs_i a2)] [] d else gs_g Y0 P_Q_removeAt 20 [some (gs_r 4 a0), some (gs_i a1), some (gs_i a2)] [] d := gs_if 4 (fun _ => rfl)
theorem k_Q_removeAt_20 (a0 : Nat) (a1 : Int32) (a2 : Int32) (d : gs_D) : gs_g Y0 P_Q_removeAt 20 [some (gs_r 4 a0), some (gs_i a1), some (gs_i a2)] [] d = gs_ix (a2 + (gs_n 1)) 10 (gs_g Y0 P_Q_removeAt 33 [some (gs_r 4 a0), some (gs_i a1), some (gs_i a2)] [(gs_i (d.1 12 a0 (a2 + (gs_n 1)).toNatClampNeg)), (gs_i a2), (gs_r 12 a0)] d) := gs_gx 9 (fun _ => rfl)
theorem k_Q_removeAt_33 (a0 : Nat) (a1 : Int32) (a2 : Int32) (s0 : Nat) (s1 : Int32) (s2 : Int32) (d : gs_D) : gs_g Y0 P_Q_removeAt 33 [some (gs_r 4 a0), some (gs_i a1), some (gs_i a2)] [(gs_i s2), (gs_i s1), (gs_r 12 s0)] d = gs_ix s1 10 (gs_g Y0 P_Q_removeAt 34 [some (gs_r 4 a0), some (gs_i a1), some (gs_i a2)] [] (gs_wI d 12 s0 s1.toNatClampNeg s2)) := gs_gx 1 (fun _ => rfl)
theorem k_Q_removeAt_34 (a0 : Nat) (a1 : Int32) (a2 : Int32) (d : gs_D) : gs_g Y0 P_Q_removeAt 34 [some (gs_r 4 a0), some (gs_i a1), some (gs_i a2)] [] d = gs_g Y0 P_Q_removeAt 12 [some (gs_r 4 a0), some (gs_i a1), some (gs_i (a2 + gs_n 1))] [] d := gs_gs 1 (fun _ => rfl)
theorem k_Q_removeAt_40 (a0 : Nat) (a1 : Int32) (a2 : Int32) (d : gs_D) : gs_g Y0 P_Q_removeAt 40 [some (gs_r 4 a0), some (gs_i a1), some (gs_i a2)] [] d = some (none, d) := gs_an 1 (fun _ => rfl)
def I_Q_leave : List (Nat × Jvm.ClassFile.Instr × Nat) := [(0, .aload_n 0, 0), (1, .iload_n 1, 0), (2, .invokevirtual 29, 0), (5, .iload_n 2, 0), (6, .putfield 55, 0), (9, .aload_n 0, 0), (10, .iload_n 1, 0), (11, .invokevirtual 62, 0), (14, .return_, 0)]
def F_Q_leave : List (Nat × Nat × Nat) := [(55, 4, 6)]
def K_Q_leave : List (Nat × gs_V) := []
noncomputable def C_Q_leave : List (Nat × Nat × Nat × gs_F) := [(29, 1, 3, f_Q_at), (62, 1, 3, f_Q_removeAt)]
noncomputable def P_Q_leave : gs_P := (gs_lk I_Q_leave, gs_lk F_Q_leave, gs_lk K_Q_leave, gs_lk C_Q_leave)
noncomputable def f_Q_leave : gs_F := gs_f Y0 3 0 P_Q_leave
theorem e_Q_leave (a0 : Nat) (a1 : Int32) (a2 : Int32) (d : gs_D) : f_Q_leave [(gs_r 4 a0), (gs_i a1), (gs_i a2)] d = gs_ck 0 (gs_g Y0 P_Q_leave 0 [some (gs_r 4 a0), some (gs_i a1), some (gs_i a2)] [] d) := rfl
theorem k_Q_leave_0 (a0 : Nat) (a1 : Int32) (a2 : Int32) (d : gs_D) : gs_g Y0 P_Q_leave 0 [some (gs_r 4 a0), some (gs_i a1), some (gs_i a2)] [] d = gs_af (f_Q_at [(gs_r 4 a0), (gs_i a1)] d) [] (fun s9 d9 => gs_g Y0 P_Q_leave 5 [some (gs_r 4 a0), some (gs_i a1), some (gs_i a2)] s9 d9) := gs_gc 3 (fun _ => rfl)
theorem k_Q_leave_5 (a0 : Nat) (a1 : Int32) (a2 : Int32) (s0 : Nat) (d : gs_D) : gs_g Y0 P_Q_leave 5 [some (gs_r 4 a0), some (gs_i a1), some (gs_i a2)] [(gs_r 13 s0)] d = gs_af (f_Q_removeAt [(gs_r 4 a0), (gs_i a1)] (gs_wI d 13 s0 6 a2)) [] (fun s9 d9 => gs_g Y0 P_Q_leave 14 [some (gs_r 4 a0), some (gs_i a1), some (gs_i a2)] s9 d9) := gs_gc 5 (fun _ => rfl)
theorem k_Q_leave_14 (a0 : Nat) (a1 : Int32) (a2 : Int32) (d : gs_D) : gs_g Y0 P_Q_leave 14 [some (gs_r 4 a0), some (gs_i a1), some (gs_i a2)] [] d = some (none, d) := gs_an 1 (fun _ => rfl)
def I_G_goThrough : List (Nat × Jvm.ClassFile.Instr × Nat) := [(0, .iconst 0, 0), (1, .istore_n 1, 0), (2, .iload_n 1, 0), (3, .bipush 10, 0), (5, .if_icmp .ge 55, 60), (8, .aload_n 0, 0), (9, .invokevirtual 168, 0), (12, .istore_n 2, 0), (13, .iload_n 2, 0), (14, .iconst (-1), 0), (15, .if_icmp .ne 5, 20), (18, .iload_n 1, 0), (19, .ireturn, 0), (20, .aload_n 0, 0), (21, .getfield 12, 0), (24, .getfield 37, 0), (27, .aload_n 0, 0), (28, .getfield 12, 0), (31, .getfield 91, 0), (34, .iload_n 2, 0), (35, .invokevirtual 171, 0), (38, .iconst 1, 0), (39, .invokevirtual 175, 0), (42, .aload_n 0, 0), (43, .getfield 12, 0), (46, .getfield 91, 0), (49, .iload_n 2, 0), (50, .iconst 1, 0), (51, .invokevirtual 101, 0), (54, .iinc 1 1, 0), (57, .goto (-55), 2), (60, .bipush 10, 0), (62, .ireturn, 0)]
def F_G_goThrough : List (Nat × Nat × Nat) := [(12, 0, 0), (37, 1, 1), (91, 1, 2)]
def K_G_goThrough : List (Nat × gs_V) := []
noncomputable def C_G_goThrough : List (Nat × Nat × Nat × gs_F) := [(168, 0, 0, f_G_firstReady), (171, 1, 3, f_Q_at), (175, 2, 2, f_A_move), (101, 2, 3, f_Q_leave)]
noncomputable def P_G_goThrough : gs_P := (gs_lk I_G_goThrough, gs_lk F_G_goThrough, gs_lk K_G_goThrough, gs_lk C_G_goThrough)
noncomputable def f_G_goThrough : gs_F := gs_f Y0 3 1 P_G_goThrough
theorem e_G_goThrough (a0 : Nat) (d : gs_D) : f_G_goThrough [(gs_r 0 a0)] d = gs_ck 1 (gs_g Y0 P_G_goThrough 0 [some (gs_r 0 a0), none, none] [] d) := rfl
theorem k_G_goThrough_0 (a0 : Nat) (d : gs_D) : gs_g Y0 P_G_goThrough 0 [some (gs_r 0 a0), none, none] [] d = gs_g Y0 P_G_goThrough 2 [some (gs_r 0 a0), some (gs_i (gs_n 0)), none] [] d := gs_gs 1 (fun _ => rfl)
theorem k_G_goThrough_2 (a0 : Nat) (a1 : Int32) (a2 : Option gs_V) (d : gs_D) : gs_g Y0 P_G_goThrough 2 [some (gs_r 0 a0), some (gs_i a1), a2] [] d = if (Int8.ofInt 10).toInt32 ≤ a1 then gs_g Y0 P_G_goThrough 60 [some (gs_r 0 a0), some (gs_i a1), a2] [] d else gs_g Y0 P_G_goThrough 8 [some (gs_r 0 a0), some (gs_i a1), a2] [] d := gs_if 3 (fun _ => rfl)
theorem k_G_goThrough_8 (a0 : Nat) (a1 : Int32) (a2 : Option gs_V) (d : gs_D) : gs_g Y0 P_G_goThrough 8 [some (gs_r 0 a0), some (gs_i a1), a2] [] d = gs_af (f_G_firstReady [(gs_r 0 a0)] d) [] (fun s9 d9 => gs_g Y0 P_G_goThrough 12 [some (gs_r 0 a0), some (gs_i a1), a2] s9 d9) := gs_gc 2 (fun _ => rfl)
theorem k_G_goThrough_12 (a0 : Nat) (a1 : Int32) (a2 : Option gs_V) (s0 : Int32) (d : gs_D) : gs_g Y0 P_G_goThrough 12 [some (gs_r 0 a0), some (gs_i a1), a2] [(gs_i s0)] d = if ¬ s0 = (gs_n (-1)) then gs_g Y0 P_G_goThrough 20 [some (gs_r 0 a0), some (gs_i a1), some (gs_i s0)] [] d else gs_g Y0 P_G_goThrough 18 [some (gs_r 0 a0), some (gs_i a1), some (gs_i s0)] [] d := gs_if 4 (fun _ => rfl)
theorem k_G_goThrough_18 (a0 : Nat) (a1 : Int32) (a2 : Int32) (d : gs_D) : gs_g Y0 P_G_goThrough 18 [some (gs_r 0 a0), some (gs_i a1), some (gs_i a2)] [] d = some (some (gs_i a1), d) := gs_an 2 (fun _ => rfl)
theorem k_G_goThrough_20 (a0 : Nat) (a1 : Int32) (a2 : Int32) (d : gs_D) : gs_g Y0 P_G_goThrough 20 [some (gs_r 0 a0), some (gs_i a1), some (gs_i a2)] [] d = gs_af (f_Q_at [(gs_r 4 0), (gs_i a2)] d) [(gs_r 3 0)] (fun s9 d9 => gs_g Y0 P_G_goThrough 38 [some (gs_r 0 a0), some (gs_i a1), some (gs_i a2)] s9 d9) := gs_gc 8 (fun _ => rfl)
theorem k_G_goThrough_38 (a0 : Nat) (a1 : Int32) (a2 : Int32) (s0 : Nat) (s1 : Nat) (d : gs_D) : gs_g Y0 P_G_goThrough 38 [some (gs_r 0 a0), some (gs_i a1), some (gs_i a2)] [(gs_r 13 s1), (gs_r 3 s0)] d = gs_af (f_A_move [(gs_r 3 s0), (gs_r 13 s1), (gs_i (gs_n 1))] d) [] (fun s9 d9 => gs_g Y0 P_G_goThrough 42 [some (gs_r 0 a0), some (gs_i a1), some (gs_i a2)] s9 d9) := gs_gc 2 (fun _ => rfl)
theorem k_G_goThrough_42 (a0 : Nat) (a1 : Int32) (a2 : Int32) (d : gs_D) : gs_g Y0 P_G_goThrough 42 [some (gs_r 0 a0), some (gs_i a1), some (gs_i a2)] [] d = gs_af (f_Q_leave [(gs_r 4 0), (gs_i a2), (gs_i (gs_n 1))] d) [] (fun s9 d9 => gs_g Y0 P_G_goThrough 54 [some (gs_r 0 a0), some (gs_i a1), some (gs_i a2)] s9 d9) := gs_gc 6 (fun _ => rfl)
theorem k_G_goThrough_54 (a0 : Nat) (a1 : Int32) (a2 : Int32) (d : gs_D) : gs_g Y0 P_G_goThrough 54 [some (gs_r 0 a0), some (gs_i a1), some (gs_i a2)] [] d = gs_g Y0 P_G_goThrough 2 [some (gs_r 0 a0), some (gs_i (a1 + gs_n 1)), some (gs_i a2)] [] d := gs_gs 1 (fun _ => rfl)
theorem k_G_goThrough_60 (a0 : Nat) (a1 : Int32) (a2 : Option gs_V) (d : gs_D) : gs_g Y0 P_G_goThrough 60 [some (gs_r 0 a0), some (gs_i a1), a2] [] d = some (some (gs_i (Int8.ofInt 10).toInt32), d) := gs_an 2 (fun _ => rfl)
def I_G_pledge : List (Nat × Jvm.ClassFile.Instr × Nat) := [(0, .iload_n 1, 0), (1, .invokestatic 23, 0), (4, .ifCond .eq 17, 21), (7, .iload_n 2, 0), (8, .invokestatic 51, 0), (11, .ifCond .eq 10, 21), (14, .iload_n 3, 0), (15, .invokestatic 30, 0), (18, .ifCond .ne 5, 23), (21, .iconst (-1), 0), (22, .ireturn, 0), (23, .aload_n 0, 0), (24, .getfield 12, 0), (27, .getfield 37, 0), (30, .getfield 41, 0), (33, .iload_n 1, 0), (34, .iload_n 2, 0), (35, .invokestatic 47, 0), (38, .laload, 0), (39, .iload_n 3, 0), (40, .i2l, 0), (41, .lcmp, 0), (42, .ifCond .ge 6, 48), (45, .bipush (-4), 0), (47, .ireturn, 0), (48, .aload_n 0, 0), (49, .getfield 12, 0), (52, .getfield 37, 0), (55, .iload_n 1, 0), (56, .iload_n 2, 0), (57, .iload_n 3, 0), (58, .invokevirtual 58, 0), (61, .aload_n 0, 0), (62, .invokevirtual 62, 0), (65, .ireturn, 0)]
def F_G_pledge : List (Nat × Nat × Nat) := [(12, 0, 0), (37, 1, 1), (41, 2, 0)]
def K_G_pledge : List (Nat × gs_V) := []
noncomputable def C_G_pledge : List (Nat × Nat × Nat × gs_F) := [(23, 1, 1000, f_G_isParticipant), (51, 1, 1000, f_G_isSecurity), (30, 1, 1000, f_G_isAmount), (47, 2, 1000, f_G_holding), (58, 3, 2, f_A_movePledge), (62, 0, 0, f_G_goThrough)]
noncomputable def P_G_pledge : gs_P := (gs_lk I_G_pledge, gs_lk F_G_pledge, gs_lk K_G_pledge, gs_lk C_G_pledge)
noncomputable def f_G_pledge : gs_F := gs_f Y0 4 1 P_G_pledge
theorem e_G_pledge (a0 : Nat) (a1 : Int32) (a2 : Int32) (a3 : Int32) (d : gs_D) : f_G_pledge [(gs_r 0 a0), (gs_i a1), (gs_i a2), (gs_i a3)] d = gs_ck 1 (gs_g Y0 P_G_pledge 0 [some (gs_r 0 a0), some (gs_i a1), some (gs_i a2), some (gs_i a3)] [] d) := rfl
theorem k_G_pledge_0 (a0 : Nat) (a1 : Int32) (a2 : Int32) (a3 : Int32) (d : gs_D) : gs_g Y0 P_G_pledge 0 [some (gs_r 0 a0), some (gs_i a1), some (gs_i a2), some (gs_i a3)] [] d = gs_af (f_G_isParticipant [(gs_i a1)] d) [] (fun s9 d9 => gs_g Y0 P_G_pledge 4 [some (gs_r 0 a0), some (gs_i a1), some (gs_i a2), some (gs_i a3)] s9 d9) := gs_gc 2 (fun _ => rfl)
theorem k_G_pledge_4 (a0 : Nat) (a1 : Int32) (a2 : Int32) (a3 : Int32) (s0 : Int32) (d : gs_D) : gs_g Y0 P_G_pledge 4 [some (gs_r 0 a0), some (gs_i a1), some (gs_i a2), some (gs_i a3)] [(gs_i s0)] d = if s0 = 0 then gs_g Y0 P_G_pledge 21 [some (gs_r 0 a0), some (gs_i a1), some (gs_i a2), some (gs_i a3)] [] d else gs_g Y0 P_G_pledge 7 [some (gs_r 0 a0), some (gs_i a1), some (gs_i a2), some (gs_i a3)] [] d := gs_if 1 (fun _ => rfl)
theorem k_G_pledge_7 (a0 : Nat) (a1 : Int32) (a2 : Int32) (a3 : Int32) (d : gs_D) : gs_g Y0 P_G_pledge 7 [some (gs_r 0 a0), some (gs_i a1), some (gs_i a2), some (gs_i a3)] [] d = gs_af (f_G_isSecurity [(gs_i a2)] d) [] (fun s9 d9 => gs_g Y0 P_G_pledge 11 [some (gs_r 0 a0), some (gs_i a1), some (gs_i a2), some (gs_i a3)] s9 d9) := gs_gc 2 (fun _ => rfl)
theorem k_G_pledge_11 (a0 : Nat) (a1 : Int32) (a2 : Int32) (a3 : Int32) (s0 : Int32) (d : gs_D) : gs_g Y0 P_G_pledge 11 [some (gs_r 0 a0), some (gs_i a1), some (gs_i a2), some (gs_i a3)] [(gs_i s0)] d = if s0 = 0 then gs_g Y0 P_G_pledge 21 [some (gs_r 0 a0), some (gs_i a1), some (gs_i a2), some (gs_i a3)] [] d else gs_g Y0 P_G_pledge 14 [some (gs_r 0 a0), some (gs_i a1), some (gs_i a2), some (gs_i a3)] [] d := gs_if 1 (fun _ => rfl)
theorem k_G_pledge_14 (a0 : Nat) (a1 : Int32) (a2 : Int32) (a3 : Int32) (d : gs_D) : gs_g Y0 P_G_pledge 14 [some (gs_r 0 a0), some (gs_i a1), some (gs_i a2), some (gs_i a3)] [] d = gs_af (f_G_isAmount [(gs_i a3)] d) [] (fun s9 d9 => gs_g Y0 P_G_pledge 18 [some (gs_r 0 a0), some (gs_i a1), some (gs_i a2), some (gs_i a3)] s9 d9) := gs_gc 2 (fun _ => rfl)
theorem k_G_pledge_18 (a0 : Nat) (a1 : Int32) (a2 : Int32) (a3 : Int32) (s0 : Int32) (d : gs_D) : gs_g Y0 P_G_pledge 18 [some (gs_r 0 a0), some (gs_i a1), some (gs_i a2), some (gs_i a3)] [(gs_i s0)] d = if ¬ s0 = 0 then gs_g Y0 P_G_pledge 23 [some (gs_r 0 a0), some (gs_i a1), some (gs_i a2), some (gs_i a3)] [] d else gs_g Y0 P_G_pledge 21 [some (gs_r 0 a0), some (gs_i a1), some (gs_i a2), some (gs_i a3)] [] d := gs_if 1 (fun _ => rfl)
theorem k_G_pledge_21 (a0 : Nat) (a1 : Int32) (a2 : Int32) (a3 : Int32) (d : gs_D) : gs_g Y0 P_G_pledge 21 [some (gs_r 0 a0), some (gs_i a1), some (gs_i a2), some (gs_i a3)] [] d = some (some (gs_i (gs_n (-1))), d) := gs_an 2 (fun _ => rfl)
theorem k_G_pledge_23 (a0 : Nat) (a1 : Int32) (a2 : Int32) (a3 : Int32) (d : gs_D) : gs_g Y0 P_G_pledge 23 [some (gs_r 0 a0), some (gs_i a1), some (gs_i a2), some (gs_i a3)] [] d = gs_af (f_G_holding [(gs_i a1), (gs_i a2)] d) [(gs_r 5 0)] (fun s9 d9 => gs_g Y0 P_G_pledge 38 [some (gs_r 0 a0), some (gs_i a1), some (gs_i a2), some (gs_i a3)] s9 d9) := gs_gc 7 (fun _ => rfl)
theorem k_G_pledge_38 (a0 : Nat) (a1 : Int32) (a2 : Int32) (a3 : Int32) (s0 : Nat) (s1 : Int32) (d : gs_D) : gs_g Y0 P_G_pledge 38 [some (gs_r 0 a0), some (gs_i a1), some (gs_i a2), some (gs_i a3)] [(gs_i s1), (gs_r 5 s0)] d = gs_ix s1 18 (gs_g Y0 P_G_pledge 39 [some (gs_r 0 a0), some (gs_i a1), some (gs_i a2), some (gs_i a3)] [(gs_l (d.2 5 s0 s1.toNatClampNeg))] d) := gs_gx 1 (fun _ => rfl)
theorem k_G_pledge_39 (a0 : Nat) (a1 : Int32) (a2 : Int32) (a3 : Int32) (s0 : Int64) (d : gs_D) : gs_g Y0 P_G_pledge 39 [some (gs_r 0 a0), some (gs_i a1), some (gs_i a2), some (gs_i a3)] [(gs_l s0)] d = if 0 ≤ (lg_cmp s0 a3.toInt64) then gs_g Y0 P_G_pledge 48 [some (gs_r 0 a0), some (gs_i a1), some (gs_i a2), some (gs_i a3)] [] d else gs_g Y0 P_G_pledge 45 [some (gs_r 0 a0), some (gs_i a1), some (gs_i a2), some (gs_i a3)] [] d := gs_if 4 (fun _ => rfl)
theorem k_G_pledge_45 (a0 : Nat) (a1 : Int32) (a2 : Int32) (a3 : Int32) (d : gs_D) : gs_g Y0 P_G_pledge 45 [some (gs_r 0 a0), some (gs_i a1), some (gs_i a2), some (gs_i a3)] [] d = some (some (gs_i (Int8.ofInt (-4)).toInt32), d) := gs_an 2 (fun _ => rfl)
theorem k_G_pledge_48 (a0 : Nat) (a1 : Int32) (a2 : Int32) (a3 : Int32) (d : gs_D) : gs_g Y0 P_G_pledge 48 [some (gs_r 0 a0), some (gs_i a1), some (gs_i a2), some (gs_i a3)] [] d = gs_af (f_A_movePledge [(gs_r 3 0), (gs_i a1), (gs_i a2), (gs_i a3)] d) [] (fun s9 d9 => gs_g Y0 P_G_pledge 61 [some (gs_r 0 a0), some (gs_i a1), some (gs_i a2), some (gs_i a3)] s9 d9) := gs_gc 7 (fun _ => rfl)
theorem k_G_pledge_61 (a0 : Nat) (a1 : Int32) (a2 : Int32) (a3 : Int32) (d : gs_D) : gs_g Y0 P_G_pledge 61 [some (gs_r 0 a0), some (gs_i a1), some (gs_i a2), some (gs_i a3)] [] d = gs_af (f_G_goThrough [(gs_r 0 a0)] d) [] (fun s9 d9 => gs_g Y0 P_G_pledge 65 [some (gs_r 0 a0), some (gs_i a1), some (gs_i a2), some (gs_i a3)] s9 d9) := gs_gc 2 (fun _ => rfl)
theorem k_G_pledge_65 (a0 : Nat) (a1 : Int32) (a2 : Int32) (a3 : Int32) (s0 : Int32) (d : gs_D) : gs_g Y0 P_G_pledge 65 [some (gs_r 0 a0), some (gs_i a1), some (gs_i a2), some (gs_i a3)] [(gs_i s0)] d = some (some (gs_i s0), d) := gs_an 1 (fun _ => rfl)
end
section
def I_A_unpledge : List (Nat × Jvm.ClassFile.Instr × Nat) := [(0, .aload_n 0, 0), (1, .getfield 15, 0), (4, .iload_n 1, 0), (5, .iload_n 2, 0), (6, .invokestatic 54, 0), (9, .laload, 0), (10, .iload_n 3, 0), (11, .i2l, 0), (12, .lcmp, 0), (13, .ifCond .ge 5, 18), (16, .iconst 0, 0), (17, .ireturn, 0), (18, .aload_n 0, 0), (19, .iload_n 1, 0), (20, .iload_n 2, 0), (21, .iload_n 3, 0), (22, .ineg, 0), (23, .invokevirtual 74, 0), (26, .aload_n 0, 0), (27, .iload_n 1, 0), (28, .iconst 0, 0), (29, .invokestatic 54, 0), (32, .invokevirtual 39, 0), (35, .lconst 0, 0), (36, .lcmp, 0), (37, .ifCond .lt 5, 42), (40, .iconst 1, 0), (41, .ireturn, 0), (42, .aload_n 0, 0), (43, .iload_n 1, 0), (44, .iload_n 2, 0), (45, .iload_n 3, 0), (46, .invokevirtual 74, 0), (49, .iconst 0, 0), (50, .ireturn, 0)]
def F_A_unpledge : List (Nat × Nat × Nat) := [(15, 2, 1)]
def K_A_unpledge : List (Nat × gs_V) := []
noncomputable def C_A_unpledge : List (Nat × Nat × Nat × gs_F) := [(54, 2, 1000, f_G_holding), (74, 3, 2, f_A_movePledge), (39, 1, 2, f_A_room)]
noncomputable def P_A_unpledge : gs_P := (gs_lk I_A_unpledge, gs_lk F_A_unpledge, gs_lk K_A_unpledge, gs_lk C_A_unpledge)
noncomputable def f_A_unpledge : gs_F := gs_f Y0 4 2 P_A_unpledge
theorem e_A_unpledge (a0 : Nat) (a1 : Int32) (a2 : Int32) (a3 : Int32) (d : gs_D) : f_A_unpledge [(gs_r 3 a0), (gs_i a1), (gs_i a2), (gs_i a3)] d = gs_ck 2 (gs_g Y0 P_A_unpledge 0 [some (gs_r 3 a0), some (gs_i a1), some (gs_i a2), some (gs_i a3)] [] d) := rfl
theorem k_A_unpledge_0 (a0 : Nat) (a1 : Int32) (a2 : Int32) (a3 : Int32) (d : gs_D) : gs_g Y0 P_A_unpledge 0 [some (gs_r 3 a0), some (gs_i a1), some (gs_i a2), some (gs_i a3)] [] d = gs_af (f_G_holding [(gs_i a1), (gs_i a2)] d) [(gs_r 6 a0)] (fun s9 d9 => gs_g Y0 P_A_unpledge 9 [some (gs_r 3 a0), some (gs_i a1), some (gs_i a2), some (gs_i a3)] s9 d9) := gs_gc 5 (fun _ => rfl)
theorem k_A_unpledge_9 (a0 : Nat) (a1 : Int32) (a2 : Int32) (a3 : Int32) (s0 : Nat) (s1 : Int32) (d : gs_D) : gs_g Y0 P_A_unpledge 9 [some (gs_r 3 a0), some (gs_i a1), some (gs_i a2), some (gs_i a3)] [(gs_i s1), (gs_r 6 s0)] d = gs_ix s1 18 (gs_g Y0 P_A_unpledge 10 [some (gs_r 3 a0), some (gs_i a1), some (gs_i a2), some (gs_i a3)] [(gs_l (d.2 6 s0 s1.toNatClampNeg))] d) := gs_gx 1 (fun _ => rfl)
theorem k_A_unpledge_10 (a0 : Nat) (a1 : Int32) (a2 : Int32) (a3 : Int32) (s0 : Int64) (d : gs_D) : gs_g Y0 P_A_unpledge 10 [some (gs_r 3 a0), some (gs_i a1), some (gs_i a2), some (gs_i a3)] [(gs_l s0)] d = if 0 ≤ (lg_cmp s0 a3.toInt64) then gs_g Y0 P_A_unpledge 18 [some (gs_r 3 a0), some (gs_i a1), some (gs_i a2), some (gs_i a3)] [] d else gs_g Y0 P_A_unpledge 16 [some (gs_r 3 a0), some (gs_i a1), some (gs_i a2), some (gs_i a3)] [] d := gs_if 4 (fun _ => rfl)
theorem k_A_unpledge_16 (a0 : Nat) (a1 : Int32) (a2 : Int32) (a3 : Int32) (d : gs_D) : gs_g Y0 P_A_unpledge 16 [some (gs_r 3 a0), some (gs_i a1), some (gs_i a2), some (gs_i a3)] [] d = some (some (gs_i (gs_n 0)), d) := gs_an 2 (fun _ => rfl)
theorem k_A_unpledge_18 (a0 : Nat) (a1 : Int32) (a2 : Int32) (a3 : Int32) (d : gs_D) : gs_g Y0 P_A_unpledge 18 [some (gs_r 3 a0), some (gs_i a1), some (gs_i a2), some (gs_i a3)] [] d = gs_af (f_A_movePledge [(gs_r 3 a0), (gs_i a1), (gs_i a2), (gs_i (-a3))] d) [] (fun s9 d9 => gs_g Y0 P_A_unpledge 26 [some (gs_r 3 a0), some (gs_i a1), some (gs_i a2), some (gs_i a3)] s9 d9) := gs_gc 6 (fun _ => rfl)
theorem k_A_unpledge_26 (a0 : Nat) (a1 : Int32) (a2 : Int32) (a3 : Int32) (d : gs_D) : gs_g Y0 P_A_unpledge 26 [some (gs_r 3 a0), some (gs_i a1), some (gs_i a2), some (gs_i a3)] [] d = gs_af (f_G_holding [(gs_i a1), (gs_i (gs_n 0))] d) [(gs_r 3 a0)] (fun s9 d9 => gs_g Y0 P_A_unpledge 32 [some (gs_r 3 a0), some (gs_i a1), some (gs_i a2), some (gs_i a3)] s9 d9) := gs_gc 4 (fun _ => rfl)
theorem k_A_unpledge_32 (a0 : Nat) (a1 : Int32) (a2 : Int32) (a3 : Int32) (s0 : Nat) (s1 : Int32) (d : gs_D) : gs_g Y0 P_A_unpledge 32 [some (gs_r 3 a0), some (gs_i a1), some (gs_i a2), some (gs_i a3)] [(gs_i s1), (gs_r 3 s0)] d = gs_af (f_A_room [(gs_r 3 s0), (gs_i s1)] d) [] (fun s9 d9 => gs_g Y0 P_A_unpledge 35 [some (gs_r 3 a0), some (gs_i a1), some (gs_i a2), some (gs_i a3)] s9 d9) := gs_gc 1 (fun _ => rfl)
theorem k_A_unpledge_35 (a0 : Nat) (a1 : Int32) (a2 : Int32) (a3 : Int32) (s0 : Int64) (d : gs_D) : gs_g Y0 P_A_unpledge 35 [some (gs_r 3 a0), some (gs_i a1), some (gs_i a2), some (gs_i a3)] [(gs_l s0)] d = if (lg_cmp s0 gs_k0) < 0 then gs_g Y0 P_A_unpledge 42 [some (gs_r 3 a0), some (gs_i a1), some (gs_i a2), some (gs_i a3)] [] d else gs_g Y0 P_A_unpledge 40 [some (gs_r 3 a0), some (gs_i a1), some (gs_i a2), some (gs_i a3)] [] d := gs_if 3 (fun _ => rfl)
theorem k_A_unpledge_40 (a0 : Nat) (a1 : Int32) (a2 : Int32) (a3 : Int32) (d : gs_D) : gs_g Y0 P_A_unpledge 40 [some (gs_r 3 a0), some (gs_i a1), some (gs_i a2), some (gs_i a3)] [] d = some (some (gs_i (gs_n 1)), d) := gs_an 2 (fun _ => rfl)
theorem k_A_unpledge_42 (a0 : Nat) (a1 : Int32) (a2 : Int32) (a3 : Int32) (d : gs_D) : gs_g Y0 P_A_unpledge 42 [some (gs_r 3 a0), some (gs_i a1), some (gs_i a2), some (gs_i a3)] [] d = gs_af (f_A_movePledge [(gs_r 3 a0), (gs_i a1), (gs_i a2), (gs_i a3)] d) [] (fun s9 d9 => gs_g Y0 P_A_unpledge 49 [some (gs_r 3 a0), some (gs_i a1), some (gs_i a2), some (gs_i a3)] s9 d9) := gs_gc 5 (fun _ => rfl)
theorem k_A_unpledge_49 (a0 : Nat) (a1 : Int32) (a2 : Int32) (a3 : Int32) (d : gs_D) : gs_g Y0 P_A_unpledge 49 [some (gs_r 3 a0), some (gs_i a1), some (gs_i a2), some (gs_i a3)] [] d = some (some (gs_i (gs_n 0)), d) := gs_an 2 (fun _ => rfl)
def I_G_release : List (Nat × Jvm.ClassFile.Instr × Nat) := [(0, .iload_n 1, 0), (1, .invokestatic 23, 0), (4, .ifCond .eq 17, 21), (7, .iload_n 2, 0), (8, .invokestatic 51, 0), (11, .ifCond .eq 10, 21), (14, .iload_n 3, 0), (15, .invokestatic 30, 0), (18, .ifCond .ne 5, 23), (21, .iconst (-1), 0), (22, .ireturn, 0), (23, .aload_n 0, 0), (24, .getfield 12, 0), (27, .getfield 37, 0), (30, .iload_n 1, 0), (31, .iload_n 2, 0), (32, .iload_n 3, 0), (33, .invokevirtual 66, 0), (36, .ifCond .eq 10, 46), (39, .aload_n 0, 0), (40, .invokevirtual 62, 0), (43, .goto 5, 48), (46, .bipush (-4), 0), (48, .ireturn, 0)]
def F_G_release : List (Nat × Nat × Nat) := [(12, 0, 0), (37, 1, 1)]
def K_G_release : List (Nat × gs_V) := []
noncomputable def C_G_release : List (Nat × Nat × Nat × gs_F) := [(23, 1, 1000, f_G_isParticipant), (51, 1, 1000, f_G_isSecurity), (30, 1, 1000, f_G_isAmount), (66, 3, 2, f_A_unpledge), (62, 0, 0, f_G_goThrough)]
noncomputable def P_G_release : gs_P := (gs_lk I_G_release, gs_lk F_G_release, gs_lk K_G_release, gs_lk C_G_release)
noncomputable def f_G_release : gs_F := gs_f Y0 4 1 P_G_release
theorem e_G_release (a0 : Nat) (a1 : Int32) (a2 : Int32) (a3 : Int32) (d : gs_D) : f_G_release [(gs_r 0 a0), (gs_i a1), (gs_i a2), (gs_i a3)] d = gs_ck 1 (gs_g Y0 P_G_release 0 [some (gs_r 0 a0), some (gs_i a1), some (gs_i a2), some (gs_i a3)] [] d) := rfl
theorem k_G_release_0 (a0 : Nat) (a1 : Int32) (a2 : Int32) (a3 : Int32) (d : gs_D) : gs_g Y0 P_G_release 0 [some (gs_r 0 a0), some (gs_i a1), some (gs_i a2), some (gs_i a3)] [] d = gs_af (f_G_isParticipant [(gs_i a1)] d) [] (fun s9 d9 => gs_g Y0 P_G_release 4 [some (gs_r 0 a0), some (gs_i a1), some (gs_i a2), some (gs_i a3)] s9 d9) := gs_gc 2 (fun _ => rfl)
theorem k_G_release_4 (a0 : Nat) (a1 : Int32) (a2 : Int32) (a3 : Int32) (s0 : Int32) (d : gs_D) : gs_g Y0 P_G_release 4 [some (gs_r 0 a0), some (gs_i a1), some (gs_i a2), some (gs_i a3)] [(gs_i s0)] d = if s0 = 0 then gs_g Y0 P_G_release 21 [some (gs_r 0 a0), some (gs_i a1), some (gs_i a2), some (gs_i a3)] [] d else gs_g Y0 P_G_release 7 [some (gs_r 0 a0), some (gs_i a1), some (gs_i a2), some (gs_i a3)] [] d := gs_if 1 (fun _ => rfl)
theorem k_G_release_7 (a0 : Nat) (a1 : Int32) (a2 : Int32) (a3 : Int32) (d : gs_D) : gs_g Y0 P_G_release 7 [some (gs_r 0 a0), some (gs_i a1), some (gs_i a2), some (gs_i a3)] [] d = gs_af (f_G_isSecurity [(gs_i a2)] d) [] (fun s9 d9 => gs_g Y0 P_G_release 11 [some (gs_r 0 a0), some (gs_i a1), some (gs_i a2), some (gs_i a3)] s9 d9) := gs_gc 2 (fun _ => rfl)
theorem k_G_release_11 (a0 : Nat) (a1 : Int32) (a2 : Int32) (a3 : Int32) (s0 : Int32) (d : gs_D) : gs_g Y0 P_G_release 11 [some (gs_r 0 a0), some (gs_i a1), some (gs_i a2), some (gs_i a3)] [(gs_i s0)] d = if s0 = 0 then gs_g Y0 P_G_release 21 [some (gs_r 0 a0), some (gs_i a1), some (gs_i a2), some (gs_i a3)] [] d else gs_g Y0 P_G_release 14 [some (gs_r 0 a0), some (gs_i a1), some (gs_i a2), some (gs_i a3)] [] d := gs_if 1 (fun _ => rfl)
theorem k_G_release_14 (a0 : Nat) (a1 : Int32) (a2 : Int32) (a3 : Int32) (d : gs_D) : gs_g Y0 P_G_release 14 [some (gs_r 0 a0), some (gs_i a1), some (gs_i a2), some (gs_i a3)] [] d = gs_af (f_G_isAmount [(gs_i a3)] d) [] (fun s9 d9 => gs_g Y0 P_G_release 18 [some (gs_r 0 a0), some (gs_i a1), some (gs_i a2), some (gs_i a3)] s9 d9) := gs_gc 2 (fun _ => rfl)
theorem k_G_release_18 (a0 : Nat) (a1 : Int32) (a2 : Int32) (a3 : Int32) (s0 : Int32) (d : gs_D) : gs_g Y0 P_G_release 18 [some (gs_r 0 a0), some (gs_i a1), some (gs_i a2), some (gs_i a3)] [(gs_i s0)] d = if ¬ s0 = 0 then gs_g Y0 P_G_release 23 [some (gs_r 0 a0), some (gs_i a1), some (gs_i a2), some (gs_i a3)] [] d else gs_g Y0 P_G_release 21 [some (gs_r 0 a0), some (gs_i a1), some (gs_i a2), some (gs_i a3)] [] d := gs_if 1 (fun _ => rfl)
theorem k_G_release_21 (a0 : Nat) (a1 : Int32) (a2 : Int32) (a3 : Int32) (d : gs_D) : gs_g Y0 P_G_release 21 [some (gs_r 0 a0), some (gs_i a1), some (gs_i a2), some (gs_i a3)] [] d = some (some (gs_i (gs_n (-1))), d) := gs_an 2 (fun _ => rfl)
theorem k_G_release_23 (a0 : Nat) (a1 : Int32) (a2 : Int32) (a3 : Int32) (d : gs_D) : gs_g Y0 P_G_release 23 [some (gs_r 0 a0), some (gs_i a1), some (gs_i a2), some (gs_i a3)] [] d = gs_af (f_A_unpledge [(gs_r 3 0), (gs_i a1), (gs_i a2), (gs_i a3)] d) [] (fun s9 d9 => gs_g Y0 P_G_release 36 [some (gs_r 0 a0), some (gs_i a1), some (gs_i a2), some (gs_i a3)] s9 d9) := gs_gc 7 (fun _ => rfl)
theorem k_G_release_36 (a0 : Nat) (a1 : Int32) (a2 : Int32) (a3 : Int32) (s0 : Int32) (d : gs_D) : gs_g Y0 P_G_release 36 [some (gs_r 0 a0), some (gs_i a1), some (gs_i a2), some (gs_i a3)] [(gs_i s0)] d = if s0 = 0 then gs_g Y0 P_G_release 46 [some (gs_r 0 a0), some (gs_i a1), some (gs_i a2), some (gs_i a3)] [] d else gs_g Y0 P_G_release 39 [some (gs_r 0 a0), some (gs_i a1), some (gs_i a2), some (gs_i a3)] [] d := gs_if 1 (fun _ => rfl)
theorem k_G_release_39 (a0 : Nat) (a1 : Int32) (a2 : Int32) (a3 : Int32) (d : gs_D) : gs_g Y0 P_G_release 39 [some (gs_r 0 a0), some (gs_i a1), some (gs_i a2), some (gs_i a3)] [] d = gs_af (f_G_goThrough [(gs_r 0 a0)] d) [] (fun s9 d9 => gs_g Y0 P_G_release 43 [some (gs_r 0 a0), some (gs_i a1), some (gs_i a2), some (gs_i a3)] s9 d9) := gs_gc 2 (fun _ => rfl)
theorem k_G_release_43 (a0 : Nat) (a1 : Int32) (a2 : Int32) (a3 : Int32) (s0 : Int32) (d : gs_D) : gs_g Y0 P_G_release 43 [some (gs_r 0 a0), some (gs_i a1), some (gs_i a2), some (gs_i a3)] [(gs_i s0)] d = some (some (gs_i s0), d) := gs_an 2 (fun _ => rfl)
theorem k_G_release_46 (a0 : Nat) (a1 : Int32) (a2 : Int32) (a3 : Int32) (d : gs_D) : gs_g Y0 P_G_release 46 [some (gs_r 0 a0), some (gs_i a1), some (gs_i a2), some (gs_i a3)] [] d = some (some (gs_i (Int8.ofInt (-4)).toInt32), d) := gs_an 2 (fun _ => rfl)
def I_G_areTwo : List (Nat × Jvm.ClassFile.Instr × Nat) := [(0, .iload_n 0, 0), (1, .invokestatic 23, 0), (4, .ifCond .eq 19, 23), (7, .iload_n 1, 0), (8, .invokestatic 23, 0), (11, .ifCond .eq 12, 23), (14, .iload_n 0, 0), (15, .iload_n 1, 0), (16, .if_icmp .eq 7, 23), (19, .iconst 1, 0), (20, .goto 4, 24), (23, .iconst 0, 0), (24, .ireturn, 0)]
def F_G_areTwo : List (Nat × Nat × Nat) := []
def K_G_areTwo : List (Nat × gs_V) := []
noncomputable def C_G_areTwo : List (Nat × Nat × Nat × gs_F) := [(23, 1, 1000, f_G_isParticipant)]
noncomputable def P_G_areTwo : gs_P := (gs_lk I_G_areTwo, gs_lk F_G_areTwo, gs_lk K_G_areTwo, gs_lk C_G_areTwo)
noncomputable def f_G_areTwo : gs_F := gs_f Y0 2 2 P_G_areTwo
theorem e_G_areTwo (a0 : Int32) (a1 : Int32) (d : gs_D) : f_G_areTwo [(gs_i a0), (gs_i a1)] d = gs_ck 2 (gs_g Y0 P_G_areTwo 0 [some (gs_i a0), some (gs_i a1)] [] d) := rfl
theorem k_G_areTwo_0 (a0 : Int32) (a1 : Int32) (d : gs_D) : gs_g Y0 P_G_areTwo 0 [some (gs_i a0), some (gs_i a1)] [] d = gs_af (f_G_isParticipant [(gs_i a0)] d) [] (fun s9 d9 => gs_g Y0 P_G_areTwo 4 [some (gs_i a0), some (gs_i a1)] s9 d9) := gs_gc 2 (fun _ => rfl)
theorem k_G_areTwo_4 (a0 : Int32) (a1 : Int32) (s0 : Int32) (d : gs_D) : gs_g Y0 P_G_areTwo 4 [some (gs_i a0), some (gs_i a1)] [(gs_i s0)] d = if s0 = 0 then gs_g Y0 P_G_areTwo 23 [some (gs_i a0), some (gs_i a1)] [] d else gs_g Y0 P_G_areTwo 7 [some (gs_i a0), some (gs_i a1)] [] d := gs_if 1 (fun _ => rfl)
theorem k_G_areTwo_7 (a0 : Int32) (a1 : Int32) (d : gs_D) : gs_g Y0 P_G_areTwo 7 [some (gs_i a0), some (gs_i a1)] [] d = gs_af (f_G_isParticipant [(gs_i a1)] d) [] (fun s9 d9 => gs_g Y0 P_G_areTwo 11 [some (gs_i a0), some (gs_i a1)] s9 d9) := gs_gc 2 (fun _ => rfl)
theorem k_G_areTwo_11 (a0 : Int32) (a1 : Int32) (s0 : Int32) (d : gs_D) : gs_g Y0 P_G_areTwo 11 [some (gs_i a0), some (gs_i a1)] [(gs_i s0)] d = if s0 = 0 then gs_g Y0 P_G_areTwo 23 [some (gs_i a0), some (gs_i a1)] [] d else gs_g Y0 P_G_areTwo 14 [some (gs_i a0), some (gs_i a1)] [] d := gs_if 1 (fun _ => rfl)
theorem k_G_areTwo_14 (a0 : Int32) (a1 : Int32) (d : gs_D) : gs_g Y0 P_G_areTwo 14 [some (gs_i a0), some (gs_i a1)] [] d = if a0 = a1 then gs_g Y0 P_G_areTwo 23 [some (gs_i a0), some (gs_i a1)] [] d else gs_g Y0 P_G_areTwo 19 [some (gs_i a0), some (gs_i a1)] [] d := gs_if 3 (fun _ => rfl)
theorem k_G_areTwo_19 (a0 : Int32) (a1 : Int32) (d : gs_D) : gs_g Y0 P_G_areTwo 19 [some (gs_i a0), some (gs_i a1)] [] d = some (some (gs_i (gs_n 1)), d) := gs_an 3 (fun _ => rfl)
theorem k_G_areTwo_23 (a0 : Int32) (a1 : Int32) (d : gs_D) : gs_g Y0 P_G_areTwo 23 [some (gs_i a0), some (gs_i a1)] [] d = some (some (gs_i (gs_n 0)), d) := gs_an 2 (fun _ => rfl)
def I_G_limit : List (Nat × Jvm.ClassFile.Instr × Nat) := [(0, .iload_n 1, 0), (1, .iload_n 2, 0), (2, .invokestatic 69, 0), (5, .ifCond .eq 14, 19), (8, .iload_n 3, 0), (9, .iconst (-1), 0), (10, .if_icmp .lt 9, 19), (13, .iload_n 3, 0), (14, .ldc 73, 0), (16, .if_icmp .le 5, 21), (19, .iconst (-1), 0), (20, .ireturn, 0), (21, .iload_n 3, 0), (22, .iconst (-1), 0), (23, .if_icmp .eq 28, 51), (26, .aload_n 0, 0), (27, .getfield 12, 0), (30, .getfield 37, 0), (33, .getfield 74, 0), (36, .iload_n 1, 0), (37, .iload_n 2, 0), (38, .invokestatic 77, 0), (41, .laload, 0), (42, .iload_n 3, 0), (43, .i2l, 0), (44, .lcmp, 0), (45, .ifCond .le 6, 51), (48, .bipush (-4), 0), (50, .ireturn, 0), (51, .aload_n 0, 0), (52, .getfield 12, 0), (55, .getfield 37, 0), (58, .getfield 80, 0), (61, .iload_n 1, 0), (62, .iload_n 2, 0), (63, .invokestatic 77, 0), (66, .iload_n 3, 0), (67, .iastore, 0), (68, .aload_n 0, 0), (69, .invokevirtual 62, 0), (72, .ireturn, 0)]
def F_G_limit : List (Nat × Nat × Nat) := [(12, 0, 0), (37, 1, 1), (74, 2, 5), (80, 2, 4)]
def K_G_limit : List (Nat × gs_V) := [(73, gs_i (gs_n 1000000))]
noncomputable def C_G_limit : List (Nat × Nat × Nat × gs_F) := [(69, 2, 1000, f_G_areTwo), (77, 2, 1000, f_G_pair), (62, 0, 0, f_G_goThrough)]
noncomputable def P_G_limit : gs_P := (gs_lk I_G_limit, gs_lk F_G_limit, gs_lk K_G_limit, gs_lk C_G_limit)
noncomputable def f_G_limit : gs_F := gs_f Y0 4 1 P_G_limit
theorem e_G_limit (a0 : Nat) (a1 : Int32) (a2 : Int32) (a3 : Int32) (d : gs_D) : f_G_limit [(gs_r 0 a0), (gs_i a1), (gs_i a2), (gs_i a3)] d = gs_ck 1 (gs_g Y0 P_G_limit 0 [some (gs_r 0 a0), some (gs_i a1), some (gs_i a2), some (gs_i a3)] [] d) := rfl
theorem k_G_limit_0 (a0 : Nat) (a1 : Int32) (a2 : Int32) (a3 : Int32) (d : gs_D) : gs_g Y0 P_G_limit 0 [some (gs_r 0 a0), some (gs_i a1), some (gs_i a2), some (gs_i a3)] [] d = gs_af (f_G_areTwo [(gs_i a1), (gs_i a2)] d) [] (fun s9 d9 => gs_g Y0 P_G_limit 5 [some (gs_r 0 a0), some (gs_i a1), some (gs_i a2), some (gs_i a3)] s9 d9) := gs_gc 3 (fun _ => rfl)
theorem k_G_limit_5 (a0 : Nat) (a1 : Int32) (a2 : Int32) (a3 : Int32) (s0 : Int32) (d : gs_D) : gs_g Y0 P_G_limit 5 [some (gs_r 0 a0), some (gs_i a1), some (gs_i a2), some (gs_i a3)] [(gs_i s0)] d = if s0 = 0 then gs_g Y0 P_G_limit 19 [some (gs_r 0 a0), some (gs_i a1), some (gs_i a2), some (gs_i a3)] [] d else gs_g Y0 P_G_limit 8 [some (gs_r 0 a0), some (gs_i a1), some (gs_i a2), some (gs_i a3)] [] d := gs_if 1 (fun _ => rfl)
theorem k_G_limit_8 (a0 : Nat) (a1 : Int32) (a2 : Int32) (a3 : Int32) (d : gs_D) : gs_g Y0 P_G_limit 8 [some (gs_r 0 a0), some (gs_i a1), some (gs_i a2), some (gs_i a3)] [] d = if a3 < (gs_n (-1)) then gs_g Y0 P_G_limit 19 [some (gs_r 0 a0), some (gs_i a1), some (gs_i a2), some (gs_i a3)] [] d else gs_g Y0 P_G_limit 13 [some (gs_r 0 a0), some (gs_i a1), some (gs_i a2), some (gs_i a3)] [] d := gs_if 3 (fun _ => rfl)
theorem k_G_limit_13 (a0 : Nat) (a1 : Int32) (a2 : Int32) (a3 : Int32) (d : gs_D) : gs_g Y0 P_G_limit 13 [some (gs_r 0 a0), some (gs_i a1), some (gs_i a2), some (gs_i a3)] [] d = if a3 ≤ (gs_n 1000000) then gs_g Y0 P_G_limit 21 [some (gs_r 0 a0), some (gs_i a1), some (gs_i a2), some (gs_i a3)] [] d else gs_g Y0 P_G_limit 19 [some (gs_r 0 a0), some (gs_i a1), some (gs_i a2), some (gs_i a3)] [] d := gs_if 3 (fun _ => rfl)
theorem k_G_limit_19 (a0 : Nat) (a1 : Int32) (a2 : Int32) (a3 : Int32) (d : gs_D) : gs_g Y0 P_G_limit 19 [some (gs_r 0 a0), some (gs_i a1), some (gs_i a2), some (gs_i a3)] [] d = some (some (gs_i (gs_n (-1))), d) := gs_an 2 (fun _ => rfl)
theorem k_G_limit_21 (a0 : Nat) (a1 : Int32) (a2 : Int32) (a3 : Int32) (d : gs_D) : gs_g Y0 P_G_limit 21 [some (gs_r 0 a0), some (gs_i a1), some (gs_i a2), some (gs_i a3)] [] d = if a3 = (gs_n (-1)) then gs_g Y0 P_G_limit 51 [some (gs_r 0 a0), some (gs_i a1), some (gs_i a2), some (gs_i a3)] [] d else gs_g Y0 P_G_limit 26 [some (gs_r 0 a0), some (gs_i a1), some (gs_i a2), some (gs_i a3)] [] d := gs_if 3 (fun _ => rfl)
theorem k_G_limit_26 (a0 : Nat) (a1 : Int32) (a2 : Int32) (a3 : Int32) (d : gs_D) : gs_g Y0 P_G_limit 26 [some (gs_r 0 a0), some (gs_i a1), some (gs_i a2), some (gs_i a3)] [] d = gs_af (f_G_pair [(gs_i a1), (gs_i a2)] d) [(gs_r 10 0)] (fun s9 d9 => gs_g Y0 P_G_limit 41 [some (gs_r 0 a0), some (gs_i a1), some (gs_i a2), some (gs_i a3)] s9 d9) := gs_gc 7 (fun _ => rfl)
theorem k_G_limit_41 (a0 : Nat) (a1 : Int32) (a2 : Int32) (a3 : Int32) (s0 : Nat) (s1 : Int32) (d : gs_D) : gs_g Y0 P_G_limit 41 [some (gs_r 0 a0), some (gs_i a1), some (gs_i a2), some (gs_i a3)] [(gs_i s1), (gs_r 10 s0)] d = gs_ix s1 36 (gs_g Y0 P_G_limit 42 [some (gs_r 0 a0), some (gs_i a1), some (gs_i a2), some (gs_i a3)] [(gs_l (d.2 10 s0 s1.toNatClampNeg))] d) := gs_gx 1 (fun _ => rfl)
theorem k_G_limit_42 (a0 : Nat) (a1 : Int32) (a2 : Int32) (a3 : Int32) (s0 : Int64) (d : gs_D) : gs_g Y0 P_G_limit 42 [some (gs_r 0 a0), some (gs_i a1), some (gs_i a2), some (gs_i a3)] [(gs_l s0)] d = if (lg_cmp s0 a3.toInt64) ≤ 0 then gs_g Y0 P_G_limit 51 [some (gs_r 0 a0), some (gs_i a1), some (gs_i a2), some (gs_i a3)] [] d else gs_g Y0 P_G_limit 48 [some (gs_r 0 a0), some (gs_i a1), some (gs_i a2), some (gs_i a3)] [] d := gs_if 4 (fun _ => rfl)
theorem k_G_limit_48 (a0 : Nat) (a1 : Int32) (a2 : Int32) (a3 : Int32) (d : gs_D) : gs_g Y0 P_G_limit 48 [some (gs_r 0 a0), some (gs_i a1), some (gs_i a2), some (gs_i a3)] [] d = some (some (gs_i (Int8.ofInt (-4)).toInt32), d) := gs_an 2 (fun _ => rfl)
theorem k_G_limit_51 (a0 : Nat) (a1 : Int32) (a2 : Int32) (a3 : Int32) (d : gs_D) : gs_g Y0 P_G_limit 51 [some (gs_r 0 a0), some (gs_i a1), some (gs_i a2), some (gs_i a3)] [] d = gs_af (f_G_pair [(gs_i a1), (gs_i a2)] d) [(gs_r 9 0)] (fun s9 d9 => gs_g Y0 P_G_limit 66 [some (gs_r 0 a0), some (gs_i a1), some (gs_i a2), some (gs_i a3)] s9 d9) := gs_gc 7 (fun _ => rfl)
theorem k_G_limit_66 (a0 : Nat) (a1 : Int32) (a2 : Int32) (a3 : Int32) (s0 : Nat) (s1 : Int32) (d : gs_D) : gs_g Y0 P_G_limit 66 [some (gs_r 0 a0), some (gs_i a1), some (gs_i a2), some (gs_i a3)] [(gs_i s1), (gs_r 9 s0)] d = gs_ix s1 36 (gs_g Y0 P_G_limit 68 [some (gs_r 0 a0), some (gs_i a1), some (gs_i a2), some (gs_i a3)] [] (gs_wI d 9 s0 s1.toNatClampNeg a3)) := gs_gx 2 (fun _ => rfl)
theorem k_G_limit_68 (a0 : Nat) (a1 : Int32) (a2 : Int32) (a3 : Int32) (d : gs_D) : gs_g Y0 P_G_limit 68 [some (gs_r 0 a0), some (gs_i a1), some (gs_i a2), some (gs_i a3)] [] d = gs_af (f_G_goThrough [(gs_r 0 a0)] d) [] (fun s9 d9 => gs_g Y0 P_G_limit 72 [some (gs_r 0 a0), some (gs_i a1), some (gs_i a2), some (gs_i a3)] s9 d9) := gs_gc 2 (fun _ => rfl)
theorem k_G_limit_72 (a0 : Nat) (a1 : Int32) (a2 : Int32) (a3 : Int32) (s0 : Int32) (d : gs_D) : gs_g Y0 P_G_limit 72 [some (gs_r 0 a0), some (gs_i a1), some (gs_i a2), some (gs_i a3)] [(gs_i s0)] d = some (some (gs_i s0), d) := gs_an 1 (fun _ => rfl)
def I_G_isPriority : List (Nat × Jvm.ClassFile.Instr × Nat) := [(0, .iload_n 0, 0), (1, .ifCond .lt 12, 13), (4, .iload_n 0, 0), (5, .iconst 2, 0), (6, .if_icmp .gt 7, 13), (9, .iconst 1, 0), (10, .goto 4, 14), (13, .iconst 0, 0), (14, .ireturn, 0)]
def F_G_isPriority : List (Nat × Nat × Nat) := []
def K_G_isPriority : List (Nat × gs_V) := []
noncomputable def C_G_isPriority : List (Nat × Nat × Nat × gs_F) := []
noncomputable def P_G_isPriority : gs_P := (gs_lk I_G_isPriority, gs_lk F_G_isPriority, gs_lk K_G_isPriority, gs_lk C_G_isPriority)
noncomputable def f_G_isPriority : gs_F := gs_f Y0 1 2 P_G_isPriority
theorem e_G_isPriority (a0 : Int32) (d : gs_D) : f_G_isPriority [(gs_i a0)] d = gs_ck 2 (gs_g Y0 P_G_isPriority 0 [some (gs_i a0)] [] d) := rfl
theorem k_G_isPriority_0 (a0 : Int32) (d : gs_D) : gs_g Y0 P_G_isPriority 0 [some (gs_i a0)] [] d = if a0 < 0 then gs_g Y0 P_G_isPriority 13 [some (gs_i a0)] [] d else gs_g Y0 P_G_isPriority 4 [some (gs_i a0)] [] d := gs_if 2 (fun _ => rfl)
theorem k_G_isPriority_4 (a0 : Int32) (d : gs_D) : gs_g Y0 P_G_isPriority 4 [some (gs_i a0)] [] d = if (gs_n 2) < a0 then gs_g Y0 P_G_isPriority 13 [some (gs_i a0)] [] d else gs_g Y0 P_G_isPriority 9 [some (gs_i a0)] [] d := gs_if 3 (fun _ => rfl)
theorem k_G_isPriority_9 (a0 : Int32) (d : gs_D) : gs_g Y0 P_G_isPriority 9 [some (gs_i a0)] [] d = some (some (gs_i (gs_n 1)), d) := gs_an 3 (fun _ => rfl)
theorem k_G_isPriority_13 (a0 : Int32) (d : gs_D) : gs_g Y0 P_G_isPriority 13 [some (gs_i a0)] [] d = some (some (gs_i (gs_n 0)), d) := gs_an 2 (fun _ => rfl)
def I_Q_isFull : List (Nat × Jvm.ClassFile.Instr × Nat) := [(0, .aload_n 0, 0), (1, .getfield 25, 0), (4, .bipush 10, 0), (6, .if_icmp .ge 12, 18), (9, .aload_n 0, 0), (10, .getfield 17, 0), (13, .bipush 40, 0), (15, .if_icmp .lt 7, 22), (18, .iconst 1, 0), (19, .goto 4, 23), (22, .iconst 0, 0), (23, .ireturn, 0)]
def F_Q_isFull : List (Nat × Nat × Nat) := [(25, 3, 3), (17, 3, 1)]
def K_Q_isFull : List (Nat × gs_V) := []
noncomputable def C_Q_isFull : List (Nat × Nat × Nat × gs_F) := []
noncomputable def P_Q_isFull : gs_P := (gs_lk I_Q_isFull, gs_lk F_Q_isFull, gs_lk K_Q_isFull, gs_lk C_Q_isFull)
noncomputable def f_Q_isFull : gs_F := gs_f Y0 1 2 P_Q_isFull
theorem e_Q_isFull (a0 : Nat) (d : gs_D) : f_Q_isFull [(gs_r 4 a0)] d = gs_ck 2 (gs_g Y0 P_Q_isFull 0 [some (gs_r 4 a0)] [] d) := rfl
theorem k_Q_isFull_0 (a0 : Nat) (d : gs_D) : gs_g Y0 P_Q_isFull 0 [some (gs_r 4 a0)] [] d = if (Int8.ofInt 10).toInt32 ≤ (d.1 4 a0 3) then gs_g Y0 P_Q_isFull 18 [some (gs_r 4 a0)] [] d else gs_g Y0 P_Q_isFull 9 [some (gs_r 4 a0)] [] d := gs_if 4 (fun _ => rfl)
theorem k_Q_isFull_9 (a0 : Nat) (d : gs_D) : gs_g Y0 P_Q_isFull 9 [some (gs_r 4 a0)] [] d = if (d.1 4 a0 1) < (Int8.ofInt 40).toInt32 then gs_g Y0 P_Q_isFull 22 [some (gs_r 4 a0)] [] d else gs_g Y0 P_Q_isFull 18 [some (gs_r 4 a0)] [] d := gs_if 4 (fun _ => rfl)
theorem k_Q_isFull_18 (a0 : Nat) (d : gs_D) : gs_g Y0 P_Q_isFull 18 [some (gs_r 4 a0)] [] d = some (some (gs_i (gs_n 1)), d) := gs_an 3 (fun _ => rfl)
theorem k_Q_isFull_22 (a0 : Nat) (d : gs_D) : gs_g Y0 P_Q_isFull 22 [some (gs_r 4 a0)] [] d = some (some (gs_i (gs_n 0)), d) := gs_an 2 (fun _ => rfl)
def I_Q_comesBefore : List (Nat × Jvm.ClassFile.Instr × Nat) := [(0, .aload_n 0, 0), (1, .getfield 11, 0), (4, .iload_n 1, 0), (5, .aaload, 0), (6, .getfield 52, 0), (9, .istore_n 3, 0), (10, .aload_n 0, 0), (11, .getfield 11, 0), (14, .iload_n 2, 0), (15, .aaload, 0), (16, .getfield 52, 0), (19, .istore 4, 0), (21, .iload_n 3, 0), (22, .iload 4, 0), (24, .if_icmp .lt 14, 38), (27, .iload_n 3, 0), (28, .iload 4, 0), (30, .if_icmp .ne 12, 42), (33, .iload_n 1, 0), (34, .iload_n 2, 0), (35, .if_icmp .ge 7, 42), (38, .iconst 1, 0), (39, .goto 4, 43), (42, .iconst 0, 0), (43, .ireturn, 0)]
def F_Q_comesBefore : List (Nat × Nat × Nat) := [(11, 3, 0), (52, 4, 5)]
def K_Q_comesBefore : List (Nat × gs_V) := []
noncomputable def C_Q_comesBefore : List (Nat × Nat × Nat × gs_F) := []
noncomputable def P_Q_comesBefore : gs_P := (gs_lk I_Q_comesBefore, gs_lk F_Q_comesBefore, gs_lk K_Q_comesBefore, gs_lk C_Q_comesBefore)
noncomputable def f_Q_comesBefore : gs_F := gs_f Y0 5 2 P_Q_comesBefore
theorem e_Q_comesBefore (a0 : Nat) (a1 : Int32) (a2 : Int32) (d : gs_D) : f_Q_comesBefore [(gs_r 4 a0), (gs_i a1), (gs_i a2)] d = gs_ck 2 (gs_g Y0 P_Q_comesBefore 0 [some (gs_r 4 a0), some (gs_i a1), some (gs_i a2), none, none] [] d) := rfl
theorem k_Q_comesBefore_0 (a0 : Nat) (a1 : Int32) (a2 : Int32) (d : gs_D) : gs_g Y0 P_Q_comesBefore 0 [some (gs_r 4 a0), some (gs_i a1), some (gs_i a2), none, none] [] d = gs_ix a1 40 (gs_g Y0 P_Q_comesBefore 6 [some (gs_r 4 a0), some (gs_i a1), some (gs_i a2), none, none] [(gs_r 13 (gs_ii a0 a1.toNatClampNeg))] d) := gs_gx 4 (fun _ => rfl)
theorem k_Q_comesBefore_6 (a0 : Nat) (a1 : Int32) (a2 : Int32) (s0 : Nat) (d : gs_D) : gs_g Y0 P_Q_comesBefore 6 [some (gs_r 4 a0), some (gs_i a1), some (gs_i a2), none, none] [(gs_r 13 s0)] d = gs_ix a2 40 (gs_g Y0 P_Q_comesBefore 16 [some (gs_r 4 a0), some (gs_i a1), some (gs_i a2), some (gs_i (d.1 13 s0 5)), none] [(gs_r 13 (gs_ii a0 a2.toNatClampNeg))] d) := gs_gx 6 (fun _ => rfl)
theorem k_Q_comesBefore_16 (a0 : Nat) (a1 : Int32) (a2 : Int32) (a3 : Int32) (s0 : Nat) (d : gs_D) : gs_g Y0 P_Q_comesBefore 16 [some (gs_r 4 a0), some (gs_i a1), some (gs_i a2), some (gs_i a3), none] [(gs_r 13 s0)] d = if a3 < (d.1 13 s0 5) then gs_g Y0 P_Q_comesBefore 38 [some (gs_r 4 a0), some (gs_i a1), some (gs_i a2), some (gs_i a3), some (gs_i (d.1 13 s0 5))] [] d else gs_g Y0 P_Q_comesBefore 27 [some (gs_r 4 a0), some (gs_i a1), some (gs_i a2), some (gs_i a3), some (gs_i (d.1 13 s0 5))] [] d := gs_if 5 (fun _ => rfl)
theorem k_Q_comesBefore_27 (a0 : Nat) (a1 : Int32) (a2 : Int32) (a3 : Int32) (a4 : Int32) (d : gs_D) : gs_g Y0 P_Q_comesBefore 27 [some (gs_r 4 a0), some (gs_i a1), some (gs_i a2), some (gs_i a3), some (gs_i a4)] [] d = if ¬ a3 = a4 then gs_g Y0 P_Q_comesBefore 42 [some (gs_r 4 a0), some (gs_i a1), some (gs_i a2), some (gs_i a3), some (gs_i a4)] [] d else gs_g Y0 P_Q_comesBefore 33 [some (gs_r 4 a0), some (gs_i a1), some (gs_i a2), some (gs_i a3), some (gs_i a4)] [] d := gs_if 3 (fun _ => rfl)
theorem k_Q_comesBefore_33 (a0 : Nat) (a1 : Int32) (a2 : Int32) (a3 : Int32) (a4 : Int32) (d : gs_D) : gs_g Y0 P_Q_comesBefore 33 [some (gs_r 4 a0), some (gs_i a1), some (gs_i a2), some (gs_i a3), some (gs_i a4)] [] d = if a2 ≤ a1 then gs_g Y0 P_Q_comesBefore 42 [some (gs_r 4 a0), some (gs_i a1), some (gs_i a2), some (gs_i a3), some (gs_i a4)] [] d else gs_g Y0 P_Q_comesBefore 38 [some (gs_r 4 a0), some (gs_i a1), some (gs_i a2), some (gs_i a3), some (gs_i a4)] [] d := gs_if 3 (fun _ => rfl)
theorem k_Q_comesBefore_38 (a0 : Nat) (a1 : Int32) (a2 : Int32) (a3 : Int32) (a4 : Int32) (d : gs_D) : gs_g Y0 P_Q_comesBefore 38 [some (gs_r 4 a0), some (gs_i a1), some (gs_i a2), some (gs_i a3), some (gs_i a4)] [] d = some (some (gs_i (gs_n 1)), d) := gs_an 3 (fun _ => rfl)
theorem k_Q_comesBefore_42 (a0 : Nat) (a1 : Int32) (a2 : Int32) (a3 : Int32) (a4 : Int32) (d : gs_D) : gs_g Y0 P_Q_comesBefore 42 [some (gs_r 4 a0), some (gs_i a1), some (gs_i a2), some (gs_i a3), some (gs_i a4)] [] d = some (some (gs_i (gs_n 0)), d) := gs_an 2 (fun _ => rfl)
def I_Q_enter : List (Nat × Jvm.ClassFile.Instr × Nat) := [(0, .aload_n 0, 0), (1, .getfield 25, 0), (4, .istore_n 2, 0), (5, .iload_n 2, 0), (6, .ifCond .le 39, 45), (9, .aload_n 0, 0), (10, .iload_n 1, 0), (11, .aload_n 0, 0), (12, .getfield 21, 0), (15, .iload_n 2, 0), (16, .iconst 1, 0), (17, .isub, 0), (18, .iaload, 0), (19, .invokevirtual 65, 0), (22, .ifCond .eq 23, 45), (25, .aload_n 0, 0), (26, .getfield 21, 0), (29, .iload_n 2, 0), (30, .aload_n 0, 0), (31, .getfield 21, 0), (34, .iload_n 2, 0), (35, .iconst 1, 0), (36, .isub, 0), (37, .iaload, 0), (38, .iastore, 0), (39, .iinc 2 (-1), 0), (42, .goto (-37), 5), (45, .aload_n 0, 0), (46, .getfield 21, 0), (49, .iload_n 2, 0), (50, .iload_n 1, 0), (51, .iastore, 0), (52, .aload_n 0, 0), (53, .dup, 0), (54, .getfield 25, 0), (57, .iconst 1, 0), (58, .iadd, 0), (59, .putfield 25, 0), (62, .return_, 0)]
def F_Q_enter : List (Nat × Nat × Nat) := [(25, 3, 3), (21, 3, 2)]
def K_Q_enter : List (Nat × gs_V) := []
noncomputable def C_Q_enter : List (Nat × Nat × Nat × gs_F) := [(65, 2, 3, f_Q_comesBefore)]
noncomputable def P_Q_enter : gs_P := (gs_lk I_Q_enter, gs_lk F_Q_enter, gs_lk K_Q_enter, gs_lk C_Q_enter)
noncomputable def f_Q_enter : gs_F := gs_f Y0 3 0 P_Q_enter
theorem e_Q_enter (a0 : Nat) (a1 : Int32) (d : gs_D) : f_Q_enter [(gs_r 4 a0), (gs_i a1)] d = gs_ck 0 (gs_g Y0 P_Q_enter 0 [some (gs_r 4 a0), some (gs_i a1), none] [] d) := rfl
theorem k_Q_enter_0 (a0 : Nat) (a1 : Int32) (d : gs_D) : gs_g Y0 P_Q_enter 0 [some (gs_r 4 a0), some (gs_i a1), none] [] d = gs_g Y0 P_Q_enter 5 [some (gs_r 4 a0), some (gs_i a1), some (gs_i (d.1 4 a0 3))] [] d := gs_gs 2 (fun _ => rfl)
theorem k_Q_enter_5 (a0 : Nat) (a1 : Int32) (a2 : Int32) (d : gs_D) : gs_g Y0 P_Q_enter 5 [some (gs_r 4 a0), some (gs_i a1), some (gs_i a2)] [] d = if a2 ≤ 0 then gs_g Y0 P_Q_enter 45 [some (gs_r 4 a0), some (gs_i a1), some (gs_i a2)] [] d else gs_g Y0 P_Q_enter 9 [some (gs_r 4 a0), some (gs_i a1), some (gs_i a2)] [] d := gs_if 2 (fun _ => rfl)
theorem k_Q_enter_9 (a0 : Nat) (a1 : Int32) (a2 : Int32) (d : gs_D) : gs_g Y0 P_Q_enter 9 [some (gs_r 4 a0), some (gs_i a1), some (gs_i a2)] [] d = gs_ix (a2 - (gs_n 1)) 10 (gs_g Y0 P_Q_enter 19 [some (gs_r 4 a0), some (gs_i a1), some (gs_i a2)] [(gs_i (d.1 12 a0 (a2 - (gs_n 1)).toNatClampNeg)), (gs_i a1), (gs_r 4 a0)] d) := gs_gx 8 (fun _ => rfl)
theorem k_Q_enter_19 (a0 : Nat) (a1 : Int32) (a2 : Int32) (s0 : Nat) (s1 : Int32) (s2 : Int32) (d : gs_D) : gs_g Y0 P_Q_enter 19 [some (gs_r 4 a0), some (gs_i a1), some (gs_i a2)] [(gs_i s2), (gs_i s1), (gs_r 4 s0)] d = gs_af (f_Q_comesBefore [(gs_r 4 s0), (gs_i s1), (gs_i s2)] d) [] (fun s9 d9 => gs_g Y0 P_Q_enter 22 [some (gs_r 4 a0), some (gs_i a1), some (gs_i a2)] s9 d9) := gs_gc 1 (fun _ => rfl)
theorem k_Q_enter_22 (a0 : Nat) (a1 : Int32) (a2 : Int32) (s0 : Int32) (d : gs_D) : gs_g Y0 P_Q_enter 22 [some (gs_r 4 a0), some (gs_i a1), some (gs_i a2)] [(gs_i s0)] d = if s0 = 0 then gs_g Y0 P_Q_enter 45 [some (gs_r 4 a0), some (gs_i a1), some (gs_i a2)] [] d else gs_g Y0 P_Q_enter 25 [some (gs_r 4 a0), some (gs_i a1), some (gs_i a2)] [] d := gs_if 1 (fun _ => rfl)
theorem k_Q_enter_25 (a0 : Nat) (a1 : Int32) (a2 : Int32) (d : gs_D) : gs_g Y0 P_Q_enter 25 [some (gs_r 4 a0), some (gs_i a1), some (gs_i a2)] [] d = gs_ix (a2 - (gs_n 1)) 10 (gs_g Y0 P_Q_enter 38 [some (gs_r 4 a0), some (gs_i a1), some (gs_i a2)] [(gs_i (d.1 12 a0 (a2 - (gs_n 1)).toNatClampNeg)), (gs_i a2), (gs_r 12 a0)] d) := gs_gx 9 (fun _ => rfl)
theorem k_Q_enter_38 (a0 : Nat) (a1 : Int32) (a2 : Int32) (s0 : Nat) (s1 : Int32) (s2 : Int32) (d : gs_D) : gs_g Y0 P_Q_enter 38 [some (gs_r 4 a0), some (gs_i a1), some (gs_i a2)] [(gs_i s2), (gs_i s1), (gs_r 12 s0)] d = gs_ix s1 10 (gs_g Y0 P_Q_enter 39 [some (gs_r 4 a0), some (gs_i a1), some (gs_i a2)] [] (gs_wI d 12 s0 s1.toNatClampNeg s2)) := gs_gx 1 (fun _ => rfl)
theorem k_Q_enter_39 (a0 : Nat) (a1 : Int32) (a2 : Int32) (d : gs_D) : gs_g Y0 P_Q_enter 39 [some (gs_r 4 a0), some (gs_i a1), some (gs_i a2)] [] d = gs_g Y0 P_Q_enter 5 [some (gs_r 4 a0), some (gs_i a1), some (gs_i (a2 + Int32.ofInt (-1)))] [] d := gs_gs 1 (fun _ => rfl)
theorem k_Q_enter_45 (a0 : Nat) (a1 : Int32) (a2 : Int32) (d : gs_D) : gs_g Y0 P_Q_enter 45 [some (gs_r 4 a0), some (gs_i a1), some (gs_i a2)] [] d = gs_ix a2 10 (gs_g Y0 P_Q_enter 52 [some (gs_r 4 a0), some (gs_i a1), some (gs_i a2)] [] (gs_wI d 12 a0 a2.toNatClampNeg a1)) := gs_gx 5 (fun _ => rfl)
theorem k_Q_enter_52 (a0 : Nat) (a1 : Int32) (a2 : Int32) (d : gs_D) : gs_g Y0 P_Q_enter 52 [some (gs_r 4 a0), some (gs_i a1), some (gs_i a2)] [] d = some (none, (gs_wI d 4 a0 3 ((d.1 4 a0 3) + (gs_n 1)))) := gs_an 7 (fun _ => rfl)
def I_Q_append : List (Nat × Jvm.ClassFile.Instr × Nat) := [(0, .aload_n 0, 0), (1, .getfield 17, 0), (4, .istore 7, 0), (6, .aload_n 0, 0), (7, .dup, 0), (8, .getfield 17, 0), (11, .iconst 1, 0), (12, .iadd, 0), (13, .putfield 17, 0), (16, .aload_n 0, 0), (17, .getfield 11, 0), (20, .iload 7, 0), (22, .aaload, 0), (23, .astore 8, 0), (25, .aload 8, 0), (27, .iload_n 1, 0), (28, .putfield 37, 0), (31, .aload 8, 0), (33, .iload_n 2, 0), (34, .putfield 40, 0), (37, .aload 8, 0), (39, .iload_n 3, 0), (40, .putfield 43, 0), (43, .aload 8, 0), (45, .iload 4, 0), (47, .putfield 46, 0), (50, .aload 8, 0), (52, .iload 5, 0), (54, .putfield 49, 0), (57, .aload 8, 0), (59, .iload 6, 0), (61, .putfield 52, 0), (64, .aload 8, 0), (66, .iconst 0, 0), (67, .putfield 55, 0), (70, .aload_n 0, 0), (71, .iload 7, 0), (73, .invokevirtual 58, 0), (76, .iload 7, 0), (78, .ireturn, 0)]
def F_Q_append : List (Nat × Nat × Nat) := [(17, 3, 1), (11, 3, 0), (37, 4, 0), (40, 4, 1), (43, 4, 2), (46, 4, 3), (49, 4, 4), (52, 4, 5), (55, 4, 6)]
def K_Q_append : List (Nat × gs_V) := []
noncomputable def C_Q_append : List (Nat × Nat × Nat × gs_F) := [(58, 1, 3, f_Q_enter)]
noncomputable def P_Q_append : gs_P := (gs_lk I_Q_append, gs_lk F_Q_append, gs_lk K_Q_append, gs_lk C_Q_append)
noncomputable def f_Q_append : gs_F := gs_f Y0 9 1 P_Q_append
theorem e_Q_append (a0 : Nat) (a1 : Int32) (a2 : Int32) (a3 : Int32) (a4 : Int32) (a5 : Int32) (a6 : Int32) (d : gs_D) : f_Q_append [(gs_r 4 a0), (gs_i a1), (gs_i a2), (gs_i a3), (gs_i a4), (gs_i a5), (gs_i a6)] d = gs_ck 1 (gs_g Y0 P_Q_append 0 [some (gs_r 4 a0), some (gs_i a1), some (gs_i a2), some (gs_i a3), some (gs_i a4), some (gs_i a5), some (gs_i a6), none, none] [] d) := rfl
theorem k_Q_append_0 (a0 : Nat) (a1 : Int32) (a2 : Int32) (a3 : Int32) (a4 : Int32) (a5 : Int32) (a6 : Int32) (d : gs_D) : gs_g Y0 P_Q_append 0 [some (gs_r 4 a0), some (gs_i a1), some (gs_i a2), some (gs_i a3), some (gs_i a4), some (gs_i a5), some (gs_i a6), none, none] [] d = gs_ix (d.1 4 a0 1) 40 (gs_g Y0 P_Q_append 23 [some (gs_r 4 a0), some (gs_i a1), some (gs_i a2), some (gs_i a3), some (gs_i a4), some (gs_i a5), some (gs_i a6), some (gs_i (d.1 4 a0 1)), none] [(gs_r 13 (gs_ii a0 (d.1 4 a0 1).toNatClampNeg))] (gs_wI d 4 a0 1 ((d.1 4 a0 1) + (gs_n 1)))) := gs_gx 13 (fun _ => rfl)
theorem k_Q_append_23 (a0 : Nat) (a1 : Int32) (a2 : Int32) (a3 : Int32) (a4 : Int32) (a5 : Int32) (a6 : Int32) (a7 : Int32) (s0 : Nat) (d : gs_D) : gs_g Y0 P_Q_append 23 [some (gs_r 4 a0), some (gs_i a1), some (gs_i a2), some (gs_i a3), some (gs_i a4), some (gs_i a5), some (gs_i a6), some (gs_i a7), none] [(gs_r 13 s0)] d = gs_af (f_Q_enter [(gs_r 4 a0), (gs_i a7)] (gs_wI (gs_wI (gs_wI (gs_wI (gs_wI (gs_wI (gs_wI d 13 s0 0 a1) 13 s0 1 a2) 13 s0 2 a3) 13 s0 3 a4) 13 s0 4 a5) 13 s0 5 a6) 13 s0 6 (gs_n 0))) [] (fun s9 d9 => gs_g Y0 P_Q_append 76 [some (gs_r 4 a0), some (gs_i a1), some (gs_i a2), some (gs_i a3), some (gs_i a4), some (gs_i a5), some (gs_i a6), some (gs_i a7), some (gs_r 13 s0)] s9 d9) := gs_gc 25 (fun _ => rfl)
theorem k_Q_append_76 (a0 : Nat) (a1 : Int32) (a2 : Int32) (a3 : Int32) (a4 : Int32) (a5 : Int32) (a6 : Int32) (a7 : Int32) (a8 : Nat) (d : gs_D) : gs_g Y0 P_Q_append 76 [some (gs_r 4 a0), some (gs_i a1), some (gs_i a2), some (gs_i a3), some (gs_i a4), some (gs_i a5), some (gs_i a6), some (gs_i a7), some (gs_r 13 a8)] [] d = some (some (gs_i a7), d) := gs_an 2 (fun _ => rfl)
def I_G_accept : List (Nat × Jvm.ClassFile.Instr × Nat) := [(0, .aload_n 0, 0), (1, .getfield 12, 0), (4, .getfield 33, 0), (7, .iconst 1, 0), (8, .if_icmp .eq 6, 14), (11, .bipush (-2), 0), (13, .ireturn, 0), (14, .aload_n 0, 0), (15, .getfield 12, 0), (18, .getfield 91, 0), (21, .invokevirtual 161, 0), (24, .ifCond .eq 6, 30), (27, .bipush (-3), 0), (29, .ireturn, 0), (30, .aload_n 0, 0), (31, .getfield 12, 0), (34, .getfield 91, 0), (37, .iload_n 1, 0), (38, .iload_n 2, 0), (39, .iload_n 3, 0), (40, .iload 4, 0), (42, .iload 5, 0), (44, .iload 6, 0), (46, .invokevirtual 165, 0), (49, .istore 7, 0), (51, .aload_n 0, 0), (52, .invokevirtual 62, 0), (55, .pop, 0), (56, .iload 7, 0), (58, .ireturn, 0)]
def F_G_accept : List (Nat × Nat × Nat) := [(12, 0, 0), (33, 1, 0), (91, 1, 2)]
def K_G_accept : List (Nat × gs_V) := []
noncomputable def C_G_accept : List (Nat × Nat × Nat × gs_F) := [(161, 0, 3, f_Q_isFull), (165, 6, 3, f_Q_append), (62, 0, 0, f_G_goThrough)]
noncomputable def P_G_accept : gs_P := (gs_lk I_G_accept, gs_lk F_G_accept, gs_lk K_G_accept, gs_lk C_G_accept)
noncomputable def f_G_accept : gs_F := gs_f Y0 8 1 P_G_accept
theorem e_G_accept (a0 : Nat) (a1 : Int32) (a2 : Int32) (a3 : Int32) (a4 : Int32) (a5 : Int32) (a6 : Int32) (d : gs_D) : f_G_accept [(gs_r 0 a0), (gs_i a1), (gs_i a2), (gs_i a3), (gs_i a4), (gs_i a5), (gs_i a6)] d = gs_ck 1 (gs_g Y0 P_G_accept 0 [some (gs_r 0 a0), some (gs_i a1), some (gs_i a2), some (gs_i a3), some (gs_i a4), some (gs_i a5), some (gs_i a6), none] [] d) := rfl
theorem k_G_accept_0 (a0 : Nat) (a1 : Int32) (a2 : Int32) (a3 : Int32) (a4 : Int32) (a5 : Int32) (a6 : Int32) (d : gs_D) : gs_g Y0 P_G_accept 0 [some (gs_r 0 a0), some (gs_i a1), some (gs_i a2), some (gs_i a3), some (gs_i a4), some (gs_i a5), some (gs_i a6), none] [] d = if (d.1 1 0 0) = (gs_n 1) then gs_g Y0 P_G_accept 14 [some (gs_r 0 a0), some (gs_i a1), some (gs_i a2), some (gs_i a3), some (gs_i a4), some (gs_i a5), some (gs_i a6), none] [] d else gs_g Y0 P_G_accept 11 [some (gs_r 0 a0), some (gs_i a1), some (gs_i a2), some (gs_i a3), some (gs_i a4), some (gs_i a5), some (gs_i a6), none] [] d := gs_if 5 (fun _ => rfl)
theorem k_G_accept_11 (a0 : Nat) (a1 : Int32) (a2 : Int32) (a3 : Int32) (a4 : Int32) (a5 : Int32) (a6 : Int32) (d : gs_D) : gs_g Y0 P_G_accept 11 [some (gs_r 0 a0), some (gs_i a1), some (gs_i a2), some (gs_i a3), some (gs_i a4), some (gs_i a5), some (gs_i a6), none] [] d = some (some (gs_i (Int8.ofInt (-2)).toInt32), d) := gs_an 2 (fun _ => rfl)
theorem k_G_accept_14 (a0 : Nat) (a1 : Int32) (a2 : Int32) (a3 : Int32) (a4 : Int32) (a5 : Int32) (a6 : Int32) (d : gs_D) : gs_g Y0 P_G_accept 14 [some (gs_r 0 a0), some (gs_i a1), some (gs_i a2), some (gs_i a3), some (gs_i a4), some (gs_i a5), some (gs_i a6), none] [] d = gs_af (f_Q_isFull [(gs_r 4 0)] d) [] (fun s9 d9 => gs_g Y0 P_G_accept 24 [some (gs_r 0 a0), some (gs_i a1), some (gs_i a2), some (gs_i a3), some (gs_i a4), some (gs_i a5), some (gs_i a6), none] s9 d9) := gs_gc 4 (fun _ => rfl)
theorem k_G_accept_24 (a0 : Nat) (a1 : Int32) (a2 : Int32) (a3 : Int32) (a4 : Int32) (a5 : Int32) (a6 : Int32) (s0 : Int32) (d : gs_D) : gs_g Y0 P_G_accept 24 [some (gs_r 0 a0), some (gs_i a1), some (gs_i a2), some (gs_i a3), some (gs_i a4), some (gs_i a5), some (gs_i a6), none] [(gs_i s0)] d = if s0 = 0 then gs_g Y0 P_G_accept 30 [some (gs_r 0 a0), some (gs_i a1), some (gs_i a2), some (gs_i a3), some (gs_i a4), some (gs_i a5), some (gs_i a6), none] [] d else gs_g Y0 P_G_accept 27 [some (gs_r 0 a0), some (gs_i a1), some (gs_i a2), some (gs_i a3), some (gs_i a4), some (gs_i a5), some (gs_i a6), none] [] d := gs_if 1 (fun _ => rfl)
theorem k_G_accept_27 (a0 : Nat) (a1 : Int32) (a2 : Int32) (a3 : Int32) (a4 : Int32) (a5 : Int32) (a6 : Int32) (d : gs_D) : gs_g Y0 P_G_accept 27 [some (gs_r 0 a0), some (gs_i a1), some (gs_i a2), some (gs_i a3), some (gs_i a4), some (gs_i a5), some (gs_i a6), none] [] d = some (some (gs_i (Int8.ofInt (-3)).toInt32), d) := gs_an 2 (fun _ => rfl)
theorem k_G_accept_30 (a0 : Nat) (a1 : Int32) (a2 : Int32) (a3 : Int32) (a4 : Int32) (a5 : Int32) (a6 : Int32) (d : gs_D) : gs_g Y0 P_G_accept 30 [some (gs_r 0 a0), some (gs_i a1), some (gs_i a2), some (gs_i a3), some (gs_i a4), some (gs_i a5), some (gs_i a6), none] [] d = gs_af (f_Q_append [(gs_r 4 0), (gs_i a1), (gs_i a2), (gs_i a3), (gs_i a4), (gs_i a5), (gs_i a6)] d) [] (fun s9 d9 => gs_g Y0 P_G_accept 49 [some (gs_r 0 a0), some (gs_i a1), some (gs_i a2), some (gs_i a3), some (gs_i a4), some (gs_i a5), some (gs_i a6), none] s9 d9) := gs_gc 10 (fun _ => rfl)
theorem k_G_accept_49 (a0 : Nat) (a1 : Int32) (a2 : Int32) (a3 : Int32) (a4 : Int32) (a5 : Int32) (a6 : Int32) (s0 : Int32) (d : gs_D) : gs_g Y0 P_G_accept 49 [some (gs_r 0 a0), some (gs_i a1), some (gs_i a2), some (gs_i a3), some (gs_i a4), some (gs_i a5), some (gs_i a6), none] [(gs_i s0)] d = gs_af (f_G_goThrough [(gs_r 0 a0)] d) [] (fun s9 d9 => gs_g Y0 P_G_accept 55 [some (gs_r 0 a0), some (gs_i a1), some (gs_i a2), some (gs_i a3), some (gs_i a4), some (gs_i a5), some (gs_i a6), some (gs_i s0)] s9 d9) := gs_gc 3 (fun _ => rfl)
theorem k_G_accept_55 (a0 : Nat) (a1 : Int32) (a2 : Int32) (a3 : Int32) (a4 : Int32) (a5 : Int32) (a6 : Int32) (a7 : Int32) (s0 : Int32) (d : gs_D) : gs_g Y0 P_G_accept 55 [some (gs_r 0 a0), some (gs_i a1), some (gs_i a2), some (gs_i a3), some (gs_i a4), some (gs_i a5), some (gs_i a6), some (gs_i a7)] [(gs_i s0)] d = some (some (gs_i a7), d) := gs_an 3 (fun _ => rfl)
def I_G_pay : List (Nat × Jvm.ClassFile.Instr × Nat) := [(0, .iload_n 1, 0), (1, .iload_n 2, 0), (2, .invokestatic 69, 0), (5, .ifCond .eq 18, 23), (8, .iload_n 3, 0), (9, .invokestatic 30, 0), (12, .ifCond .eq 11, 23), (15, .iload 4, 0), (17, .invokestatic 84, 0), (20, .ifCond .ne 5, 25), (23, .iconst (-1), 0), (24, .ireturn, 0), (25, .aload_n 0, 0), (26, .iload_n 2, 0), (27, .iload_n 1, 0), (28, .iconst 0, 0), (29, .iconst 0, 0), (30, .iload_n 3, 0), (31, .iload 4, 0), (33, .invokevirtual 87, 0), (36, .ireturn, 0)]
def F_G_pay : List (Nat × Nat × Nat) := []
def K_G_pay : List (Nat × gs_V) := []
noncomputable def C_G_pay : List (Nat × Nat × Nat × gs_F) := [(69, 2, 1000, f_G_areTwo), (30, 1, 1000, f_G_isAmount), (84, 1, 1000, f_G_isPriority), (87, 6, 0, f_G_accept)]
noncomputable def P_G_pay : gs_P := (gs_lk I_G_pay, gs_lk F_G_pay, gs_lk K_G_pay, gs_lk C_G_pay)
noncomputable def f_G_pay : gs_F := gs_f Y0 5 1 P_G_pay
theorem e_G_pay (a0 : Nat) (a1 : Int32) (a2 : Int32) (a3 : Int32) (a4 : Int32) (d : gs_D) : f_G_pay [(gs_r 0 a0), (gs_i a1), (gs_i a2), (gs_i a3), (gs_i a4)] d = gs_ck 1 (gs_g Y0 P_G_pay 0 [some (gs_r 0 a0), some (gs_i a1), some (gs_i a2), some (gs_i a3), some (gs_i a4)] [] d) := rfl
theorem k_G_pay_0 (a0 : Nat) (a1 : Int32) (a2 : Int32) (a3 : Int32) (a4 : Int32) (d : gs_D) : gs_g Y0 P_G_pay 0 [some (gs_r 0 a0), some (gs_i a1), some (gs_i a2), some (gs_i a3), some (gs_i a4)] [] d = gs_af (f_G_areTwo [(gs_i a1), (gs_i a2)] d) [] (fun s9 d9 => gs_g Y0 P_G_pay 5 [some (gs_r 0 a0), some (gs_i a1), some (gs_i a2), some (gs_i a3), some (gs_i a4)] s9 d9) := gs_gc 3 (fun _ => rfl)
theorem k_G_pay_5 (a0 : Nat) (a1 : Int32) (a2 : Int32) (a3 : Int32) (a4 : Int32) (s0 : Int32) (d : gs_D) : gs_g Y0 P_G_pay 5 [some (gs_r 0 a0), some (gs_i a1), some (gs_i a2), some (gs_i a3), some (gs_i a4)] [(gs_i s0)] d = if s0 = 0 then gs_g Y0 P_G_pay 23 [some (gs_r 0 a0), some (gs_i a1), some (gs_i a2), some (gs_i a3), some (gs_i a4)] [] d else gs_g Y0 P_G_pay 8 [some (gs_r 0 a0), some (gs_i a1), some (gs_i a2), some (gs_i a3), some (gs_i a4)] [] d := gs_if 1 (fun _ => rfl)
theorem k_G_pay_8 (a0 : Nat) (a1 : Int32) (a2 : Int32) (a3 : Int32) (a4 : Int32) (d : gs_D) : gs_g Y0 P_G_pay 8 [some (gs_r 0 a0), some (gs_i a1), some (gs_i a2), some (gs_i a3), some (gs_i a4)] [] d = gs_af (f_G_isAmount [(gs_i a3)] d) [] (fun s9 d9 => gs_g Y0 P_G_pay 12 [some (gs_r 0 a0), some (gs_i a1), some (gs_i a2), some (gs_i a3), some (gs_i a4)] s9 d9) := gs_gc 2 (fun _ => rfl)
theorem k_G_pay_12 (a0 : Nat) (a1 : Int32) (a2 : Int32) (a3 : Int32) (a4 : Int32) (s0 : Int32) (d : gs_D) : gs_g Y0 P_G_pay 12 [some (gs_r 0 a0), some (gs_i a1), some (gs_i a2), some (gs_i a3), some (gs_i a4)] [(gs_i s0)] d = if s0 = 0 then gs_g Y0 P_G_pay 23 [some (gs_r 0 a0), some (gs_i a1), some (gs_i a2), some (gs_i a3), some (gs_i a4)] [] d else gs_g Y0 P_G_pay 15 [some (gs_r 0 a0), some (gs_i a1), some (gs_i a2), some (gs_i a3), some (gs_i a4)] [] d := gs_if 1 (fun _ => rfl)
theorem k_G_pay_15 (a0 : Nat) (a1 : Int32) (a2 : Int32) (a3 : Int32) (a4 : Int32) (d : gs_D) : gs_g Y0 P_G_pay 15 [some (gs_r 0 a0), some (gs_i a1), some (gs_i a2), some (gs_i a3), some (gs_i a4)] [] d = gs_af (f_G_isPriority [(gs_i a4)] d) [] (fun s9 d9 => gs_g Y0 P_G_pay 20 [some (gs_r 0 a0), some (gs_i a1), some (gs_i a2), some (gs_i a3), some (gs_i a4)] s9 d9) := gs_gc 2 (fun _ => rfl)
theorem k_G_pay_20 (a0 : Nat) (a1 : Int32) (a2 : Int32) (a3 : Int32) (a4 : Int32) (s0 : Int32) (d : gs_D) : gs_g Y0 P_G_pay 20 [some (gs_r 0 a0), some (gs_i a1), some (gs_i a2), some (gs_i a3), some (gs_i a4)] [(gs_i s0)] d = if ¬ s0 = 0 then gs_g Y0 P_G_pay 25 [some (gs_r 0 a0), some (gs_i a1), some (gs_i a2), some (gs_i a3), some (gs_i a4)] [] d else gs_g Y0 P_G_pay 23 [some (gs_r 0 a0), some (gs_i a1), some (gs_i a2), some (gs_i a3), some (gs_i a4)] [] d := gs_if 1 (fun _ => rfl)
theorem k_G_pay_23 (a0 : Nat) (a1 : Int32) (a2 : Int32) (a3 : Int32) (a4 : Int32) (d : gs_D) : gs_g Y0 P_G_pay 23 [some (gs_r 0 a0), some (gs_i a1), some (gs_i a2), some (gs_i a3), some (gs_i a4)] [] d = some (some (gs_i (gs_n (-1))), d) := gs_an 2 (fun _ => rfl)
theorem k_G_pay_25 (a0 : Nat) (a1 : Int32) (a2 : Int32) (a3 : Int32) (a4 : Int32) (d : gs_D) : gs_g Y0 P_G_pay 25 [some (gs_r 0 a0), some (gs_i a1), some (gs_i a2), some (gs_i a3), some (gs_i a4)] [] d = gs_af (f_G_accept [(gs_r 0 a0), (gs_i a2), (gs_i a1), (gs_i (gs_n 0)), (gs_i (gs_n 0)), (gs_i a3), (gs_i a4)] d) [] (fun s9 d9 => gs_g Y0 P_G_pay 36 [some (gs_r 0 a0), some (gs_i a1), some (gs_i a2), some (gs_i a3), some (gs_i a4)] s9 d9) := gs_gc 8 (fun _ => rfl)
theorem k_G_pay_36 (a0 : Nat) (a1 : Int32) (a2 : Int32) (a3 : Int32) (a4 : Int32) (s0 : Int32) (d : gs_D) : gs_g Y0 P_G_pay 36 [some (gs_r 0 a0), some (gs_i a1), some (gs_i a2), some (gs_i a3), some (gs_i a4)] [(gs_i s0)] d = some (some (gs_i s0), d) := gs_an 1 (fun _ => rfl)
def I_G_deliver : List (Nat × Jvm.ClassFile.Instr × Nat) := [(0, .iload_n 1, 0), (1, .iload_n 2, 0), (2, .invokestatic 69, 0), (5, .ifCond .eq 18, 23), (8, .iload_n 3, 0), (9, .invokestatic 51, 0), (12, .ifCond .eq 11, 23), (15, .iload 4, 0), (17, .invokestatic 30, 0), (20, .ifCond .ne 5, 25), (23, .iconst (-1), 0), (24, .ireturn, 0), (25, .aload_n 0, 0), (26, .iload_n 1, 0), (27, .iload_n 2, 0), (28, .iload_n 3, 0), (29, .iload 4, 0), (31, .iconst 0, 0), (32, .iconst 1, 0), (33, .invokevirtual 87, 0), (36, .ireturn, 0)]
def F_G_deliver : List (Nat × Nat × Nat) := []
def K_G_deliver : List (Nat × gs_V) := []
noncomputable def C_G_deliver : List (Nat × Nat × Nat × gs_F) := [(69, 2, 1000, f_G_areTwo), (51, 1, 1000, f_G_isSecurity), (30, 1, 1000, f_G_isAmount), (87, 6, 0, f_G_accept)]
noncomputable def P_G_deliver : gs_P := (gs_lk I_G_deliver, gs_lk F_G_deliver, gs_lk K_G_deliver, gs_lk C_G_deliver)
noncomputable def f_G_deliver : gs_F := gs_f Y0 5 1 P_G_deliver
theorem e_G_deliver (a0 : Nat) (a1 : Int32) (a2 : Int32) (a3 : Int32) (a4 : Int32) (d : gs_D) : f_G_deliver [(gs_r 0 a0), (gs_i a1), (gs_i a2), (gs_i a3), (gs_i a4)] d = gs_ck 1 (gs_g Y0 P_G_deliver 0 [some (gs_r 0 a0), some (gs_i a1), some (gs_i a2), some (gs_i a3), some (gs_i a4)] [] d) := rfl
theorem k_G_deliver_0 (a0 : Nat) (a1 : Int32) (a2 : Int32) (a3 : Int32) (a4 : Int32) (d : gs_D) : gs_g Y0 P_G_deliver 0 [some (gs_r 0 a0), some (gs_i a1), some (gs_i a2), some (gs_i a3), some (gs_i a4)] [] d = gs_af (f_G_areTwo [(gs_i a1), (gs_i a2)] d) [] (fun s9 d9 => gs_g Y0 P_G_deliver 5 [some (gs_r 0 a0), some (gs_i a1), some (gs_i a2), some (gs_i a3), some (gs_i a4)] s9 d9) := gs_gc 3 (fun _ => rfl)
theorem k_G_deliver_5 (a0 : Nat) (a1 : Int32) (a2 : Int32) (a3 : Int32) (a4 : Int32) (s0 : Int32) (d : gs_D) : gs_g Y0 P_G_deliver 5 [some (gs_r 0 a0), some (gs_i a1), some (gs_i a2), some (gs_i a3), some (gs_i a4)] [(gs_i s0)] d = if s0 = 0 then gs_g Y0 P_G_deliver 23 [some (gs_r 0 a0), some (gs_i a1), some (gs_i a2), some (gs_i a3), some (gs_i a4)] [] d else gs_g Y0 P_G_deliver 8 [some (gs_r 0 a0), some (gs_i a1), some (gs_i a2), some (gs_i a3), some (gs_i a4)] [] d := gs_if 1 (fun _ => rfl)
theorem k_G_deliver_8 (a0 : Nat) (a1 : Int32) (a2 : Int32) (a3 : Int32) (a4 : Int32) (d : gs_D) : gs_g Y0 P_G_deliver 8 [some (gs_r 0 a0), some (gs_i a1), some (gs_i a2), some (gs_i a3), some (gs_i a4)] [] d = gs_af (f_G_isSecurity [(gs_i a3)] d) [] (fun s9 d9 => gs_g Y0 P_G_deliver 12 [some (gs_r 0 a0), some (gs_i a1), some (gs_i a2), some (gs_i a3), some (gs_i a4)] s9 d9) := gs_gc 2 (fun _ => rfl)
theorem k_G_deliver_12 (a0 : Nat) (a1 : Int32) (a2 : Int32) (a3 : Int32) (a4 : Int32) (s0 : Int32) (d : gs_D) : gs_g Y0 P_G_deliver 12 [some (gs_r 0 a0), some (gs_i a1), some (gs_i a2), some (gs_i a3), some (gs_i a4)] [(gs_i s0)] d = if s0 = 0 then gs_g Y0 P_G_deliver 23 [some (gs_r 0 a0), some (gs_i a1), some (gs_i a2), some (gs_i a3), some (gs_i a4)] [] d else gs_g Y0 P_G_deliver 15 [some (gs_r 0 a0), some (gs_i a1), some (gs_i a2), some (gs_i a3), some (gs_i a4)] [] d := gs_if 1 (fun _ => rfl)
theorem k_G_deliver_15 (a0 : Nat) (a1 : Int32) (a2 : Int32) (a3 : Int32) (a4 : Int32) (d : gs_D) : gs_g Y0 P_G_deliver 15 [some (gs_r 0 a0), some (gs_i a1), some (gs_i a2), some (gs_i a3), some (gs_i a4)] [] d = gs_af (f_G_isAmount [(gs_i a4)] d) [] (fun s9 d9 => gs_g Y0 P_G_deliver 20 [some (gs_r 0 a0), some (gs_i a1), some (gs_i a2), some (gs_i a3), some (gs_i a4)] s9 d9) := gs_gc 2 (fun _ => rfl)
theorem k_G_deliver_20 (a0 : Nat) (a1 : Int32) (a2 : Int32) (a3 : Int32) (a4 : Int32) (s0 : Int32) (d : gs_D) : gs_g Y0 P_G_deliver 20 [some (gs_r 0 a0), some (gs_i a1), some (gs_i a2), some (gs_i a3), some (gs_i a4)] [(gs_i s0)] d = if ¬ s0 = 0 then gs_g Y0 P_G_deliver 25 [some (gs_r 0 a0), some (gs_i a1), some (gs_i a2), some (gs_i a3), some (gs_i a4)] [] d else gs_g Y0 P_G_deliver 23 [some (gs_r 0 a0), some (gs_i a1), some (gs_i a2), some (gs_i a3), some (gs_i a4)] [] d := gs_if 1 (fun _ => rfl)
theorem k_G_deliver_23 (a0 : Nat) (a1 : Int32) (a2 : Int32) (a3 : Int32) (a4 : Int32) (d : gs_D) : gs_g Y0 P_G_deliver 23 [some (gs_r 0 a0), some (gs_i a1), some (gs_i a2), some (gs_i a3), some (gs_i a4)] [] d = some (some (gs_i (gs_n (-1))), d) := gs_an 2 (fun _ => rfl)
theorem k_G_deliver_25 (a0 : Nat) (a1 : Int32) (a2 : Int32) (a3 : Int32) (a4 : Int32) (d : gs_D) : gs_g Y0 P_G_deliver 25 [some (gs_r 0 a0), some (gs_i a1), some (gs_i a2), some (gs_i a3), some (gs_i a4)] [] d = gs_af (f_G_accept [(gs_r 0 a0), (gs_i a1), (gs_i a2), (gs_i a3), (gs_i a4), (gs_i (gs_n 0)), (gs_i (gs_n 1))] d) [] (fun s9 d9 => gs_g Y0 P_G_deliver 36 [some (gs_r 0 a0), some (gs_i a1), some (gs_i a2), some (gs_i a3), some (gs_i a4)] s9 d9) := gs_gc 8 (fun _ => rfl)
theorem k_G_deliver_36 (a0 : Nat) (a1 : Int32) (a2 : Int32) (a3 : Int32) (a4 : Int32) (s0 : Int32) (d : gs_D) : gs_g Y0 P_G_deliver 36 [some (gs_r 0 a0), some (gs_i a1), some (gs_i a2), some (gs_i a3), some (gs_i a4)] [(gs_i s0)] d = some (some (gs_i s0), d) := gs_an 1 (fun _ => rfl)
def I_G_exchange : List (Nat × Jvm.ClassFile.Instr × Nat) := [(0, .iload_n 1, 0), (1, .iload_n 2, 0), (2, .invokestatic 69, 0), (5, .ifCond .eq 26, 31), (8, .iload_n 3, 0), (9, .invokestatic 51, 0), (12, .ifCond .eq 19, 31), (15, .iload 4, 0), (17, .invokestatic 30, 0), (20, .ifCond .eq 11, 31), (23, .iload 5, 0), (25, .invokestatic 30, 0), (28, .ifCond .ne 5, 33), (31, .iconst (-1), 0), (32, .ireturn, 0), (33, .aload_n 0, 0), (34, .iload_n 1, 0), (35, .iload_n 2, 0), (36, .iload_n 3, 0), (37, .iload 4, 0), (39, .iload 5, 0), (41, .iconst 1, 0), (42, .invokevirtual 87, 0), (45, .ireturn, 0)]
def F_G_exchange : List (Nat × Nat × Nat) := []
def K_G_exchange : List (Nat × gs_V) := []
noncomputable def C_G_exchange : List (Nat × Nat × Nat × gs_F) := [(69, 2, 1000, f_G_areTwo), (51, 1, 1000, f_G_isSecurity), (30, 1, 1000, f_G_isAmount), (87, 6, 0, f_G_accept)]
noncomputable def P_G_exchange : gs_P := (gs_lk I_G_exchange, gs_lk F_G_exchange, gs_lk K_G_exchange, gs_lk C_G_exchange)
noncomputable def f_G_exchange : gs_F := gs_f Y0 6 1 P_G_exchange
theorem e_G_exchange (a0 : Nat) (a1 : Int32) (a2 : Int32) (a3 : Int32) (a4 : Int32) (a5 : Int32) (d : gs_D) : f_G_exchange [(gs_r 0 a0), (gs_i a1), (gs_i a2), (gs_i a3), (gs_i a4), (gs_i a5)] d = gs_ck 1 (gs_g Y0 P_G_exchange 0 [some (gs_r 0 a0), some (gs_i a1), some (gs_i a2), some (gs_i a3), some (gs_i a4), some (gs_i a5)] [] d) := rfl
theorem k_G_exchange_0 (a0 : Nat) (a1 : Int32) (a2 : Int32) (a3 : Int32) (a4 : Int32) (a5 : Int32) (d : gs_D) : gs_g Y0 P_G_exchange 0 [some (gs_r 0 a0), some (gs_i a1), some (gs_i a2), some (gs_i a3), some (gs_i a4), some (gs_i a5)] [] d = gs_af (f_G_areTwo [(gs_i a1), (gs_i a2)] d) [] (fun s9 d9 => gs_g Y0 P_G_exchange 5 [some (gs_r 0 a0), some (gs_i a1), some (gs_i a2), some (gs_i a3), some (gs_i a4), some (gs_i a5)] s9 d9) := gs_gc 3 (fun _ => rfl)
theorem k_G_exchange_5 (a0 : Nat) (a1 : Int32) (a2 : Int32) (a3 : Int32) (a4 : Int32) (a5 : Int32) (s0 : Int32) (d : gs_D) : gs_g Y0 P_G_exchange 5 [some (gs_r 0 a0), some (gs_i a1), some (gs_i a2), some (gs_i a3), some (gs_i a4), some (gs_i a5)] [(gs_i s0)] d = if s0 = 0 then gs_g Y0 P_G_exchange 31 [some (gs_r 0 a0), some (gs_i a1), some (gs_i a2), some (gs_i a3), some (gs_i a4), some (gs_i a5)] [] d else gs_g Y0 P_G_exchange 8 [some (gs_r 0 a0), some (gs_i a1), some (gs_i a2), some (gs_i a3), some (gs_i a4), some (gs_i a5)] [] d := gs_if 1 (fun _ => rfl)
theorem k_G_exchange_8 (a0 : Nat) (a1 : Int32) (a2 : Int32) (a3 : Int32) (a4 : Int32) (a5 : Int32) (d : gs_D) : gs_g Y0 P_G_exchange 8 [some (gs_r 0 a0), some (gs_i a1), some (gs_i a2), some (gs_i a3), some (gs_i a4), some (gs_i a5)] [] d = gs_af (f_G_isSecurity [(gs_i a3)] d) [] (fun s9 d9 => gs_g Y0 P_G_exchange 12 [some (gs_r 0 a0), some (gs_i a1), some (gs_i a2), some (gs_i a3), some (gs_i a4), some (gs_i a5)] s9 d9) := gs_gc 2 (fun _ => rfl)
theorem k_G_exchange_12 (a0 : Nat) (a1 : Int32) (a2 : Int32) (a3 : Int32) (a4 : Int32) (a5 : Int32) (s0 : Int32) (d : gs_D) : gs_g Y0 P_G_exchange 12 [some (gs_r 0 a0), some (gs_i a1), some (gs_i a2), some (gs_i a3), some (gs_i a4), some (gs_i a5)] [(gs_i s0)] d = if s0 = 0 then gs_g Y0 P_G_exchange 31 [some (gs_r 0 a0), some (gs_i a1), some (gs_i a2), some (gs_i a3), some (gs_i a4), some (gs_i a5)] [] d else gs_g Y0 P_G_exchange 15 [some (gs_r 0 a0), some (gs_i a1), some (gs_i a2), some (gs_i a3), some (gs_i a4), some (gs_i a5)] [] d := gs_if 1 (fun _ => rfl)
theorem k_G_exchange_15 (a0 : Nat) (a1 : Int32) (a2 : Int32) (a3 : Int32) (a4 : Int32) (a5 : Int32) (d : gs_D) : gs_g Y0 P_G_exchange 15 [some (gs_r 0 a0), some (gs_i a1), some (gs_i a2), some (gs_i a3), some (gs_i a4), some (gs_i a5)] [] d = gs_af (f_G_isAmount [(gs_i a4)] d) [] (fun s9 d9 => gs_g Y0 P_G_exchange 20 [some (gs_r 0 a0), some (gs_i a1), some (gs_i a2), some (gs_i a3), some (gs_i a4), some (gs_i a5)] s9 d9) := gs_gc 2 (fun _ => rfl)
theorem k_G_exchange_20 (a0 : Nat) (a1 : Int32) (a2 : Int32) (a3 : Int32) (a4 : Int32) (a5 : Int32) (s0 : Int32) (d : gs_D) : gs_g Y0 P_G_exchange 20 [some (gs_r 0 a0), some (gs_i a1), some (gs_i a2), some (gs_i a3), some (gs_i a4), some (gs_i a5)] [(gs_i s0)] d = if s0 = 0 then gs_g Y0 P_G_exchange 31 [some (gs_r 0 a0), some (gs_i a1), some (gs_i a2), some (gs_i a3), some (gs_i a4), some (gs_i a5)] [] d else gs_g Y0 P_G_exchange 23 [some (gs_r 0 a0), some (gs_i a1), some (gs_i a2), some (gs_i a3), some (gs_i a4), some (gs_i a5)] [] d := gs_if 1 (fun _ => rfl)
theorem k_G_exchange_23 (a0 : Nat) (a1 : Int32) (a2 : Int32) (a3 : Int32) (a4 : Int32) (a5 : Int32) (d : gs_D) : gs_g Y0 P_G_exchange 23 [some (gs_r 0 a0), some (gs_i a1), some (gs_i a2), some (gs_i a3), some (gs_i a4), some (gs_i a5)] [] d = gs_af (f_G_isAmount [(gs_i a5)] d) [] (fun s9 d9 => gs_g Y0 P_G_exchange 28 [some (gs_r 0 a0), some (gs_i a1), some (gs_i a2), some (gs_i a3), some (gs_i a4), some (gs_i a5)] s9 d9) := gs_gc 2 (fun _ => rfl)
theorem k_G_exchange_28 (a0 : Nat) (a1 : Int32) (a2 : Int32) (a3 : Int32) (a4 : Int32) (a5 : Int32) (s0 : Int32) (d : gs_D) : gs_g Y0 P_G_exchange 28 [some (gs_r 0 a0), some (gs_i a1), some (gs_i a2), some (gs_i a3), some (gs_i a4), some (gs_i a5)] [(gs_i s0)] d = if ¬ s0 = 0 then gs_g Y0 P_G_exchange 33 [some (gs_r 0 a0), some (gs_i a1), some (gs_i a2), some (gs_i a3), some (gs_i a4), some (gs_i a5)] [] d else gs_g Y0 P_G_exchange 31 [some (gs_r 0 a0), some (gs_i a1), some (gs_i a2), some (gs_i a3), some (gs_i a4), some (gs_i a5)] [] d := gs_if 1 (fun _ => rfl)
theorem k_G_exchange_31 (a0 : Nat) (a1 : Int32) (a2 : Int32) (a3 : Int32) (a4 : Int32) (a5 : Int32) (d : gs_D) : gs_g Y0 P_G_exchange 31 [some (gs_r 0 a0), some (gs_i a1), some (gs_i a2), some (gs_i a3), some (gs_i a4), some (gs_i a5)] [] d = some (some (gs_i (gs_n (-1))), d) := gs_an 2 (fun _ => rfl)
theorem k_G_exchange_33 (a0 : Nat) (a1 : Int32) (a2 : Int32) (a3 : Int32) (a4 : Int32) (a5 : Int32) (d : gs_D) : gs_g Y0 P_G_exchange 33 [some (gs_r 0 a0), some (gs_i a1), some (gs_i a2), some (gs_i a3), some (gs_i a4), some (gs_i a5)] [] d = gs_af (f_G_accept [(gs_r 0 a0), (gs_i a1), (gs_i a2), (gs_i a3), (gs_i a4), (gs_i a5), (gs_i (gs_n 1))] d) [] (fun s9 d9 => gs_g Y0 P_G_exchange 45 [some (gs_r 0 a0), some (gs_i a1), some (gs_i a2), some (gs_i a3), some (gs_i a4), some (gs_i a5)] s9 d9) := gs_gc 8 (fun _ => rfl)
theorem k_G_exchange_45 (a0 : Nat) (a1 : Int32) (a2 : Int32) (a3 : Int32) (a4 : Int32) (a5 : Int32) (s0 : Int32) (d : gs_D) : gs_g Y0 P_G_exchange 45 [some (gs_r 0 a0), some (gs_i a1), some (gs_i a2), some (gs_i a3), some (gs_i a4), some (gs_i a5)] [(gs_i s0)] d = some (some (gs_i s0), d) := gs_an 1 (fun _ => rfl)
def I_Q_placeOf : List (Nat × Jvm.ClassFile.Instr × Nat) := [(0, .iconst 0, 0), (1, .istore_n 2, 0), (2, .iload_n 2, 0), (3, .aload_n 0, 0), (4, .getfield 25, 0), (7, .if_icmp .ge 21, 28), (10, .aload_n 0, 0), (11, .getfield 21, 0), (14, .iload_n 2, 0), (15, .iaload, 0), (16, .iload_n 1, 0), (17, .if_icmp .ne 5, 22), (20, .iload_n 2, 0), (21, .ireturn, 0), (22, .iinc 2 1, 0), (25, .goto (-23), 2), (28, .iconst (-1), 0), (29, .ireturn, 0)]
def F_Q_placeOf : List (Nat × Nat × Nat) := [(25, 3, 3), (21, 3, 2)]
def K_Q_placeOf : List (Nat × gs_V) := []
noncomputable def C_Q_placeOf : List (Nat × Nat × Nat × gs_F) := []
noncomputable def P_Q_placeOf : gs_P := (gs_lk I_Q_placeOf, gs_lk F_Q_placeOf, gs_lk K_Q_placeOf, gs_lk C_Q_placeOf)
noncomputable def f_Q_placeOf : gs_F := gs_f Y0 3 1 P_Q_placeOf
theorem e_Q_placeOf (a0 : Nat) (a1 : Int32) (d : gs_D) : f_Q_placeOf [(gs_r 4 a0), (gs_i a1)] d = gs_ck 1 (gs_g Y0 P_Q_placeOf 0 [some (gs_r 4 a0), some (gs_i a1), none] [] d) := rfl
theorem k_Q_placeOf_0 (a0 : Nat) (a1 : Int32) (d : gs_D) : gs_g Y0 P_Q_placeOf 0 [some (gs_r 4 a0), some (gs_i a1), none] [] d = gs_g Y0 P_Q_placeOf 2 [some (gs_r 4 a0), some (gs_i a1), some (gs_i (gs_n 0))] [] d := gs_gs 1 (fun _ => rfl)
theorem k_Q_placeOf_2 (a0 : Nat) (a1 : Int32) (a2 : Int32) (d : gs_D) : gs_g Y0 P_Q_placeOf 2 [some (gs_r 4 a0), some (gs_i a1), some (gs_i a2)] [] d = if (d.1 4 a0 3) ≤ a2 then gs_g Y0 P_Q_placeOf 28 [some (gs_r 4 a0), some (gs_i a1), some (gs_i a2)] [] d else gs_g Y0 P_Q_placeOf 10 [some (gs_r 4 a0), some (gs_i a1), some (gs_i a2)] [] d := gs_if 4 (fun _ => rfl)
theorem k_Q_placeOf_10 (a0 : Nat) (a1 : Int32) (a2 : Int32) (d : gs_D) : gs_g Y0 P_Q_placeOf 10 [some (gs_r 4 a0), some (gs_i a1), some (gs_i a2)] [] d = gs_ix a2 10 (gs_g Y0 P_Q_placeOf 16 [some (gs_r 4 a0), some (gs_i a1), some (gs_i a2)] [(gs_i (d.1 12 a0 a2.toNatClampNeg))] d) := gs_gx 4 (fun _ => rfl)
theorem k_Q_placeOf_16 (a0 : Nat) (a1 : Int32) (a2 : Int32) (s0 : Int32) (d : gs_D) : gs_g Y0 P_Q_placeOf 16 [some (gs_r 4 a0), some (gs_i a1), some (gs_i a2)] [(gs_i s0)] d = if ¬ s0 = a1 then gs_g Y0 P_Q_placeOf 22 [some (gs_r 4 a0), some (gs_i a1), some (gs_i a2)] [] d else gs_g Y0 P_Q_placeOf 20 [some (gs_r 4 a0), some (gs_i a1), some (gs_i a2)] [] d := gs_if 2 (fun _ => rfl)
theorem k_Q_placeOf_20 (a0 : Nat) (a1 : Int32) (a2 : Int32) (d : gs_D) : gs_g Y0 P_Q_placeOf 20 [some (gs_r 4 a0), some (gs_i a1), some (gs_i a2)] [] d = some (some (gs_i a2), d) := gs_an 2 (fun _ => rfl)
theorem k_Q_placeOf_22 (a0 : Nat) (a1 : Int32) (a2 : Int32) (d : gs_D) : gs_g Y0 P_Q_placeOf 22 [some (gs_r 4 a0), some (gs_i a1), some (gs_i a2)] [] d = gs_g Y0 P_Q_placeOf 2 [some (gs_r 4 a0), some (gs_i a1), some (gs_i (a2 + gs_n 1))] [] d := gs_gs 1 (fun _ => rfl)
theorem k_Q_placeOf_28 (a0 : Nat) (a1 : Int32) (a2 : Int32) (d : gs_D) : gs_g Y0 P_Q_placeOf 28 [some (gs_r 4 a0), some (gs_i a1), some (gs_i a2)] [] d = some (some (gs_i (gs_n (-1))), d) := gs_an 2 (fun _ => rfl)
def I_G_cancel : List (Nat × Jvm.ClassFile.Instr × Nat) := [(0, .aload_n 0, 0), (1, .getfield 12, 0), (4, .getfield 91, 0), (7, .iload_n 1, 0), (8, .invokevirtual 95, 0), (11, .istore_n 2, 0), (12, .iload_n 2, 0), (13, .iconst (-1), 0), (14, .if_icmp .ne 5, 19), (17, .iconst (-1), 0), (18, .ireturn, 0), (19, .aload_n 0, 0), (20, .getfield 12, 0), (23, .getfield 91, 0), (26, .iload_n 2, 0), (27, .iconst 2, 0), (28, .invokevirtual 101, 0), (31, .aload_n 0, 0), (32, .invokevirtual 62, 0), (35, .ireturn, 0)]
def F_G_cancel : List (Nat × Nat × Nat) := [(12, 0, 0), (91, 1, 2)]
def K_G_cancel : List (Nat × gs_V) := []
noncomputable def C_G_cancel : List (Nat × Nat × Nat × gs_F) := [(95, 1, 3, f_Q_placeOf), (101, 2, 3, f_Q_leave), (62, 0, 0, f_G_goThrough)]
noncomputable def P_G_cancel : gs_P := (gs_lk I_G_cancel, gs_lk F_G_cancel, gs_lk K_G_cancel, gs_lk C_G_cancel)
noncomputable def f_G_cancel : gs_F := gs_f Y0 3 1 P_G_cancel
theorem e_G_cancel (a0 : Nat) (a1 : Int32) (d : gs_D) : f_G_cancel [(gs_r 0 a0), (gs_i a1)] d = gs_ck 1 (gs_g Y0 P_G_cancel 0 [some (gs_r 0 a0), some (gs_i a1), none] [] d) := rfl
theorem k_G_cancel_0 (a0 : Nat) (a1 : Int32) (d : gs_D) : gs_g Y0 P_G_cancel 0 [some (gs_r 0 a0), some (gs_i a1), none] [] d = gs_af (f_Q_placeOf [(gs_r 4 0), (gs_i a1)] d) [] (fun s9 d9 => gs_g Y0 P_G_cancel 11 [some (gs_r 0 a0), some (gs_i a1), none] s9 d9) := gs_gc 5 (fun _ => rfl)
theorem k_G_cancel_11 (a0 : Nat) (a1 : Int32) (s0 : Int32) (d : gs_D) : gs_g Y0 P_G_cancel 11 [some (gs_r 0 a0), some (gs_i a1), none] [(gs_i s0)] d = if ¬ s0 = (gs_n (-1)) then gs_g Y0 P_G_cancel 19 [some (gs_r 0 a0), some (gs_i a1), some (gs_i s0)] [] d else gs_g Y0 P_G_cancel 17 [some (gs_r 0 a0), some (gs_i a1), some (gs_i s0)] [] d := gs_if 4 (fun _ => rfl)
theorem k_G_cancel_17 (a0 : Nat) (a1 : Int32) (a2 : Int32) (d : gs_D) : gs_g Y0 P_G_cancel 17 [some (gs_r 0 a0), some (gs_i a1), some (gs_i a2)] [] d = some (some (gs_i (gs_n (-1))), d) := gs_an 2 (fun _ => rfl)
theorem k_G_cancel_19 (a0 : Nat) (a1 : Int32) (a2 : Int32) (d : gs_D) : gs_g Y0 P_G_cancel 19 [some (gs_r 0 a0), some (gs_i a1), some (gs_i a2)] [] d = gs_af (f_Q_leave [(gs_r 4 0), (gs_i a2), (gs_i (gs_n 2))] d) [] (fun s9 d9 => gs_g Y0 P_G_cancel 31 [some (gs_r 0 a0), some (gs_i a1), some (gs_i a2)] s9 d9) := gs_gc 6 (fun _ => rfl)
theorem k_G_cancel_31 (a0 : Nat) (a1 : Int32) (a2 : Int32) (d : gs_D) : gs_g Y0 P_G_cancel 31 [some (gs_r 0 a0), some (gs_i a1), some (gs_i a2)] [] d = gs_af (f_G_goThrough [(gs_r 0 a0)] d) [] (fun s9 d9 => gs_g Y0 P_G_cancel 35 [some (gs_r 0 a0), some (gs_i a1), some (gs_i a2)] s9 d9) := gs_gc 2 (fun _ => rfl)
theorem k_G_cancel_35 (a0 : Nat) (a1 : Int32) (a2 : Int32) (s0 : Int32) (d : gs_D) : gs_g Y0 P_G_cancel 35 [some (gs_r 0 a0), some (gs_i a1), some (gs_i a2)] [(gs_i s0)] d = some (some (gs_i s0), d) := gs_an 1 (fun _ => rfl)
def I_Q_reorder : List (Nat × Jvm.ClassFile.Instr × Nat) := [(0, .aload_n 0, 0), (1, .getfield 21, 0), (4, .iload_n 1, 0), (5, .iaload, 0), (6, .istore_n 3, 0), (7, .aload_n 0, 0), (8, .iload_n 1, 0), (9, .invokevirtual 62, 0), (12, .aload_n 0, 0), (13, .getfield 11, 0), (16, .iload_n 3, 0), (17, .aaload, 0), (18, .iload_n 2, 0), (19, .putfield 52, 0), (22, .aload_n 0, 0), (23, .iload_n 3, 0), (24, .invokevirtual 58, 0), (27, .return_, 0)]
def F_Q_reorder : List (Nat × Nat × Nat) := [(21, 3, 2), (11, 3, 0), (52, 4, 5)]
def K_Q_reorder : List (Nat × gs_V) := []
noncomputable def C_Q_reorder : List (Nat × Nat × Nat × gs_F) := [(62, 1, 3, f_Q_removeAt), (58, 1, 3, f_Q_enter)]
noncomputable def P_Q_reorder : gs_P := (gs_lk I_Q_reorder, gs_lk F_Q_reorder, gs_lk K_Q_reorder, gs_lk C_Q_reorder)
noncomputable def f_Q_reorder : gs_F := gs_f Y0 4 0 P_Q_reorder
theorem e_Q_reorder (a0 : Nat) (a1 : Int32) (a2 : Int32) (d : gs_D) : f_Q_reorder [(gs_r 4 a0), (gs_i a1), (gs_i a2)] d = gs_ck 0 (gs_g Y0 P_Q_reorder 0 [some (gs_r 4 a0), some (gs_i a1), some (gs_i a2), none] [] d) := rfl
theorem k_Q_reorder_0 (a0 : Nat) (a1 : Int32) (a2 : Int32) (d : gs_D) : gs_g Y0 P_Q_reorder 0 [some (gs_r 4 a0), some (gs_i a1), some (gs_i a2), none] [] d = gs_ix a1 10 (gs_g Y0 P_Q_reorder 6 [some (gs_r 4 a0), some (gs_i a1), some (gs_i a2), none] [(gs_i (d.1 12 a0 a1.toNatClampNeg))] d) := gs_gx 4 (fun _ => rfl)
theorem k_Q_reorder_6 (a0 : Nat) (a1 : Int32) (a2 : Int32) (s0 : Int32) (d : gs_D) : gs_g Y0 P_Q_reorder 6 [some (gs_r 4 a0), some (gs_i a1), some (gs_i a2), none] [(gs_i s0)] d = gs_af (f_Q_removeAt [(gs_r 4 a0), (gs_i a1)] d) [] (fun s9 d9 => gs_g Y0 P_Q_reorder 12 [some (gs_r 4 a0), some (gs_i a1), some (gs_i a2), some (gs_i s0)] s9 d9) := gs_gc 4 (fun _ => rfl)
theorem k_Q_reorder_12 (a0 : Nat) (a1 : Int32) (a2 : Int32) (a3 : Int32) (d : gs_D) : gs_g Y0 P_Q_reorder 12 [some (gs_r 4 a0), some (gs_i a1), some (gs_i a2), some (gs_i a3)] [] d = gs_ix a3 40 (gs_g Y0 P_Q_reorder 18 [some (gs_r 4 a0), some (gs_i a1), some (gs_i a2), some (gs_i a3)] [(gs_r 13 (gs_ii a0 a3.toNatClampNeg))] d) := gs_gx 4 (fun _ => rfl)
theorem k_Q_reorder_18 (a0 : Nat) (a1 : Int32) (a2 : Int32) (a3 : Int32) (s0 : Nat) (d : gs_D) : gs_g Y0 P_Q_reorder 18 [some (gs_r 4 a0), some (gs_i a1), some (gs_i a2), some (gs_i a3)] [(gs_r 13 s0)] d = gs_af (f_Q_enter [(gs_r 4 a0), (gs_i a3)] (gs_wI d 13 s0 5 a2)) [] (fun s9 d9 => gs_g Y0 P_Q_reorder 27 [some (gs_r 4 a0), some (gs_i a1), some (gs_i a2), some (gs_i a3)] s9 d9) := gs_gc 5 (fun _ => rfl)
theorem k_Q_reorder_27 (a0 : Nat) (a1 : Int32) (a2 : Int32) (a3 : Int32) (d : gs_D) : gs_g Y0 P_Q_reorder 27 [some (gs_r 4 a0), some (gs_i a1), some (gs_i a2), some (gs_i a3)] [] d = some (none, d) := gs_an 1 (fun _ => rfl)
def I_G_prefer : List (Nat × Jvm.ClassFile.Instr × Nat) := [(0, .aload_n 0, 0), (1, .getfield 12, 0), (4, .getfield 91, 0), (7, .iload_n 1, 0), (8, .invokevirtual 95, 0), (11, .istore_n 3, 0), (12, .iload_n 3, 0), (13, .iconst (-1), 0), (14, .if_icmp .eq 10, 24), (17, .iload_n 2, 0), (18, .invokestatic 84, 0), (21, .ifCond .ne 5, 26), (24, .iconst (-1), 0), (25, .ireturn, 0), (26, .aload_n 0, 0), (27, .getfield 12, 0), (30, .getfield 91, 0), (33, .iload_n 3, 0), (34, .iload_n 2, 0), (35, .invokevirtual 105, 0), (38, .aload_n 0, 0), (39, .invokevirtual 62, 0), (42, .ireturn, 0)]
def F_G_prefer : List (Nat × Nat × Nat) := [(12, 0, 0), (91, 1, 2)]
def K_G_prefer : List (Nat × gs_V) := []
noncomputable def C_G_prefer : List (Nat × Nat × Nat × gs_F) := [(95, 1, 3, f_Q_placeOf), (84, 1, 1000, f_G_isPriority), (105, 2, 3, f_Q_reorder), (62, 0, 0, f_G_goThrough)]
noncomputable def P_G_prefer : gs_P := (gs_lk I_G_prefer, gs_lk F_G_prefer, gs_lk K_G_prefer, gs_lk C_G_prefer)
noncomputable def f_G_prefer : gs_F := gs_f Y0 4 1 P_G_prefer
theorem e_G_prefer (a0 : Nat) (a1 : Int32) (a2 : Int32) (d : gs_D) : f_G_prefer [(gs_r 0 a0), (gs_i a1), (gs_i a2)] d = gs_ck 1 (gs_g Y0 P_G_prefer 0 [some (gs_r 0 a0), some (gs_i a1), some (gs_i a2), none] [] d) := rfl
theorem k_G_prefer_0 (a0 : Nat) (a1 : Int32) (a2 : Int32) (d : gs_D) : gs_g Y0 P_G_prefer 0 [some (gs_r 0 a0), some (gs_i a1), some (gs_i a2), none] [] d = gs_af (f_Q_placeOf [(gs_r 4 0), (gs_i a1)] d) [] (fun s9 d9 => gs_g Y0 P_G_prefer 11 [some (gs_r 0 a0), some (gs_i a1), some (gs_i a2), none] s9 d9) := gs_gc 5 (fun _ => rfl)
theorem k_G_prefer_11 (a0 : Nat) (a1 : Int32) (a2 : Int32) (s0 : Int32) (d : gs_D) : gs_g Y0 P_G_prefer 11 [some (gs_r 0 a0), some (gs_i a1), some (gs_i a2), none] [(gs_i s0)] d = if s0 = (gs_n (-1)) then gs_g Y0 P_G_prefer 24 [some (gs_r 0 a0), some (gs_i a1), some (gs_i a2), some (gs_i s0)] [] d else gs_g Y0 P_G_prefer 17 [some (gs_r 0 a0), some (gs_i a1), some (gs_i a2), some (gs_i s0)] [] d := gs_if 4 (fun _ => rfl)
theorem k_G_prefer_17 (a0 : Nat) (a1 : Int32) (a2 : Int32) (a3 : Int32) (d : gs_D) : gs_g Y0 P_G_prefer 17 [some (gs_r 0 a0), some (gs_i a1), some (gs_i a2), some (gs_i a3)] [] d = gs_af (f_G_isPriority [(gs_i a2)] d) [] (fun s9 d9 => gs_g Y0 P_G_prefer 21 [some (gs_r 0 a0), some (gs_i a1), some (gs_i a2), some (gs_i a3)] s9 d9) := gs_gc 2 (fun _ => rfl)
theorem k_G_prefer_21 (a0 : Nat) (a1 : Int32) (a2 : Int32) (a3 : Int32) (s0 : Int32) (d : gs_D) : gs_g Y0 P_G_prefer 21 [some (gs_r 0 a0), some (gs_i a1), some (gs_i a2), some (gs_i a3)] [(gs_i s0)] d = if ¬ s0 = 0 then gs_g Y0 P_G_prefer 26 [some (gs_r 0 a0), some (gs_i a1), some (gs_i a2), some (gs_i a3)] [] d else gs_g Y0 P_G_prefer 24 [some (gs_r 0 a0), some (gs_i a1), some (gs_i a2), some (gs_i a3)] [] d := gs_if 1 (fun _ => rfl)
theorem k_G_prefer_24 (a0 : Nat) (a1 : Int32) (a2 : Int32) (a3 : Int32) (d : gs_D) : gs_g Y0 P_G_prefer 24 [some (gs_r 0 a0), some (gs_i a1), some (gs_i a2), some (gs_i a3)] [] d = some (some (gs_i (gs_n (-1))), d) := gs_an 2 (fun _ => rfl)
theorem k_G_prefer_26 (a0 : Nat) (a1 : Int32) (a2 : Int32) (a3 : Int32) (d : gs_D) : gs_g Y0 P_G_prefer 26 [some (gs_r 0 a0), some (gs_i a1), some (gs_i a2), some (gs_i a3)] [] d = gs_af (f_Q_reorder [(gs_r 4 0), (gs_i a3), (gs_i a2)] d) [] (fun s9 d9 => gs_g Y0 P_G_prefer 38 [some (gs_r 0 a0), some (gs_i a1), some (gs_i a2), some (gs_i a3)] s9 d9) := gs_gc 6 (fun _ => rfl)
theorem k_G_prefer_38 (a0 : Nat) (a1 : Int32) (a2 : Int32) (a3 : Int32) (d : gs_D) : gs_g Y0 P_G_prefer 38 [some (gs_r 0 a0), some (gs_i a1), some (gs_i a2), some (gs_i a3)] [] d = gs_af (f_G_goThrough [(gs_r 0 a0)] d) [] (fun s9 d9 => gs_g Y0 P_G_prefer 42 [some (gs_r 0 a0), some (gs_i a1), some (gs_i a2), some (gs_i a3)] s9 d9) := gs_gc 2 (fun _ => rfl)
theorem k_G_prefer_42 (a0 : Nat) (a1 : Int32) (a2 : Int32) (a3 : Int32) (s0 : Int32) (d : gs_D) : gs_g Y0 P_G_prefer 42 [some (gs_r 0 a0), some (gs_i a1), some (gs_i a2), some (gs_i a3)] [(gs_i s0)] d = some (some (gs_i s0), d) := gs_an 1 (fun _ => rfl)
def I_G_chooseAll : List (Nat × Jvm.ClassFile.Instr × Nat) := [(0, .iconst 0, 0), (1, .istore_n 1, 0), (2, .iload_n 1, 0), (3, .aload_n 0, 0), (4, .getfield 12, 0), (7, .getfield 91, 0), (10, .getfield 179, 0), (13, .if_icmp .ge 38, 51), (16, .aload_n 0, 0), (17, .getfield 19, 0), (20, .iload_n 1, 0), (21, .iconst 1, 0), (22, .bastore, 0), (23, .aload_n 0, 0), (24, .getfield 12, 0), (27, .getfield 37, 0), (30, .aload_n 0, 0), (31, .getfield 12, 0), (34, .getfield 91, 0), (37, .iload_n 1, 0), (38, .invokevirtual 171, 0), (41, .iconst 1, 0), (42, .invokevirtual 175, 0), (45, .iinc 1 1, 0), (48, .goto (-46), 2), (51, .return_, 0)]
def F_G_chooseAll : List (Nat × Nat × Nat) := [(12, 0, 0), (91, 1, 2), (179, 3, 3), (19, 0, 2), (37, 1, 1)]
def K_G_chooseAll : List (Nat × gs_V) := []
noncomputable def C_G_chooseAll : List (Nat × Nat × Nat × gs_F) := [(171, 1, 3, f_Q_at), (175, 2, 2, f_A_move)]
noncomputable def P_G_chooseAll : gs_P := (gs_lk I_G_chooseAll, gs_lk F_G_chooseAll, gs_lk K_G_chooseAll, gs_lk C_G_chooseAll)
noncomputable def f_G_chooseAll : gs_F := gs_f Y0 2 0 P_G_chooseAll
theorem e_G_chooseAll (a0 : Nat) (d : gs_D) : f_G_chooseAll [(gs_r 0 a0)] d = gs_ck 0 (gs_g Y0 P_G_chooseAll 0 [some (gs_r 0 a0), none] [] d) := rfl
theorem k_G_chooseAll_0 (a0 : Nat) (d : gs_D) : gs_g Y0 P_G_chooseAll 0 [some (gs_r 0 a0), none] [] d = gs_g Y0 P_G_chooseAll 2 [some (gs_r 0 a0), some (gs_i (gs_n 0))] [] d := gs_gs 1 (fun _ => rfl)
theorem k_G_chooseAll_2 (a0 : Nat) (a1 : Int32) (d : gs_D) : gs_g Y0 P_G_chooseAll 2 [some (gs_r 0 a0), some (gs_i a1)] [] d = if (d.1 4 0 3) ≤ a1 then gs_g Y0 P_G_chooseAll 51 [some (gs_r 0 a0), some (gs_i a1)] [] d else gs_g Y0 P_G_chooseAll 16 [some (gs_r 0 a0), some (gs_i a1)] [] d := gs_if 6 (fun _ => rfl)
theorem k_G_chooseAll_16 (a0 : Nat) (a1 : Int32) (d : gs_D) : gs_g Y0 P_G_chooseAll 16 [some (gs_r 0 a0), some (gs_i a1)] [] d = gs_ix a1 10 (gs_g Y0 P_G_chooseAll 23 [some (gs_r 0 a0), some (gs_i a1)] [] (gs_wI d 2 0 a1.toNatClampNeg (vp_nar .boolean (gs_n 1)))) := gs_gx 5 (fun _ => rfl)
theorem k_G_chooseAll_23 (a0 : Nat) (a1 : Int32) (d : gs_D) : gs_g Y0 P_G_chooseAll 23 [some (gs_r 0 a0), some (gs_i a1)] [] d = gs_af (f_Q_at [(gs_r 4 0), (gs_i a1)] d) [(gs_r 3 0)] (fun s9 d9 => gs_g Y0 P_G_chooseAll 41 [some (gs_r 0 a0), some (gs_i a1)] s9 d9) := gs_gc 8 (fun _ => rfl)
theorem k_G_chooseAll_41 (a0 : Nat) (a1 : Int32) (s0 : Nat) (s1 : Nat) (d : gs_D) : gs_g Y0 P_G_chooseAll 41 [some (gs_r 0 a0), some (gs_i a1)] [(gs_r 13 s1), (gs_r 3 s0)] d = gs_af (f_A_move [(gs_r 3 s0), (gs_r 13 s1), (gs_i (gs_n 1))] d) [] (fun s9 d9 => gs_g Y0 P_G_chooseAll 45 [some (gs_r 0 a0), some (gs_i a1)] s9 d9) := gs_gc 2 (fun _ => rfl)
theorem k_G_chooseAll_45 (a0 : Nat) (a1 : Int32) (d : gs_D) : gs_g Y0 P_G_chooseAll 45 [some (gs_r 0 a0), some (gs_i a1)] [] d = gs_g Y0 P_G_chooseAll 2 [some (gs_r 0 a0), some (gs_i (a1 + gs_n 1))] [] d := gs_gs 1 (fun _ => rfl)
theorem k_G_chooseAll_51 (a0 : Nat) (a1 : Int32) (d : gs_D) : gs_g Y0 P_G_chooseAll 51 [some (gs_r 0 a0), some (gs_i a1)] [] d = some (none, d) := gs_an 1 (fun _ => rfl)
def I_I_debits : List (Nat × Jvm.ClassFile.Instr × Nat) := [(0, .aload_n 0, 0), (1, .getfield 9, 0), (4, .ifCond .le 20, 24), (7, .iload_n 1, 0), (8, .aload_n 0, 0), (9, .getfield 15, 0), (12, .aload_n 0, 0), (13, .getfield 18, 0), (16, .invokestatic 21, 0), (19, .if_icmp .ne 5, 24), (22, .iconst 1, 0), (23, .ireturn, 0), (24, .aload_n 0, 0), (25, .getfield 25, 0), (28, .ifCond .le 34, 62), (31, .iload_n 1, 0), (32, .aload_n 0, 0), (33, .getfield 28, 0), (36, .iconst 0, 0), (37, .invokestatic 21, 0), (40, .if_icmp .eq 18, 58), (43, .iload_n 1, 0), (44, .aload_n 0, 0), (45, .getfield 28, 0), (48, .aload_n 0, 0), (49, .getfield 15, 0), (52, .invokestatic 31, 0), (55, .if_icmp .ne 7, 62), (58, .iconst 1, 0), (59, .goto 4, 63), (62, .iconst 0, 0), (63, .ireturn, 0)]
def F_I_debits : List (Nat × Nat × Nat) := [(9, 4, 3), (15, 4, 0), (18, 4, 2), (25, 4, 4), (28, 4, 1)]
def K_I_debits : List (Nat × gs_V) := []
noncomputable def C_I_debits : List (Nat × Nat × Nat × gs_F) := [(21, 2, 1000, f_G_holding), (31, 2, 1000, f_G_bilateral)]
noncomputable def P_I_debits : gs_P := (gs_lk I_I_debits, gs_lk F_I_debits, gs_lk K_I_debits, gs_lk C_I_debits)
noncomputable def f_I_debits : gs_F := gs_f Y0 2 2 P_I_debits
theorem e_I_debits (a0 : Nat) (a1 : Int32) (d : gs_D) : f_I_debits [(gs_r 13 a0), (gs_i a1)] d = gs_ck 2 (gs_g Y0 P_I_debits 0 [some (gs_r 13 a0), some (gs_i a1)] [] d) := rfl
theorem k_I_debits_0 (a0 : Nat) (a1 : Int32) (d : gs_D) : gs_g Y0 P_I_debits 0 [some (gs_r 13 a0), some (gs_i a1)] [] d = if (d.1 13 a0 3) ≤ 0 then gs_g Y0 P_I_debits 24 [some (gs_r 13 a0), some (gs_i a1)] [] d else gs_g Y0 P_I_debits 7 [some (gs_r 13 a0), some (gs_i a1)] [] d := gs_if 3 (fun _ => rfl)
theorem k_I_debits_7 (a0 : Nat) (a1 : Int32) (d : gs_D) : gs_g Y0 P_I_debits 7 [some (gs_r 13 a0), some (gs_i a1)] [] d = gs_af (f_G_holding [(gs_i (d.1 13 a0 0)), (gs_i (d.1 13 a0 2))] d) [(gs_i a1)] (fun s9 d9 => gs_g Y0 P_I_debits 19 [some (gs_r 13 a0), some (gs_i a1)] s9 d9) := gs_gc 6 (fun _ => rfl)
theorem k_I_debits_19 (a0 : Nat) (a1 : Int32) (s0 : Int32) (s1 : Int32) (d : gs_D) : gs_g Y0 P_I_debits 19 [some (gs_r 13 a0), some (gs_i a1)] [(gs_i s1), (gs_i s0)] d = if ¬ s0 = s1 then gs_g Y0 P_I_debits 24 [some (gs_r 13 a0), some (gs_i a1)] [] d else gs_g Y0 P_I_debits 22 [some (gs_r 13 a0), some (gs_i a1)] [] d := gs_if 1 (fun _ => rfl)
theorem k_I_debits_22 (a0 : Nat) (a1 : Int32) (d : gs_D) : gs_g Y0 P_I_debits 22 [some (gs_r 13 a0), some (gs_i a1)] [] d = some (some (gs_i (gs_n 1)), d) := gs_an 2 (fun _ => rfl)
theorem k_I_debits_24 (a0 : Nat) (a1 : Int32) (d : gs_D) : gs_g Y0 P_I_debits 24 [some (gs_r 13 a0), some (gs_i a1)] [] d = if (d.1 13 a0 4) ≤ 0 then gs_g Y0 P_I_debits 62 [some (gs_r 13 a0), some (gs_i a1)] [] d else gs_g Y0 P_I_debits 31 [some (gs_r 13 a0), some (gs_i a1)] [] d := gs_if 3 (fun _ => rfl)
theorem k_I_debits_31 (a0 : Nat) (a1 : Int32) (d : gs_D) : gs_g Y0 P_I_debits 31 [some (gs_r 13 a0), some (gs_i a1)] [] d = gs_af (f_G_holding [(gs_i (d.1 13 a0 1)), (gs_i (gs_n 0))] d) [(gs_i a1)] (fun s9 d9 => gs_g Y0 P_I_debits 40 [some (gs_r 13 a0), some (gs_i a1)] s9 d9) := gs_gc 5 (fun _ => rfl)
theorem k_I_debits_40 (a0 : Nat) (a1 : Int32) (s0 : Int32) (s1 : Int32) (d : gs_D) : gs_g Y0 P_I_debits 40 [some (gs_r 13 a0), some (gs_i a1)] [(gs_i s1), (gs_i s0)] d = if s0 = s1 then gs_g Y0 P_I_debits 58 [some (gs_r 13 a0), some (gs_i a1)] [] d else gs_g Y0 P_I_debits 43 [some (gs_r 13 a0), some (gs_i a1)] [] d := gs_if 1 (fun _ => rfl)
theorem k_I_debits_43 (a0 : Nat) (a1 : Int32) (d : gs_D) : gs_g Y0 P_I_debits 43 [some (gs_r 13 a0), some (gs_i a1)] [] d = gs_af (f_G_bilateral [(gs_i (d.1 13 a0 1)), (gs_i (d.1 13 a0 0))] d) [(gs_i a1)] (fun s9 d9 => gs_g Y0 P_I_debits 55 [some (gs_r 13 a0), some (gs_i a1)] s9 d9) := gs_gc 6 (fun _ => rfl)
theorem k_I_debits_55 (a0 : Nat) (a1 : Int32) (s0 : Int32) (s1 : Int32) (d : gs_D) : gs_g Y0 P_I_debits 55 [some (gs_r 13 a0), some (gs_i a1)] [(gs_i s1), (gs_i s0)] d = if ¬ s0 = s1 then gs_g Y0 P_I_debits 62 [some (gs_r 13 a0), some (gs_i a1)] [] d else gs_g Y0 P_I_debits 58 [some (gs_r 13 a0), some (gs_i a1)] [] d := gs_if 1 (fun _ => rfl)
theorem k_I_debits_58 (a0 : Nat) (a1 : Int32) (d : gs_D) : gs_g Y0 P_I_debits 58 [some (gs_r 13 a0), some (gs_i a1)] [] d = some (some (gs_i (gs_n 1)), d) := gs_an 3 (fun _ => rfl)
theorem k_I_debits_62 (a0 : Nat) (a1 : Int32) (d : gs_D) : gs_g Y0 P_I_debits 62 [some (gs_r 13 a0), some (gs_i a1)] [] d = some (some (gs_i (gs_n 0)), d) := gs_an 2 (fun _ => rfl)
def I_G_drop : List (Nat × Jvm.ClassFile.Instr × Nat) := [(0, .aload_n 0, 0), (1, .getfield 19, 0), (4, .iload_n 1, 0), (5, .iconst 0, 0), (6, .bastore, 0), (7, .aload_n 0, 0), (8, .getfield 12, 0), (11, .getfield 37, 0), (14, .aload_n 0, 0), (15, .getfield 12, 0), (18, .getfield 91, 0), (21, .iload_n 1, 0), (22, .invokevirtual 171, 0), (25, .iconst (-1), 0), (26, .invokevirtual 175, 0), (29, .return_, 0)]
def F_G_drop : List (Nat × Nat × Nat) := [(19, 0, 2), (12, 0, 0), (37, 1, 1), (91, 1, 2)]
def K_G_drop : List (Nat × gs_V) := []
noncomputable def C_G_drop : List (Nat × Nat × Nat × gs_F) := [(171, 1, 3, f_Q_at), (175, 2, 2, f_A_move)]
noncomputable def P_G_drop : gs_P := (gs_lk I_G_drop, gs_lk F_G_drop, gs_lk K_G_drop, gs_lk C_G_drop)
noncomputable def f_G_drop : gs_F := gs_f Y0 2 0 P_G_drop
theorem e_G_drop (a0 : Nat) (a1 : Int32) (d : gs_D) : f_G_drop [(gs_r 0 a0), (gs_i a1)] d = gs_ck 0 (gs_g Y0 P_G_drop 0 [some (gs_r 0 a0), some (gs_i a1)] [] d) := rfl
theorem k_G_drop_0 (a0 : Nat) (a1 : Int32) (d : gs_D) : gs_g Y0 P_G_drop 0 [some (gs_r 0 a0), some (gs_i a1)] [] d = gs_ix a1 10 (gs_g Y0 P_G_drop 7 [some (gs_r 0 a0), some (gs_i a1)] [] (gs_wI d 2 0 a1.toNatClampNeg (vp_nar .boolean (gs_n 0)))) := gs_gx 5 (fun _ => rfl)
theorem k_G_drop_7 (a0 : Nat) (a1 : Int32) (d : gs_D) : gs_g Y0 P_G_drop 7 [some (gs_r 0 a0), some (gs_i a1)] [] d = gs_af (f_Q_at [(gs_r 4 0), (gs_i a1)] d) [(gs_r 3 0)] (fun s9 d9 => gs_g Y0 P_G_drop 25 [some (gs_r 0 a0), some (gs_i a1)] s9 d9) := gs_gc 8 (fun _ => rfl)
theorem k_G_drop_25 (a0 : Nat) (a1 : Int32) (s0 : Nat) (s1 : Nat) (d : gs_D) : gs_g Y0 P_G_drop 25 [some (gs_r 0 a0), some (gs_i a1)] [(gs_r 13 s1), (gs_r 3 s0)] d = gs_af (f_A_move [(gs_r 3 s0), (gs_r 13 s1), (gs_i (gs_n (-1)))] d) [] (fun s9 d9 => gs_g Y0 P_G_drop 29 [some (gs_r 0 a0), some (gs_i a1)] s9 d9) := gs_gc 2 (fun _ => rfl)
theorem k_G_drop_29 (a0 : Nat) (a1 : Int32) (d : gs_D) : gs_g Y0 P_G_drop 29 [some (gs_r 0 a0), some (gs_i a1)] [] d = some (none, d) := gs_an 1 (fun _ => rfl)
def I_G_isBehindDropped : List (Nat × Jvm.ClassFile.Instr × Nat) := [(0, .iconst 0, 0), (1, .istore_n 2, 0), (2, .iload_n 2, 0), (3, .iload_n 1, 0), (4, .if_icmp .ge 48, 52), (7, .aload_n 0, 0), (8, .getfield 19, 0), (11, .iload_n 2, 0), (12, .baload, 0), (13, .ifCond .ne 33, 46), (16, .aload_n 0, 0), (17, .getfield 12, 0), (20, .getfield 91, 0), (23, .iload_n 1, 0), (24, .invokevirtual 171, 0), (27, .aload_n 0, 0), (28, .getfield 12, 0), (31, .getfield 91, 0), (34, .iload_n 2, 0), (35, .invokevirtual 171, 0), (38, .invokevirtual 198, 0), (41, .ifCond .eq 5, 46), (44, .iconst 1, 0), (45, .ireturn, 0), (46, .iinc 2 1, 0), (49, .goto (-47), 2), (52, .iconst 0, 0), (53, .ireturn, 0)]
def F_G_isBehindDropped : List (Nat × Nat × Nat) := [(19, 0, 2), (12, 0, 0), (91, 1, 2)]
def K_G_isBehindDropped : List (Nat × gs_V) := []
noncomputable def C_G_isBehindDropped : List (Nat × Nat × Nat × gs_F) := [(171, 1, 3, f_Q_at), (198, 1, 4, f_I_meets)]
noncomputable def P_G_isBehindDropped : gs_P := (gs_lk I_G_isBehindDropped, gs_lk F_G_isBehindDropped, gs_lk K_G_isBehindDropped, gs_lk C_G_isBehindDropped)
noncomputable def f_G_isBehindDropped : gs_F := gs_f Y0 3 2 P_G_isBehindDropped
theorem e_G_isBehindDropped (a0 : Nat) (a1 : Int32) (d : gs_D) : f_G_isBehindDropped [(gs_r 0 a0), (gs_i a1)] d = gs_ck 2 (gs_g Y0 P_G_isBehindDropped 0 [some (gs_r 0 a0), some (gs_i a1), none] [] d) := rfl
theorem k_G_isBehindDropped_0 (a0 : Nat) (a1 : Int32) (d : gs_D) : gs_g Y0 P_G_isBehindDropped 0 [some (gs_r 0 a0), some (gs_i a1), none] [] d = gs_g Y0 P_G_isBehindDropped 2 [some (gs_r 0 a0), some (gs_i a1), some (gs_i (gs_n 0))] [] d := gs_gs 1 (fun _ => rfl)
theorem k_G_isBehindDropped_2 (a0 : Nat) (a1 : Int32) (a2 : Int32) (d : gs_D) : gs_g Y0 P_G_isBehindDropped 2 [some (gs_r 0 a0), some (gs_i a1), some (gs_i a2)] [] d = if a1 ≤ a2 then gs_g Y0 P_G_isBehindDropped 52 [some (gs_r 0 a0), some (gs_i a1), some (gs_i a2)] [] d else gs_g Y0 P_G_isBehindDropped 7 [some (gs_r 0 a0), some (gs_i a1), some (gs_i a2)] [] d := gs_if 3 (fun _ => rfl)
theorem k_G_isBehindDropped_7 (a0 : Nat) (a1 : Int32) (a2 : Int32) (d : gs_D) : gs_g Y0 P_G_isBehindDropped 7 [some (gs_r 0 a0), some (gs_i a1), some (gs_i a2)] [] d = gs_ix a2 10 (gs_g Y0 P_G_isBehindDropped 13 [some (gs_r 0 a0), some (gs_i a1), some (gs_i a2)] [(gs_i (d.1 2 0 a2.toNatClampNeg))] d) := gs_gx 4 (fun _ => rfl)
theorem k_G_isBehindDropped_13 (a0 : Nat) (a1 : Int32) (a2 : Int32) (s0 : Int32) (d : gs_D) : gs_g Y0 P_G_isBehindDropped 13 [some (gs_r 0 a0), some (gs_i a1), some (gs_i a2)] [(gs_i s0)] d = if ¬ s0 = 0 then gs_g Y0 P_G_isBehindDropped 46 [some (gs_r 0 a0), some (gs_i a1), some (gs_i a2)] [] d else gs_g Y0 P_G_isBehindDropped 16 [some (gs_r 0 a0), some (gs_i a1), some (gs_i a2)] [] d := gs_if 1 (fun _ => rfl)
theorem k_G_isBehindDropped_16 (a0 : Nat) (a1 : Int32) (a2 : Int32) (d : gs_D) : gs_g Y0 P_G_isBehindDropped 16 [some (gs_r 0 a0), some (gs_i a1), some (gs_i a2)] [] d = gs_af (f_Q_at [(gs_r 4 0), (gs_i a1)] d) [] (fun s9 d9 => gs_g Y0 P_G_isBehindDropped 27 [some (gs_r 0 a0), some (gs_i a1), some (gs_i a2)] s9 d9) := gs_gc 5 (fun _ => rfl)
theorem k_G_isBehindDropped_27 (a0 : Nat) (a1 : Int32) (a2 : Int32) (s0 : Nat) (d : gs_D) : gs_g Y0 P_G_isBehindDropped 27 [some (gs_r 0 a0), some (gs_i a1), some (gs_i a2)] [(gs_r 13 s0)] d = gs_af (f_Q_at [(gs_r 4 0), (gs_i a2)] d) [(gs_r 13 s0)] (fun s9 d9 => gs_g Y0 P_G_isBehindDropped 38 [some (gs_r 0 a0), some (gs_i a1), some (gs_i a2)] s9 d9) := gs_gc 5 (fun _ => rfl)
theorem k_G_isBehindDropped_38 (a0 : Nat) (a1 : Int32) (a2 : Int32) (s0 : Nat) (s1 : Nat) (d : gs_D) : gs_g Y0 P_G_isBehindDropped 38 [some (gs_r 0 a0), some (gs_i a1), some (gs_i a2)] [(gs_r 13 s1), (gs_r 13 s0)] d = gs_af (f_I_meets [(gs_r 13 s0), (gs_r 13 s1)] d) [] (fun s9 d9 => gs_g Y0 P_G_isBehindDropped 41 [some (gs_r 0 a0), some (gs_i a1), some (gs_i a2)] s9 d9) := gs_gc 1 (fun _ => rfl)
theorem k_G_isBehindDropped_41 (a0 : Nat) (a1 : Int32) (a2 : Int32) (s0 : Int32) (d : gs_D) : gs_g Y0 P_G_isBehindDropped 41 [some (gs_r 0 a0), some (gs_i a1), some (gs_i a2)] [(gs_i s0)] d = if s0 = 0 then gs_g Y0 P_G_isBehindDropped 46 [some (gs_r 0 a0), some (gs_i a1), some (gs_i a2)] [] d else gs_g Y0 P_G_isBehindDropped 44 [some (gs_r 0 a0), some (gs_i a1), some (gs_i a2)] [] d := gs_if 1 (fun _ => rfl)
theorem k_G_isBehindDropped_44 (a0 : Nat) (a1 : Int32) (a2 : Int32) (d : gs_D) : gs_g Y0 P_G_isBehindDropped 44 [some (gs_r 0 a0), some (gs_i a1), some (gs_i a2)] [] d = some (some (gs_i (gs_n 1)), d) := gs_an 2 (fun _ => rfl)
theorem k_G_isBehindDropped_46 (a0 : Nat) (a1 : Int32) (a2 : Int32) (d : gs_D) : gs_g Y0 P_G_isBehindDropped 46 [some (gs_r 0 a0), some (gs_i a1), some (gs_i a2)] [] d = gs_g Y0 P_G_isBehindDropped 2 [some (gs_r 0 a0), some (gs_i a1), some (gs_i (a2 + gs_n 1))] [] d := gs_gs 1 (fun _ => rfl)
theorem k_G_isBehindDropped_52 (a0 : Nat) (a1 : Int32) (a2 : Int32) (d : gs_D) : gs_g Y0 P_G_isBehindDropped 52 [some (gs_r 0 a0), some (gs_i a1), some (gs_i a2)] [] d = some (some (gs_i (gs_n 0)), d) := gs_an 2 (fun _ => rfl)
def I_G_dropThoseBehindDropped : List (Nat × Jvm.ClassFile.Instr × Nat) := [(0, .iload_n 1, 0), (1, .istore_n 2, 0), (2, .iload_n 2, 0), (3, .aload_n 0, 0), (4, .getfield 12, 0), (7, .getfield 91, 0), (10, .getfield 179, 0), (13, .if_icmp .ge 31, 44), (16, .aload_n 0, 0), (17, .getfield 19, 0), (20, .iload_n 2, 0), (21, .baload, 0), (22, .ifCond .eq 16, 38), (25, .aload_n 0, 0), (26, .iload_n 2, 0), (27, .invokevirtual 195, 0), (30, .ifCond .eq 8, 38), (33, .aload_n 0, 0), (34, .iload_n 2, 0), (35, .invokevirtual 189, 0), (38, .iinc 2 1, 0), (41, .goto (-39), 2), (44, .return_, 0)]
def F_G_dropThoseBehindDropped : List (Nat × Nat × Nat) := [(12, 0, 0), (91, 1, 2), (179, 3, 3), (19, 0, 2)]
def K_G_dropThoseBehindDropped : List (Nat × gs_V) := []
noncomputable def C_G_dropThoseBehindDropped : List (Nat × Nat × Nat × gs_F) := [(195, 1, 0, f_G_isBehindDropped), (189, 1, 0, f_G_drop)]
noncomputable def P_G_dropThoseBehindDropped : gs_P := (gs_lk I_G_dropThoseBehindDropped, gs_lk F_G_dropThoseBehindDropped, gs_lk K_G_dropThoseBehindDropped, gs_lk C_G_dropThoseBehindDropped)
noncomputable def f_G_dropThoseBehindDropped : gs_F := gs_f Y0 3 0 P_G_dropThoseBehindDropped
theorem e_G_dropThoseBehindDropped (a0 : Nat) (a1 : Int32) (d : gs_D) : f_G_dropThoseBehindDropped [(gs_r 0 a0), (gs_i a1)] d = gs_ck 0 (gs_g Y0 P_G_dropThoseBehindDropped 0 [some (gs_r 0 a0), some (gs_i a1), none] [] d) := rfl
theorem k_G_dropThoseBehindDropped_0 (a0 : Nat) (a1 : Int32) (d : gs_D) : gs_g Y0 P_G_dropThoseBehindDropped 0 [some (gs_r 0 a0), some (gs_i a1), none] [] d = gs_g Y0 P_G_dropThoseBehindDropped 2 [some (gs_r 0 a0), some (gs_i a1), some (gs_i a1)] [] d := gs_gs 1 (fun _ => rfl)
theorem k_G_dropThoseBehindDropped_2 (a0 : Nat) (a1 : Int32) (a2 : Int32) (d : gs_D) : gs_g Y0 P_G_dropThoseBehindDropped 2 [some (gs_r 0 a0), some (gs_i a1), some (gs_i a2)] [] d = if (d.1 4 0 3) ≤ a2 then gs_g Y0 P_G_dropThoseBehindDropped 44 [some (gs_r 0 a0), some (gs_i a1), some (gs_i a2)] [] d else gs_g Y0 P_G_dropThoseBehindDropped 16 [some (gs_r 0 a0), some (gs_i a1), some (gs_i a2)] [] d := gs_if 6 (fun _ => rfl)
theorem k_G_dropThoseBehindDropped_16 (a0 : Nat) (a1 : Int32) (a2 : Int32) (d : gs_D) : gs_g Y0 P_G_dropThoseBehindDropped 16 [some (gs_r 0 a0), some (gs_i a1), some (gs_i a2)] [] d = gs_ix a2 10 (gs_g Y0 P_G_dropThoseBehindDropped 22 [some (gs_r 0 a0), some (gs_i a1), some (gs_i a2)] [(gs_i (d.1 2 0 a2.toNatClampNeg))] d) := gs_gx 4 (fun _ => rfl)
theorem k_G_dropThoseBehindDropped_22 (a0 : Nat) (a1 : Int32) (a2 : Int32) (s0 : Int32) (d : gs_D) : gs_g Y0 P_G_dropThoseBehindDropped 22 [some (gs_r 0 a0), some (gs_i a1), some (gs_i a2)] [(gs_i s0)] d = if s0 = 0 then gs_g Y0 P_G_dropThoseBehindDropped 38 [some (gs_r 0 a0), some (gs_i a1), some (gs_i a2)] [] d else gs_g Y0 P_G_dropThoseBehindDropped 25 [some (gs_r 0 a0), some (gs_i a1), some (gs_i a2)] [] d := gs_if 1 (fun _ => rfl)
theorem k_G_dropThoseBehindDropped_25 (a0 : Nat) (a1 : Int32) (a2 : Int32) (d : gs_D) : gs_g Y0 P_G_dropThoseBehindDropped 25 [some (gs_r 0 a0), some (gs_i a1), some (gs_i a2)] [] d = gs_af (f_G_isBehindDropped [(gs_r 0 a0), (gs_i a2)] d) [] (fun s9 d9 => gs_g Y0 P_G_dropThoseBehindDropped 30 [some (gs_r 0 a0), some (gs_i a1), some (gs_i a2)] s9 d9) := gs_gc 3 (fun _ => rfl)
theorem k_G_dropThoseBehindDropped_30 (a0 : Nat) (a1 : Int32) (a2 : Int32) (s0 : Int32) (d : gs_D) : gs_g Y0 P_G_dropThoseBehindDropped 30 [some (gs_r 0 a0), some (gs_i a1), some (gs_i a2)] [(gs_i s0)] d = if s0 = 0 then gs_g Y0 P_G_dropThoseBehindDropped 38 [some (gs_r 0 a0), some (gs_i a1), some (gs_i a2)] [] d else gs_g Y0 P_G_dropThoseBehindDropped 33 [some (gs_r 0 a0), some (gs_i a1), some (gs_i a2)] [] d := gs_if 1 (fun _ => rfl)
theorem k_G_dropThoseBehindDropped_33 (a0 : Nat) (a1 : Int32) (a2 : Int32) (d : gs_D) : gs_g Y0 P_G_dropThoseBehindDropped 33 [some (gs_r 0 a0), some (gs_i a1), some (gs_i a2)] [] d = gs_af (f_G_drop [(gs_r 0 a0), (gs_i a2)] d) [] (fun s9 d9 => gs_g Y0 P_G_dropThoseBehindDropped 38 [some (gs_r 0 a0), some (gs_i a1), some (gs_i a2)] s9 d9) := gs_gc 3 (fun _ => rfl)
theorem k_G_dropThoseBehindDropped_38 (a0 : Nat) (a1 : Int32) (a2 : Int32) (d : gs_D) : gs_g Y0 P_G_dropThoseBehindDropped 38 [some (gs_r 0 a0), some (gs_i a1), some (gs_i a2)] [] d = gs_g Y0 P_G_dropThoseBehindDropped 2 [some (gs_r 0 a0), some (gs_i a1), some (gs_i (a2 + gs_n 1))] [] d := gs_gs 1 (fun _ => rfl)
theorem k_G_dropThoseBehindDropped_44 (a0 : Nat) (a1 : Int32) (a2 : Int32) (d : gs_D) : gs_g Y0 P_G_dropThoseBehindDropped 44 [some (gs_r 0 a0), some (gs_i a1), some (gs_i a2)] [] d = some (none, d) := gs_an 1 (fun _ => rfl)
def I_G_dropLastThatDebits : List (Nat × Jvm.ClassFile.Instr × Nat) := [(0, .aload_n 0, 0), (1, .getfield 12, 0), (4, .getfield 91, 0), (7, .getfield 179, 0), (10, .iconst 1, 0), (11, .isub, 0), (12, .istore_n 2, 0), (13, .iload_n 2, 0), (14, .ifCond .lt 49, 63), (17, .aload_n 0, 0), (18, .getfield 19, 0), (21, .iload_n 2, 0), (22, .baload, 0), (23, .ifCond .eq 34, 57), (26, .aload_n 0, 0), (27, .getfield 12, 0), (30, .getfield 91, 0), (33, .iload_n 2, 0), (34, .invokevirtual 171, 0), (37, .iload_n 1, 0), (38, .invokevirtual 186, 0), (41, .ifCond .eq 16, 57), (44, .aload_n 0, 0), (45, .iload_n 2, 0), (46, .invokevirtual 189, 0), (49, .aload_n 0, 0), (50, .iload_n 2, 0), (51, .iconst 1, 0), (52, .iadd, 0), (53, .invokevirtual 192, 0), (56, .return_, 0), (57, .iinc 2 (-1), 0), (60, .goto (-47), 13), (63, .return_, 0)]
def F_G_dropLastThatDebits : List (Nat × Nat × Nat) := [(12, 0, 0), (91, 1, 2), (179, 3, 3), (19, 0, 2)]
def K_G_dropLastThatDebits : List (Nat × gs_V) := []
noncomputable def C_G_dropLastThatDebits : List (Nat × Nat × Nat × gs_F) := [(171, 1, 3, f_Q_at), (186, 1, 4, f_I_debits), (189, 1, 0, f_G_drop), (192, 1, 0, f_G_dropThoseBehindDropped)]
noncomputable def P_G_dropLastThatDebits : gs_P := (gs_lk I_G_dropLastThatDebits, gs_lk F_G_dropLastThatDebits, gs_lk K_G_dropLastThatDebits, gs_lk C_G_dropLastThatDebits)
noncomputable def f_G_dropLastThatDebits : gs_F := gs_f Y0 3 0 P_G_dropLastThatDebits
theorem e_G_dropLastThatDebits (a0 : Nat) (a1 : Int32) (d : gs_D) : f_G_dropLastThatDebits [(gs_r 0 a0), (gs_i a1)] d = gs_ck 0 (gs_g Y0 P_G_dropLastThatDebits 0 [some (gs_r 0 a0), some (gs_i a1), none] [] d) := rfl
theorem k_G_dropLastThatDebits_0 (a0 : Nat) (a1 : Int32) (d : gs_D) : gs_g Y0 P_G_dropLastThatDebits 0 [some (gs_r 0 a0), some (gs_i a1), none] [] d = gs_g Y0 P_G_dropLastThatDebits 13 [some (gs_r 0 a0), some (gs_i a1), some (gs_i ((d.1 4 0 3) - (gs_n 1)))] [] d := gs_gs 6 (fun _ => rfl)
theorem k_G_dropLastThatDebits_13 (a0 : Nat) (a1 : Int32) (a2 : Int32) (d : gs_D) : gs_g Y0 P_G_dropLastThatDebits 13 [some (gs_r 0 a0), some (gs_i a1), some (gs_i a2)] [] d = if a2 < 0 then gs_g Y0 P_G_dropLastThatDebits 63 [some (gs_r 0 a0), some (gs_i a1), some (gs_i a2)] [] d else gs_g Y0 P_G_dropLastThatDebits 17 [some (gs_r 0 a0), some (gs_i a1), some (gs_i a2)] [] d := gs_if 2 (fun _ => rfl)
theorem k_G_dropLastThatDebits_17 (a0 : Nat) (a1 : Int32) (a2 : Int32) (d : gs_D) : gs_g Y0 P_G_dropLastThatDebits 17 [some (gs_r 0 a0), some (gs_i a1), some (gs_i a2)] [] d = gs_ix a2 10 (gs_g Y0 P_G_dropLastThatDebits 23 [some (gs_r 0 a0), some (gs_i a1), some (gs_i a2)] [(gs_i (d.1 2 0 a2.toNatClampNeg))] d) := gs_gx 4 (fun _ => rfl)
theorem k_G_dropLastThatDebits_23 (a0 : Nat) (a1 : Int32) (a2 : Int32) (s0 : Int32) (d : gs_D) : gs_g Y0 P_G_dropLastThatDebits 23 [some (gs_r 0 a0), some (gs_i a1), some (gs_i a2)] [(gs_i s0)] d = if s0 = 0 then gs_g Y0 P_G_dropLastThatDebits 57 [some (gs_r 0 a0), some (gs_i a1), some (gs_i a2)] [] d else gs_g Y0 P_G_dropLastThatDebits 26 [some (gs_r 0 a0), some (gs_i a1), some (gs_i a2)] [] d := gs_if 1 (fun _ => rfl)
theorem k_G_dropLastThatDebits_26 (a0 : Nat) (a1 : Int32) (a2 : Int32) (d : gs_D) : gs_g Y0 P_G_dropLastThatDebits 26 [some (gs_r 0 a0), some (gs_i a1), some (gs_i a2)] [] d = gs_af (f_Q_at [(gs_r 4 0), (gs_i a2)] d) [] (fun s9 d9 => gs_g Y0 P_G_dropLastThatDebits 37 [some (gs_r 0 a0), some (gs_i a1), some (gs_i a2)] s9 d9) := gs_gc 5 (fun _ => rfl)
theorem k_G_dropLastThatDebits_37 (a0 : Nat) (a1 : Int32) (a2 : Int32) (s0 : Nat) (d : gs_D) : gs_g Y0 P_G_dropLastThatDebits 37 [some (gs_r 0 a0), some (gs_i a1), some (gs_i a2)] [(gs_r 13 s0)] d = gs_af (f_I_debits [(gs_r 13 s0), (gs_i a1)] d) [] (fun s9 d9 => gs_g Y0 P_G_dropLastThatDebits 41 [some (gs_r 0 a0), some (gs_i a1), some (gs_i a2)] s9 d9) := gs_gc 2 (fun _ => rfl)
theorem k_G_dropLastThatDebits_41 (a0 : Nat) (a1 : Int32) (a2 : Int32) (s0 : Int32) (d : gs_D) : gs_g Y0 P_G_dropLastThatDebits 41 [some (gs_r 0 a0), some (gs_i a1), some (gs_i a2)] [(gs_i s0)] d = if s0 = 0 then gs_g Y0 P_G_dropLastThatDebits 57 [some (gs_r 0 a0), some (gs_i a1), some (gs_i a2)] [] d else gs_g Y0 P_G_dropLastThatDebits 44 [some (gs_r 0 a0), some (gs_i a1), some (gs_i a2)] [] d := gs_if 1 (fun _ => rfl)
theorem k_G_dropLastThatDebits_44 (a0 : Nat) (a1 : Int32) (a2 : Int32) (d : gs_D) : gs_g Y0 P_G_dropLastThatDebits 44 [some (gs_r 0 a0), some (gs_i a1), some (gs_i a2)] [] d = gs_af (f_G_drop [(gs_r 0 a0), (gs_i a2)] d) [] (fun s9 d9 => gs_g Y0 P_G_dropLastThatDebits 49 [some (gs_r 0 a0), some (gs_i a1), some (gs_i a2)] s9 d9) := gs_gc 3 (fun _ => rfl)
theorem k_G_dropLastThatDebits_49 (a0 : Nat) (a1 : Int32) (a2 : Int32) (d : gs_D) : gs_g Y0 P_G_dropLastThatDebits 49 [some (gs_r 0 a0), some (gs_i a1), some (gs_i a2)] [] d = gs_af (f_G_dropThoseBehindDropped [(gs_r 0 a0), (gs_i (a2 + (gs_n 1)))] d) [] (fun s9 d9 => gs_g Y0 P_G_dropLastThatDebits 56 [some (gs_r 0 a0), some (gs_i a1), some (gs_i a2)] s9 d9) := gs_gc 5 (fun _ => rfl)
theorem k_G_dropLastThatDebits_56 (a0 : Nat) (a1 : Int32) (a2 : Int32) (d : gs_D) : gs_g Y0 P_G_dropLastThatDebits 56 [some (gs_r 0 a0), some (gs_i a1), some (gs_i a2)] [] d = some (none, d) := gs_an 1 (fun _ => rfl)
theorem k_G_dropLastThatDebits_57 (a0 : Nat) (a1 : Int32) (a2 : Int32) (d : gs_D) : gs_g Y0 P_G_dropLastThatDebits 57 [some (gs_r 0 a0), some (gs_i a1), some (gs_i a2)] [] d = gs_g Y0 P_G_dropLastThatDebits 13 [some (gs_r 0 a0), some (gs_i a1), some (gs_i (a2 + Int32.ofInt (-1)))] [] d := gs_gs 1 (fun _ => rfl)
theorem k_G_dropLastThatDebits_63 (a0 : Nat) (a1 : Int32) (a2 : Int32) (d : gs_D) : gs_g Y0 P_G_dropLastThatDebits 63 [some (gs_r 0 a0), some (gs_i a1), some (gs_i a2)] [] d = some (none, d) := gs_an 1 (fun _ => rfl)
def I_G_leaveChosen : List (Nat × Jvm.ClassFile.Instr × Nat) := [(0, .iconst 0, 0), (1, .istore_n 1, 0), (2, .aload_n 0, 0), (3, .getfield 12, 0), (6, .getfield 91, 0), (9, .getfield 179, 0), (12, .iconst 1, 0), (13, .isub, 0), (14, .istore_n 2, 0), (15, .iload_n 2, 0), (16, .ifCond .lt 33, 49), (19, .aload_n 0, 0), (20, .getfield 19, 0), (23, .iload_n 2, 0), (24, .baload, 0), (25, .ifCond .eq 18, 43), (28, .aload_n 0, 0), (29, .getfield 12, 0), (32, .getfield 91, 0), (35, .iload_n 2, 0), (36, .iconst 1, 0), (37, .invokevirtual 101, 0), (40, .iinc 1 1, 0), (43, .iinc 2 (-1), 0), (46, .goto (-31), 15), (49, .iload_n 1, 0), (50, .ireturn, 0)]
def F_G_leaveChosen : List (Nat × Nat × Nat) := [(12, 0, 0), (91, 1, 2), (179, 3, 3), (19, 0, 2)]
def K_G_leaveChosen : List (Nat × gs_V) := []
noncomputable def C_G_leaveChosen : List (Nat × Nat × Nat × gs_F) := [(101, 2, 3, f_Q_leave)]
noncomputable def P_G_leaveChosen : gs_P := (gs_lk I_G_leaveChosen, gs_lk F_G_leaveChosen, gs_lk K_G_leaveChosen, gs_lk C_G_leaveChosen)
noncomputable def f_G_leaveChosen : gs_F := gs_f Y0 3 1 P_G_leaveChosen
theorem e_G_leaveChosen (a0 : Nat) (d : gs_D) : f_G_leaveChosen [(gs_r 0 a0)] d = gs_ck 1 (gs_g Y0 P_G_leaveChosen 0 [some (gs_r 0 a0), none, none] [] d) := rfl
theorem k_G_leaveChosen_0 (a0 : Nat) (d : gs_D) : gs_g Y0 P_G_leaveChosen 0 [some (gs_r 0 a0), none, none] [] d = gs_g Y0 P_G_leaveChosen 15 [some (gs_r 0 a0), some (gs_i (gs_n 0)), some (gs_i ((d.1 4 0 3) - (gs_n 1)))] [] d := gs_gs 8 (fun _ => rfl)
theorem k_G_leaveChosen_15 (a0 : Nat) (a1 : Int32) (a2 : Int32) (d : gs_D) : gs_g Y0 P_G_leaveChosen 15 [some (gs_r 0 a0), some (gs_i a1), some (gs_i a2)] [] d = if a2 < 0 then gs_g Y0 P_G_leaveChosen 49 [some (gs_r 0 a0), some (gs_i a1), some (gs_i a2)] [] d else gs_g Y0 P_G_leaveChosen 19 [some (gs_r 0 a0), some (gs_i a1), some (gs_i a2)] [] d := gs_if 2 (fun _ => rfl)
theorem k_G_leaveChosen_19 (a0 : Nat) (a1 : Int32) (a2 : Int32) (d : gs_D) : gs_g Y0 P_G_leaveChosen 19 [some (gs_r 0 a0), some (gs_i a1), some (gs_i a2)] [] d = gs_ix a2 10 (gs_g Y0 P_G_leaveChosen 25 [some (gs_r 0 a0), some (gs_i a1), some (gs_i a2)] [(gs_i (d.1 2 0 a2.toNatClampNeg))] d) := gs_gx 4 (fun _ => rfl)
theorem k_G_leaveChosen_25 (a0 : Nat) (a1 : Int32) (a2 : Int32) (s0 : Int32) (d : gs_D) : gs_g Y0 P_G_leaveChosen 25 [some (gs_r 0 a0), some (gs_i a1), some (gs_i a2)] [(gs_i s0)] d = if s0 = 0 then gs_g Y0 P_G_leaveChosen 43 [some (gs_r 0 a0), some (gs_i a1), some (gs_i a2)] [] d else gs_g Y0 P_G_leaveChosen 28 [some (gs_r 0 a0), some (gs_i a1), some (gs_i a2)] [] d := gs_if 1 (fun _ => rfl)
theorem k_G_leaveChosen_28 (a0 : Nat) (a1 : Int32) (a2 : Int32) (d : gs_D) : gs_g Y0 P_G_leaveChosen 28 [some (gs_r 0 a0), some (gs_i a1), some (gs_i a2)] [] d = gs_af (f_Q_leave [(gs_r 4 0), (gs_i a2), (gs_i (gs_n 1))] d) [] (fun s9 d9 => gs_g Y0 P_G_leaveChosen 40 [some (gs_r 0 a0), some (gs_i a1), some (gs_i a2)] s9 d9) := gs_gc 6 (fun _ => rfl)
theorem k_G_leaveChosen_40 (a0 : Nat) (a1 : Int32) (a2 : Int32) (d : gs_D) : gs_g Y0 P_G_leaveChosen 40 [some (gs_r 0 a0), some (gs_i a1), some (gs_i a2)] [] d = gs_g Y0 P_G_leaveChosen 15 [some (gs_r 0 a0), some (gs_i (a1 + gs_n 1)), some (gs_i (a2 + Int32.ofInt (-1)))] [] d := gs_gs 2 (fun _ => rfl)
theorem k_G_leaveChosen_43 (a0 : Nat) (a1 : Int32) (a2 : Int32) (d : gs_D) : gs_g Y0 P_G_leaveChosen 43 [some (gs_r 0 a0), some (gs_i a1), some (gs_i a2)] [] d = gs_g Y0 P_G_leaveChosen 15 [some (gs_r 0 a0), some (gs_i a1), some (gs_i (a2 + Int32.ofInt (-1)))] [] d := gs_gs 1 (fun _ => rfl)
theorem k_G_leaveChosen_49 (a0 : Nat) (a1 : Int32) (a2 : Int32) (d : gs_D) : gs_g Y0 P_G_leaveChosen 49 [some (gs_r 0 a0), some (gs_i a1), some (gs_i a2)] [] d = some (some (gs_i a1), d) := gs_an 2 (fun _ => rfl)
def I_G_resolve : List (Nat × Jvm.ClassFile.Instr × Nat) := [(0, .aload_n 0, 0), (1, .invokevirtual 108, 0), (4, .iconst 0, 0), (5, .istore_n 1, 0), (6, .iload_n 1, 0), (7, .bipush 10, 0), (9, .if_icmp .ge 33, 42), (12, .aload_n 0, 0), (13, .getfield 12, 0), (16, .getfield 37, 0), (19, .invokevirtual 111, 0), (22, .istore_n 2, 0), (23, .iload_n 2, 0), (24, .iconst (-1), 0), (25, .if_icmp .ne 6, 31), (28, .goto 14, 42), (31, .aload_n 0, 0), (32, .iload_n 2, 0), (33, .invokevirtual 114, 0), (36, .iinc 1 1, 0), (39, .goto (-33), 6), (42, .aload_n 0, 0), (43, .invokevirtual 118, 0), (46, .ireturn, 0)]
def F_G_resolve : List (Nat × Nat × Nat) := [(12, 0, 0), (37, 1, 1)]
def K_G_resolve : List (Nat × gs_V) := []
noncomputable def C_G_resolve : List (Nat × Nat × Nat × gs_F) := [(108, 0, 0, f_G_chooseAll), (111, 0, 2, f_A_firstBelowFloor), (114, 1, 0, f_G_dropLastThatDebits), (118, 0, 0, f_G_leaveChosen)]
noncomputable def P_G_resolve : gs_P := (gs_lk I_G_resolve, gs_lk F_G_resolve, gs_lk K_G_resolve, gs_lk C_G_resolve)
noncomputable def f_G_resolve : gs_F := gs_f Y0 3 1 P_G_resolve
theorem e_G_resolve (a0 : Nat) (d : gs_D) : f_G_resolve [(gs_r 0 a0)] d = gs_ck 1 (gs_g Y0 P_G_resolve 0 [some (gs_r 0 a0), none, none] [] d) := rfl
theorem k_G_resolve_0 (a0 : Nat) (d : gs_D) : gs_g Y0 P_G_resolve 0 [some (gs_r 0 a0), none, none] [] d = gs_af (f_G_chooseAll [(gs_r 0 a0)] d) [] (fun s9 d9 => gs_g Y0 P_G_resolve 4 [some (gs_r 0 a0), none, none] s9 d9) := gs_gc 2 (fun _ => rfl)
theorem k_G_resolve_4 (a0 : Nat) (d : gs_D) : gs_g Y0 P_G_resolve 4 [some (gs_r 0 a0), none, none] [] d = gs_g Y0 P_G_resolve 6 [some (gs_r 0 a0), some (gs_i (gs_n 0)), none] [] d := gs_gs 1 (fun _ => rfl)
theorem k_G_resolve_6 (a0 : Nat) (a1 : Int32) (a2 : Option gs_V) (d : gs_D) : gs_g Y0 P_G_resolve 6 [some (gs_r 0 a0), some (gs_i a1), a2] [] d = if (Int8.ofInt 10).toInt32 ≤ a1 then gs_g Y0 P_G_resolve 42 [some (gs_r 0 a0), some (gs_i a1), a2] [] d else gs_g Y0 P_G_resolve 12 [some (gs_r 0 a0), some (gs_i a1), a2] [] d := gs_if 3 (fun _ => rfl)
theorem k_G_resolve_12 (a0 : Nat) (a1 : Int32) (a2 : Option gs_V) (d : gs_D) : gs_g Y0 P_G_resolve 12 [some (gs_r 0 a0), some (gs_i a1), a2] [] d = gs_af (f_A_firstBelowFloor [(gs_r 3 0)] d) [] (fun s9 d9 => gs_g Y0 P_G_resolve 22 [some (gs_r 0 a0), some (gs_i a1), a2] s9 d9) := gs_gc 4 (fun _ => rfl)
theorem k_G_resolve_22 (a0 : Nat) (a1 : Int32) (a2 : Option gs_V) (s0 : Int32) (d : gs_D) : gs_g Y0 P_G_resolve 22 [some (gs_r 0 a0), some (gs_i a1), a2] [(gs_i s0)] d = if ¬ s0 = (gs_n (-1)) then gs_g Y0 P_G_resolve 31 [some (gs_r 0 a0), some (gs_i a1), some (gs_i s0)] [] d else gs_g Y0 P_G_resolve 28 [some (gs_r 0 a0), some (gs_i a1), some (gs_i s0)] [] d := gs_if 4 (fun _ => rfl)
theorem k_G_resolve_28 (a0 : Nat) (a1 : Int32) (a2 : Int32) (d : gs_D) : gs_g Y0 P_G_resolve 28 [some (gs_r 0 a0), some (gs_i a1), some (gs_i a2)] [] d = gs_af (f_G_leaveChosen [(gs_r 0 a0)] d) [] (fun s9 d9 => gs_g Y0 P_G_resolve 46 [some (gs_r 0 a0), some (gs_i a1), some (gs_i a2)] s9 d9) := gs_gc 3 (fun _ => rfl)
theorem k_G_resolve_31 (a0 : Nat) (a1 : Int32) (a2 : Int32) (d : gs_D) : gs_g Y0 P_G_resolve 31 [some (gs_r 0 a0), some (gs_i a1), some (gs_i a2)] [] d = gs_af (f_G_dropLastThatDebits [(gs_r 0 a0), (gs_i a2)] d) [] (fun s9 d9 => gs_g Y0 P_G_resolve 36 [some (gs_r 0 a0), some (gs_i a1), some (gs_i a2)] s9 d9) := gs_gc 3 (fun _ => rfl)
theorem k_G_resolve_36 (a0 : Nat) (a1 : Int32) (a2 : Int32) (d : gs_D) : gs_g Y0 P_G_resolve 36 [some (gs_r 0 a0), some (gs_i a1), some (gs_i a2)] [] d = gs_g Y0 P_G_resolve 6 [some (gs_r 0 a0), some (gs_i (a1 + gs_n 1)), some (gs_i a2)] [] d := gs_gs 1 (fun _ => rfl)
theorem k_G_resolve_42 (a0 : Nat) (a1 : Int32) (a2 : Option gs_V) (d : gs_D) : gs_g Y0 P_G_resolve 42 [some (gs_r 0 a0), some (gs_i a1), a2] [] d = gs_af (f_G_leaveChosen [(gs_r 0 a0)] d) [] (fun s9 d9 => gs_g Y0 P_G_resolve 46 [some (gs_r 0 a0), some (gs_i a1), a2] s9 d9) := gs_gc 2 (fun _ => rfl)
theorem k_G_resolve_46 (a0 : Nat) (a1 : Int32) (a2 : Option gs_V) (s0 : Int32) (d : gs_D) : gs_g Y0 P_G_resolve 46 [some (gs_r 0 a0), some (gs_i a1), a2] [(gs_i s0)] d = some (some (gs_i s0), d) := gs_an 1 (fun _ => rfl)
def I_Q_returnAll : List (Nat × Jvm.ClassFile.Instr × Nat) := [(0, .iconst 0, 0), (1, .istore_n 1, 0), (2, .iload_n 1, 0), (3, .aload_n 0, 0), (4, .getfield 25, 0), (7, .if_icmp .ge 18, 25), (10, .aload_n 0, 0), (11, .iload_n 1, 0), (12, .invokevirtual 29, 0), (15, .iconst 3, 0), (16, .putfield 55, 0), (19, .iinc 1 1, 0), (22, .goto (-20), 2), (25, .aload_n 0, 0), (26, .iconst 0, 0), (27, .putfield 25, 0), (30, .return_, 0)]
def F_Q_returnAll : List (Nat × Nat × Nat) := [(25, 3, 3), (55, 4, 6)]
def K_Q_returnAll : List (Nat × gs_V) := []
noncomputable def C_Q_returnAll : List (Nat × Nat × Nat × gs_F) := [(29, 1, 3, f_Q_at)]
noncomputable def P_Q_returnAll : gs_P := (gs_lk I_Q_returnAll, gs_lk F_Q_returnAll, gs_lk K_Q_returnAll, gs_lk C_Q_returnAll)
noncomputable def f_Q_returnAll : gs_F := gs_f Y0 2 0 P_Q_returnAll
theorem e_Q_returnAll (a0 : Nat) (d : gs_D) : f_Q_returnAll [(gs_r 4 a0)] d = gs_ck 0 (gs_g Y0 P_Q_returnAll 0 [some (gs_r 4 a0), none] [] d) := rfl
theorem k_Q_returnAll_0 (a0 : Nat) (d : gs_D) : gs_g Y0 P_Q_returnAll 0 [some (gs_r 4 a0), none] [] d = gs_g Y0 P_Q_returnAll 2 [some (gs_r 4 a0), some (gs_i (gs_n 0))] [] d := gs_gs 1 (fun _ => rfl)
theorem k_Q_returnAll_2 (a0 : Nat) (a1 : Int32) (d : gs_D) : gs_g Y0 P_Q_returnAll 2 [some (gs_r 4 a0), some (gs_i a1)] [] d = if (d.1 4 a0 3) ≤ a1 then gs_g Y0 P_Q_returnAll 25 [some (gs_r 4 a0), some (gs_i a1)] [] d else gs_g Y0 P_Q_returnAll 10 [some (gs_r 4 a0), some (gs_i a1)] [] d := gs_if 4 (fun _ => rfl)
theorem k_Q_returnAll_10 (a0 : Nat) (a1 : Int32) (d : gs_D) : gs_g Y0 P_Q_returnAll 10 [some (gs_r 4 a0), some (gs_i a1)] [] d = gs_af (f_Q_at [(gs_r 4 a0), (gs_i a1)] d) [] (fun s9 d9 => gs_g Y0 P_Q_returnAll 15 [some (gs_r 4 a0), some (gs_i a1)] s9 d9) := gs_gc 3 (fun _ => rfl)
theorem k_Q_returnAll_15 (a0 : Nat) (a1 : Int32) (s0 : Nat) (d : gs_D) : gs_g Y0 P_Q_returnAll 15 [some (gs_r 4 a0), some (gs_i a1)] [(gs_r 13 s0)] d = gs_g Y0 P_Q_returnAll 2 [some (gs_r 4 a0), some (gs_i (a1 + gs_n 1))] [] (gs_wI d 13 s0 6 (gs_n 3)) := gs_gs 3 (fun _ => rfl)
theorem k_Q_returnAll_25 (a0 : Nat) (a1 : Int32) (d : gs_D) : gs_g Y0 P_Q_returnAll 25 [some (gs_r 4 a0), some (gs_i a1)] [] d = some (none, (gs_wI d 4 a0 3 (gs_n 0))) := gs_an 4 (fun _ => rfl)
def I_A_clearNets : List (Nat × Jvm.ClassFile.Instr × Nat) := [(0, .iconst 0, 0), (1, .istore_n 1, 0), (2, .iload_n 1, 0), (3, .bipush 36, 0), (5, .if_icmp .ge 16, 21), (8, .aload_n 0, 0), (9, .getfield 28, 0), (12, .iload_n 1, 0), (13, .lconst 0, 0), (14, .lastore, 0), (15, .iinc 1 1, 0), (18, .goto (-16), 2), (21, .return_, 0)]
def F_A_clearNets : List (Nat × Nat × Nat) := [(28, 2, 5)]
def K_A_clearNets : List (Nat × gs_V) := []
noncomputable def C_A_clearNets : List (Nat × Nat × Nat × gs_F) := []
noncomputable def P_A_clearNets : gs_P := (gs_lk I_A_clearNets, gs_lk F_A_clearNets, gs_lk K_A_clearNets, gs_lk C_A_clearNets)
noncomputable def f_A_clearNets : gs_F := gs_f Y0 2 0 P_A_clearNets
theorem e_A_clearNets (a0 : Nat) (d : gs_D) : f_A_clearNets [(gs_r 3 a0)] d = gs_ck 0 (gs_g Y0 P_A_clearNets 0 [some (gs_r 3 a0), none] [] d) := rfl
theorem k_A_clearNets_0 (a0 : Nat) (d : gs_D) : gs_g Y0 P_A_clearNets 0 [some (gs_r 3 a0), none] [] d = gs_g Y0 P_A_clearNets 2 [some (gs_r 3 a0), some (gs_i (gs_n 0))] [] d := gs_gs 1 (fun _ => rfl)
theorem k_A_clearNets_2 (a0 : Nat) (a1 : Int32) (d : gs_D) : gs_g Y0 P_A_clearNets 2 [some (gs_r 3 a0), some (gs_i a1)] [] d = if (Int8.ofInt 36).toInt32 ≤ a1 then gs_g Y0 P_A_clearNets 21 [some (gs_r 3 a0), some (gs_i a1)] [] d else gs_g Y0 P_A_clearNets 8 [some (gs_r 3 a0), some (gs_i a1)] [] d := gs_if 3 (fun _ => rfl)
theorem k_A_clearNets_8 (a0 : Nat) (a1 : Int32) (d : gs_D) : gs_g Y0 P_A_clearNets 8 [some (gs_r 3 a0), some (gs_i a1)] [] d = gs_ix a1 36 (gs_g Y0 P_A_clearNets 15 [some (gs_r 3 a0), some (gs_i a1)] [] (gs_wL d 10 a0 a1.toNatClampNeg gs_k0)) := gs_gx 5 (fun _ => rfl)
theorem k_A_clearNets_15 (a0 : Nat) (a1 : Int32) (d : gs_D) : gs_g Y0 P_A_clearNets 15 [some (gs_r 3 a0), some (gs_i a1)] [] d = gs_g Y0 P_A_clearNets 2 [some (gs_r 3 a0), some (gs_i (a1 + gs_n 1))] [] d := gs_gs 1 (fun _ => rfl)
theorem k_A_clearNets_21 (a0 : Nat) (a1 : Int32) (d : gs_D) : gs_g Y0 P_A_clearNets 21 [some (gs_r 3 a0), some (gs_i a1)] [] d = some (none, d) := gs_an 1 (fun _ => rfl)
def I_G_advance : List (Nat × Jvm.ClassFile.Instr × Nat) := [(0, .aload_n 0, 0), (1, .getfield 12, 0), (4, .aload_n 0, 0), (5, .getfield 12, 0), (8, .getfield 33, 0), (11, .iconst 2, 0), (12, .if_icmp .ne 7, 19), (15, .iconst 0, 0), (16, .goto 12, 28), (19, .aload_n 0, 0), (20, .getfield 12, 0), (23, .getfield 33, 0), (26, .iconst 1, 0), (27, .iadd, 0), (28, .putfield 33, 0), (31, .aload_n 0, 0), (32, .getfield 12, 0), (35, .getfield 33, 0), (38, .ifCond .ne 23, 61), (41, .aload_n 0, 0), (42, .getfield 12, 0), (45, .getfield 91, 0), (48, .invokevirtual 121, 0), (51, .aload_n 0, 0), (52, .getfield 12, 0), (55, .getfield 37, 0), (58, .invokevirtual 124, 0), (61, .aload_n 0, 0), (62, .getfield 12, 0), (65, .getfield 33, 0), (68, .ireturn, 0)]
def F_G_advance : List (Nat × Nat × Nat) := [(12, 0, 0), (33, 1, 0), (91, 1, 2), (37, 1, 1)]
def K_G_advance : List (Nat × gs_V) := []
noncomputable def C_G_advance : List (Nat × Nat × Nat × gs_F) := [(121, 0, 3, f_Q_returnAll), (124, 0, 2, f_A_clearNets)]
noncomputable def P_G_advance : gs_P := (gs_lk I_G_advance, gs_lk F_G_advance, gs_lk K_G_advance, gs_lk C_G_advance)
noncomputable def f_G_advance : gs_F := gs_f Y0 1 1 P_G_advance
theorem e_G_advance (a0 : Nat) (d : gs_D) : f_G_advance [(gs_r 0 a0)] d = gs_ck 1 (gs_g Y0 P_G_advance 0 [some (gs_r 0 a0)] [] d) := rfl
theorem k_G_advance_0 (a0 : Nat) (d : gs_D) : gs_g Y0 P_G_advance 0 [some (gs_r 0 a0)] [] d = if ¬ (d.1 1 0 0) = (gs_n 2) then gs_g Y0 P_G_advance 19 [some (gs_r 0 a0)] [(gs_r 1 0)] d else gs_g Y0 P_G_advance 15 [some (gs_r 0 a0)] [(gs_r 1 0)] d := gs_if 7 (fun _ => rfl)
theorem k_G_advance_15 (a0 : Nat) (s0 : Nat) (d : gs_D) : gs_g Y0 P_G_advance 15 [some (gs_r 0 a0)] [(gs_r 1 s0)] d = if ¬ ((gs_wI d 1 s0 0 (gs_n 0)).1 1 0 0) = 0 then gs_g Y0 P_G_advance 61 [some (gs_r 0 a0)] [] (gs_wI d 1 s0 0 (gs_n 0)) else gs_g Y0 P_G_advance 41 [some (gs_r 0 a0)] [] (gs_wI d 1 s0 0 (gs_n 0)) := gs_if 7 (fun _ => rfl)
theorem k_G_advance_19 (a0 : Nat) (s0 : Nat) (d : gs_D) : gs_g Y0 P_G_advance 19 [some (gs_r 0 a0)] [(gs_r 1 s0)] d = if ¬ ((gs_wI d 1 s0 0 ((d.1 1 0 0) + (gs_n 1))).1 1 0 0) = 0 then gs_g Y0 P_G_advance 61 [some (gs_r 0 a0)] [] (gs_wI d 1 s0 0 ((d.1 1 0 0) + (gs_n 1))) else gs_g Y0 P_G_advance 41 [some (gs_r 0 a0)] [] (gs_wI d 1 s0 0 ((d.1 1 0 0) + (gs_n 1))) := gs_if 10 (fun _ => rfl)
theorem k_G_advance_41 (a0 : Nat) (d : gs_D) : gs_g Y0 P_G_advance 41 [some (gs_r 0 a0)] [] d = gs_af (f_Q_returnAll [(gs_r 4 0)] d) [] (fun s9 d9 => gs_g Y0 P_G_advance 51 [some (gs_r 0 a0)] s9 d9) := gs_gc 4 (fun _ => rfl)
theorem k_G_advance_51 (a0 : Nat) (d : gs_D) : gs_g Y0 P_G_advance 51 [some (gs_r 0 a0)] [] d = gs_af (f_A_clearNets [(gs_r 3 0)] d) [] (fun s9 d9 => gs_g Y0 P_G_advance 61 [some (gs_r 0 a0)] s9 d9) := gs_gc 4 (fun _ => rfl)
theorem k_G_advance_61 (a0 : Nat) (d : gs_D) : gs_g Y0 P_G_advance 61 [some (gs_r 0 a0)] [] d = some (some (gs_i (d.1 1 0 0)), d) := gs_an 4 (fun _ => rfl)
def I_A_copyFrom : List (Nat × Jvm.ClassFile.Instr × Nat) := [(0, .aload_n 1, 0), (1, .getfield 9, 0), (4, .iconst 0, 0), (5, .aload_n 0, 0), (6, .getfield 9, 0), (9, .iconst 0, 0), (10, .bipush 18, 0), (12, .invokestatic 78, 0), (15, .aload_n 1, 0), (16, .getfield 15, 0), (19, .iconst 0, 0), (20, .aload_n 0, 0), (21, .getfield 15, 0), (24, .iconst 0, 0), (25, .bipush 18, 0), (27, .invokestatic 78, 0), (30, .aload_n 1, 0), (31, .getfield 18, 0), (34, .iconst 0, 0), (35, .aload_n 0, 0), (36, .getfield 18, 0), (39, .iconst 0, 0), (40, .iconst 3, 0), (41, .invokestatic 78, 0), (44, .aload_n 1, 0), (45, .getfield 22, 0), (48, .iconst 0, 0), (49, .aload_n 0, 0), (50, .getfield 22, 0), (53, .iconst 0, 0), (54, .iconst 3, 0), (55, .invokestatic 78, 0), (58, .aload_n 1, 0), (59, .getfield 25, 0), (62, .iconst 0, 0), (63, .aload_n 0, 0), (64, .getfield 25, 0), (67, .iconst 0, 0), (68, .bipush 36, 0), (70, .invokestatic 78, 0), (73, .aload_n 1, 0), (74, .getfield 28, 0), (77, .iconst 0, 0), (78, .aload_n 0, 0), (79, .getfield 28, 0), (82, .iconst 0, 0), (83, .bipush 36, 0), (85, .invokestatic 78, 0), (88, .return_, 0)]
def F_A_copyFrom : List (Nat × Nat × Nat) := [(9, 2, 0), (15, 2, 1), (18, 2, 2), (22, 2, 3), (25, 2, 4), (28, 2, 5)]
def K_A_copyFrom : List (Nat × gs_V) := []
noncomputable def C_A_copyFrom : List (Nat × Nat × Nat × gs_F) := [(78, 5, 1000, f_S_arraycopy)]
noncomputable def P_A_copyFrom : gs_P := (gs_lk I_A_copyFrom, gs_lk F_A_copyFrom, gs_lk K_A_copyFrom, gs_lk C_A_copyFrom)
noncomputable def f_A_copyFrom : gs_F := gs_f Y0 2 0 P_A_copyFrom
theorem e_A_copyFrom (a0 : Nat) (a1 : Nat) (d : gs_D) : f_A_copyFrom [(gs_r 3 a0), (gs_r 3 a1)] d = gs_ck 0 (gs_g Y0 P_A_copyFrom 0 [some (gs_r 3 a0), some (gs_r 3 a1)] [] d) := rfl
theorem k_A_copyFrom_0 (a0 : Nat) (a1 : Nat) (d : gs_D) : gs_g Y0 P_A_copyFrom 0 [some (gs_r 3 a0), some (gs_r 3 a1)] [] d = gs_af (f_S_arraycopy [(gs_r 5 a1), (gs_i (gs_n 0)), (gs_r 5 a0), (gs_i (gs_n 0)), (gs_i (Int8.ofInt 18).toInt32)] d) [] (fun s9 d9 => gs_g Y0 P_A_copyFrom 15 [some (gs_r 3 a0), some (gs_r 3 a1)] s9 d9) := gs_gc 8 (fun _ => rfl)
theorem k_A_copyFrom_15 (a0 : Nat) (a1 : Nat) (d : gs_D) : gs_g Y0 P_A_copyFrom 15 [some (gs_r 3 a0), some (gs_r 3 a1)] [] d = gs_af (f_S_arraycopy [(gs_r 6 a1), (gs_i (gs_n 0)), (gs_r 6 a0), (gs_i (gs_n 0)), (gs_i (Int8.ofInt 18).toInt32)] d) [] (fun s9 d9 => gs_g Y0 P_A_copyFrom 30 [some (gs_r 3 a0), some (gs_r 3 a1)] s9 d9) := gs_gc 8 (fun _ => rfl)
theorem k_A_copyFrom_30 (a0 : Nat) (a1 : Nat) (d : gs_D) : gs_g Y0 P_A_copyFrom 30 [some (gs_r 3 a0), some (gs_r 3 a1)] [] d = gs_af (f_S_arraycopy [(gs_r 7 a1), (gs_i (gs_n 0)), (gs_r 7 a0), (gs_i (gs_n 0)), (gs_i (gs_n 3))] d) [] (fun s9 d9 => gs_g Y0 P_A_copyFrom 44 [some (gs_r 3 a0), some (gs_r 3 a1)] s9 d9) := gs_gc 8 (fun _ => rfl)
theorem k_A_copyFrom_44 (a0 : Nat) (a1 : Nat) (d : gs_D) : gs_g Y0 P_A_copyFrom 44 [some (gs_r 3 a0), some (gs_r 3 a1)] [] d = gs_af (f_S_arraycopy [(gs_r 8 a1), (gs_i (gs_n 0)), (gs_r 8 a0), (gs_i (gs_n 0)), (gs_i (gs_n 3))] d) [] (fun s9 d9 => gs_g Y0 P_A_copyFrom 58 [some (gs_r 3 a0), some (gs_r 3 a1)] s9 d9) := gs_gc 8 (fun _ => rfl)
theorem k_A_copyFrom_58 (a0 : Nat) (a1 : Nat) (d : gs_D) : gs_g Y0 P_A_copyFrom 58 [some (gs_r 3 a0), some (gs_r 3 a1)] [] d = gs_af (f_S_arraycopy [(gs_r 9 a1), (gs_i (gs_n 0)), (gs_r 9 a0), (gs_i (gs_n 0)), (gs_i (Int8.ofInt 36).toInt32)] d) [] (fun s9 d9 => gs_g Y0 P_A_copyFrom 73 [some (gs_r 3 a0), some (gs_r 3 a1)] s9 d9) := gs_gc 8 (fun _ => rfl)
theorem k_A_copyFrom_73 (a0 : Nat) (a1 : Nat) (d : gs_D) : gs_g Y0 P_A_copyFrom 73 [some (gs_r 3 a0), some (gs_r 3 a1)] [] d = gs_af (f_S_arraycopy [(gs_r 10 a1), (gs_i (gs_n 0)), (gs_r 10 a0), (gs_i (gs_n 0)), (gs_i (Int8.ofInt 36).toInt32)] d) [] (fun s9 d9 => gs_g Y0 P_A_copyFrom 88 [some (gs_r 3 a0), some (gs_r 3 a1)] s9 d9) := gs_gc 8 (fun _ => rfl)
theorem k_A_copyFrom_88 (a0 : Nat) (a1 : Nat) (d : gs_D) : gs_g Y0 P_A_copyFrom 88 [some (gs_r 3 a0), some (gs_r 3 a1)] [] d = some (none, d) := gs_an 1 (fun _ => rfl)
def I_I_copyFrom : List (Nat × Jvm.ClassFile.Instr × Nat) := [(0, .aload_n 0, 0), (1, .aload_n 1, 0), (2, .getfield 15, 0), (5, .putfield 15, 0), (8, .aload_n 0, 0), (9, .aload_n 1, 0), (10, .getfield 28, 0), (13, .putfield 28, 0), (16, .aload_n 0, 0), (17, .aload_n 1, 0), (18, .getfield 18, 0), (21, .putfield 18, 0), (24, .aload_n 0, 0), (25, .aload_n 1, 0), (26, .getfield 9, 0), (29, .putfield 9, 0), (32, .aload_n 0, 0), (33, .aload_n 1, 0), (34, .getfield 25, 0), (37, .putfield 25, 0), (40, .aload_n 0, 0), (41, .aload_n 1, 0), (42, .getfield 34, 0), (45, .putfield 34, 0), (48, .aload_n 0, 0), (49, .aload_n 1, 0), (50, .getfield 37, 0), (53, .putfield 37, 0), (56, .return_, 0)]
def F_I_copyFrom : List (Nat × Nat × Nat) := [(15, 4, 0), (28, 4, 1), (18, 4, 2), (9, 4, 3), (25, 4, 4), (34, 4, 5), (37, 4, 6)]
def K_I_copyFrom : List (Nat × gs_V) := []
noncomputable def C_I_copyFrom : List (Nat × Nat × Nat × gs_F) := []
noncomputable def P_I_copyFrom : gs_P := (gs_lk I_I_copyFrom, gs_lk F_I_copyFrom, gs_lk K_I_copyFrom, gs_lk C_I_copyFrom)
noncomputable def f_I_copyFrom : gs_F := gs_f Y0 2 0 P_I_copyFrom
theorem e_I_copyFrom (a0 : Nat) (a1 : Nat) (d : gs_D) : f_I_copyFrom [(gs_r 13 a0), (gs_r 13 a1)] d = gs_ck 0 (gs_g Y0 P_I_copyFrom 0 [some (gs_r 13 a0), some (gs_r 13 a1)] [] d) := rfl
theorem k_I_copyFrom_0 (a0 : Nat) (a1 : Nat) (d : gs_D) : gs_g Y0 P_I_copyFrom 0 [some (gs_r 13 a0), some (gs_r 13 a1)] [] d = some (none, (gs_wI (gs_wI (gs_wI (gs_wI (gs_wI (gs_wI (gs_wI d 13 a0 0 (d.1 13 a1 0)) 13 a0 1 ((gs_wI d 13 a0 0 (d.1 13 a1 0)).1 13 a1 1)) 13 a0 2 ((gs_wI (gs_wI d 13 a0 0 (d.1 13 a1 0)) 13 a0 1 ((gs_wI d 13 a0 0 (d.1 13 a1 0)).1 13 a1 1)).1 13 a1 2)) 13 a0 3 ((gs_wI (gs_wI (gs_wI d 13 a0 0 (d.1 13 a1 0)) 13 a0 1 ((gs_wI d 13 a0 0 (d.1 13 a1 0)).1 13 a1 1)) 13 a0 2 ((gs_wI (gs_wI d 13 a0 0 (d.1 13 a1 0)) 13 a0 1 ((gs_wI d 13 a0 0 (d.1 13 a1 0)).1 13 a1 1)).1 13 a1 2)).1 13 a1 3)) 13 a0 4 ((gs_wI (gs_wI (gs_wI (gs_wI d 13 a0 0 (d.1 13 a1 0)) 13 a0 1 ((gs_wI d 13 a0 0 (d.1 13 a1 0)).1 13 a1 1)) 13 a0 2 ((gs_wI (gs_wI d 13 a0 0 (d.1 13 a1 0)) 13 a0 1 ((gs_wI d 13 a0 0 (d.1 13 a1 0)).1 13 a1 1)).1 13 a1 2)) 13 a0 3 ((gs_wI (gs_wI (gs_wI d 13 a0 0 (d.1 13 a1 0)) 13 a0 1 ((gs_wI d 13 a0 0 (d.1 13 a1 0)).1 13 a1 1)) 13 a0 2 ((gs_wI (gs_wI d 13 a0 0 (d.1 13 a1 0)) 13 a0 1 ((gs_wI d 13 a0 0 (d.1 13 a1 0)).1 13 a1 1)).1 13 a1 2)).1 13 a1 3)).1 13 a1 4)) 13 a0 5 ((gs_wI (gs_wI (gs_wI (gs_wI (gs_wI d 13 a0 0 (d.1 13 a1 0)) 13 a0 1 ((gs_wI d 13 a0 0 (d.1 13 a1 0)).1 13 a1 1)) 13 a0 2 ((gs_wI (gs_wI d 13 a0 0 (d.1 13 a1 0)) 13 a0 1 ((gs_wI d 13 a0 0 (d.1 13 a1 0)).1 13 a1 1)).1 13 a1 2)) 13 a0 3 ((gs_wI (gs_wI (gs_wI d 13 a0 0 (d.1 13 a1 0)) 13 a0 1 ((gs_wI d 13 a0 0 (d.1 13 a1 0)).1 13 a1 1)) 13 a0 2 ((gs_wI (gs_wI d 13 a0 0 (d.1 13 a1 0)) 13 a0 1 ((gs_wI d 13 a0 0 (d.1 13 a1 0)).1 13 a1 1)).1 13 a1 2)).1 13 a1 3)) 13 a0 4 ((gs_wI (gs_wI (gs_wI (gs_wI d 13 a0 0 (d.1 13 a1 0)) 13 a0 1 ((gs_wI d 13 a0 0 (d.1 13 a1 0)).1 13 a1 1)) 13 a0 2 ((gs_wI (gs_wI d 13 a0 0 (d.1 13 a1 0)) 13 a0 1 ((gs_wI d 13 a0 0 (d.1 13 a1 0)).1 13 a1 1)).1 13 a1 2)) 13 a0 3 ((gs_wI (gs_wI (gs_wI d 13 a0 0 (d.1 13 a1 0)) 13 a0 1 ((gs_wI d 13 a0 0 (d.1 13 a1 0)).1 13 a1 1)) 13 a0 2 ((gs_wI (gs_wI d 13 a0 0 (d.1 13 a1 0)) 13 a0 1 ((gs_wI d 13 a0 0 (d.1 13 a1 0)).1 13 a1 1)).1 13 a1 2)).1 13 a1 3)).1 13 a1 4)).1 13 a1 5)) 13 a0 6 ((gs_wI (gs_wI (gs_wI (gs_wI (gs_wI (gs_wI d 13 a0 0 (d.1 13 a1 0)) 13 a0 1 ((gs_wI d 13 a0 0 (d.1 13 a1 0)).1 13 a1 1)) 13 a0 2 ((gs_wI (gs_wI d 13 a0 0 (d.1 13 a1 0)) 13 a0 1 ((gs_wI d 13 a0 0 (d.1 13 a1 0)).1 13 a1 1)).1 13 a1 2)) 13 a0 3 ((gs_wI (gs_wI (gs_wI d 13 a0 0 (d.1 13 a1 0)) 13 a0 1 ((gs_wI d 13 a0 0 (d.1 13 a1 0)).1 13 a1 1)) 13 a0 2 ((gs_wI (gs_wI d 13 a0 0 (d.1 13 a1 0)) 13 a0 1 ((gs_wI d 13 a0 0 (d.1 13 a1 0)).1 13 a1 1)).1 13 a1 2)).1 13 a1 3)) 13 a0 4 ((gs_wI (gs_wI (gs_wI (gs_wI d 13 a0 0 (d.1 13 a1 0)) 13 a0 1 ((gs_wI d 13 a0 0 (d.1 13 a1 0)).1 13 a1 1)) 13 a0 2 ((gs_wI (gs_wI d 13 a0 0 (d.1 13 a1 0)) 13 a0 1 ((gs_wI d 13 a0 0 (d.1 13 a1 0)).1 13 a1 1)).1 13 a1 2)) 13 a0 3 ((gs_wI (gs_wI (gs_wI d 13 a0 0 (d.1 13 a1 0)) 13 a0 1 ((gs_wI d 13 a0 0 (d.1 13 a1 0)).1 13 a1 1)) 13 a0 2 ((gs_wI (gs_wI d 13 a0 0 (d.1 13 a1 0)) 13 a0 1 ((gs_wI d 13 a0 0 (d.1 13 a1 0)).1 13 a1 1)).1 13 a1 2)).1 13 a1 3)).1 13 a1 4)) 13 a0 5 ((gs_wI (gs_wI (gs_wI (gs_wI (gs_wI d 13 a0 0 (d.1 13 a1 0)) 13 a0 1 ((gs_wI d 13 a0 0 (d.1 13 a1 0)).1 13 a1 1)) 13 a0 2 ((gs_wI (gs_wI d 13 a0 0 (d.1 13 a1 0)) 13 a0 1 ((gs_wI d 13 a0 0 (d.1 13 a1 0)).1 13 a1 1)).1 13 a1 2)) 13 a0 3 ((gs_wI (gs_wI (gs_wI d 13 a0 0 (d.1 13 a1 0)) 13 a0 1 ((gs_wI d 13 a0 0 (d.1 13 a1 0)).1 13 a1 1)) 13 a0 2 ((gs_wI (gs_wI d 13 a0 0 (d.1 13 a1 0)) 13 a0 1 ((gs_wI d 13 a0 0 (d.1 13 a1 0)).1 13 a1 1)).1 13 a1 2)).1 13 a1 3)) 13 a0 4 ((gs_wI (gs_wI (gs_wI (gs_wI d 13 a0 0 (d.1 13 a1 0)) 13 a0 1 ((gs_wI d 13 a0 0 (d.1 13 a1 0)).1 13 a1 1)) 13 a0 2 ((gs_wI (gs_wI d 13 a0 0 (d.1 13 a1 0)) 13 a0 1 ((gs_wI d 13 a0 0 (d.1 13 a1 0)).1 13 a1 1)).1 13 a1 2)) 13 a0 3 ((gs_wI (gs_wI (gs_wI d 13 a0 0 (d.1 13 a1 0)) 13 a0 1 ((gs_wI d 13 a0 0 (d.1 13 a1 0)).1 13 a1 1)) 13 a0 2 ((gs_wI (gs_wI d 13 a0 0 (d.1 13 a1 0)) 13 a0 1 ((gs_wI d 13 a0 0 (d.1 13 a1 0)).1 13 a1 1)).1 13 a1 2)).1 13 a1 3)).1 13 a1 4)).1 13 a1 5)).1 13 a1 6))) := gs_an 29 (fun _ => rfl)
def I_Q_copyFrom : List (Nat × Jvm.ClassFile.Instr × Nat) := [(0, .iconst 0, 0), (1, .istore_n 2, 0), (2, .iload_n 2, 0), (3, .aload_n 1, 0), (4, .getfield 17, 0), (7, .if_icmp .ge 24, 31), (10, .aload_n 0, 0), (11, .getfield 11, 0), (14, .iload_n 2, 0), (15, .aaload, 0), (16, .aload_n 1, 0), (17, .getfield 11, 0), (20, .iload_n 2, 0), (21, .aaload, 0), (22, .invokevirtual 69, 0), (25, .iinc 2 1, 0), (28, .goto (-26), 2), (31, .aload_n 1, 0), (32, .getfield 21, 0), (35, .iconst 0, 0), (36, .aload_n 0, 0), (37, .getfield 21, 0), (40, .iconst 0, 0), (41, .bipush 10, 0), (43, .invokestatic 73, 0), (46, .aload_n 0, 0), (47, .aload_n 1, 0), (48, .getfield 17, 0), (51, .putfield 17, 0), (54, .aload_n 0, 0), (55, .aload_n 1, 0), (56, .getfield 25, 0), (59, .putfield 25, 0), (62, .return_, 0)]
def F_Q_copyFrom : List (Nat × Nat × Nat) := [(17, 3, 1), (11, 3, 0), (21, 3, 2), (25, 3, 3)]
def K_Q_copyFrom : List (Nat × gs_V) := []
noncomputable def C_Q_copyFrom : List (Nat × Nat × Nat × gs_F) := [(69, 1, 4, f_I_copyFrom), (73, 5, 1000, f_S_arraycopy)]
noncomputable def P_Q_copyFrom : gs_P := (gs_lk I_Q_copyFrom, gs_lk F_Q_copyFrom, gs_lk K_Q_copyFrom, gs_lk C_Q_copyFrom)
noncomputable def f_Q_copyFrom : gs_F := gs_f Y0 3 0 P_Q_copyFrom
theorem e_Q_copyFrom (a0 : Nat) (a1 : Nat) (d : gs_D) : f_Q_copyFrom [(gs_r 4 a0), (gs_r 4 a1)] d = gs_ck 0 (gs_g Y0 P_Q_copyFrom 0 [some (gs_r 4 a0), some (gs_r 4 a1), none] [] d) := rfl
theorem k_Q_copyFrom_0 (a0 : Nat) (a1 : Nat) (d : gs_D) : gs_g Y0 P_Q_copyFrom 0 [some (gs_r 4 a0), some (gs_r 4 a1), none] [] d = gs_g Y0 P_Q_copyFrom 2 [some (gs_r 4 a0), some (gs_r 4 a1), some (gs_i (gs_n 0))] [] d := gs_gs 1 (fun _ => rfl)
theorem k_Q_copyFrom_2 (a0 : Nat) (a1 : Nat) (a2 : Int32) (d : gs_D) : gs_g Y0 P_Q_copyFrom 2 [some (gs_r 4 a0), some (gs_r 4 a1), some (gs_i a2)] [] d = if (d.1 4 a1 1) ≤ a2 then gs_g Y0 P_Q_copyFrom 31 [some (gs_r 4 a0), some (gs_r 4 a1), some (gs_i a2)] [] d else gs_g Y0 P_Q_copyFrom 10 [some (gs_r 4 a0), some (gs_r 4 a1), some (gs_i a2)] [] d := gs_if 4 (fun _ => rfl)
theorem k_Q_copyFrom_10 (a0 : Nat) (a1 : Nat) (a2 : Int32) (d : gs_D) : gs_g Y0 P_Q_copyFrom 10 [some (gs_r 4 a0), some (gs_r 4 a1), some (gs_i a2)] [] d = gs_ix a2 40 (gs_g Y0 P_Q_copyFrom 16 [some (gs_r 4 a0), some (gs_r 4 a1), some (gs_i a2)] [(gs_r 13 (gs_ii a0 a2.toNatClampNeg))] d) := gs_gx 4 (fun _ => rfl)
theorem k_Q_copyFrom_16 (a0 : Nat) (a1 : Nat) (a2 : Int32) (s0 : Nat) (d : gs_D) : gs_g Y0 P_Q_copyFrom 16 [some (gs_r 4 a0), some (gs_r 4 a1), some (gs_i a2)] [(gs_r 13 s0)] d = gs_ix a2 40 (gs_g Y0 P_Q_copyFrom 22 [some (gs_r 4 a0), some (gs_r 4 a1), some (gs_i a2)] [(gs_r 13 (gs_ii a1 a2.toNatClampNeg)), (gs_r 13 s0)] d) := gs_gx 4 (fun _ => rfl)
theorem k_Q_copyFrom_22 (a0 : Nat) (a1 : Nat) (a2 : Int32) (s0 : Nat) (s1 : Nat) (d : gs_D) : gs_g Y0 P_Q_copyFrom 22 [some (gs_r 4 a0), some (gs_r 4 a1), some (gs_i a2)] [(gs_r 13 s1), (gs_r 13 s0)] d = gs_af (f_I_copyFrom [(gs_r 13 s0), (gs_r 13 s1)] d) [] (fun s9 d9 => gs_g Y0 P_Q_copyFrom 25 [some (gs_r 4 a0), some (gs_r 4 a1), some (gs_i a2)] s9 d9) := gs_gc 1 (fun _ => rfl)
theorem k_Q_copyFrom_25 (a0 : Nat) (a1 : Nat) (a2 : Int32) (d : gs_D) : gs_g Y0 P_Q_copyFrom 25 [some (gs_r 4 a0), some (gs_r 4 a1), some (gs_i a2)] [] d = gs_g Y0 P_Q_copyFrom 2 [some (gs_r 4 a0), some (gs_r 4 a1), some (gs_i (a2 + gs_n 1))] [] d := gs_gs 1 (fun _ => rfl)
theorem k_Q_copyFrom_31 (a0 : Nat) (a1 : Nat) (a2 : Int32) (d : gs_D) : gs_g Y0 P_Q_copyFrom 31 [some (gs_r 4 a0), some (gs_r 4 a1), some (gs_i a2)] [] d = gs_af (f_S_arraycopy [(gs_r 12 a1), (gs_i (gs_n 0)), (gs_r 12 a0), (gs_i (gs_n 0)), (gs_i (Int8.ofInt 10).toInt32)] d) [] (fun s9 d9 => gs_g Y0 P_Q_copyFrom 46 [some (gs_r 4 a0), some (gs_r 4 a1), some (gs_i a2)] s9 d9) := gs_gc 8 (fun _ => rfl)
theorem k_Q_copyFrom_46 (a0 : Nat) (a1 : Nat) (a2 : Int32) (d : gs_D) : gs_g Y0 P_Q_copyFrom 46 [some (gs_r 4 a0), some (gs_r 4 a1), some (gs_i a2)] [] d = some (none, (gs_wI (gs_wI d 4 a0 1 (d.1 4 a1 1)) 4 a0 3 ((gs_wI d 4 a0 1 (d.1 4 a1 1)).1 4 a1 3))) := gs_an 9 (fun _ => rfl)
def I_B_copyFrom : List (Nat × Jvm.ClassFile.Instr × Nat) := [(0, .aload_n 0, 0), (1, .aload_n 1, 0), (2, .getfield 9, 0), (5, .putfield 9, 0), (8, .aload_n 0, 0), (9, .getfield 18, 0), (12, .aload_n 1, 0), (13, .getfield 18, 0), (16, .invokevirtual 29, 0), (19, .aload_n 0, 0), (20, .getfield 25, 0), (23, .aload_n 1, 0), (24, .getfield 25, 0), (27, .invokevirtual 33, 0), (30, .return_, 0)]
def F_B_copyFrom : List (Nat × Nat × Nat) := [(9, 1, 0), (18, 1, 1), (25, 1, 2)]
def K_B_copyFrom : List (Nat × gs_V) := []
noncomputable def C_B_copyFrom : List (Nat × Nat × Nat × gs_F) := [(29, 1, 2, f_A_copyFrom), (33, 1, 3, f_Q_copyFrom)]
noncomputable def P_B_copyFrom : gs_P := (gs_lk I_B_copyFrom, gs_lk F_B_copyFrom, gs_lk K_B_copyFrom, gs_lk C_B_copyFrom)
noncomputable def f_B_copyFrom : gs_F := gs_f Y0 2 0 P_B_copyFrom
theorem e_B_copyFrom (a0 : Nat) (a1 : Nat) (d : gs_D) : f_B_copyFrom [(gs_r 1 a0), (gs_r 1 a1)] d = gs_ck 0 (gs_g Y0 P_B_copyFrom 0 [some (gs_r 1 a0), some (gs_r 1 a1)] [] d) := rfl
theorem k_B_copyFrom_0 (a0 : Nat) (a1 : Nat) (d : gs_D) : gs_g Y0 P_B_copyFrom 0 [some (gs_r 1 a0), some (gs_r 1 a1)] [] d = gs_af (f_A_copyFrom [(gs_r 3 a0), (gs_r 3 a1)] (gs_wI d 1 a0 0 (d.1 1 a1 0))) [] (fun s9 d9 => gs_g Y0 P_B_copyFrom 19 [some (gs_r 1 a0), some (gs_r 1 a1)] s9 d9) := gs_gc 9 (fun _ => rfl)
theorem k_B_copyFrom_19 (a0 : Nat) (a1 : Nat) (d : gs_D) : gs_g Y0 P_B_copyFrom 19 [some (gs_r 1 a0), some (gs_r 1 a1)] [] d = gs_af (f_Q_copyFrom [(gs_r 4 a0), (gs_r 4 a1)] d) [] (fun s9 d9 => gs_g Y0 P_B_copyFrom 30 [some (gs_r 1 a0), some (gs_r 1 a1)] s9 d9) := gs_gc 5 (fun _ => rfl)
theorem k_B_copyFrom_30 (a0 : Nat) (a1 : Nat) (d : gs_D) : gs_g Y0 P_B_copyFrom 30 [some (gs_r 1 a0), some (gs_r 1 a1)] [] d = some (none, d) := gs_an 1 (fun _ => rfl)
def I_G_sync : List (Nat × Jvm.ClassFile.Instr × Nat) := [(0, .aload_n 0, 0), (1, .getfield 16, 0), (4, .aload_n 0, 0), (5, .getfield 12, 0), (8, .invokevirtual 127, 0), (11, .return_, 0)]
def F_G_sync : List (Nat × Nat × Nat) := [(16, 0, 1), (12, 0, 0)]
def K_G_sync : List (Nat × gs_V) := []
noncomputable def C_G_sync : List (Nat × Nat × Nat × gs_F) := [(127, 1, 1, f_B_copyFrom)]
noncomputable def P_G_sync : gs_P := (gs_lk I_G_sync, gs_lk F_G_sync, gs_lk K_G_sync, gs_lk C_G_sync)
noncomputable def f_G_sync : gs_F := gs_f Y0 1 0 P_G_sync
theorem e_G_sync (a0 : Nat) (d : gs_D) : f_G_sync [(gs_r 0 a0)] d = gs_ck 0 (gs_g Y0 P_G_sync 0 [some (gs_r 0 a0)] [] d) := rfl
theorem k_G_sync_0 (a0 : Nat) (d : gs_D) : gs_g Y0 P_G_sync 0 [some (gs_r 0 a0)] [] d = gs_af (f_B_copyFrom [(gs_r 1 1), (gs_r 1 0)] d) [] (fun s9 d9 => gs_g Y0 P_G_sync 11 [some (gs_r 0 a0)] s9 d9) := gs_gc 5 (fun _ => rfl)
theorem k_G_sync_11 (a0 : Nat) (d : gs_D) : gs_g Y0 P_G_sync 11 [some (gs_r 0 a0)] [] d = some (none, d) := gs_an 1 (fun _ => rfl)
def I_G_crash : List (Nat × Jvm.ClassFile.Instr × Nat) := [(0, .aload_n 0, 0), (1, .getfield 12, 0), (4, .aload_n 0, 0), (5, .getfield 16, 0), (8, .invokevirtual 127, 0), (11, .return_, 0)]
def F_G_crash : List (Nat × Nat × Nat) := [(12, 0, 0), (16, 0, 1)]
def K_G_crash : List (Nat × gs_V) := []
noncomputable def C_G_crash : List (Nat × Nat × Nat × gs_F) := [(127, 1, 1, f_B_copyFrom)]
noncomputable def P_G_crash : gs_P := (gs_lk I_G_crash, gs_lk F_G_crash, gs_lk K_G_crash, gs_lk C_G_crash)
noncomputable def f_G_crash : gs_F := gs_f Y0 1 0 P_G_crash
theorem e_G_crash (a0 : Nat) (d : gs_D) : f_G_crash [(gs_r 0 a0)] d = gs_ck 0 (gs_g Y0 P_G_crash 0 [some (gs_r 0 a0)] [] d) := rfl
theorem k_G_crash_0 (a0 : Nat) (d : gs_D) : gs_g Y0 P_G_crash 0 [some (gs_r 0 a0)] [] d = gs_af (f_B_copyFrom [(gs_r 1 0), (gs_r 1 1)] d) [] (fun s9 d9 => gs_g Y0 P_G_crash 11 [some (gs_r 0 a0)] s9 d9) := gs_gc 5 (fun _ => rfl)
theorem k_G_crash_11 (a0 : Nat) (d : gs_D) : gs_g Y0 P_G_crash 11 [some (gs_r 0 a0)] [] d = some (none, d) := gs_an 1 (fun _ => rfl)
def I_G_position : List (Nat × Jvm.ClassFile.Instr × Nat) := [(0, .iload_n 1, 0), (1, .invokestatic 23, 0), (4, .ifCond .eq 19, 23), (7, .iload_n 2, 0), (8, .invokestatic 27, 0), (11, .ifCond .eq 12, 23), (14, .iload_n 3, 0), (15, .ifCond .lt 8, 23), (18, .iload_n 3, 0), (19, .iconst 1, 0), (20, .if_icmp .le 7, 27), (23, .ldc2_w 131, 0), (26, .lreturn, 0), (27, .iload_n 3, 0), (28, .ifCond .ne 16, 44), (31, .aload_n 0, 0), (32, .getfield 12, 0), (35, .getfield 37, 0), (38, .getfield 41, 0), (41, .goto 13, 54), (44, .aload_n 0, 0), (45, .getfield 12, 0), (48, .getfield 37, 0), (51, .getfield 133, 0), (54, .astore 4, 0), (56, .aload 4, 0), (58, .iload_n 1, 0), (59, .iload_n 2, 0), (60, .invokestatic 47, 0), (63, .laload, 0), (64, .lreturn, 0)]
def F_G_position : List (Nat × Nat × Nat) := [(12, 0, 0), (37, 1, 1), (41, 2, 0), (133, 2, 1)]
def K_G_position : List (Nat × gs_V) := [(131, gs_l (gs_m (-1)))]
noncomputable def C_G_position : List (Nat × Nat × Nat × gs_F) := [(23, 1, 1000, f_G_isParticipant), (27, 1, 1000, f_G_isAsset), (47, 2, 1000, f_G_holding)]
noncomputable def P_G_position : gs_P := (gs_lk I_G_position, gs_lk F_G_position, gs_lk K_G_position, gs_lk C_G_position)
noncomputable def f_G_position : gs_F := gs_f Y0 5 3 P_G_position
theorem e_G_position (a0 : Nat) (a1 : Int32) (a2 : Int32) (a3 : Int32) (d : gs_D) : f_G_position [(gs_r 0 a0), (gs_i a1), (gs_i a2), (gs_i a3)] d = gs_ck 3 (gs_g Y0 P_G_position 0 [some (gs_r 0 a0), some (gs_i a1), some (gs_i a2), some (gs_i a3), none] [] d) := rfl
theorem k_G_position_0 (a0 : Nat) (a1 : Int32) (a2 : Int32) (a3 : Int32) (d : gs_D) : gs_g Y0 P_G_position 0 [some (gs_r 0 a0), some (gs_i a1), some (gs_i a2), some (gs_i a3), none] [] d = gs_af (f_G_isParticipant [(gs_i a1)] d) [] (fun s9 d9 => gs_g Y0 P_G_position 4 [some (gs_r 0 a0), some (gs_i a1), some (gs_i a2), some (gs_i a3), none] s9 d9) := gs_gc 2 (fun _ => rfl)
theorem k_G_position_4 (a0 : Nat) (a1 : Int32) (a2 : Int32) (a3 : Int32) (s0 : Int32) (d : gs_D) : gs_g Y0 P_G_position 4 [some (gs_r 0 a0), some (gs_i a1), some (gs_i a2), some (gs_i a3), none] [(gs_i s0)] d = if s0 = 0 then gs_g Y0 P_G_position 23 [some (gs_r 0 a0), some (gs_i a1), some (gs_i a2), some (gs_i a3), none] [] d else gs_g Y0 P_G_position 7 [some (gs_r 0 a0), some (gs_i a1), some (gs_i a2), some (gs_i a3), none] [] d := gs_if 1 (fun _ => rfl)
theorem k_G_position_7 (a0 : Nat) (a1 : Int32) (a2 : Int32) (a3 : Int32) (d : gs_D) : gs_g Y0 P_G_position 7 [some (gs_r 0 a0), some (gs_i a1), some (gs_i a2), some (gs_i a3), none] [] d = gs_af (f_G_isAsset [(gs_i a2)] d) [] (fun s9 d9 => gs_g Y0 P_G_position 11 [some (gs_r 0 a0), some (gs_i a1), some (gs_i a2), some (gs_i a3), none] s9 d9) := gs_gc 2 (fun _ => rfl)
theorem k_G_position_11 (a0 : Nat) (a1 : Int32) (a2 : Int32) (a3 : Int32) (s0 : Int32) (d : gs_D) : gs_g Y0 P_G_position 11 [some (gs_r 0 a0), some (gs_i a1), some (gs_i a2), some (gs_i a3), none] [(gs_i s0)] d = if s0 = 0 then gs_g Y0 P_G_position 23 [some (gs_r 0 a0), some (gs_i a1), some (gs_i a2), some (gs_i a3), none] [] d else gs_g Y0 P_G_position 14 [some (gs_r 0 a0), some (gs_i a1), some (gs_i a2), some (gs_i a3), none] [] d := gs_if 1 (fun _ => rfl)
theorem k_G_position_14 (a0 : Nat) (a1 : Int32) (a2 : Int32) (a3 : Int32) (d : gs_D) : gs_g Y0 P_G_position 14 [some (gs_r 0 a0), some (gs_i a1), some (gs_i a2), some (gs_i a3), none] [] d = if a3 < 0 then gs_g Y0 P_G_position 23 [some (gs_r 0 a0), some (gs_i a1), some (gs_i a2), some (gs_i a3), none] [] d else gs_g Y0 P_G_position 18 [some (gs_r 0 a0), some (gs_i a1), some (gs_i a2), some (gs_i a3), none] [] d := gs_if 2 (fun _ => rfl)
theorem k_G_position_18 (a0 : Nat) (a1 : Int32) (a2 : Int32) (a3 : Int32) (d : gs_D) : gs_g Y0 P_G_position 18 [some (gs_r 0 a0), some (gs_i a1), some (gs_i a2), some (gs_i a3), none] [] d = if a3 ≤ (gs_n 1) then gs_g Y0 P_G_position 27 [some (gs_r 0 a0), some (gs_i a1), some (gs_i a2), some (gs_i a3), none] [] d else gs_g Y0 P_G_position 23 [some (gs_r 0 a0), some (gs_i a1), some (gs_i a2), some (gs_i a3), none] [] d := gs_if 3 (fun _ => rfl)
theorem k_G_position_23 (a0 : Nat) (a1 : Int32) (a2 : Int32) (a3 : Int32) (d : gs_D) : gs_g Y0 P_G_position 23 [some (gs_r 0 a0), some (gs_i a1), some (gs_i a2), some (gs_i a3), none] [] d = some (some (gs_l (gs_m (-1))), d) := gs_an 2 (fun _ => rfl)
theorem k_G_position_27 (a0 : Nat) (a1 : Int32) (a2 : Int32) (a3 : Int32) (d : gs_D) : gs_g Y0 P_G_position 27 [some (gs_r 0 a0), some (gs_i a1), some (gs_i a2), some (gs_i a3), none] [] d = if ¬ a3 = 0 then gs_g Y0 P_G_position 44 [some (gs_r 0 a0), some (gs_i a1), some (gs_i a2), some (gs_i a3), none] [] d else gs_g Y0 P_G_position 31 [some (gs_r 0 a0), some (gs_i a1), some (gs_i a2), some (gs_i a3), none] [] d := gs_if 2 (fun _ => rfl)
theorem k_G_position_31 (a0 : Nat) (a1 : Int32) (a2 : Int32) (a3 : Int32) (d : gs_D) : gs_g Y0 P_G_position 31 [some (gs_r 0 a0), some (gs_i a1), some (gs_i a2), some (gs_i a3), none] [] d = gs_af (f_G_holding [(gs_i a1), (gs_i a2)] d) [(gs_r 5 0)] (fun s9 d9 => gs_g Y0 P_G_position 63 [some (gs_r 0 a0), some (gs_i a1), some (gs_i a2), some (gs_i a3), some (gs_r 5 0)] s9 d9) := gs_gc 10 (fun _ => rfl)
theorem k_G_position_44 (a0 : Nat) (a1 : Int32) (a2 : Int32) (a3 : Int32) (d : gs_D) : gs_g Y0 P_G_position 44 [some (gs_r 0 a0), some (gs_i a1), some (gs_i a2), some (gs_i a3), none] [] d = gs_af (f_G_holding [(gs_i a1), (gs_i a2)] d) [(gs_r 6 0)] (fun s9 d9 => gs_g Y0 P_G_position 63 [some (gs_r 0 a0), some (gs_i a1), some (gs_i a2), some (gs_i a3), some (gs_r 6 0)] s9 d9) := gs_gc 9 (fun _ => rfl)
theorem k_G_position_63a (a0 : Nat) (a1 : Int32) (a2 : Int32) (a3 : Int32) (a4 : Nat) (s0 : Nat) (s1 : Int32) (d : gs_D) : gs_g Y0 P_G_position 63 [some (gs_r 0 a0), some (gs_i a1), some (gs_i a2), some (gs_i a3), some (gs_r 5 a4)] [(gs_i s1), (gs_r 5 s0)] d = gs_ix s1 18 (gs_g Y0 P_G_position 64 [some (gs_r 0 a0), some (gs_i a1), some (gs_i a2), some (gs_i a3), some (gs_r 5 a4)] [(gs_l (d.2 5 s0 s1.toNatClampNeg))] d) := gs_gx 1 (fun _ => rfl)
theorem k_G_position_63b (a0 : Nat) (a1 : Int32) (a2 : Int32) (a3 : Int32) (a4 : Nat) (s0 : Nat) (s1 : Int32) (d : gs_D) : gs_g Y0 P_G_position 63 [some (gs_r 0 a0), some (gs_i a1), some (gs_i a2), some (gs_i a3), some (gs_r 6 a4)] [(gs_i s1), (gs_r 6 s0)] d = gs_ix s1 18 (gs_g Y0 P_G_position 64 [some (gs_r 0 a0), some (gs_i a1), some (gs_i a2), some (gs_i a3), some (gs_r 6 a4)] [(gs_l (d.2 6 s0 s1.toNatClampNeg))] d) := gs_gx 1 (fun _ => rfl)
theorem k_G_position_64a (a0 : Nat) (a1 : Int32) (a2 : Int32) (a3 : Int32) (a4 : Nat) (s0 : Int64) (d : gs_D) : gs_g Y0 P_G_position 64 [some (gs_r 0 a0), some (gs_i a1), some (gs_i a2), some (gs_i a3), some (gs_r 5 a4)] [(gs_l s0)] d = some (some (gs_l s0), d) := gs_an 1 (fun _ => rfl)
theorem k_G_position_64b (a0 : Nat) (a1 : Int32) (a2 : Int32) (a3 : Int32) (a4 : Nat) (s0 : Int64) (d : gs_D) : gs_g Y0 P_G_position 64 [some (gs_r 0 a0), some (gs_i a1), some (gs_i a2), some (gs_i a3), some (gs_r 6 a4)] [(gs_l s0)] d = some (some (gs_l s0), d) := gs_an 1 (fun _ => rfl)
def I_G_line : List (Nat × Jvm.ClassFile.Instr × Nat) := [(0, .iload_n 1, 0), (1, .invokestatic 23, 0), (4, .ifCond .eq 17, 21), (7, .aload_n 0, 0), (8, .getfield 12, 0), (11, .getfield 37, 0), (14, .iload_n 1, 0), (15, .invokevirtual 136, 0), (18, .goto 6, 24), (21, .ldc2_w 131, 0), (24, .lreturn, 0)]
def F_G_line : List (Nat × Nat × Nat) := [(12, 0, 0), (37, 1, 1)]
def K_G_line : List (Nat × gs_V) := [(131, gs_l (gs_m (-1)))]
noncomputable def C_G_line : List (Nat × Nat × Nat × gs_F) := [(23, 1, 1000, f_G_isParticipant), (136, 1, 2, f_A_creditOf)]
noncomputable def P_G_line : gs_P := (gs_lk I_G_line, gs_lk F_G_line, gs_lk K_G_line, gs_lk C_G_line)
noncomputable def f_G_line : gs_F := gs_f Y0 2 3 P_G_line
theorem e_G_line (a0 : Nat) (a1 : Int32) (d : gs_D) : f_G_line [(gs_r 0 a0), (gs_i a1)] d = gs_ck 3 (gs_g Y0 P_G_line 0 [some (gs_r 0 a0), some (gs_i a1)] [] d) := rfl
theorem k_G_line_0 (a0 : Nat) (a1 : Int32) (d : gs_D) : gs_g Y0 P_G_line 0 [some (gs_r 0 a0), some (gs_i a1)] [] d = gs_af (f_G_isParticipant [(gs_i a1)] d) [] (fun s9 d9 => gs_g Y0 P_G_line 4 [some (gs_r 0 a0), some (gs_i a1)] s9 d9) := gs_gc 2 (fun _ => rfl)
theorem k_G_line_4 (a0 : Nat) (a1 : Int32) (s0 : Int32) (d : gs_D) : gs_g Y0 P_G_line 4 [some (gs_r 0 a0), some (gs_i a1)] [(gs_i s0)] d = if s0 = 0 then gs_g Y0 P_G_line 21 [some (gs_r 0 a0), some (gs_i a1)] [] d else gs_g Y0 P_G_line 7 [some (gs_r 0 a0), some (gs_i a1)] [] d := gs_if 1 (fun _ => rfl)
theorem k_G_line_7 (a0 : Nat) (a1 : Int32) (d : gs_D) : gs_g Y0 P_G_line 7 [some (gs_r 0 a0), some (gs_i a1)] [] d = gs_af (f_A_creditOf [(gs_r 3 0), (gs_i a1)] d) [] (fun s9 d9 => gs_g Y0 P_G_line 18 [some (gs_r 0 a0), some (gs_i a1)] s9 d9) := gs_gc 5 (fun _ => rfl)
theorem k_G_line_18 (a0 : Nat) (a1 : Int32) (s0 : Int64) (d : gs_D) : gs_g Y0 P_G_line 18 [some (gs_r 0 a0), some (gs_i a1)] [(gs_l s0)] d = some (some (gs_l s0), d) := gs_an 2 (fun _ => rfl)
theorem k_G_line_21 (a0 : Nat) (a1 : Int32) (d : gs_D) : gs_g Y0 P_G_line 21 [some (gs_r 0 a0), some (gs_i a1)] [] d = some (some (gs_l (gs_m (-1))), d) := gs_an 2 (fun _ => rfl)
def I_G_net : List (Nat × Jvm.ClassFile.Instr × Nat) := [(0, .iload_n 1, 0), (1, .iload_n 2, 0), (2, .invokestatic 69, 0), (5, .ifCond .eq 22, 27), (8, .aload_n 0, 0), (9, .getfield 12, 0), (12, .getfield 37, 0), (15, .getfield 74, 0), (18, .iload_n 1, 0), (19, .iload_n 2, 0), (20, .invokestatic 77, 0), (23, .laload, 0), (24, .goto 4, 28), (27, .lconst 0, 0), (28, .lreturn, 0)]
def F_G_net : List (Nat × Nat × Nat) := [(12, 0, 0), (37, 1, 1), (74, 2, 5)]
def K_G_net : List (Nat × gs_V) := []
noncomputable def C_G_net : List (Nat × Nat × Nat × gs_F) := [(69, 2, 1000, f_G_areTwo), (77, 2, 1000, f_G_pair)]
noncomputable def P_G_net : gs_P := (gs_lk I_G_net, gs_lk F_G_net, gs_lk K_G_net, gs_lk C_G_net)
noncomputable def f_G_net : gs_F := gs_f Y0 3 3 P_G_net
theorem e_G_net (a0 : Nat) (a1 : Int32) (a2 : Int32) (d : gs_D) : f_G_net [(gs_r 0 a0), (gs_i a1), (gs_i a2)] d = gs_ck 3 (gs_g Y0 P_G_net 0 [some (gs_r 0 a0), some (gs_i a1), some (gs_i a2)] [] d) := rfl
theorem k_G_net_0 (a0 : Nat) (a1 : Int32) (a2 : Int32) (d : gs_D) : gs_g Y0 P_G_net 0 [some (gs_r 0 a0), some (gs_i a1), some (gs_i a2)] [] d = gs_af (f_G_areTwo [(gs_i a1), (gs_i a2)] d) [] (fun s9 d9 => gs_g Y0 P_G_net 5 [some (gs_r 0 a0), some (gs_i a1), some (gs_i a2)] s9 d9) := gs_gc 3 (fun _ => rfl)
theorem k_G_net_5 (a0 : Nat) (a1 : Int32) (a2 : Int32) (s0 : Int32) (d : gs_D) : gs_g Y0 P_G_net 5 [some (gs_r 0 a0), some (gs_i a1), some (gs_i a2)] [(gs_i s0)] d = if s0 = 0 then gs_g Y0 P_G_net 27 [some (gs_r 0 a0), some (gs_i a1), some (gs_i a2)] [] d else gs_g Y0 P_G_net 8 [some (gs_r 0 a0), some (gs_i a1), some (gs_i a2)] [] d := gs_if 1 (fun _ => rfl)
theorem k_G_net_8 (a0 : Nat) (a1 : Int32) (a2 : Int32) (d : gs_D) : gs_g Y0 P_G_net 8 [some (gs_r 0 a0), some (gs_i a1), some (gs_i a2)] [] d = gs_af (f_G_pair [(gs_i a1), (gs_i a2)] d) [(gs_r 10 0)] (fun s9 d9 => gs_g Y0 P_G_net 23 [some (gs_r 0 a0), some (gs_i a1), some (gs_i a2)] s9 d9) := gs_gc 7 (fun _ => rfl)
theorem k_G_net_23 (a0 : Nat) (a1 : Int32) (a2 : Int32) (s0 : Nat) (s1 : Int32) (d : gs_D) : gs_g Y0 P_G_net 23 [some (gs_r 0 a0), some (gs_i a1), some (gs_i a2)] [(gs_i s1), (gs_r 10 s0)] d = gs_ix s1 36 (gs_g Y0 P_G_net 24 [some (gs_r 0 a0), some (gs_i a1), some (gs_i a2)] [(gs_l (d.2 10 s0 s1.toNatClampNeg))] d) := gs_gx 1 (fun _ => rfl)
theorem k_G_net_24 (a0 : Nat) (a1 : Int32) (a2 : Int32) (s0 : Int64) (d : gs_D) : gs_g Y0 P_G_net 24 [some (gs_r 0 a0), some (gs_i a1), some (gs_i a2)] [(gs_l s0)] d = some (some (gs_l s0), d) := gs_an 2 (fun _ => rfl)
theorem k_G_net_27 (a0 : Nat) (a1 : Int32) (a2 : Int32) (d : gs_D) : gs_g Y0 P_G_net 27 [some (gs_r 0 a0), some (gs_i a1), some (gs_i a2)] [] d = some (some (gs_l gs_k0), d) := gs_an 2 (fun _ => rfl)
def I_Q_isNumber : List (Nat × Jvm.ClassFile.Instr × Nat) := [(0, .iload_n 1, 0), (1, .ifCond .lt 15, 16), (4, .iload_n 1, 0), (5, .aload_n 0, 0), (6, .getfield 17, 0), (9, .if_icmp .ge 7, 16), (12, .iconst 1, 0), (13, .goto 4, 17), (16, .iconst 0, 0), (17, .ireturn, 0)]
def F_Q_isNumber : List (Nat × Nat × Nat) := [(17, 3, 1)]
def K_Q_isNumber : List (Nat × gs_V) := []
noncomputable def C_Q_isNumber : List (Nat × Nat × Nat × gs_F) := []
noncomputable def P_Q_isNumber : gs_P := (gs_lk I_Q_isNumber, gs_lk F_Q_isNumber, gs_lk K_Q_isNumber, gs_lk C_Q_isNumber)
noncomputable def f_Q_isNumber : gs_F := gs_f Y0 2 2 P_Q_isNumber
theorem e_Q_isNumber (a0 : Nat) (a1 : Int32) (d : gs_D) : f_Q_isNumber [(gs_r 4 a0), (gs_i a1)] d = gs_ck 2 (gs_g Y0 P_Q_isNumber 0 [some (gs_r 4 a0), some (gs_i a1)] [] d) := rfl
theorem k_Q_isNumber_0 (a0 : Nat) (a1 : Int32) (d : gs_D) : gs_g Y0 P_Q_isNumber 0 [some (gs_r 4 a0), some (gs_i a1)] [] d = if a1 < 0 then gs_g Y0 P_Q_isNumber 16 [some (gs_r 4 a0), some (gs_i a1)] [] d else gs_g Y0 P_Q_isNumber 4 [some (gs_r 4 a0), some (gs_i a1)] [] d := gs_if 2 (fun _ => rfl)
theorem k_Q_isNumber_4 (a0 : Nat) (a1 : Int32) (d : gs_D) : gs_g Y0 P_Q_isNumber 4 [some (gs_r 4 a0), some (gs_i a1)] [] d = if (d.1 4 a0 1) ≤ a1 then gs_g Y0 P_Q_isNumber 16 [some (gs_r 4 a0), some (gs_i a1)] [] d else gs_g Y0 P_Q_isNumber 12 [some (gs_r 4 a0), some (gs_i a1)] [] d := gs_if 4 (fun _ => rfl)
theorem k_Q_isNumber_12 (a0 : Nat) (a1 : Int32) (d : gs_D) : gs_g Y0 P_Q_isNumber 12 [some (gs_r 4 a0), some (gs_i a1)] [] d = some (some (gs_i (gs_n 1)), d) := gs_an 3 (fun _ => rfl)
theorem k_Q_isNumber_16 (a0 : Nat) (a1 : Int32) (d : gs_D) : gs_g Y0 P_Q_isNumber 16 [some (gs_r 4 a0), some (gs_i a1)] [] d = some (some (gs_i (gs_n 0)), d) := gs_an 2 (fun _ => rfl)
def I_G_status : List (Nat × Jvm.ClassFile.Instr × Nat) := [(0, .aload_n 0, 0), (1, .getfield 12, 0), (4, .getfield 91, 0), (7, .iload_n 1, 0), (8, .invokevirtual 140, 0), (11, .ifCond .eq 21, 32), (14, .aload_n 0, 0), (15, .getfield 12, 0), (18, .getfield 91, 0), (21, .getfield 143, 0), (24, .iload_n 1, 0), (25, .aaload, 0), (26, .getfield 147, 0), (29, .goto 4, 33), (32, .iconst (-1), 0), (33, .ireturn, 0)]
def F_G_status : List (Nat × Nat × Nat) := [(12, 0, 0), (91, 1, 2), (143, 3, 0), (147, 4, 6)]
def K_G_status : List (Nat × gs_V) := []
noncomputable def C_G_status : List (Nat × Nat × Nat × gs_F) := [(140, 1, 3, f_Q_isNumber)]
noncomputable def P_G_status : gs_P := (gs_lk I_G_status, gs_lk F_G_status, gs_lk K_G_status, gs_lk C_G_status)
noncomputable def f_G_status : gs_F := gs_f Y0 2 1 P_G_status
theorem e_G_status (a0 : Nat) (a1 : Int32) (d : gs_D) : f_G_status [(gs_r 0 a0), (gs_i a1)] d = gs_ck 1 (gs_g Y0 P_G_status 0 [some (gs_r 0 a0), some (gs_i a1)] [] d) := rfl
theorem k_G_status_0 (a0 : Nat) (a1 : Int32) (d : gs_D) : gs_g Y0 P_G_status 0 [some (gs_r 0 a0), some (gs_i a1)] [] d = gs_af (f_Q_isNumber [(gs_r 4 0), (gs_i a1)] d) [] (fun s9 d9 => gs_g Y0 P_G_status 11 [some (gs_r 0 a0), some (gs_i a1)] s9 d9) := gs_gc 5 (fun _ => rfl)
theorem k_G_status_11 (a0 : Nat) (a1 : Int32) (s0 : Int32) (d : gs_D) : gs_g Y0 P_G_status 11 [some (gs_r 0 a0), some (gs_i a1)] [(gs_i s0)] d = if s0 = 0 then gs_g Y0 P_G_status 32 [some (gs_r 0 a0), some (gs_i a1)] [] d else gs_g Y0 P_G_status 14 [some (gs_r 0 a0), some (gs_i a1)] [] d := gs_if 1 (fun _ => rfl)
theorem k_G_status_14 (a0 : Nat) (a1 : Int32) (d : gs_D) : gs_g Y0 P_G_status 14 [some (gs_r 0 a0), some (gs_i a1)] [] d = gs_ix a1 40 (gs_g Y0 P_G_status 26 [some (gs_r 0 a0), some (gs_i a1)] [(gs_r 13 (gs_ii 0 a1.toNatClampNeg))] d) := gs_gx 6 (fun _ => rfl)
theorem k_G_status_26 (a0 : Nat) (a1 : Int32) (s0 : Nat) (d : gs_D) : gs_g Y0 P_G_status 26 [some (gs_r 0 a0), some (gs_i a1)] [(gs_r 13 s0)] d = some (some (gs_i (d.1 13 s0 6)), d) := gs_an 3 (fun _ => rfl)
theorem k_G_status_32 (a0 : Nat) (a1 : Int32) (d : gs_D) : gs_g Y0 P_G_status 32 [some (gs_r 0 a0), some (gs_i a1)] [] d = some (some (gs_i (gs_n (-1))), d) := gs_an 2 (fun _ => rfl)
def I_Q_isPlace : List (Nat × Jvm.ClassFile.Instr × Nat) := [(0, .iload_n 1, 0), (1, .ifCond .lt 15, 16), (4, .iload_n 1, 0), (5, .aload_n 0, 0), (6, .getfield 25, 0), (9, .if_icmp .ge 7, 16), (12, .iconst 1, 0), (13, .goto 4, 17), (16, .iconst 0, 0), (17, .ireturn, 0)]
def F_Q_isPlace : List (Nat × Nat × Nat) := [(25, 3, 3)]
def K_Q_isPlace : List (Nat × gs_V) := []
noncomputable def C_Q_isPlace : List (Nat × Nat × Nat × gs_F) := []
noncomputable def P_Q_isPlace : gs_P := (gs_lk I_Q_isPlace, gs_lk F_Q_isPlace, gs_lk K_Q_isPlace, gs_lk C_Q_isPlace)
noncomputable def f_Q_isPlace : gs_F := gs_f Y0 2 2 P_Q_isPlace
theorem e_Q_isPlace (a0 : Nat) (a1 : Int32) (d : gs_D) : f_Q_isPlace [(gs_r 4 a0), (gs_i a1)] d = gs_ck 2 (gs_g Y0 P_Q_isPlace 0 [some (gs_r 4 a0), some (gs_i a1)] [] d) := rfl
theorem k_Q_isPlace_0 (a0 : Nat) (a1 : Int32) (d : gs_D) : gs_g Y0 P_Q_isPlace 0 [some (gs_r 4 a0), some (gs_i a1)] [] d = if a1 < 0 then gs_g Y0 P_Q_isPlace 16 [some (gs_r 4 a0), some (gs_i a1)] [] d else gs_g Y0 P_Q_isPlace 4 [some (gs_r 4 a0), some (gs_i a1)] [] d := gs_if 2 (fun _ => rfl)
theorem k_Q_isPlace_4 (a0 : Nat) (a1 : Int32) (d : gs_D) : gs_g Y0 P_Q_isPlace 4 [some (gs_r 4 a0), some (gs_i a1)] [] d = if (d.1 4 a0 3) ≤ a1 then gs_g Y0 P_Q_isPlace 16 [some (gs_r 4 a0), some (gs_i a1)] [] d else gs_g Y0 P_Q_isPlace 12 [some (gs_r 4 a0), some (gs_i a1)] [] d := gs_if 4 (fun _ => rfl)
theorem k_Q_isPlace_12 (a0 : Nat) (a1 : Int32) (d : gs_D) : gs_g Y0 P_Q_isPlace 12 [some (gs_r 4 a0), some (gs_i a1)] [] d = some (some (gs_i (gs_n 1)), d) := gs_an 3 (fun _ => rfl)
theorem k_Q_isPlace_16 (a0 : Nat) (a1 : Int32) (d : gs_D) : gs_g Y0 P_Q_isPlace 16 [some (gs_r 4 a0), some (gs_i a1)] [] d = some (some (gs_i (gs_n 0)), d) := gs_an 2 (fun _ => rfl)
def I_G_waiting : List (Nat × Jvm.ClassFile.Instr × Nat) := [(0, .aload_n 0, 0), (1, .getfield 12, 0), (4, .getfield 91, 0), (7, .iload_n 1, 0), (8, .invokevirtual 152, 0), (11, .ifCond .eq 18, 29), (14, .aload_n 0, 0), (15, .getfield 12, 0), (18, .getfield 91, 0), (21, .getfield 155, 0), (24, .iload_n 1, 0), (25, .iaload, 0), (26, .goto 4, 30), (29, .iconst (-1), 0), (30, .ireturn, 0)]
def F_G_waiting : List (Nat × Nat × Nat) := [(12, 0, 0), (91, 1, 2), (155, 3, 2)]
def K_G_waiting : List (Nat × gs_V) := []
noncomputable def C_G_waiting : List (Nat × Nat × Nat × gs_F) := [(152, 1, 3, f_Q_isPlace)]
noncomputable def P_G_waiting : gs_P := (gs_lk I_G_waiting, gs_lk F_G_waiting, gs_lk K_G_waiting, gs_lk C_G_waiting)
noncomputable def f_G_waiting : gs_F := gs_f Y0 2 1 P_G_waiting
theorem e_G_waiting (a0 : Nat) (a1 : Int32) (d : gs_D) : f_G_waiting [(gs_r 0 a0), (gs_i a1)] d = gs_ck 1 (gs_g Y0 P_G_waiting 0 [some (gs_r 0 a0), some (gs_i a1)] [] d) := rfl
theorem k_G_waiting_0 (a0 : Nat) (a1 : Int32) (d : gs_D) : gs_g Y0 P_G_waiting 0 [some (gs_r 0 a0), some (gs_i a1)] [] d = gs_af (f_Q_isPlace [(gs_r 4 0), (gs_i a1)] d) [] (fun s9 d9 => gs_g Y0 P_G_waiting 11 [some (gs_r 0 a0), some (gs_i a1)] s9 d9) := gs_gc 5 (fun _ => rfl)
theorem k_G_waiting_11 (a0 : Nat) (a1 : Int32) (s0 : Int32) (d : gs_D) : gs_g Y0 P_G_waiting 11 [some (gs_r 0 a0), some (gs_i a1)] [(gs_i s0)] d = if s0 = 0 then gs_g Y0 P_G_waiting 29 [some (gs_r 0 a0), some (gs_i a1)] [] d else gs_g Y0 P_G_waiting 14 [some (gs_r 0 a0), some (gs_i a1)] [] d := gs_if 1 (fun _ => rfl)
theorem k_G_waiting_14 (a0 : Nat) (a1 : Int32) (d : gs_D) : gs_g Y0 P_G_waiting 14 [some (gs_r 0 a0), some (gs_i a1)] [] d = gs_ix a1 10 (gs_g Y0 P_G_waiting 26 [some (gs_r 0 a0), some (gs_i a1)] [(gs_i (d.1 12 0 a1.toNatClampNeg))] d) := gs_gx 6 (fun _ => rfl)
theorem k_G_waiting_26 (a0 : Nat) (a1 : Int32) (s0 : Int32) (d : gs_D) : gs_g Y0 P_G_waiting 26 [some (gs_r 0 a0), some (gs_i a1)] [(gs_i s0)] d = some (some (gs_i s0), d) := gs_an 2 (fun _ => rfl)
theorem k_G_waiting_29 (a0 : Nat) (a1 : Int32) (d : gs_D) : gs_g Y0 P_G_waiting 29 [some (gs_r 0 a0), some (gs_i a1)] [] d = some (some (gs_i (gs_n (-1))), d) := gs_an 2 (fun _ => rfl)
def I_G_behind : List (Nat × Jvm.ClassFile.Instr × Nat) := [(0, .aload_n 0, 0), (1, .getfield 12, 0), (4, .getfield 91, 0), (7, .iload_n 1, 0), (8, .invokevirtual 152, 0), (11, .ifCond .eq 17, 28), (14, .aload_n 0, 0), (15, .getfield 12, 0), (18, .getfield 91, 0), (21, .iload_n 1, 0), (22, .invokevirtual 158, 0), (25, .goto 4, 29), (28, .iconst (-1), 0), (29, .ireturn, 0)]
def F_G_behind : List (Nat × Nat × Nat) := [(12, 0, 0), (91, 1, 2)]
def K_G_behind : List (Nat × gs_V) := []
noncomputable def C_G_behind : List (Nat × Nat × Nat × gs_F) := [(152, 1, 3, f_Q_isPlace), (158, 1, 3, f_Q_countAhead)]
noncomputable def P_G_behind : gs_P := (gs_lk I_G_behind, gs_lk F_G_behind, gs_lk K_G_behind, gs_lk C_G_behind)
noncomputable def f_G_behind : gs_F := gs_f Y0 2 1 P_G_behind
theorem e_G_behind (a0 : Nat) (a1 : Int32) (d : gs_D) : f_G_behind [(gs_r 0 a0), (gs_i a1)] d = gs_ck 1 (gs_g Y0 P_G_behind 0 [some (gs_r 0 a0), some (gs_i a1)] [] d) := rfl
theorem k_G_behind_0 (a0 : Nat) (a1 : Int32) (d : gs_D) : gs_g Y0 P_G_behind 0 [some (gs_r 0 a0), some (gs_i a1)] [] d = gs_af (f_Q_isPlace [(gs_r 4 0), (gs_i a1)] d) [] (fun s9 d9 => gs_g Y0 P_G_behind 11 [some (gs_r 0 a0), some (gs_i a1)] s9 d9) := gs_gc 5 (fun _ => rfl)
theorem k_G_behind_11 (a0 : Nat) (a1 : Int32) (s0 : Int32) (d : gs_D) : gs_g Y0 P_G_behind 11 [some (gs_r 0 a0), some (gs_i a1)] [(gs_i s0)] d = if s0 = 0 then gs_g Y0 P_G_behind 28 [some (gs_r 0 a0), some (gs_i a1)] [] d else gs_g Y0 P_G_behind 14 [some (gs_r 0 a0), some (gs_i a1)] [] d := gs_if 1 (fun _ => rfl)
theorem k_G_behind_14 (a0 : Nat) (a1 : Int32) (d : gs_D) : gs_g Y0 P_G_behind 14 [some (gs_r 0 a0), some (gs_i a1)] [] d = gs_af (f_Q_countAhead [(gs_r 4 0), (gs_i a1)] d) [] (fun s9 d9 => gs_g Y0 P_G_behind 25 [some (gs_r 0 a0), some (gs_i a1)] s9 d9) := gs_gc 5 (fun _ => rfl)
theorem k_G_behind_25 (a0 : Nat) (a1 : Int32) (s0 : Int32) (d : gs_D) : gs_g Y0 P_G_behind 25 [some (gs_r 0 a0), some (gs_i a1)] [(gs_i s0)] d = some (some (gs_i s0), d) := gs_an 2 (fun _ => rfl)
theorem k_G_behind_28 (a0 : Nat) (a1 : Int32) (d : gs_D) : gs_g Y0 P_G_behind 28 [some (gs_r 0 a0), some (gs_i a1)] [] d = some (some (gs_i (gs_n (-1))), d) := gs_an 2 (fun _ => rfl)
end
section
def I_M_within : List (Nat × Jvm.ClassFile.Instr × Nat) := [(0, .iload_n 0, 0), (1, .ifCond .lt 12, 13), (4, .iload_n 0, 0), (5, .iload_n 1, 0), (6, .if_icmp .ge 7, 13), (9, .iconst 1, 0), (10, .goto 4, 14), (13, .iconst 0, 0), (14, .ireturn, 0)]
def F_M_within : List (Nat × Nat × Nat) := []
def K_M_within : List (Nat × gs_V) := []
noncomputable def C_M_within : List (Nat × Nat × Nat × gs_F) := []
noncomputable def P_M_within : gs_P := (gs_lk I_M_within, gs_lk F_M_within, gs_lk K_M_within, gs_lk C_M_within)
noncomputable def f_M_within : gs_F := gs_f Y0 2 2 P_M_within
theorem e_M_within (a0 : Int32) (a1 : Int32) (d : gs_D) : f_M_within [(gs_i a0), (gs_i a1)] d = gs_ck 2 (gs_g Y0 P_M_within 0 [some (gs_i a0), some (gs_i a1)] [] d) := rfl
theorem k_M_within_0 (a0 : Int32) (a1 : Int32) (d : gs_D) : gs_g Y0 P_M_within 0 [some (gs_i a0), some (gs_i a1)] [] d = if a0 < 0 then gs_g Y0 P_M_within 13 [some (gs_i a0), some (gs_i a1)] [] d else gs_g Y0 P_M_within 4 [some (gs_i a0), some (gs_i a1)] [] d := gs_if 2 (fun _ => rfl)
theorem k_M_within_4 (a0 : Int32) (a1 : Int32) (d : gs_D) : gs_g Y0 P_M_within 4 [some (gs_i a0), some (gs_i a1)] [] d = if a1 ≤ a0 then gs_g Y0 P_M_within 13 [some (gs_i a0), some (gs_i a1)] [] d else gs_g Y0 P_M_within 9 [some (gs_i a0), some (gs_i a1)] [] d := gs_if 3 (fun _ => rfl)
theorem k_M_within_9 (a0 : Int32) (a1 : Int32) (d : gs_D) : gs_g Y0 P_M_within 9 [some (gs_i a0), some (gs_i a1)] [] d = some (some (gs_i (gs_n 1)), d) := gs_an 3 (fun _ => rfl)
theorem k_M_within_13 (a0 : Int32) (a1 : Int32) (d : gs_D) : gs_g Y0 P_M_within 13 [some (gs_i a0), some (gs_i a1)] [] d = some (some (gs_i (gs_n 0)), d) := gs_an 2 (fun _ => rfl)
def I_M_amountFits : List (Nat × Jvm.ClassFile.Instr × Nat) := [(0, .iload_n 0, 0), (1, .iconst 1, 0), (2, .if_icmp .lt 13, 15), (5, .iload_n 0, 0), (6, .ldc 28, 0), (8, .if_icmp .gt 7, 15), (11, .iconst 1, 0), (12, .goto 4, 16), (15, .iconst 0, 0), (16, .ireturn, 0)]
def F_M_amountFits : List (Nat × Nat × Nat) := []
def K_M_amountFits : List (Nat × gs_V) := [(28, gs_i (gs_n 1000000))]
noncomputable def C_M_amountFits : List (Nat × Nat × Nat × gs_F) := []
noncomputable def P_M_amountFits : gs_P := (gs_lk I_M_amountFits, gs_lk F_M_amountFits, gs_lk K_M_amountFits, gs_lk C_M_amountFits)
noncomputable def f_M_amountFits : gs_F := gs_f Y0 1 2 P_M_amountFits
theorem e_M_amountFits (a0 : Int32) (d : gs_D) : f_M_amountFits [(gs_i a0)] d = gs_ck 2 (gs_g Y0 P_M_amountFits 0 [some (gs_i a0)] [] d) := rfl
theorem k_M_amountFits_0 (a0 : Int32) (d : gs_D) : gs_g Y0 P_M_amountFits 0 [some (gs_i a0)] [] d = if a0 < (gs_n 1) then gs_g Y0 P_M_amountFits 15 [some (gs_i a0)] [] d else gs_g Y0 P_M_amountFits 5 [some (gs_i a0)] [] d := gs_if 3 (fun _ => rfl)
theorem k_M_amountFits_5 (a0 : Int32) (d : gs_D) : gs_g Y0 P_M_amountFits 5 [some (gs_i a0)] [] d = if (gs_n 1000000) < a0 then gs_g Y0 P_M_amountFits 15 [some (gs_i a0)] [] d else gs_g Y0 P_M_amountFits 11 [some (gs_i a0)] [] d := gs_if 3 (fun _ => rfl)
theorem k_M_amountFits_11 (a0 : Int32) (d : gs_D) : gs_g Y0 P_M_amountFits 11 [some (gs_i a0)] [] d = some (some (gs_i (gs_n 1)), d) := gs_an 3 (fun _ => rfl)
theorem k_M_amountFits_15 (a0 : Int32) (d : gs_D) : gs_g Y0 P_M_amountFits 15 [some (gs_i a0)] [] d = some (some (gs_i (gs_n 0)), d) := gs_an 2 (fun _ => rfl)
def I_M_security : List (Nat × Jvm.ClassFile.Instr × Nat) := [(0, .iload_n 0, 0), (1, .iconst 1, 0), (2, .if_icmp .eq 8, 10), (5, .iload_n 0, 0), (6, .iconst 2, 0), (7, .if_icmp .ne 7, 14), (10, .iconst 1, 0), (11, .goto 4, 15), (14, .iconst 0, 0), (15, .ireturn, 0)]
def F_M_security : List (Nat × Nat × Nat) := []
def K_M_security : List (Nat × gs_V) := []
noncomputable def C_M_security : List (Nat × Nat × Nat × gs_F) := []
noncomputable def P_M_security : gs_P := (gs_lk I_M_security, gs_lk F_M_security, gs_lk K_M_security, gs_lk C_M_security)
noncomputable def f_M_security : gs_F := gs_f Y0 1 2 P_M_security
theorem e_M_security (a0 : Int32) (d : gs_D) : f_M_security [(gs_i a0)] d = gs_ck 2 (gs_g Y0 P_M_security 0 [some (gs_i a0)] [] d) := rfl
theorem k_M_security_0 (a0 : Int32) (d : gs_D) : gs_g Y0 P_M_security 0 [some (gs_i a0)] [] d = if a0 = (gs_n 1) then gs_g Y0 P_M_security 10 [some (gs_i a0)] [] d else gs_g Y0 P_M_security 5 [some (gs_i a0)] [] d := gs_if 3 (fun _ => rfl)
theorem k_M_security_5 (a0 : Int32) (d : gs_D) : gs_g Y0 P_M_security 5 [some (gs_i a0)] [] d = if ¬ a0 = (gs_n 2) then gs_g Y0 P_M_security 14 [some (gs_i a0)] [] d else gs_g Y0 P_M_security 10 [some (gs_i a0)] [] d := gs_if 3 (fun _ => rfl)
theorem k_M_security_10 (a0 : Int32) (d : gs_D) : gs_g Y0 P_M_security 10 [some (gs_i a0)] [] d = some (some (gs_i (gs_n 1)), d) := gs_an 3 (fun _ => rfl)
theorem k_M_security_14 (a0 : Int32) (d : gs_D) : gs_g Y0 P_M_security 14 [some (gs_i a0)] [] d = some (some (gs_i (gs_n 0)), d) := gs_an 2 (fun _ => rfl)
def I_M_pair : List (Nat × Jvm.ClassFile.Instr × Nat) := [(0, .iload_n 0, 0), (1, .bipush 6, 0), (3, .invokestatic 29, 0), (6, .ifCond .eq 21, 27), (9, .iload_n 1, 0), (10, .bipush 6, 0), (12, .invokestatic 29, 0), (15, .ifCond .eq 12, 27), (18, .iload_n 0, 0), (19, .iload_n 1, 0), (20, .if_icmp .eq 7, 27), (23, .iconst 1, 0), (24, .goto 4, 28), (27, .iconst 0, 0), (28, .ireturn, 0)]
def F_M_pair : List (Nat × Nat × Nat) := []
def K_M_pair : List (Nat × gs_V) := []
noncomputable def C_M_pair : List (Nat × Nat × Nat × gs_F) := [(29, 2, 1000, f_M_within)]
noncomputable def P_M_pair : gs_P := (gs_lk I_M_pair, gs_lk F_M_pair, gs_lk K_M_pair, gs_lk C_M_pair)
noncomputable def f_M_pair : gs_F := gs_f Y0 2 2 P_M_pair
theorem e_M_pair (a0 : Int32) (a1 : Int32) (d : gs_D) : f_M_pair [(gs_i a0), (gs_i a1)] d = gs_ck 2 (gs_g Y0 P_M_pair 0 [some (gs_i a0), some (gs_i a1)] [] d) := rfl
theorem k_M_pair_0 (a0 : Int32) (a1 : Int32) (d : gs_D) : gs_g Y0 P_M_pair 0 [some (gs_i a0), some (gs_i a1)] [] d = gs_af (f_M_within [(gs_i a0), (gs_i (Int8.ofInt 6).toInt32)] d) [] (fun s9 d9 => gs_g Y0 P_M_pair 6 [some (gs_i a0), some (gs_i a1)] s9 d9) := gs_gc 3 (fun _ => rfl)
theorem k_M_pair_6 (a0 : Int32) (a1 : Int32) (s0 : Int32) (d : gs_D) : gs_g Y0 P_M_pair 6 [some (gs_i a0), some (gs_i a1)] [(gs_i s0)] d = if s0 = 0 then gs_g Y0 P_M_pair 27 [some (gs_i a0), some (gs_i a1)] [] d else gs_g Y0 P_M_pair 9 [some (gs_i a0), some (gs_i a1)] [] d := gs_if 1 (fun _ => rfl)
theorem k_M_pair_9 (a0 : Int32) (a1 : Int32) (d : gs_D) : gs_g Y0 P_M_pair 9 [some (gs_i a0), some (gs_i a1)] [] d = gs_af (f_M_within [(gs_i a1), (gs_i (Int8.ofInt 6).toInt32)] d) [] (fun s9 d9 => gs_g Y0 P_M_pair 15 [some (gs_i a0), some (gs_i a1)] s9 d9) := gs_gc 3 (fun _ => rfl)
theorem k_M_pair_15 (a0 : Int32) (a1 : Int32) (s0 : Int32) (d : gs_D) : gs_g Y0 P_M_pair 15 [some (gs_i a0), some (gs_i a1)] [(gs_i s0)] d = if s0 = 0 then gs_g Y0 P_M_pair 27 [some (gs_i a0), some (gs_i a1)] [] d else gs_g Y0 P_M_pair 18 [some (gs_i a0), some (gs_i a1)] [] d := gs_if 1 (fun _ => rfl)
theorem k_M_pair_18 (a0 : Int32) (a1 : Int32) (d : gs_D) : gs_g Y0 P_M_pair 18 [some (gs_i a0), some (gs_i a1)] [] d = if a0 = a1 then gs_g Y0 P_M_pair 27 [some (gs_i a0), some (gs_i a1)] [] d else gs_g Y0 P_M_pair 23 [some (gs_i a0), some (gs_i a1)] [] d := gs_if 3 (fun _ => rfl)
theorem k_M_pair_23 (a0 : Int32) (a1 : Int32) (d : gs_D) : gs_g Y0 P_M_pair 23 [some (gs_i a0), some (gs_i a1)] [] d = some (some (gs_i (gs_n 1)), d) := gs_an 3 (fun _ => rfl)
theorem k_M_pair_27 (a0 : Int32) (a1 : Int32) (d : gs_D) : gs_g Y0 P_M_pair 27 [some (gs_i a0), some (gs_i a1)] [] d = some (some (gs_i (gs_n 0)), d) := gs_an 2 (fun _ => rfl)
def I_M_day : List (Nat × Jvm.ClassFile.Instr × Nat) := [(0, .aload_n 0, 0), (1, .getfield 7, 0), (4, .bipush 106, 0), (6, .laload, 0), (7, .l2i, 0), (8, .ireturn, 0)]
def F_M_day : List (Nat × Nat × Nat) := [(7, 5, 0)]
def K_M_day : List (Nat × gs_V) := []
noncomputable def C_M_day : List (Nat × Nat × Nat × gs_F) := []
noncomputable def P_M_day : gs_P := (gs_lk I_M_day, gs_lk F_M_day, gs_lk K_M_day, gs_lk C_M_day)
noncomputable def f_M_day : gs_F := gs_f Y0 1 1 P_M_day
theorem e_M_day (a0 : Nat) (d : gs_D) : f_M_day [(gs_r 20 a0)] d = gs_ck 1 (gs_g Y0 P_M_day 0 [some (gs_r 20 a0)] [] d) := rfl
theorem k_M_day_0 (a0 : Nat) (d : gs_D) : gs_g Y0 P_M_day 0 [some (gs_r 20 a0)] [] d = gs_ix (Int8.ofInt 106).toInt32 430 (gs_g Y0 P_M_day 7 [some (gs_r 20 a0)] [(gs_l (d.2 21 a0 (Int8.ofInt 106).toInt32.toNatClampNeg))] d) := gs_gx 4 (fun _ => rfl)
theorem k_M_day_7 (a0 : Nat) (s0 : Int64) (d : gs_D) : gs_g Y0 P_M_day 7 [some (gs_r 20 a0)] [(gs_l s0)] d = some (some (gs_i s0.toInt32), d) := gs_an 2 (fun _ => rfl)
def I_M_count : List (Nat × Jvm.ClassFile.Instr × Nat) := [(0, .aload_n 0, 0), (1, .getfield 7, 0), (4, .bipush 107, 0), (6, .laload, 0), (7, .l2i, 0), (8, .ireturn, 0)]
def F_M_count : List (Nat × Nat × Nat) := [(7, 5, 0)]
def K_M_count : List (Nat × gs_V) := []
noncomputable def C_M_count : List (Nat × Nat × Nat × gs_F) := []
noncomputable def P_M_count : gs_P := (gs_lk I_M_count, gs_lk F_M_count, gs_lk K_M_count, gs_lk C_M_count)
noncomputable def f_M_count : gs_F := gs_f Y0 1 1 P_M_count
theorem e_M_count (a0 : Nat) (d : gs_D) : f_M_count [(gs_r 20 a0)] d = gs_ck 1 (gs_g Y0 P_M_count 0 [some (gs_r 20 a0)] [] d) := rfl
theorem k_M_count_0 (a0 : Nat) (d : gs_D) : gs_g Y0 P_M_count 0 [some (gs_r 20 a0)] [] d = gs_ix (Int8.ofInt 107).toInt32 430 (gs_g Y0 P_M_count 7 [some (gs_r 20 a0)] [(gs_l (d.2 21 a0 (Int8.ofInt 107).toInt32.toNatClampNeg))] d) := gs_gx 4 (fun _ => rfl)
theorem k_M_count_7 (a0 : Nat) (s0 : Int64) (d : gs_D) : gs_g Y0 P_M_count 7 [some (gs_r 20 a0)] [(gs_l s0)] d = some (some (gs_i s0.toInt32), d) := gs_an 2 (fun _ => rfl)
def I_M_of : List (Nat × Jvm.ClassFile.Instr × Nat) := [(0, .aload_n 0, 0), (1, .getfield 7, 0), (4, .bipush 110, 0), (6, .bipush 8, 0), (8, .iload_n 1, 0), (9, .imul, 0), (10, .iadd, 0), (11, .iload_n 2, 0), (12, .iadd, 0), (13, .laload, 0), (14, .l2i, 0), (15, .ireturn, 0)]
def F_M_of : List (Nat × Nat × Nat) := [(7, 5, 0)]
def K_M_of : List (Nat × gs_V) := []
noncomputable def C_M_of : List (Nat × Nat × Nat × gs_F) := []
noncomputable def P_M_of : gs_P := (gs_lk I_M_of, gs_lk F_M_of, gs_lk K_M_of, gs_lk C_M_of)
noncomputable def f_M_of : gs_F := gs_f Y0 3 1 P_M_of
theorem e_M_of (a0 : Nat) (a1 : Int32) (a2 : Int32) (d : gs_D) : f_M_of [(gs_r 20 a0), (gs_i a1), (gs_i a2)] d = gs_ck 1 (gs_g Y0 P_M_of 0 [some (gs_r 20 a0), some (gs_i a1), some (gs_i a2)] [] d) := rfl
theorem k_M_of_0 (a0 : Nat) (a1 : Int32) (a2 : Int32) (d : gs_D) : gs_g Y0 P_M_of 0 [some (gs_r 20 a0), some (gs_i a1), some (gs_i a2)] [] d = gs_ix (((Int8.ofInt 110).toInt32 + ((Int8.ofInt 8).toInt32 * a1)) + a2) 430 (gs_g Y0 P_M_of 14 [some (gs_r 20 a0), some (gs_i a1), some (gs_i a2)] [(gs_l (d.2 21 a0 (((Int8.ofInt 110).toInt32 + ((Int8.ofInt 8).toInt32 * a1)) + a2).toNatClampNeg))] d) := gs_gx 10 (fun _ => rfl)
theorem k_M_of_14 (a0 : Nat) (a1 : Int32) (a2 : Int32) (s0 : Int64) (d : gs_D) : gs_g Y0 P_M_of 14 [some (gs_r 20 a0), some (gs_i a1), some (gs_i a2)] [(gs_l s0)] d = some (some (gs_i s0.toInt32), d) := gs_an 2 (fun _ => rfl)
def I_M_priority : List (Nat × Jvm.ClassFile.Instr × Nat) := [(0, .aload_n 0, 0), (1, .iload_n 1, 0), (2, .bipush 7, 0), (4, .invokevirtual 33, 0), (7, .iconst 4, 0), (8, .irem, 0), (9, .ireturn, 0)]
def F_M_priority : List (Nat × Nat × Nat) := []
def K_M_priority : List (Nat × gs_V) := []
noncomputable def C_M_priority : List (Nat × Nat × Nat × gs_F) := [(33, 2, 5, f_M_of)]
noncomputable def P_M_priority : gs_P := (gs_lk I_M_priority, gs_lk F_M_priority, gs_lk K_M_priority, gs_lk C_M_priority)
noncomputable def f_M_priority : gs_F := gs_f Y0 2 1 P_M_priority
theorem e_M_priority (a0 : Nat) (a1 : Int32) (d : gs_D) : f_M_priority [(gs_r 20 a0), (gs_i a1)] d = gs_ck 1 (gs_g Y0 P_M_priority 0 [some (gs_r 20 a0), some (gs_i a1)] [] d) := rfl
theorem k_M_priority_0 (a0 : Nat) (a1 : Int32) (d : gs_D) : gs_g Y0 P_M_priority 0 [some (gs_r 20 a0), some (gs_i a1)] [] d = gs_af (f_M_of [(gs_r 20 a0), (gs_i a1), (gs_i (Int8.ofInt 7).toInt32)] d) [] (fun s9 d9 => gs_g Y0 P_M_priority 7 [some (gs_r 20 a0), some (gs_i a1)] s9 d9) := gs_gc 4 (fun _ => rfl)
theorem k_M_priority_7 (a0 : Nat) (a1 : Int32) (s0 : Int32) (d : gs_D) : gs_g Y0 P_M_priority 7 [some (gs_r 20 a0), some (gs_i a1)] [(gs_i s0)] d = gs_nz (gs_n 4) (gs_g Y0 P_M_priority 9 [some (gs_r 20 a0), some (gs_i a1)] [(gs_i (s0 - s0 / (gs_n 4) * (gs_n 4)))] d) := gs_gz 2 (fun _ => rfl)
theorem k_M_priority_9 (a0 : Nat) (a1 : Int32) (s0 : Int32) (d : gs_D) : gs_g Y0 P_M_priority 9 [some (gs_r 20 a0), some (gs_i a1)] [(gs_i s0)] d = some (some (gs_i s0), d) := gs_an 1 (fun _ => rfl)
def I_M_fate : List (Nat × Jvm.ClassFile.Instr × Nat) := [(0, .aload_n 0, 0), (1, .iload_n 1, 0), (2, .bipush 7, 0), (4, .invokevirtual 33, 0), (7, .iconst 4, 0), (8, .idiv, 0), (9, .ireturn, 0)]
def F_M_fate : List (Nat × Nat × Nat) := []
def K_M_fate : List (Nat × gs_V) := []
noncomputable def C_M_fate : List (Nat × Nat × Nat × gs_F) := [(33, 2, 5, f_M_of)]
noncomputable def P_M_fate : gs_P := (gs_lk I_M_fate, gs_lk F_M_fate, gs_lk K_M_fate, gs_lk C_M_fate)
noncomputable def f_M_fate : gs_F := gs_f Y0 2 1 P_M_fate
theorem e_M_fate (a0 : Nat) (a1 : Int32) (d : gs_D) : f_M_fate [(gs_r 20 a0), (gs_i a1)] d = gs_ck 1 (gs_g Y0 P_M_fate 0 [some (gs_r 20 a0), some (gs_i a1)] [] d) := rfl
theorem k_M_fate_0 (a0 : Nat) (a1 : Int32) (d : gs_D) : gs_g Y0 P_M_fate 0 [some (gs_r 20 a0), some (gs_i a1)] [] d = gs_af (f_M_of [(gs_r 20 a0), (gs_i a1), (gs_i (Int8.ofInt 7).toInt32)] d) [] (fun s9 d9 => gs_g Y0 P_M_fate 7 [some (gs_r 20 a0), some (gs_i a1)] s9 d9) := gs_gc 4 (fun _ => rfl)
theorem k_M_fate_7 (a0 : Nat) (a1 : Int32) (s0 : Int32) (d : gs_D) : gs_g Y0 P_M_fate 7 [some (gs_r 20 a0), some (gs_i a1)] [(gs_i s0)] d = gs_nz (gs_n 4) (gs_g Y0 P_M_fate 9 [some (gs_r 20 a0), some (gs_i a1)] [(gs_i (s0 / (gs_n 4)))] d) := gs_gz 2 (fun _ => rfl)
theorem k_M_fate_9 (a0 : Nat) (a1 : Int32) (s0 : Int32) (d : gs_D) : gs_g Y0 P_M_fate 9 [some (gs_r 20 a0), some (gs_i a1)] [(gs_i s0)] d = some (some (gs_i s0), d) := gs_an 1 (fun _ => rfl)
def I_M_setFate : List (Nat × Jvm.ClassFile.Instr × Nat) := [(0, .aload_n 0, 0), (1, .getfield 7, 0), (4, .bipush 117, 0), (6, .bipush 8, 0), (8, .iload_n 1, 0), (9, .imul, 0), (10, .iadd, 0), (11, .aload_n 0, 0), (12, .iload_n 1, 0), (13, .invokevirtual 37, 0), (16, .iconst 4, 0), (17, .iload_n 2, 0), (18, .imul, 0), (19, .iadd, 0), (20, .i2l, 0), (21, .lastore, 0), (22, .return_, 0)]
def F_M_setFate : List (Nat × Nat × Nat) := [(7, 5, 0)]
def K_M_setFate : List (Nat × gs_V) := []
noncomputable def C_M_setFate : List (Nat × Nat × Nat × gs_F) := [(37, 1, 5, f_M_priority)]
noncomputable def P_M_setFate : gs_P := (gs_lk I_M_setFate, gs_lk F_M_setFate, gs_lk K_M_setFate, gs_lk C_M_setFate)
noncomputable def f_M_setFate : gs_F := gs_f Y0 3 0 P_M_setFate
theorem e_M_setFate (a0 : Nat) (a1 : Int32) (a2 : Int32) (d : gs_D) : f_M_setFate [(gs_r 20 a0), (gs_i a1), (gs_i a2)] d = gs_ck 0 (gs_g Y0 P_M_setFate 0 [some (gs_r 20 a0), some (gs_i a1), some (gs_i a2)] [] d) := rfl
theorem k_M_setFate_0 (a0 : Nat) (a1 : Int32) (a2 : Int32) (d : gs_D) : gs_g Y0 P_M_setFate 0 [some (gs_r 20 a0), some (gs_i a1), some (gs_i a2)] [] d = gs_af (f_M_priority [(gs_r 20 a0), (gs_i a1)] d) [(gs_i ((Int8.ofInt 117).toInt32 + ((Int8.ofInt 8).toInt32 * a1))), (gs_r 21 a0)] (fun s9 d9 => gs_g Y0 P_M_setFate 16 [some (gs_r 20 a0), some (gs_i a1), some (gs_i a2)] s9 d9) := gs_gc 10 (fun _ => rfl)
theorem k_M_setFate_16 (a0 : Nat) (a1 : Int32) (a2 : Int32) (s0 : Nat) (s1 : Int32) (s2 : Int32) (d : gs_D) : gs_g Y0 P_M_setFate 16 [some (gs_r 20 a0), some (gs_i a1), some (gs_i a2)] [(gs_i s2), (gs_i s1), (gs_r 21 s0)] d = gs_ix s1 430 (gs_g Y0 P_M_setFate 22 [some (gs_r 20 a0), some (gs_i a1), some (gs_i a2)] [] (gs_wL d 21 s0 s1.toNatClampNeg (s2 + ((gs_n 4) * a2)).toInt64)) := gs_gx 6 (fun _ => rfl)
theorem k_M_setFate_22 (a0 : Nat) (a1 : Int32) (a2 : Int32) (d : gs_D) : gs_g Y0 P_M_setFate 22 [some (gs_r 20 a0), some (gs_i a1), some (gs_i a2)] [] d = some (none, d) := gs_an 1 (fun _ => rfl)
def I_M_worth : List (Nat × Jvm.ClassFile.Instr × Nat) := [(0, .aload_n 0, 0), (1, .getfield 7, 0), (4, .bipush 18, 0), (6, .iconst 2, 0), (7, .iload_n 1, 0), (8, .imul, 0), (9, .iadd, 0), (10, .iload_n 2, 0), (11, .iadd, 0), (12, .laload, 0), (13, .aload_n 0, 0), (14, .getfield 7, 0), (17, .bipush 30, 0), (19, .iload_n 2, 0), (20, .iadd, 0), (21, .laload, 0), (22, .lmul, 0), (23, .ldc2_w 41, 0), (26, .aload_n 0, 0), (27, .getfield 7, 0), (30, .bipush 32, 0), (32, .iload_n 2, 0), (33, .iadd, 0), (34, .laload, 0), (35, .lsub, 0), (36, .lmul, 0), (37, .ldc2_w 41, 0), (40, .ldiv, 0), (41, .lreturn, 0)]
def F_M_worth : List (Nat × Nat × Nat) := [(7, 5, 0)]
def K_M_worth : List (Nat × gs_V) := [(41, gs_l (gs_m 100))]
noncomputable def C_M_worth : List (Nat × Nat × Nat × gs_F) := []
noncomputable def P_M_worth : gs_P := (gs_lk I_M_worth, gs_lk F_M_worth, gs_lk K_M_worth, gs_lk C_M_worth)
noncomputable def f_M_worth : gs_F := gs_f Y0 3 3 P_M_worth
theorem e_M_worth (a0 : Nat) (a1 : Int32) (a2 : Int32) (d : gs_D) : f_M_worth [(gs_r 20 a0), (gs_i a1), (gs_i a2)] d = gs_ck 3 (gs_g Y0 P_M_worth 0 [some (gs_r 20 a0), some (gs_i a1), some (gs_i a2)] [] d) := rfl
theorem k_M_worth_0 (a0 : Nat) (a1 : Int32) (a2 : Int32) (d : gs_D) : gs_g Y0 P_M_worth 0 [some (gs_r 20 a0), some (gs_i a1), some (gs_i a2)] [] d = gs_ix (((Int8.ofInt 18).toInt32 + ((gs_n 2) * a1)) + a2) 430 (gs_g Y0 P_M_worth 13 [some (gs_r 20 a0), some (gs_i a1), some (gs_i a2)] [(gs_l (d.2 21 a0 (((Int8.ofInt 18).toInt32 + ((gs_n 2) * a1)) + a2).toNatClampNeg))] d) := gs_gx 10 (fun _ => rfl)
theorem k_M_worth_13 (a0 : Nat) (a1 : Int32) (a2 : Int32) (s0 : Int64) (d : gs_D) : gs_g Y0 P_M_worth 13 [some (gs_r 20 a0), some (gs_i a1), some (gs_i a2)] [(gs_l s0)] d = gs_ix ((Int8.ofInt 30).toInt32 + a2) 430 (gs_g Y0 P_M_worth 22 [some (gs_r 20 a0), some (gs_i a1), some (gs_i a2)] [(gs_l (d.2 21 a0 ((Int8.ofInt 30).toInt32 + a2).toNatClampNeg)), (gs_l s0)] d) := gs_gx 6 (fun _ => rfl)
theorem k_M_worth_22 (a0 : Nat) (a1 : Int32) (a2 : Int32) (s0 : Int64) (s1 : Int64) (d : gs_D) : gs_g Y0 P_M_worth 22 [some (gs_r 20 a0), some (gs_i a1), some (gs_i a2)] [(gs_l s1), (gs_l s0)] d = gs_ix ((Int8.ofInt 32).toInt32 + a2) 430 (gs_g Y0 P_M_worth 35 [some (gs_r 20 a0), some (gs_i a1), some (gs_i a2)] [(gs_l (d.2 21 a0 ((Int8.ofInt 32).toInt32 + a2).toNatClampNeg)), (gs_l (gs_m 100)), (gs_l (s0 * s1))] d) := gs_gx 8 (fun _ => rfl)
theorem k_M_worth_35 (a0 : Nat) (a1 : Int32) (a2 : Int32) (s0 : Int64) (s1 : Int64) (s2 : Int64) (d : gs_D) : gs_g Y0 P_M_worth 35 [some (gs_r 20 a0), some (gs_i a1), some (gs_i a2)] [(gs_l s2), (gs_l s1), (gs_l s0)] d = gs_nzl (gs_m 100) (gs_g Y0 P_M_worth 41 [some (gs_r 20 a0), some (gs_i a1), some (gs_i a2)] [(gs_l ((s0 * (s1 - s2)) / (gs_m 100)))] d) := gs_gzl 4 (fun _ => rfl)
theorem k_M_worth_41 (a0 : Nat) (a1 : Int32) (a2 : Int32) (s0 : Int64) (d : gs_D) : gs_g Y0 P_M_worth 41 [some (gs_r 20 a0), some (gs_i a1), some (gs_i a2)] [(gs_l s0)] d = some (some (gs_l s0), d) := gs_an 1 (fun _ => rfl)
def I_M_lineOf : List (Nat × Jvm.ClassFile.Instr × Nat) := [(0, .aload_n 0, 0), (1, .iload_n 1, 0), (2, .iconst 0, 0), (3, .invokevirtual 43, 0), (6, .aload_n 0, 0), (7, .iload_n 1, 0), (8, .iconst 1, 0), (9, .invokevirtual 43, 0), (12, .ladd, 0), (13, .lreturn, 0)]
def F_M_lineOf : List (Nat × Nat × Nat) := []
def K_M_lineOf : List (Nat × gs_V) := []
noncomputable def C_M_lineOf : List (Nat × Nat × Nat × gs_F) := [(43, 2, 5, f_M_worth)]
noncomputable def P_M_lineOf : gs_P := (gs_lk I_M_lineOf, gs_lk F_M_lineOf, gs_lk K_M_lineOf, gs_lk C_M_lineOf)
noncomputable def f_M_lineOf : gs_F := gs_f Y0 2 3 P_M_lineOf
theorem e_M_lineOf (a0 : Nat) (a1 : Int32) (d : gs_D) : f_M_lineOf [(gs_r 20 a0), (gs_i a1)] d = gs_ck 3 (gs_g Y0 P_M_lineOf 0 [some (gs_r 20 a0), some (gs_i a1)] [] d) := rfl
theorem k_M_lineOf_0 (a0 : Nat) (a1 : Int32) (d : gs_D) : gs_g Y0 P_M_lineOf 0 [some (gs_r 20 a0), some (gs_i a1)] [] d = gs_af (f_M_worth [(gs_r 20 a0), (gs_i a1), (gs_i (gs_n 0))] d) [] (fun s9 d9 => gs_g Y0 P_M_lineOf 6 [some (gs_r 20 a0), some (gs_i a1)] s9 d9) := gs_gc 4 (fun _ => rfl)
theorem k_M_lineOf_6 (a0 : Nat) (a1 : Int32) (s0 : Int64) (d : gs_D) : gs_g Y0 P_M_lineOf 6 [some (gs_r 20 a0), some (gs_i a1)] [(gs_l s0)] d = gs_af (f_M_worth [(gs_r 20 a0), (gs_i a1), (gs_i (gs_n 1))] d) [(gs_l s0)] (fun s9 d9 => gs_g Y0 P_M_lineOf 12 [some (gs_r 20 a0), some (gs_i a1)] s9 d9) := gs_gc 4 (fun _ => rfl)
theorem k_M_lineOf_12 (a0 : Nat) (a1 : Int32) (s0 : Int64) (s1 : Int64) (d : gs_D) : gs_g Y0 P_M_lineOf 12 [some (gs_r 20 a0), some (gs_i a1)] [(gs_l s1), (gs_l s0)] d = some (some (gs_l (s0 + s1)), d) := gs_an 2 (fun _ => rfl)
def I_M_isThere : List (Nat × Jvm.ClassFile.Instr × Nat) := [(0, .iload_n 1, 0), (1, .bipush 18, 0), (3, .if_icmp .lt 17, 20), (6, .aload_n 0, 0), (7, .getfield 7, 0), (10, .bipush 16, 0), (12, .iload_n 1, 0), (13, .iadd, 0), (14, .laload, 0), (15, .lconst 0, 0), (16, .lcmp, 0), (17, .ifCond .lt 7, 24), (20, .iconst 1, 0), (21, .goto 4, 25), (24, .iconst 0, 0), (25, .ireturn, 0)]
def F_M_isThere : List (Nat × Nat × Nat) := [(7, 5, 0)]
def K_M_isThere : List (Nat × gs_V) := []
noncomputable def C_M_isThere : List (Nat × Nat × Nat × gs_F) := []
noncomputable def P_M_isThere : gs_P := (gs_lk I_M_isThere, gs_lk F_M_isThere, gs_lk K_M_isThere, gs_lk C_M_isThere)
noncomputable def f_M_isThere : gs_F := gs_f Y0 2 2 P_M_isThere
theorem e_M_isThere (a0 : Nat) (a1 : Int32) (d : gs_D) : f_M_isThere [(gs_r 20 a0), (gs_i a1)] d = gs_ck 2 (gs_g Y0 P_M_isThere 0 [some (gs_r 20 a0), some (gs_i a1)] [] d) := rfl
theorem k_M_isThere_0 (a0 : Nat) (a1 : Int32) (d : gs_D) : gs_g Y0 P_M_isThere 0 [some (gs_r 20 a0), some (gs_i a1)] [] d = if a1 < (Int8.ofInt 18).toInt32 then gs_g Y0 P_M_isThere 20 [some (gs_r 20 a0), some (gs_i a1)] [] d else gs_g Y0 P_M_isThere 6 [some (gs_r 20 a0), some (gs_i a1)] [] d := gs_if 3 (fun _ => rfl)
theorem k_M_isThere_6 (a0 : Nat) (a1 : Int32) (d : gs_D) : gs_g Y0 P_M_isThere 6 [some (gs_r 20 a0), some (gs_i a1)] [] d = gs_ix ((Int8.ofInt 16).toInt32 + a1) 430 (gs_g Y0 P_M_isThere 15 [some (gs_r 20 a0), some (gs_i a1)] [(gs_l (d.2 21 a0 ((Int8.ofInt 16).toInt32 + a1).toNatClampNeg))] d) := gs_gx 6 (fun _ => rfl)
theorem k_M_isThere_15 (a0 : Nat) (a1 : Int32) (s0 : Int64) (d : gs_D) : gs_g Y0 P_M_isThere 15 [some (gs_r 20 a0), some (gs_i a1)] [(gs_l s0)] d = if (lg_cmp s0 gs_k0) < 0 then gs_g Y0 P_M_isThere 24 [some (gs_r 20 a0), some (gs_i a1)] [] d else gs_g Y0 P_M_isThere 20 [some (gs_r 20 a0), some (gs_i a1)] [] d := gs_if 3 (fun _ => rfl)
theorem k_M_isThere_20 (a0 : Nat) (a1 : Int32) (d : gs_D) : gs_g Y0 P_M_isThere 20 [some (gs_r 20 a0), some (gs_i a1)] [] d = some (some (gs_i (gs_n 1)), d) := gs_an 3 (fun _ => rfl)
theorem k_M_isThere_24 (a0 : Nat) (a1 : Int32) (d : gs_D) : gs_g Y0 P_M_isThere 24 [some (gs_r 20 a0), some (gs_i a1)] [] d = some (some (gs_i (gs_n 0)), d) := gs_an 2 (fun _ => rfl)
def I_M_above : List (Nat × Jvm.ClassFile.Instr × Nat) := [(0, .iload_n 1, 0), (1, .bipush 6, 0), (3, .if_icmp .ge 18, 21), (6, .aload_n 0, 0), (7, .getfield 7, 0), (10, .iconst 3, 0), (11, .iload_n 1, 0), (12, .imul, 0), (13, .laload, 0), (14, .aload_n 0, 0), (15, .iload_n 1, 0), (16, .invokevirtual 47, 0), (19, .ladd, 0), (20, .lreturn, 0), (21, .iload_n 1, 0), (22, .bipush 18, 0), (24, .if_icmp .ge 25, 49), (27, .iload_n 1, 0), (28, .bipush 6, 0), (30, .isub, 0), (31, .istore_n 2, 0), (32, .aload_n 0, 0), (33, .getfield 7, 0), (36, .iconst 3, 0), (37, .iload_n 2, 0), (38, .iconst 2, 0), (39, .idiv, 0), (40, .imul, 0), (41, .iconst 1, 0), (42, .iadd, 0), (43, .iload_n 2, 0), (44, .iconst 2, 0), (45, .irem, 0), (46, .iadd, 0), (47, .laload, 0), (48, .lreturn, 0), (49, .aload_n 0, 0), (50, .getfield 7, 0), (53, .bipush 16, 0), (55, .iload_n 1, 0), (56, .iadd, 0), (57, .laload, 0), (58, .aload_n 0, 0), (59, .getfield 7, 0), (62, .bipush 52, 0), (64, .iload_n 1, 0), (65, .iadd, 0), (66, .laload, 0), (67, .lsub, 0), (68, .lreturn, 0)]
def F_M_above : List (Nat × Nat × Nat) := [(7, 5, 0)]
def K_M_above : List (Nat × gs_V) := []
noncomputable def C_M_above : List (Nat × Nat × Nat × gs_F) := [(47, 1, 5, f_M_lineOf)]
noncomputable def P_M_above : gs_P := (gs_lk I_M_above, gs_lk F_M_above, gs_lk K_M_above, gs_lk C_M_above)
noncomputable def f_M_above : gs_F := gs_f Y0 3 3 P_M_above
theorem e_M_above (a0 : Nat) (a1 : Int32) (d : gs_D) : f_M_above [(gs_r 20 a0), (gs_i a1)] d = gs_ck 3 (gs_g Y0 P_M_above 0 [some (gs_r 20 a0), some (gs_i a1), none] [] d) := rfl
theorem k_M_above_0 (a0 : Nat) (a1 : Int32) (d : gs_D) : gs_g Y0 P_M_above 0 [some (gs_r 20 a0), some (gs_i a1), none] [] d = if (Int8.ofInt 6).toInt32 ≤ a1 then gs_g Y0 P_M_above 21 [some (gs_r 20 a0), some (gs_i a1), none] [] d else gs_g Y0 P_M_above 6 [some (gs_r 20 a0), some (gs_i a1), none] [] d := gs_if 3 (fun _ => rfl)
theorem k_M_above_6 (a0 : Nat) (a1 : Int32) (d : gs_D) : gs_g Y0 P_M_above 6 [some (gs_r 20 a0), some (gs_i a1), none] [] d = gs_ix ((gs_n 3) * a1) 430 (gs_g Y0 P_M_above 14 [some (gs_r 20 a0), some (gs_i a1), none] [(gs_l (d.2 21 a0 ((gs_n 3) * a1).toNatClampNeg))] d) := gs_gx 6 (fun _ => rfl)
theorem k_M_above_14 (a0 : Nat) (a1 : Int32) (s0 : Int64) (d : gs_D) : gs_g Y0 P_M_above 14 [some (gs_r 20 a0), some (gs_i a1), none] [(gs_l s0)] d = gs_af (f_M_lineOf [(gs_r 20 a0), (gs_i a1)] d) [(gs_l s0)] (fun s9 d9 => gs_g Y0 P_M_above 19 [some (gs_r 20 a0), some (gs_i a1), none] s9 d9) := gs_gc 3 (fun _ => rfl)
theorem k_M_above_19 (a0 : Nat) (a1 : Int32) (s0 : Int64) (s1 : Int64) (d : gs_D) : gs_g Y0 P_M_above 19 [some (gs_r 20 a0), some (gs_i a1), none] [(gs_l s1), (gs_l s0)] d = some (some (gs_l (s0 + s1)), d) := gs_an 2 (fun _ => rfl)
theorem k_M_above_21 (a0 : Nat) (a1 : Int32) (d : gs_D) : gs_g Y0 P_M_above 21 [some (gs_r 20 a0), some (gs_i a1), none] [] d = if (Int8.ofInt 18).toInt32 ≤ a1 then gs_g Y0 P_M_above 49 [some (gs_r 20 a0), some (gs_i a1), none] [] d else gs_g Y0 P_M_above 27 [some (gs_r 20 a0), some (gs_i a1), none] [] d := gs_if 3 (fun _ => rfl)
theorem k_M_above_27 (a0 : Nat) (a1 : Int32) (d : gs_D) : gs_g Y0 P_M_above 27 [some (gs_r 20 a0), some (gs_i a1), none] [] d = gs_nz (gs_n 2) (gs_g Y0 P_M_above 40 [some (gs_r 20 a0), some (gs_i a1), some (gs_i (a1 - (Int8.ofInt 6).toInt32))] [(gs_i ((a1 - (Int8.ofInt 6).toInt32) / (gs_n 2))), (gs_i (gs_n 3)), (gs_r 21 a0)] d) := gs_gz 10 (fun _ => rfl)
theorem k_M_above_40 (a0 : Nat) (a1 : Int32) (a2 : Int32) (s0 : Nat) (s1 : Int32) (s2 : Int32) (d : gs_D) : gs_g Y0 P_M_above 40 [some (gs_r 20 a0), some (gs_i a1), some (gs_i a2)] [(gs_i s2), (gs_i s1), (gs_r 21 s0)] d = gs_nz (gs_n 2) (gs_g Y0 P_M_above 46 [some (gs_r 20 a0), some (gs_i a1), some (gs_i a2)] [(gs_i (a2 - a2 / (gs_n 2) * (gs_n 2))), (gs_i ((s1 * s2) + (gs_n 1))), (gs_r 21 s0)] d) := gs_gz 6 (fun _ => rfl)
theorem k_M_above_46 (a0 : Nat) (a1 : Int32) (a2 : Int32) (s0 : Nat) (s1 : Int32) (s2 : Int32) (d : gs_D) : gs_g Y0 P_M_above 46 [some (gs_r 20 a0), some (gs_i a1), some (gs_i a2)] [(gs_i s2), (gs_i s1), (gs_r 21 s0)] d = gs_ix (s1 + s2) 430 (gs_g Y0 P_M_above 48 [some (gs_r 20 a0), some (gs_i a1), some (gs_i a2)] [(gs_l (d.2 21 s0 (s1 + s2).toNatClampNeg))] d) := gs_gx 2 (fun _ => rfl)
theorem k_M_above_48 (a0 : Nat) (a1 : Int32) (a2 : Int32) (s0 : Int64) (d : gs_D) : gs_g Y0 P_M_above 48 [some (gs_r 20 a0), some (gs_i a1), some (gs_i a2)] [(gs_l s0)] d = some (some (gs_l s0), d) := gs_an 1 (fun _ => rfl)
theorem k_M_above_49 (a0 : Nat) (a1 : Int32) (d : gs_D) : gs_g Y0 P_M_above 49 [some (gs_r 20 a0), some (gs_i a1), none] [] d = gs_ix ((Int8.ofInt 16).toInt32 + a1) 430 (gs_g Y0 P_M_above 58 [some (gs_r 20 a0), some (gs_i a1), none] [(gs_l (d.2 21 a0 ((Int8.ofInt 16).toInt32 + a1).toNatClampNeg))] d) := gs_gx 6 (fun _ => rfl)
theorem k_M_above_58 (a0 : Nat) (a1 : Int32) (s0 : Int64) (d : gs_D) : gs_g Y0 P_M_above 58 [some (gs_r 20 a0), some (gs_i a1), none] [(gs_l s0)] d = gs_ix ((Int8.ofInt 52).toInt32 + a1) 430 (gs_g Y0 P_M_above 67 [some (gs_r 20 a0), some (gs_i a1), none] [(gs_l (d.2 21 a0 ((Int8.ofInt 52).toInt32 + a1).toNatClampNeg)), (gs_l s0)] d) := gs_gx 6 (fun _ => rfl)
theorem k_M_above_67 (a0 : Nat) (a1 : Int32) (s0 : Int64) (s1 : Int64) (d : gs_D) : gs_g Y0 P_M_above 67 [some (gs_r 20 a0), some (gs_i a1), none] [(gs_l s1), (gs_l s0)] d = some (some (gs_l (s0 - s1)), d) := gs_an 2 (fun _ => rfl)
def I_M_takes : List (Nat × Jvm.ClassFile.Instr × Nat) := [(0, .aload_n 0, 0), (1, .iload_n 1, 0), (2, .iconst 5, 0), (3, .invokevirtual 33, 0), (6, .i2l, 0), (7, .lstore_n 3, 0), (8, .aload_n 0, 0), (9, .iload_n 1, 0), (10, .bipush 6, 0), (12, .invokevirtual 33, 0), (15, .i2l, 0), (16, .lstore 5, 0), (18, .aload_n 0, 0), (19, .iload_n 1, 0), (20, .iconst 0, 0), (21, .invokevirtual 33, 0), (24, .istore 7, 0), (26, .aload_n 0, 0), (27, .iload_n 1, 0), (28, .iconst 1, 0), (29, .invokevirtual 33, 0), (32, .istore 8, 0), (34, .iload_n 2, 0), (35, .bipush 6, 0), (37, .if_icmp .ge 26, 63), (40, .iload 7, 0), (42, .iload_n 2, 0), (43, .if_icmp .ne 7, 50), (46, .lload_n 3, 0), (47, .goto 15, 62), (50, .iload 8, 0), (52, .iload_n 2, 0), (53, .if_icmp .ne 8, 61), (56, .lload_n 3, 0), (57, .lneg, 0), (58, .goto 4, 62), (61, .lconst 0, 0), (62, .lreturn, 0), (63, .iload_n 2, 0), (64, .bipush 18, 0), (66, .if_icmp .ge 79, 145), (69, .iload_n 2, 0), (70, .bipush 6, 0), (72, .isub, 0), (73, .iconst 2, 0), (74, .idiv, 0), (75, .istore 9, 0), (77, .aload_n 0, 0), (78, .iload_n 1, 0), (79, .iconst 4, 0), (80, .invokevirtual 33, 0), (83, .iconst 1, 0), (84, .iload_n 2, 0), (85, .bipush 6, 0), (87, .isub, 0), (88, .iconst 2, 0), (89, .irem, 0), (90, .iadd, 0), (91, .if_icmp .ne 7, 98), (94, .iconst 1, 0), (95, .goto 4, 99), (98, .iconst 0, 0), (99, .istore 10, 0), (101, .iload 10, 0), (103, .ifCond .ne 7, 110), (106, .lconst 0, 0), (107, .goto 37, 144), (110, .aload_n 0, 0), (111, .iload_n 1, 0), (112, .iconst 2, 0), (113, .invokevirtual 33, 0), (116, .iload 9, 0), (118, .if_icmp .ne 8, 126), (121, .lload 5, 0), (123, .goto 21, 144), (126, .aload_n 0, 0), (127, .iload_n 1, 0), (128, .iconst 3, 0), (129, .invokevirtual 33, 0), (132, .iload 9, 0), (134, .if_icmp .ne 9, 143), (137, .lload 5, 0), (139, .lneg, 0), (140, .goto 4, 144), (143, .lconst 0, 0), (144, .lreturn, 0), (145, .iload_n 2, 0), (146, .bipush 18, 0), (148, .isub, 0), (149, .bipush 6, 0), (151, .idiv, 0), (152, .istore 9, 0), (154, .iload_n 2, 0), (155, .bipush 18, 0), (157, .isub, 0), (158, .bipush 6, 0), (160, .irem, 0), (161, .istore 10, 0), (163, .aload_n 0, 0), (164, .iload_n 2, 0), (165, .invokevirtual 51, 0), (168, .ifCond .ne 7, 175), (171, .lconst 0, 0), (172, .goto 41, 213), (175, .iload 7, 0), (177, .iload 9, 0), (179, .if_icmp .ne 14, 193), (182, .iload 8, 0), (184, .iload 10, 0), (186, .if_icmp .ne 7, 193), (189, .lload_n 3, 0), (190, .goto 23, 213), (193, .iload 7, 0), (195, .iload 10, 0), (197, .if_icmp .ne 15, 212), (200, .iload 8, 0), (202, .iload 9, 0), (204, .if_icmp .ne 8, 212), (207, .lload_n 3, 0), (208, .lneg, 0), (209, .goto 4, 213), (212, .lconst 0, 0), (213, .lreturn, 0)]
def F_M_takes : List (Nat × Nat × Nat) := []
def K_M_takes : List (Nat × gs_V) := []
noncomputable def C_M_takes : List (Nat × Nat × Nat × gs_F) := [(33, 2, 5, f_M_of), (51, 1, 5, f_M_isThere)]
noncomputable def P_M_takes : gs_P := (gs_lk I_M_takes, gs_lk F_M_takes, gs_lk K_M_takes, gs_lk C_M_takes)
noncomputable def f_M_takes : gs_F := gs_f Y0 11 3 P_M_takes
theorem e_M_takes (a0 : Nat) (a1 : Int32) (a2 : Int32) (d : gs_D) : f_M_takes [(gs_r 20 a0), (gs_i a1), (gs_i a2)] d = gs_ck 3 (gs_g Y0 P_M_takes 0 [some (gs_r 20 a0), some (gs_i a1), some (gs_i a2), none, none, none, none, none, none, none, none] [] d) := rfl
theorem k_M_takes_0 (a0 : Nat) (a1 : Int32) (a2 : Int32) (d : gs_D) : gs_g Y0 P_M_takes 0 [some (gs_r 20 a0), some (gs_i a1), some (gs_i a2), none, none, none, none, none, none, none, none] [] d = gs_af (f_M_of [(gs_r 20 a0), (gs_i a1), (gs_i (gs_n 5))] d) [] (fun s9 d9 => gs_g Y0 P_M_takes 6 [some (gs_r 20 a0), some (gs_i a1), some (gs_i a2), none, none, none, none, none, none, none, none] s9 d9) := gs_gc 4 (fun _ => rfl)
theorem k_M_takes_6 (a0 : Nat) (a1 : Int32) (a2 : Int32) (s0 : Int32) (d : gs_D) : gs_g Y0 P_M_takes 6 [some (gs_r 20 a0), some (gs_i a1), some (gs_i a2), none, none, none, none, none, none, none, none] [(gs_i s0)] d = gs_af (f_M_of [(gs_r 20 a0), (gs_i a1), (gs_i (Int8.ofInt 6).toInt32)] d) [] (fun s9 d9 => gs_g Y0 P_M_takes 15 [some (gs_r 20 a0), some (gs_i a1), some (gs_i a2), some (gs_l s0.toInt64), none, none, none, none, none, none, none] s9 d9) := gs_gc 6 (fun _ => rfl)
theorem k_M_takes_15 (a0 : Nat) (a1 : Int32) (a2 : Int32) (a3 : Int64) (s0 : Int32) (d : gs_D) : gs_g Y0 P_M_takes 15 [some (gs_r 20 a0), some (gs_i a1), some (gs_i a2), some (gs_l a3), none, none, none, none, none, none, none] [(gs_i s0)] d = gs_af (f_M_of [(gs_r 20 a0), (gs_i a1), (gs_i (gs_n 0))] d) [] (fun s9 d9 => gs_g Y0 P_M_takes 24 [some (gs_r 20 a0), some (gs_i a1), some (gs_i a2), some (gs_l a3), none, some (gs_l s0.toInt64), none, none, none, none, none] s9 d9) := gs_gc 6 (fun _ => rfl)
theorem k_M_takes_24 (a0 : Nat) (a1 : Int32) (a2 : Int32) (a3 : Int64) (a5 : Int64) (s0 : Int32) (d : gs_D) : gs_g Y0 P_M_takes 24 [some (gs_r 20 a0), some (gs_i a1), some (gs_i a2), some (gs_l a3), none, some (gs_l a5), none, none, none, none, none] [(gs_i s0)] d = gs_af (f_M_of [(gs_r 20 a0), (gs_i a1), (gs_i (gs_n 1))] d) [] (fun s9 d9 => gs_g Y0 P_M_takes 32 [some (gs_r 20 a0), some (gs_i a1), some (gs_i a2), some (gs_l a3), none, some (gs_l a5), none, some (gs_i s0), none, none, none] s9 d9) := gs_gc 5 (fun _ => rfl)
theorem k_M_takes_32 (a0 : Nat) (a1 : Int32) (a2 : Int32) (a3 : Int64) (a5 : Int64) (a7 : Int32) (s0 : Int32) (d : gs_D) : gs_g Y0 P_M_takes 32 [some (gs_r 20 a0), some (gs_i a1), some (gs_i a2), some (gs_l a3), none, some (gs_l a5), none, some (gs_i a7), none, none, none] [(gs_i s0)] d = if (Int8.ofInt 6).toInt32 ≤ a2 then gs_g Y0 P_M_takes 63 [some (gs_r 20 a0), some (gs_i a1), some (gs_i a2), some (gs_l a3), none, some (gs_l a5), none, some (gs_i a7), some (gs_i s0), none, none] [] d else gs_g Y0 P_M_takes 40 [some (gs_r 20 a0), some (gs_i a1), some (gs_i a2), some (gs_l a3), none, some (gs_l a5), none, some (gs_i a7), some (gs_i s0), none, none] [] d := gs_if 4 (fun _ => rfl)
theorem k_M_takes_40 (a0 : Nat) (a1 : Int32) (a2 : Int32) (a3 : Int64) (a5 : Int64) (a7 : Int32) (a8 : Int32) (d : gs_D) : gs_g Y0 P_M_takes 40 [some (gs_r 20 a0), some (gs_i a1), some (gs_i a2), some (gs_l a3), none, some (gs_l a5), none, some (gs_i a7), some (gs_i a8), none, none] [] d = if ¬ a7 = a2 then gs_g Y0 P_M_takes 50 [some (gs_r 20 a0), some (gs_i a1), some (gs_i a2), some (gs_l a3), none, some (gs_l a5), none, some (gs_i a7), some (gs_i a8), none, none] [] d else gs_g Y0 P_M_takes 46 [some (gs_r 20 a0), some (gs_i a1), some (gs_i a2), some (gs_l a3), none, some (gs_l a5), none, some (gs_i a7), some (gs_i a8), none, none] [] d := gs_if 3 (fun _ => rfl)
theorem k_M_takes_46 (a0 : Nat) (a1 : Int32) (a2 : Int32) (a3 : Int64) (a5 : Int64) (a7 : Int32) (a8 : Int32) (d : gs_D) : gs_g Y0 P_M_takes 46 [some (gs_r 20 a0), some (gs_i a1), some (gs_i a2), some (gs_l a3), none, some (gs_l a5), none, some (gs_i a7), some (gs_i a8), none, none] [] d = some (some (gs_l a3), d) := gs_an 3 (fun _ => rfl)
theorem k_M_takes_50 (a0 : Nat) (a1 : Int32) (a2 : Int32) (a3 : Int64) (a5 : Int64) (a7 : Int32) (a8 : Int32) (d : gs_D) : gs_g Y0 P_M_takes 50 [some (gs_r 20 a0), some (gs_i a1), some (gs_i a2), some (gs_l a3), none, some (gs_l a5), none, some (gs_i a7), some (gs_i a8), none, none] [] d = if ¬ a8 = a2 then gs_g Y0 P_M_takes 61 [some (gs_r 20 a0), some (gs_i a1), some (gs_i a2), some (gs_l a3), none, some (gs_l a5), none, some (gs_i a7), some (gs_i a8), none, none] [] d else gs_g Y0 P_M_takes 56 [some (gs_r 20 a0), some (gs_i a1), some (gs_i a2), some (gs_l a3), none, some (gs_l a5), none, some (gs_i a7), some (gs_i a8), none, none] [] d := gs_if 3 (fun _ => rfl)
theorem k_M_takes_56 (a0 : Nat) (a1 : Int32) (a2 : Int32) (a3 : Int64) (a5 : Int64) (a7 : Int32) (a8 : Int32) (d : gs_D) : gs_g Y0 P_M_takes 56 [some (gs_r 20 a0), some (gs_i a1), some (gs_i a2), some (gs_l a3), none, some (gs_l a5), none, some (gs_i a7), some (gs_i a8), none, none] [] d = some (some (gs_l (-a3)), d) := gs_an 4 (fun _ => rfl)
theorem k_M_takes_61 (a0 : Nat) (a1 : Int32) (a2 : Int32) (a3 : Int64) (a5 : Int64) (a7 : Int32) (a8 : Int32) (d : gs_D) : gs_g Y0 P_M_takes 61 [some (gs_r 20 a0), some (gs_i a1), some (gs_i a2), some (gs_l a3), none, some (gs_l a5), none, some (gs_i a7), some (gs_i a8), none, none] [] d = some (some (gs_l gs_k0), d) := gs_an 2 (fun _ => rfl)
theorem k_M_takes_63 (a0 : Nat) (a1 : Int32) (a2 : Int32) (a3 : Int64) (a5 : Int64) (a7 : Int32) (a8 : Int32) (d : gs_D) : gs_g Y0 P_M_takes 63 [some (gs_r 20 a0), some (gs_i a1), some (gs_i a2), some (gs_l a3), none, some (gs_l a5), none, some (gs_i a7), some (gs_i a8), none, none] [] d = if (Int8.ofInt 18).toInt32 ≤ a2 then gs_g Y0 P_M_takes 145 [some (gs_r 20 a0), some (gs_i a1), some (gs_i a2), some (gs_l a3), none, some (gs_l a5), none, some (gs_i a7), some (gs_i a8), none, none] [] d else gs_g Y0 P_M_takes 69 [some (gs_r 20 a0), some (gs_i a1), some (gs_i a2), some (gs_l a3), none, some (gs_l a5), none, some (gs_i a7), some (gs_i a8), none, none] [] d := gs_if 3 (fun _ => rfl)
theorem k_M_takes_69 (a0 : Nat) (a1 : Int32) (a2 : Int32) (a3 : Int64) (a5 : Int64) (a7 : Int32) (a8 : Int32) (d : gs_D) : gs_g Y0 P_M_takes 69 [some (gs_r 20 a0), some (gs_i a1), some (gs_i a2), some (gs_l a3), none, some (gs_l a5), none, some (gs_i a7), some (gs_i a8), none, none] [] d = gs_nz (gs_n 2) (gs_g Y0 P_M_takes 75 [some (gs_r 20 a0), some (gs_i a1), some (gs_i a2), some (gs_l a3), none, some (gs_l a5), none, some (gs_i a7), some (gs_i a8), none, none] [(gs_i ((a2 - (Int8.ofInt 6).toInt32) / (gs_n 2)))] d) := gs_gz 5 (fun _ => rfl)
theorem k_M_takes_75 (a0 : Nat) (a1 : Int32) (a2 : Int32) (a3 : Int64) (a5 : Int64) (a7 : Int32) (a8 : Int32) (s0 : Int32) (d : gs_D) : gs_g Y0 P_M_takes 75 [some (gs_r 20 a0), some (gs_i a1), some (gs_i a2), some (gs_l a3), none, some (gs_l a5), none, some (gs_i a7), some (gs_i a8), none, none] [(gs_i s0)] d = gs_af (f_M_of [(gs_r 20 a0), (gs_i a1), (gs_i (gs_n 4))] d) [] (fun s9 d9 => gs_g Y0 P_M_takes 83 [some (gs_r 20 a0), some (gs_i a1), some (gs_i a2), some (gs_l a3), none, some (gs_l a5), none, some (gs_i a7), some (gs_i a8), some (gs_i s0), none] s9 d9) := gs_gc 5 (fun _ => rfl)
theorem k_M_takes_83 (a0 : Nat) (a1 : Int32) (a2 : Int32) (a3 : Int64) (a5 : Int64) (a7 : Int32) (a8 : Int32) (a9 : Int32) (s0 : Int32) (d : gs_D) : gs_g Y0 P_M_takes 83 [some (gs_r 20 a0), some (gs_i a1), some (gs_i a2), some (gs_l a3), none, some (gs_l a5), none, some (gs_i a7), some (gs_i a8), some (gs_i a9), none] [(gs_i s0)] d = gs_nz (gs_n 2) (gs_g Y0 P_M_takes 90 [some (gs_r 20 a0), some (gs_i a1), some (gs_i a2), some (gs_l a3), none, some (gs_l a5), none, some (gs_i a7), some (gs_i a8), some (gs_i a9), none] [(gs_i ((a2 - (Int8.ofInt 6).toInt32) - (a2 - (Int8.ofInt 6).toInt32) / (gs_n 2) * (gs_n 2))), (gs_i (gs_n 1)), (gs_i s0)] d) := gs_gz 6 (fun _ => rfl)
theorem k_M_takes_90 (a0 : Nat) (a1 : Int32) (a2 : Int32) (a3 : Int64) (a5 : Int64) (a7 : Int32) (a8 : Int32) (a9 : Int32) (s0 : Int32) (s1 : Int32) (s2 : Int32) (d : gs_D) : gs_g Y0 P_M_takes 90 [some (gs_r 20 a0), some (gs_i a1), some (gs_i a2), some (gs_l a3), none, some (gs_l a5), none, some (gs_i a7), some (gs_i a8), some (gs_i a9), none] [(gs_i s2), (gs_i s1), (gs_i s0)] d = if ¬ s0 = (s1 + s2) then gs_g Y0 P_M_takes 98 [some (gs_r 20 a0), some (gs_i a1), some (gs_i a2), some (gs_l a3), none, some (gs_l a5), none, some (gs_i a7), some (gs_i a8), some (gs_i a9), none] [] d else gs_g Y0 P_M_takes 94 [some (gs_r 20 a0), some (gs_i a1), some (gs_i a2), some (gs_l a3), none, some (gs_l a5), none, some (gs_i a7), some (gs_i a8), some (gs_i a9), none] [] d := gs_if 2 (fun _ => rfl)
theorem k_M_takes_94 (a0 : Nat) (a1 : Int32) (a2 : Int32) (a3 : Int64) (a5 : Int64) (a7 : Int32) (a8 : Int32) (a9 : Int32) (d : gs_D) : gs_g Y0 P_M_takes 94 [some (gs_r 20 a0), some (gs_i a1), some (gs_i a2), some (gs_l a3), none, some (gs_l a5), none, some (gs_i a7), some (gs_i a8), some (gs_i a9), none] [] d = if ¬ (gs_n 1) = 0 then gs_g Y0 P_M_takes 110 [some (gs_r 20 a0), some (gs_i a1), some (gs_i a2), some (gs_l a3), none, some (gs_l a5), none, some (gs_i a7), some (gs_i a8), some (gs_i a9), some (gs_i (gs_n 1))] [] d else gs_g Y0 P_M_takes 106 [some (gs_r 20 a0), some (gs_i a1), some (gs_i a2), some (gs_l a3), none, some (gs_l a5), none, some (gs_i a7), some (gs_i a8), some (gs_i a9), some (gs_i (gs_n 1))] [] d := gs_if 5 (fun _ => rfl)
theorem k_M_takes_98 (a0 : Nat) (a1 : Int32) (a2 : Int32) (a3 : Int64) (a5 : Int64) (a7 : Int32) (a8 : Int32) (a9 : Int32) (d : gs_D) : gs_g Y0 P_M_takes 98 [some (gs_r 20 a0), some (gs_i a1), some (gs_i a2), some (gs_l a3), none, some (gs_l a5), none, some (gs_i a7), some (gs_i a8), some (gs_i a9), none] [] d = if ¬ (gs_n 0) = 0 then gs_g Y0 P_M_takes 110 [some (gs_r 20 a0), some (gs_i a1), some (gs_i a2), some (gs_l a3), none, some (gs_l a5), none, some (gs_i a7), some (gs_i a8), some (gs_i a9), some (gs_i (gs_n 0))] [] d else gs_g Y0 P_M_takes 106 [some (gs_r 20 a0), some (gs_i a1), some (gs_i a2), some (gs_l a3), none, some (gs_l a5), none, some (gs_i a7), some (gs_i a8), some (gs_i a9), some (gs_i (gs_n 0))] [] d := gs_if 4 (fun _ => rfl)
theorem k_M_takes_106 (a0 : Nat) (a1 : Int32) (a2 : Int32) (a3 : Int64) (a5 : Int64) (a7 : Int32) (a8 : Int32) (a9 : Int32) (a10 : Int32) (d : gs_D) : gs_g Y0 P_M_takes 106 [some (gs_r 20 a0), some (gs_i a1), some (gs_i a2), some (gs_l a3), none, some (gs_l a5), none, some (gs_i a7), some (gs_i a8), some (gs_i a9), some (gs_i a10)] [] d = some (some (gs_l gs_k0), d) := gs_an 3 (fun _ => rfl)
theorem k_M_takes_110 (a0 : Nat) (a1 : Int32) (a2 : Int32) (a3 : Int64) (a5 : Int64) (a7 : Int32) (a8 : Int32) (a9 : Int32) (a10 : Int32) (d : gs_D) : gs_g Y0 P_M_takes 110 [some (gs_r 20 a0), some (gs_i a1), some (gs_i a2), some (gs_l a3), none, some (gs_l a5), none, some (gs_i a7), some (gs_i a8), some (gs_i a9), some (gs_i a10)] [] d = gs_af (f_M_of [(gs_r 20 a0), (gs_i a1), (gs_i (gs_n 2))] d) [] (fun s9 d9 => gs_g Y0 P_M_takes 116 [some (gs_r 20 a0), some (gs_i a1), some (gs_i a2), some (gs_l a3), none, some (gs_l a5), none, some (gs_i a7), some (gs_i a8), some (gs_i a9), some (gs_i a10)] s9 d9) := gs_gc 4 (fun _ => rfl)
theorem k_M_takes_116 (a0 : Nat) (a1 : Int32) (a2 : Int32) (a3 : Int64) (a5 : Int64) (a7 : Int32) (a8 : Int32) (a9 : Int32) (a10 : Int32) (s0 : Int32) (d : gs_D) : gs_g Y0 P_M_takes 116 [some (gs_r 20 a0), some (gs_i a1), some (gs_i a2), some (gs_l a3), none, some (gs_l a5), none, some (gs_i a7), some (gs_i a8), some (gs_i a9), some (gs_i a10)] [(gs_i s0)] d = if ¬ s0 = a9 then gs_g Y0 P_M_takes 126 [some (gs_r 20 a0), some (gs_i a1), some (gs_i a2), some (gs_l a3), none, some (gs_l a5), none, some (gs_i a7), some (gs_i a8), some (gs_i a9), some (gs_i a10)] [] d else gs_g Y0 P_M_takes 121 [some (gs_r 20 a0), some (gs_i a1), some (gs_i a2), some (gs_l a3), none, some (gs_l a5), none, some (gs_i a7), some (gs_i a8), some (gs_i a9), some (gs_i a10)] [] d := gs_if 2 (fun _ => rfl)
theorem k_M_takes_121 (a0 : Nat) (a1 : Int32) (a2 : Int32) (a3 : Int64) (a5 : Int64) (a7 : Int32) (a8 : Int32) (a9 : Int32) (a10 : Int32) (d : gs_D) : gs_g Y0 P_M_takes 121 [some (gs_r 20 a0), some (gs_i a1), some (gs_i a2), some (gs_l a3), none, some (gs_l a5), none, some (gs_i a7), some (gs_i a8), some (gs_i a9), some (gs_i a10)] [] d = some (some (gs_l a5), d) := gs_an 3 (fun _ => rfl)
theorem k_M_takes_126 (a0 : Nat) (a1 : Int32) (a2 : Int32) (a3 : Int64) (a5 : Int64) (a7 : Int32) (a8 : Int32) (a9 : Int32) (a10 : Int32) (d : gs_D) : gs_g Y0 P_M_takes 126 [some (gs_r 20 a0), some (gs_i a1), some (gs_i a2), some (gs_l a3), none, some (gs_l a5), none, some (gs_i a7), some (gs_i a8), some (gs_i a9), some (gs_i a10)] [] d = gs_af (f_M_of [(gs_r 20 a0), (gs_i a1), (gs_i (gs_n 3))] d) [] (fun s9 d9 => gs_g Y0 P_M_takes 132 [some (gs_r 20 a0), some (gs_i a1), some (gs_i a2), some (gs_l a3), none, some (gs_l a5), none, some (gs_i a7), some (gs_i a8), some (gs_i a9), some (gs_i a10)] s9 d9) := gs_gc 4 (fun _ => rfl)
theorem k_M_takes_132 (a0 : Nat) (a1 : Int32) (a2 : Int32) (a3 : Int64) (a5 : Int64) (a7 : Int32) (a8 : Int32) (a9 : Int32) (a10 : Int32) (s0 : Int32) (d : gs_D) : gs_g Y0 P_M_takes 132 [some (gs_r 20 a0), some (gs_i a1), some (gs_i a2), some (gs_l a3), none, some (gs_l a5), none, some (gs_i a7), some (gs_i a8), some (gs_i a9), some (gs_i a10)] [(gs_i s0)] d = if ¬ s0 = a9 then gs_g Y0 P_M_takes 143 [some (gs_r 20 a0), some (gs_i a1), some (gs_i a2), some (gs_l a3), none, some (gs_l a5), none, some (gs_i a7), some (gs_i a8), some (gs_i a9), some (gs_i a10)] [] d else gs_g Y0 P_M_takes 137 [some (gs_r 20 a0), some (gs_i a1), some (gs_i a2), some (gs_l a3), none, some (gs_l a5), none, some (gs_i a7), some (gs_i a8), some (gs_i a9), some (gs_i a10)] [] d := gs_if 2 (fun _ => rfl)
theorem k_M_takes_137 (a0 : Nat) (a1 : Int32) (a2 : Int32) (a3 : Int64) (a5 : Int64) (a7 : Int32) (a8 : Int32) (a9 : Int32) (a10 : Int32) (d : gs_D) : gs_g Y0 P_M_takes 137 [some (gs_r 20 a0), some (gs_i a1), some (gs_i a2), some (gs_l a3), none, some (gs_l a5), none, some (gs_i a7), some (gs_i a8), some (gs_i a9), some (gs_i a10)] [] d = some (some (gs_l (-a5)), d) := gs_an 4 (fun _ => rfl)
theorem k_M_takes_143 (a0 : Nat) (a1 : Int32) (a2 : Int32) (a3 : Int64) (a5 : Int64) (a7 : Int32) (a8 : Int32) (a9 : Int32) (a10 : Int32) (d : gs_D) : gs_g Y0 P_M_takes 143 [some (gs_r 20 a0), some (gs_i a1), some (gs_i a2), some (gs_l a3), none, some (gs_l a5), none, some (gs_i a7), some (gs_i a8), some (gs_i a9), some (gs_i a10)] [] d = some (some (gs_l gs_k0), d) := gs_an 2 (fun _ => rfl)
theorem k_M_takes_145 (a0 : Nat) (a1 : Int32) (a2 : Int32) (a3 : Int64) (a5 : Int64) (a7 : Int32) (a8 : Int32) (d : gs_D) : gs_g Y0 P_M_takes 145 [some (gs_r 20 a0), some (gs_i a1), some (gs_i a2), some (gs_l a3), none, some (gs_l a5), none, some (gs_i a7), some (gs_i a8), none, none] [] d = gs_nz (Int8.ofInt 6).toInt32 (gs_g Y0 P_M_takes 152 [some (gs_r 20 a0), some (gs_i a1), some (gs_i a2), some (gs_l a3), none, some (gs_l a5), none, some (gs_i a7), some (gs_i a8), none, none] [(gs_i ((a2 - (Int8.ofInt 18).toInt32) / (Int8.ofInt 6).toInt32))] d) := gs_gz 5 (fun _ => rfl)
theorem k_M_takes_152 (a0 : Nat) (a1 : Int32) (a2 : Int32) (a3 : Int64) (a5 : Int64) (a7 : Int32) (a8 : Int32) (s0 : Int32) (d : gs_D) : gs_g Y0 P_M_takes 152 [some (gs_r 20 a0), some (gs_i a1), some (gs_i a2), some (gs_l a3), none, some (gs_l a5), none, some (gs_i a7), some (gs_i a8), none, none] [(gs_i s0)] d = gs_nz (Int8.ofInt 6).toInt32 (gs_g Y0 P_M_takes 161 [some (gs_r 20 a0), some (gs_i a1), some (gs_i a2), some (gs_l a3), none, some (gs_l a5), none, some (gs_i a7), some (gs_i a8), some (gs_i s0), none] [(gs_i ((a2 - (Int8.ofInt 18).toInt32) - (a2 - (Int8.ofInt 18).toInt32) / (Int8.ofInt 6).toInt32 * (Int8.ofInt 6).toInt32))] d) := gs_gz 6 (fun _ => rfl)
theorem k_M_takes_161 (a0 : Nat) (a1 : Int32) (a2 : Int32) (a3 : Int64) (a5 : Int64) (a7 : Int32) (a8 : Int32) (a9 : Int32) (s0 : Int32) (d : gs_D) : gs_g Y0 P_M_takes 161 [some (gs_r 20 a0), some (gs_i a1), some (gs_i a2), some (gs_l a3), none, some (gs_l a5), none, some (gs_i a7), some (gs_i a8), some (gs_i a9), none] [(gs_i s0)] d = gs_af (f_M_isThere [(gs_r 20 a0), (gs_i a2)] d) [] (fun s9 d9 => gs_g Y0 P_M_takes 168 [some (gs_r 20 a0), some (gs_i a1), some (gs_i a2), some (gs_l a3), none, some (gs_l a5), none, some (gs_i a7), some (gs_i a8), some (gs_i a9), some (gs_i s0)] s9 d9) := gs_gc 4 (fun _ => rfl)
theorem k_M_takes_168 (a0 : Nat) (a1 : Int32) (a2 : Int32) (a3 : Int64) (a5 : Int64) (a7 : Int32) (a8 : Int32) (a9 : Int32) (a10 : Int32) (s0 : Int32) (d : gs_D) : gs_g Y0 P_M_takes 168 [some (gs_r 20 a0), some (gs_i a1), some (gs_i a2), some (gs_l a3), none, some (gs_l a5), none, some (gs_i a7), some (gs_i a8), some (gs_i a9), some (gs_i a10)] [(gs_i s0)] d = if ¬ s0 = 0 then gs_g Y0 P_M_takes 175 [some (gs_r 20 a0), some (gs_i a1), some (gs_i a2), some (gs_l a3), none, some (gs_l a5), none, some (gs_i a7), some (gs_i a8), some (gs_i a9), some (gs_i a10)] [] d else gs_g Y0 P_M_takes 171 [some (gs_r 20 a0), some (gs_i a1), some (gs_i a2), some (gs_l a3), none, some (gs_l a5), none, some (gs_i a7), some (gs_i a8), some (gs_i a9), some (gs_i a10)] [] d := gs_if 1 (fun _ => rfl)
theorem k_M_takes_171 (a0 : Nat) (a1 : Int32) (a2 : Int32) (a3 : Int64) (a5 : Int64) (a7 : Int32) (a8 : Int32) (a9 : Int32) (a10 : Int32) (d : gs_D) : gs_g Y0 P_M_takes 171 [some (gs_r 20 a0), some (gs_i a1), some (gs_i a2), some (gs_l a3), none, some (gs_l a5), none, some (gs_i a7), some (gs_i a8), some (gs_i a9), some (gs_i a10)] [] d = some (some (gs_l gs_k0), d) := gs_an 3 (fun _ => rfl)
theorem k_M_takes_175 (a0 : Nat) (a1 : Int32) (a2 : Int32) (a3 : Int64) (a5 : Int64) (a7 : Int32) (a8 : Int32) (a9 : Int32) (a10 : Int32) (d : gs_D) : gs_g Y0 P_M_takes 175 [some (gs_r 20 a0), some (gs_i a1), some (gs_i a2), some (gs_l a3), none, some (gs_l a5), none, some (gs_i a7), some (gs_i a8), some (gs_i a9), some (gs_i a10)] [] d = if ¬ a7 = a9 then gs_g Y0 P_M_takes 193 [some (gs_r 20 a0), some (gs_i a1), some (gs_i a2), some (gs_l a3), none, some (gs_l a5), none, some (gs_i a7), some (gs_i a8), some (gs_i a9), some (gs_i a10)] [] d else gs_g Y0 P_M_takes 182 [some (gs_r 20 a0), some (gs_i a1), some (gs_i a2), some (gs_l a3), none, some (gs_l a5), none, some (gs_i a7), some (gs_i a8), some (gs_i a9), some (gs_i a10)] [] d := gs_if 3 (fun _ => rfl)
theorem k_M_takes_182 (a0 : Nat) (a1 : Int32) (a2 : Int32) (a3 : Int64) (a5 : Int64) (a7 : Int32) (a8 : Int32) (a9 : Int32) (a10 : Int32) (d : gs_D) : gs_g Y0 P_M_takes 182 [some (gs_r 20 a0), some (gs_i a1), some (gs_i a2), some (gs_l a3), none, some (gs_l a5), none, some (gs_i a7), some (gs_i a8), some (gs_i a9), some (gs_i a10)] [] d = if ¬ a8 = a10 then gs_g Y0 P_M_takes 193 [some (gs_r 20 a0), some (gs_i a1), some (gs_i a2), some (gs_l a3), none, some (gs_l a5), none, some (gs_i a7), some (gs_i a8), some (gs_i a9), some (gs_i a10)] [] d else gs_g Y0 P_M_takes 189 [some (gs_r 20 a0), some (gs_i a1), some (gs_i a2), some (gs_l a3), none, some (gs_l a5), none, some (gs_i a7), some (gs_i a8), some (gs_i a9), some (gs_i a10)] [] d := gs_if 3 (fun _ => rfl)
theorem k_M_takes_189 (a0 : Nat) (a1 : Int32) (a2 : Int32) (a3 : Int64) (a5 : Int64) (a7 : Int32) (a8 : Int32) (a9 : Int32) (a10 : Int32) (d : gs_D) : gs_g Y0 P_M_takes 189 [some (gs_r 20 a0), some (gs_i a1), some (gs_i a2), some (gs_l a3), none, some (gs_l a5), none, some (gs_i a7), some (gs_i a8), some (gs_i a9), some (gs_i a10)] [] d = some (some (gs_l a3), d) := gs_an 3 (fun _ => rfl)
theorem k_M_takes_193 (a0 : Nat) (a1 : Int32) (a2 : Int32) (a3 : Int64) (a5 : Int64) (a7 : Int32) (a8 : Int32) (a9 : Int32) (a10 : Int32) (d : gs_D) : gs_g Y0 P_M_takes 193 [some (gs_r 20 a0), some (gs_i a1), some (gs_i a2), some (gs_l a3), none, some (gs_l a5), none, some (gs_i a7), some (gs_i a8), some (gs_i a9), some (gs_i a10)] [] d = if ¬ a7 = a10 then gs_g Y0 P_M_takes 212 [some (gs_r 20 a0), some (gs_i a1), some (gs_i a2), some (gs_l a3), none, some (gs_l a5), none, some (gs_i a7), some (gs_i a8), some (gs_i a9), some (gs_i a10)] [] d else gs_g Y0 P_M_takes 200 [some (gs_r 20 a0), some (gs_i a1), some (gs_i a2), some (gs_l a3), none, some (gs_l a5), none, some (gs_i a7), some (gs_i a8), some (gs_i a9), some (gs_i a10)] [] d := gs_if 3 (fun _ => rfl)
theorem k_M_takes_200 (a0 : Nat) (a1 : Int32) (a2 : Int32) (a3 : Int64) (a5 : Int64) (a7 : Int32) (a8 : Int32) (a9 : Int32) (a10 : Int32) (d : gs_D) : gs_g Y0 P_M_takes 200 [some (gs_r 20 a0), some (gs_i a1), some (gs_i a2), some (gs_l a3), none, some (gs_l a5), none, some (gs_i a7), some (gs_i a8), some (gs_i a9), some (gs_i a10)] [] d = if ¬ a8 = a9 then gs_g Y0 P_M_takes 212 [some (gs_r 20 a0), some (gs_i a1), some (gs_i a2), some (gs_l a3), none, some (gs_l a5), none, some (gs_i a7), some (gs_i a8), some (gs_i a9), some (gs_i a10)] [] d else gs_g Y0 P_M_takes 207 [some (gs_r 20 a0), some (gs_i a1), some (gs_i a2), some (gs_l a3), none, some (gs_l a5), none, some (gs_i a7), some (gs_i a8), some (gs_i a9), some (gs_i a10)] [] d := gs_if 3 (fun _ => rfl)
theorem k_M_takes_207 (a0 : Nat) (a1 : Int32) (a2 : Int32) (a3 : Int64) (a5 : Int64) (a7 : Int32) (a8 : Int32) (a9 : Int32) (a10 : Int32) (d : gs_D) : gs_g Y0 P_M_takes 207 [some (gs_r 20 a0), some (gs_i a1), some (gs_i a2), some (gs_l a3), none, some (gs_l a5), none, some (gs_i a7), some (gs_i a8), some (gs_i a9), some (gs_i a10)] [] d = some (some (gs_l (-a3)), d) := gs_an 4 (fun _ => rfl)
theorem k_M_takes_212 (a0 : Nat) (a1 : Int32) (a2 : Int32) (a3 : Int64) (a5 : Int64) (a7 : Int32) (a8 : Int32) (a9 : Int32) (a10 : Int32) (d : gs_D) : gs_g Y0 P_M_takes 212 [some (gs_r 20 a0), some (gs_i a1), some (gs_i a2), some (gs_l a3), none, some (gs_l a5), none, some (gs_i a7), some (gs_i a8), some (gs_i a9), some (gs_i a10)] [] d = some (some (gs_l gs_k0), d) := gs_an 2 (fun _ => rfl)
def I_M_same : List (Nat × Jvm.ClassFile.Instr × Nat) := [(0, .iconst 0, 0), (1, .istore_n 3, 0), (2, .iconst 0, 0), (3, .istore 4, 0), (5, .iload 4, 0), (7, .bipush 54, 0), (9, .if_icmp .ge 43, 52), (12, .iload_n 3, 0), (13, .ifCond .ne 27, 40), (16, .aload_n 0, 0), (17, .iload_n 1, 0), (18, .iload 4, 0), (20, .invokevirtual 55, 0), (23, .lconst 0, 0), (24, .lcmp, 0), (25, .ifCond .le 19, 44), (28, .aload_n 0, 0), (29, .iload_n 2, 0), (30, .iload 4, 0), (32, .invokevirtual 55, 0), (35, .lconst 0, 0), (36, .lcmp, 0), (37, .ifCond .le 7, 44), (40, .iconst 1, 0), (41, .goto 4, 45), (44, .iconst 0, 0), (45, .istore_n 3, 0), (46, .iinc 4 1, 0), (49, .goto (-44), 5), (52, .iload_n 3, 0), (53, .ireturn, 0)]
def F_M_same : List (Nat × Nat × Nat) := []
def K_M_same : List (Nat × gs_V) := []
noncomputable def C_M_same : List (Nat × Nat × Nat × gs_F) := [(55, 2, 5, f_M_takes)]
noncomputable def P_M_same : gs_P := (gs_lk I_M_same, gs_lk F_M_same, gs_lk K_M_same, gs_lk C_M_same)
noncomputable def f_M_same : gs_F := gs_f Y0 5 2 P_M_same
theorem e_M_same (a0 : Nat) (a1 : Int32) (a2 : Int32) (d : gs_D) : f_M_same [(gs_r 20 a0), (gs_i a1), (gs_i a2)] d = gs_ck 2 (gs_g Y0 P_M_same 0 [some (gs_r 20 a0), some (gs_i a1), some (gs_i a2), none, none] [] d) := rfl
theorem k_M_same_0 (a0 : Nat) (a1 : Int32) (a2 : Int32) (d : gs_D) : gs_g Y0 P_M_same 0 [some (gs_r 20 a0), some (gs_i a1), some (gs_i a2), none, none] [] d = gs_g Y0 P_M_same 5 [some (gs_r 20 a0), some (gs_i a1), some (gs_i a2), some (gs_i (gs_n 0)), some (gs_i (gs_n 0))] [] d := gs_gs 3 (fun _ => rfl)
theorem k_M_same_5 (a0 : Nat) (a1 : Int32) (a2 : Int32) (a3 : Int32) (a4 : Int32) (d : gs_D) : gs_g Y0 P_M_same 5 [some (gs_r 20 a0), some (gs_i a1), some (gs_i a2), some (gs_i a3), some (gs_i a4)] [] d = if (Int8.ofInt 54).toInt32 ≤ a4 then gs_g Y0 P_M_same 52 [some (gs_r 20 a0), some (gs_i a1), some (gs_i a2), some (gs_i a3), some (gs_i a4)] [] d else gs_g Y0 P_M_same 12 [some (gs_r 20 a0), some (gs_i a1), some (gs_i a2), some (gs_i a3), some (gs_i a4)] [] d := gs_if 3 (fun _ => rfl)
theorem k_M_same_12 (a0 : Nat) (a1 : Int32) (a2 : Int32) (a3 : Int32) (a4 : Int32) (d : gs_D) : gs_g Y0 P_M_same 12 [some (gs_r 20 a0), some (gs_i a1), some (gs_i a2), some (gs_i a3), some (gs_i a4)] [] d = if ¬ a3 = 0 then gs_g Y0 P_M_same 40 [some (gs_r 20 a0), some (gs_i a1), some (gs_i a2), some (gs_i a3), some (gs_i a4)] [] d else gs_g Y0 P_M_same 16 [some (gs_r 20 a0), some (gs_i a1), some (gs_i a2), some (gs_i a3), some (gs_i a4)] [] d := gs_if 2 (fun _ => rfl)
theorem k_M_same_16 (a0 : Nat) (a1 : Int32) (a2 : Int32) (a3 : Int32) (a4 : Int32) (d : gs_D) : gs_g Y0 P_M_same 16 [some (gs_r 20 a0), some (gs_i a1), some (gs_i a2), some (gs_i a3), some (gs_i a4)] [] d = gs_af (f_M_takes [(gs_r 20 a0), (gs_i a1), (gs_i a4)] d) [] (fun s9 d9 => gs_g Y0 P_M_same 23 [some (gs_r 20 a0), some (gs_i a1), some (gs_i a2), some (gs_i a3), some (gs_i a4)] s9 d9) := gs_gc 4 (fun _ => rfl)
theorem k_M_same_23 (a0 : Nat) (a1 : Int32) (a2 : Int32) (a3 : Int32) (a4 : Int32) (s0 : Int64) (d : gs_D) : gs_g Y0 P_M_same 23 [some (gs_r 20 a0), some (gs_i a1), some (gs_i a2), some (gs_i a3), some (gs_i a4)] [(gs_l s0)] d = if (lg_cmp s0 gs_k0) ≤ 0 then gs_g Y0 P_M_same 44 [some (gs_r 20 a0), some (gs_i a1), some (gs_i a2), some (gs_i a3), some (gs_i a4)] [] d else gs_g Y0 P_M_same 28 [some (gs_r 20 a0), some (gs_i a1), some (gs_i a2), some (gs_i a3), some (gs_i a4)] [] d := gs_if 3 (fun _ => rfl)
theorem k_M_same_28 (a0 : Nat) (a1 : Int32) (a2 : Int32) (a3 : Int32) (a4 : Int32) (d : gs_D) : gs_g Y0 P_M_same 28 [some (gs_r 20 a0), some (gs_i a1), some (gs_i a2), some (gs_i a3), some (gs_i a4)] [] d = gs_af (f_M_takes [(gs_r 20 a0), (gs_i a2), (gs_i a4)] d) [] (fun s9 d9 => gs_g Y0 P_M_same 35 [some (gs_r 20 a0), some (gs_i a1), some (gs_i a2), some (gs_i a3), some (gs_i a4)] s9 d9) := gs_gc 4 (fun _ => rfl)
theorem k_M_same_35 (a0 : Nat) (a1 : Int32) (a2 : Int32) (a3 : Int32) (a4 : Int32) (s0 : Int64) (d : gs_D) : gs_g Y0 P_M_same 35 [some (gs_r 20 a0), some (gs_i a1), some (gs_i a2), some (gs_i a3), some (gs_i a4)] [(gs_l s0)] d = if (lg_cmp s0 gs_k0) ≤ 0 then gs_g Y0 P_M_same 44 [some (gs_r 20 a0), some (gs_i a1), some (gs_i a2), some (gs_i a3), some (gs_i a4)] [] d else gs_g Y0 P_M_same 40 [some (gs_r 20 a0), some (gs_i a1), some (gs_i a2), some (gs_i a3), some (gs_i a4)] [] d := gs_if 3 (fun _ => rfl)
theorem k_M_same_40 (a0 : Nat) (a1 : Int32) (a2 : Int32) (a3 : Int32) (a4 : Int32) (d : gs_D) : gs_g Y0 P_M_same 40 [some (gs_r 20 a0), some (gs_i a1), some (gs_i a2), some (gs_i a3), some (gs_i a4)] [] d = gs_g Y0 P_M_same 5 [some (gs_r 20 a0), some (gs_i a1), some (gs_i a2), some (gs_i (gs_n 1)), some (gs_i (a4 + gs_n 1))] [] d := gs_gs 4 (fun _ => rfl)
theorem k_M_same_44 (a0 : Nat) (a1 : Int32) (a2 : Int32) (a3 : Int32) (a4 : Int32) (d : gs_D) : gs_g Y0 P_M_same 44 [some (gs_r 20 a0), some (gs_i a1), some (gs_i a2), some (gs_i a3), some (gs_i a4)] [] d = gs_g Y0 P_M_same 5 [some (gs_r 20 a0), some (gs_i a1), some (gs_i a2), some (gs_i (gs_n 0)), some (gs_i (a4 + gs_n 1))] [] d := gs_gs 3 (fun _ => rfl)
theorem k_M_same_52 (a0 : Nat) (a1 : Int32) (a2 : Int32) (a3 : Int32) (a4 : Int32) (d : gs_D) : gs_g Y0 P_M_same 52 [some (gs_r 20 a0), some (gs_i a1), some (gs_i a2), some (gs_i a3), some (gs_i a4)] [] d = some (some (gs_i a3), d) := gs_an 2 (fun _ => rfl)
def I_M_order : List (Nat × Jvm.ClassFile.Instr × Nat) := [(0, .aload_n 0, 0), (1, .iconst 0, 0), (2, .putfield 58, 0), (5, .iconst 0, 0), (6, .istore_n 1, 0), (7, .iload_n 1, 0), (8, .iconst 3, 0), (9, .if_icmp .ge 62, 71), (12, .iconst 0, 0), (13, .istore_n 2, 0), (14, .iload_n 2, 0), (15, .aload_n 0, 0), (16, .invokevirtual 62, 0), (19, .if_icmp .ge 46, 65), (22, .aload_n 0, 0), (23, .iload_n 2, 0), (24, .invokevirtual 66, 0), (27, .ifCond .ne 32, 59), (30, .aload_n 0, 0), (31, .iload_n 2, 0), (32, .invokevirtual 37, 0), (35, .iload_n 1, 0), (36, .if_icmp .ne 23, 59), (39, .aload_n 0, 0), (40, .getfield 16, 0), (43, .aload_n 0, 0), (44, .getfield 58, 0), (47, .iload_n 2, 0), (48, .iastore, 0), (49, .aload_n 0, 0), (50, .dup, 0), (51, .getfield 58, 0), (54, .iconst 1, 0), (55, .iadd, 0), (56, .putfield 58, 0), (59, .iinc 2 1, 0), (62, .goto (-48), 14), (65, .iinc 1 1, 0), (68, .goto (-61), 7), (71, .return_, 0)]
def F_M_order : List (Nat × Nat × Nat) := [(58, 5, 3), (16, 5, 2)]
def K_M_order : List (Nat × gs_V) := []
noncomputable def C_M_order : List (Nat × Nat × Nat × gs_F) := [(62, 0, 5, f_M_count), (66, 1, 5, f_M_fate), (37, 1, 5, f_M_priority)]
noncomputable def P_M_order : gs_P := (gs_lk I_M_order, gs_lk F_M_order, gs_lk K_M_order, gs_lk C_M_order)
noncomputable def f_M_order : gs_F := gs_f Y0 3 0 P_M_order
theorem e_M_order (a0 : Nat) (d : gs_D) : f_M_order [(gs_r 20 a0)] d = gs_ck 0 (gs_g Y0 P_M_order 0 [some (gs_r 20 a0), none, none] [] d) := rfl
theorem k_M_order_0 (a0 : Nat) (d : gs_D) : gs_g Y0 P_M_order 0 [some (gs_r 20 a0), none, none] [] d = gs_g Y0 P_M_order 7 [some (gs_r 20 a0), some (gs_i (gs_n 0)), none] [] (gs_wI d 20 a0 3 (gs_n 0)) := gs_gs 4 (fun _ => rfl)
theorem k_M_order_7 (a0 : Nat) (a1 : Int32) (a2 : Option gs_V) (d : gs_D) : gs_g Y0 P_M_order 7 [some (gs_r 20 a0), some (gs_i a1), a2] [] d = if (gs_n 3) ≤ a1 then gs_g Y0 P_M_order 71 [some (gs_r 20 a0), some (gs_i a1), a2] [] d else gs_g Y0 P_M_order 12 [some (gs_r 20 a0), some (gs_i a1), a2] [] d := gs_if 3 (fun _ => rfl)
theorem k_M_order_12 (a0 : Nat) (a1 : Int32) (a2 : Option gs_V) (d : gs_D) : gs_g Y0 P_M_order 12 [some (gs_r 20 a0), some (gs_i a1), a2] [] d = gs_g Y0 P_M_order 14 [some (gs_r 20 a0), some (gs_i a1), some (gs_i (gs_n 0))] [] d := gs_gs 1 (fun _ => rfl)
theorem k_M_order_14 (a0 : Nat) (a1 : Int32) (a2 : Int32) (d : gs_D) : gs_g Y0 P_M_order 14 [some (gs_r 20 a0), some (gs_i a1), some (gs_i a2)] [] d = gs_af (f_M_count [(gs_r 20 a0)] d) [(gs_i a2)] (fun s9 d9 => gs_g Y0 P_M_order 19 [some (gs_r 20 a0), some (gs_i a1), some (gs_i a2)] s9 d9) := gs_gc 3 (fun _ => rfl)
theorem k_M_order_19 (a0 : Nat) (a1 : Int32) (a2 : Int32) (s0 : Int32) (s1 : Int32) (d : gs_D) : gs_g Y0 P_M_order 19 [some (gs_r 20 a0), some (gs_i a1), some (gs_i a2)] [(gs_i s1), (gs_i s0)] d = if s1 ≤ s0 then gs_g Y0 P_M_order 65 [some (gs_r 20 a0), some (gs_i a1), some (gs_i a2)] [] d else gs_g Y0 P_M_order 22 [some (gs_r 20 a0), some (gs_i a1), some (gs_i a2)] [] d := gs_if 1 (fun _ => rfl)
theorem k_M_order_22 (a0 : Nat) (a1 : Int32) (a2 : Int32) (d : gs_D) : gs_g Y0 P_M_order 22 [some (gs_r 20 a0), some (gs_i a1), some (gs_i a2)] [] d = gs_af (f_M_fate [(gs_r 20 a0), (gs_i a2)] d) [] (fun s9 d9 => gs_g Y0 P_M_order 27 [some (gs_r 20 a0), some (gs_i a1), some (gs_i a2)] s9 d9) := gs_gc 3 (fun _ => rfl)
theorem k_M_order_27 (a0 : Nat) (a1 : Int32) (a2 : Int32) (s0 : Int32) (d : gs_D) : gs_g Y0 P_M_order 27 [some (gs_r 20 a0), some (gs_i a1), some (gs_i a2)] [(gs_i s0)] d = if ¬ s0 = 0 then gs_g Y0 P_M_order 59 [some (gs_r 20 a0), some (gs_i a1), some (gs_i a2)] [] d else gs_g Y0 P_M_order 30 [some (gs_r 20 a0), some (gs_i a1), some (gs_i a2)] [] d := gs_if 1 (fun _ => rfl)
theorem k_M_order_30 (a0 : Nat) (a1 : Int32) (a2 : Int32) (d : gs_D) : gs_g Y0 P_M_order 30 [some (gs_r 20 a0), some (gs_i a1), some (gs_i a2)] [] d = gs_af (f_M_priority [(gs_r 20 a0), (gs_i a2)] d) [] (fun s9 d9 => gs_g Y0 P_M_order 35 [some (gs_r 20 a0), some (gs_i a1), some (gs_i a2)] s9 d9) := gs_gc 3 (fun _ => rfl)
theorem k_M_order_35 (a0 : Nat) (a1 : Int32) (a2 : Int32) (s0 : Int32) (d : gs_D) : gs_g Y0 P_M_order 35 [some (gs_r 20 a0), some (gs_i a1), some (gs_i a2)] [(gs_i s0)] d = if ¬ s0 = a1 then gs_g Y0 P_M_order 59 [some (gs_r 20 a0), some (gs_i a1), some (gs_i a2)] [] d else gs_g Y0 P_M_order 39 [some (gs_r 20 a0), some (gs_i a1), some (gs_i a2)] [] d := gs_if 2 (fun _ => rfl)
theorem k_M_order_39 (a0 : Nat) (a1 : Int32) (a2 : Int32) (d : gs_D) : gs_g Y0 P_M_order 39 [some (gs_r 20 a0), some (gs_i a1), some (gs_i a2)] [] d = gs_ix (d.1 20 a0 3) 10 (gs_g Y0 P_M_order 49 [some (gs_r 20 a0), some (gs_i a1), some (gs_i a2)] [] (gs_wI d 23 a0 (d.1 20 a0 3).toNatClampNeg a2)) := gs_gx 6 (fun _ => rfl)
theorem k_M_order_49 (a0 : Nat) (a1 : Int32) (a2 : Int32) (d : gs_D) : gs_g Y0 P_M_order 49 [some (gs_r 20 a0), some (gs_i a1), some (gs_i a2)] [] d = gs_g Y0 P_M_order 14 [some (gs_r 20 a0), some (gs_i a1), some (gs_i (a2 + gs_n 1))] [] (gs_wI d 20 a0 3 ((d.1 20 a0 3) + (gs_n 1))) := gs_gs 7 (fun _ => rfl)
theorem k_M_order_59 (a0 : Nat) (a1 : Int32) (a2 : Int32) (d : gs_D) : gs_g Y0 P_M_order 59 [some (gs_r 20 a0), some (gs_i a1), some (gs_i a2)] [] d = gs_g Y0 P_M_order 14 [some (gs_r 20 a0), some (gs_i a1), some (gs_i (a2 + gs_n 1))] [] d := gs_gs 1 (fun _ => rfl)
theorem k_M_order_65 (a0 : Nat) (a1 : Int32) (a2 : Int32) (d : gs_D) : gs_g Y0 P_M_order 65 [some (gs_r 20 a0), some (gs_i a1), some (gs_i a2)] [] d = gs_g Y0 P_M_order 7 [some (gs_r 20 a0), some (gs_i (a1 + gs_n 1)), some (gs_i a2)] [] d := gs_gs 1 (fun _ => rfl)
theorem k_M_order_71 (a0 : Nat) (a1 : Int32) (a2 : Option gs_V) (d : gs_D) : gs_g Y0 P_M_order 71 [some (gs_r 20 a0), some (gs_i a1), a2] [] d = some (none, d) := gs_an 1 (fun _ => rfl)
def I_M_isBehind : List (Nat × Jvm.ClassFile.Instr × Nat) := [(0, .iload_n 2, 0), (1, .iload_n 1, 0), (2, .if_icmp .ge 26, 28), (5, .aload_n 0, 0), (6, .aload_n 0, 0), (7, .getfield 16, 0), (10, .iload_n 2, 0), (11, .iaload, 0), (12, .aload_n 0, 0), (13, .getfield 16, 0), (16, .iload_n 1, 0), (17, .iaload, 0), (18, .invokevirtual 69, 0), (21, .ifCond .eq 7, 28), (24, .iconst 1, 0), (25, .goto 4, 29), (28, .iconst 0, 0), (29, .ireturn, 0)]
def F_M_isBehind : List (Nat × Nat × Nat) := [(16, 5, 2)]
def K_M_isBehind : List (Nat × gs_V) := []
noncomputable def C_M_isBehind : List (Nat × Nat × Nat × gs_F) := [(69, 2, 5, f_M_same)]
noncomputable def P_M_isBehind : gs_P := (gs_lk I_M_isBehind, gs_lk F_M_isBehind, gs_lk K_M_isBehind, gs_lk C_M_isBehind)
noncomputable def f_M_isBehind : gs_F := gs_f Y0 3 2 P_M_isBehind
theorem e_M_isBehind (a0 : Nat) (a1 : Int32) (a2 : Int32) (d : gs_D) : f_M_isBehind [(gs_r 20 a0), (gs_i a1), (gs_i a2)] d = gs_ck 2 (gs_g Y0 P_M_isBehind 0 [some (gs_r 20 a0), some (gs_i a1), some (gs_i a2)] [] d) := rfl
theorem k_M_isBehind_0 (a0 : Nat) (a1 : Int32) (a2 : Int32) (d : gs_D) : gs_g Y0 P_M_isBehind 0 [some (gs_r 20 a0), some (gs_i a1), some (gs_i a2)] [] d = if a1 ≤ a2 then gs_g Y0 P_M_isBehind 28 [some (gs_r 20 a0), some (gs_i a1), some (gs_i a2)] [] d else gs_g Y0 P_M_isBehind 5 [some (gs_r 20 a0), some (gs_i a1), some (gs_i a2)] [] d := gs_if 3 (fun _ => rfl)
theorem k_M_isBehind_5 (a0 : Nat) (a1 : Int32) (a2 : Int32) (d : gs_D) : gs_g Y0 P_M_isBehind 5 [some (gs_r 20 a0), some (gs_i a1), some (gs_i a2)] [] d = gs_ix a2 10 (gs_g Y0 P_M_isBehind 12 [some (gs_r 20 a0), some (gs_i a1), some (gs_i a2)] [(gs_i (d.1 23 a0 a2.toNatClampNeg)), (gs_r 20 a0)] d) := gs_gx 5 (fun _ => rfl)
theorem k_M_isBehind_12 (a0 : Nat) (a1 : Int32) (a2 : Int32) (s0 : Nat) (s1 : Int32) (d : gs_D) : gs_g Y0 P_M_isBehind 12 [some (gs_r 20 a0), some (gs_i a1), some (gs_i a2)] [(gs_i s1), (gs_r 20 s0)] d = gs_ix a1 10 (gs_g Y0 P_M_isBehind 18 [some (gs_r 20 a0), some (gs_i a1), some (gs_i a2)] [(gs_i (d.1 23 a0 a1.toNatClampNeg)), (gs_i s1), (gs_r 20 s0)] d) := gs_gx 4 (fun _ => rfl)
theorem k_M_isBehind_18 (a0 : Nat) (a1 : Int32) (a2 : Int32) (s0 : Nat) (s1 : Int32) (s2 : Int32) (d : gs_D) : gs_g Y0 P_M_isBehind 18 [some (gs_r 20 a0), some (gs_i a1), some (gs_i a2)] [(gs_i s2), (gs_i s1), (gs_r 20 s0)] d = gs_af (f_M_same [(gs_r 20 s0), (gs_i s1), (gs_i s2)] d) [] (fun s9 d9 => gs_g Y0 P_M_isBehind 21 [some (gs_r 20 a0), some (gs_i a1), some (gs_i a2)] s9 d9) := gs_gc 1 (fun _ => rfl)
theorem k_M_isBehind_21 (a0 : Nat) (a1 : Int32) (a2 : Int32) (s0 : Int32) (d : gs_D) : gs_g Y0 P_M_isBehind 21 [some (gs_r 20 a0), some (gs_i a1), some (gs_i a2)] [(gs_i s0)] d = if s0 = 0 then gs_g Y0 P_M_isBehind 28 [some (gs_r 20 a0), some (gs_i a1), some (gs_i a2)] [] d else gs_g Y0 P_M_isBehind 24 [some (gs_r 20 a0), some (gs_i a1), some (gs_i a2)] [] d := gs_if 1 (fun _ => rfl)
theorem k_M_isBehind_24 (a0 : Nat) (a1 : Int32) (a2 : Int32) (d : gs_D) : gs_g Y0 P_M_isBehind 24 [some (gs_r 20 a0), some (gs_i a1), some (gs_i a2)] [] d = some (some (gs_i (gs_n 1)), d) := gs_an 3 (fun _ => rfl)
theorem k_M_isBehind_28 (a0 : Nat) (a1 : Int32) (a2 : Int32) (d : gs_D) : gs_g Y0 P_M_isBehind 28 [some (gs_r 20 a0), some (gs_i a1), some (gs_i a2)] [] d = some (some (gs_i (gs_n 0)), d) := gs_an 2 (fun _ => rfl)
def I_M_behindCount : List (Nat × Jvm.ClassFile.Instr × Nat) := [(0, .iconst 0, 0), (1, .istore_n 2, 0), (2, .iconst 0, 0), (3, .istore_n 3, 0), (4, .iload_n 3, 0), (5, .iload_n 1, 0), (6, .if_icmp .ge 26, 32), (9, .aload_n 0, 0), (10, .iload_n 1, 0), (11, .iload_n 3, 0), (12, .invokevirtual 72, 0), (15, .ifCond .eq 9, 24), (18, .iload_n 2, 0), (19, .iconst 1, 0), (20, .iadd, 0), (21, .goto 4, 25), (24, .iload_n 2, 0), (25, .istore_n 2, 0), (26, .iinc 3 1, 0), (29, .goto (-25), 4), (32, .iload_n 2, 0), (33, .ireturn, 0)]
def F_M_behindCount : List (Nat × Nat × Nat) := []
def K_M_behindCount : List (Nat × gs_V) := []
noncomputable def C_M_behindCount : List (Nat × Nat × Nat × gs_F) := [(72, 2, 5, f_M_isBehind)]
noncomputable def P_M_behindCount : gs_P := (gs_lk I_M_behindCount, gs_lk F_M_behindCount, gs_lk K_M_behindCount, gs_lk C_M_behindCount)
noncomputable def f_M_behindCount : gs_F := gs_f Y0 4 1 P_M_behindCount
theorem e_M_behindCount (a0 : Nat) (a1 : Int32) (d : gs_D) : f_M_behindCount [(gs_r 20 a0), (gs_i a1)] d = gs_ck 1 (gs_g Y0 P_M_behindCount 0 [some (gs_r 20 a0), some (gs_i a1), none, none] [] d) := rfl
theorem k_M_behindCount_0 (a0 : Nat) (a1 : Int32) (d : gs_D) : gs_g Y0 P_M_behindCount 0 [some (gs_r 20 a0), some (gs_i a1), none, none] [] d = gs_g Y0 P_M_behindCount 4 [some (gs_r 20 a0), some (gs_i a1), some (gs_i (gs_n 0)), some (gs_i (gs_n 0))] [] d := gs_gs 3 (fun _ => rfl)
theorem k_M_behindCount_4 (a0 : Nat) (a1 : Int32) (a2 : Int32) (a3 : Int32) (d : gs_D) : gs_g Y0 P_M_behindCount 4 [some (gs_r 20 a0), some (gs_i a1), some (gs_i a2), some (gs_i a3)] [] d = if a1 ≤ a3 then gs_g Y0 P_M_behindCount 32 [some (gs_r 20 a0), some (gs_i a1), some (gs_i a2), some (gs_i a3)] [] d else gs_g Y0 P_M_behindCount 9 [some (gs_r 20 a0), some (gs_i a1), some (gs_i a2), some (gs_i a3)] [] d := gs_if 3 (fun _ => rfl)
theorem k_M_behindCount_9 (a0 : Nat) (a1 : Int32) (a2 : Int32) (a3 : Int32) (d : gs_D) : gs_g Y0 P_M_behindCount 9 [some (gs_r 20 a0), some (gs_i a1), some (gs_i a2), some (gs_i a3)] [] d = gs_af (f_M_isBehind [(gs_r 20 a0), (gs_i a1), (gs_i a3)] d) [] (fun s9 d9 => gs_g Y0 P_M_behindCount 15 [some (gs_r 20 a0), some (gs_i a1), some (gs_i a2), some (gs_i a3)] s9 d9) := gs_gc 4 (fun _ => rfl)
theorem k_M_behindCount_15 (a0 : Nat) (a1 : Int32) (a2 : Int32) (a3 : Int32) (s0 : Int32) (d : gs_D) : gs_g Y0 P_M_behindCount 15 [some (gs_r 20 a0), some (gs_i a1), some (gs_i a2), some (gs_i a3)] [(gs_i s0)] d = if s0 = 0 then gs_g Y0 P_M_behindCount 24 [some (gs_r 20 a0), some (gs_i a1), some (gs_i a2), some (gs_i a3)] [] d else gs_g Y0 P_M_behindCount 18 [some (gs_r 20 a0), some (gs_i a1), some (gs_i a2), some (gs_i a3)] [] d := gs_if 1 (fun _ => rfl)
theorem k_M_behindCount_18 (a0 : Nat) (a1 : Int32) (a2 : Int32) (a3 : Int32) (d : gs_D) : gs_g Y0 P_M_behindCount 18 [some (gs_r 20 a0), some (gs_i a1), some (gs_i a2), some (gs_i a3)] [] d = gs_g Y0 P_M_behindCount 4 [some (gs_r 20 a0), some (gs_i a1), some (gs_i (a2 + (gs_n 1))), some (gs_i (a3 + gs_n 1))] [] d := gs_gs 6 (fun _ => rfl)
theorem k_M_behindCount_24 (a0 : Nat) (a1 : Int32) (a2 : Int32) (a3 : Int32) (d : gs_D) : gs_g Y0 P_M_behindCount 24 [some (gs_r 20 a0), some (gs_i a1), some (gs_i a2), some (gs_i a3)] [] d = gs_g Y0 P_M_behindCount 4 [some (gs_r 20 a0), some (gs_i a1), some (gs_i a2), some (gs_i (a3 + gs_n 1))] [] d := gs_gs 3 (fun _ => rfl)
theorem k_M_behindCount_32 (a0 : Nat) (a1 : Int32) (a2 : Int32) (a3 : Int32) (d : gs_D) : gs_g Y0 P_M_behindCount 32 [some (gs_r 20 a0), some (gs_i a1), some (gs_i a2), some (gs_i a3)] [] d = some (some (gs_i a2), d) := gs_an 2 (fun _ => rfl)
def I_M_enough : List (Nat × Jvm.ClassFile.Instr × Nat) := [(0, .iconst 1, 0), (1, .istore_n 2, 0), (2, .iconst 0, 0), (3, .istore_n 3, 0), (4, .iload_n 3, 0), (5, .bipush 54, 0), (7, .if_icmp .ge 45, 52), (10, .aload_n 0, 0), (11, .iload_n 1, 0), (12, .iload_n 3, 0), (13, .invokevirtual 55, 0), (16, .lstore 4, 0), (18, .iload_n 2, 0), (19, .ifCond .eq 25, 44), (22, .lload 4, 0), (24, .lconst 0, 0), (25, .lcmp, 0), (26, .ifCond .le 14, 40), (29, .aload_n 0, 0), (30, .iload_n 3, 0), (31, .invokevirtual 75, 0), (34, .lload 4, 0), (36, .lcmp, 0), (37, .ifCond .lt 7, 44), (40, .iconst 1, 0), (41, .goto 4, 45), (44, .iconst 0, 0), (45, .istore_n 2, 0), (46, .iinc 3 1, 0), (49, .goto (-45), 4), (52, .iload_n 2, 0), (53, .ireturn, 0)]
def F_M_enough : List (Nat × Nat × Nat) := []
def K_M_enough : List (Nat × gs_V) := []
noncomputable def C_M_enough : List (Nat × Nat × Nat × gs_F) := [(55, 2, 5, f_M_takes), (75, 1, 5, f_M_above)]
noncomputable def P_M_enough : gs_P := (gs_lk I_M_enough, gs_lk F_M_enough, gs_lk K_M_enough, gs_lk C_M_enough)
noncomputable def f_M_enough : gs_F := gs_f Y0 6 2 P_M_enough
theorem e_M_enough (a0 : Nat) (a1 : Int32) (d : gs_D) : f_M_enough [(gs_r 20 a0), (gs_i a1)] d = gs_ck 2 (gs_g Y0 P_M_enough 0 [some (gs_r 20 a0), some (gs_i a1), none, none, none, none] [] d) := rfl
theorem k_M_enough_0 (a0 : Nat) (a1 : Int32) (d : gs_D) : gs_g Y0 P_M_enough 0 [some (gs_r 20 a0), some (gs_i a1), none, none, none, none] [] d = gs_g Y0 P_M_enough 4 [some (gs_r 20 a0), some (gs_i a1), some (gs_i (gs_n 1)), some (gs_i (gs_n 0)), none, none] [] d := gs_gs 3 (fun _ => rfl)
theorem k_M_enough_4 (a0 : Nat) (a1 : Int32) (a2 : Int32) (a3 : Int32) (a4 : Option gs_V) (d : gs_D) : gs_g Y0 P_M_enough 4 [some (gs_r 20 a0), some (gs_i a1), some (gs_i a2), some (gs_i a3), a4, none] [] d = if (Int8.ofInt 54).toInt32 ≤ a3 then gs_g Y0 P_M_enough 52 [some (gs_r 20 a0), some (gs_i a1), some (gs_i a2), some (gs_i a3), a4, none] [] d else gs_g Y0 P_M_enough 10 [some (gs_r 20 a0), some (gs_i a1), some (gs_i a2), some (gs_i a3), a4, none] [] d := gs_if 3 (fun _ => rfl)
theorem k_M_enough_10 (a0 : Nat) (a1 : Int32) (a2 : Int32) (a3 : Int32) (a4 : Option gs_V) (d : gs_D) : gs_g Y0 P_M_enough 10 [some (gs_r 20 a0), some (gs_i a1), some (gs_i a2), some (gs_i a3), a4, none] [] d = gs_af (f_M_takes [(gs_r 20 a0), (gs_i a1), (gs_i a3)] d) [] (fun s9 d9 => gs_g Y0 P_M_enough 16 [some (gs_r 20 a0), some (gs_i a1), some (gs_i a2), some (gs_i a3), a4, none] s9 d9) := gs_gc 4 (fun _ => rfl)
theorem k_M_enough_16 (a0 : Nat) (a1 : Int32) (a2 : Int32) (a3 : Int32) (a4 : Option gs_V) (s0 : Int64) (d : gs_D) : gs_g Y0 P_M_enough 16 [some (gs_r 20 a0), some (gs_i a1), some (gs_i a2), some (gs_i a3), a4, none] [(gs_l s0)] d = if a2 = 0 then gs_g Y0 P_M_enough 44 [some (gs_r 20 a0), some (gs_i a1), some (gs_i a2), some (gs_i a3), some (gs_l s0), none] [] d else gs_g Y0 P_M_enough 22 [some (gs_r 20 a0), some (gs_i a1), some (gs_i a2), some (gs_i a3), some (gs_l s0), none] [] d := gs_if 3 (fun _ => rfl)
theorem k_M_enough_22 (a0 : Nat) (a1 : Int32) (a2 : Int32) (a3 : Int32) (a4 : Int64) (d : gs_D) : gs_g Y0 P_M_enough 22 [some (gs_r 20 a0), some (gs_i a1), some (gs_i a2), some (gs_i a3), some (gs_l a4), none] [] d = if (lg_cmp a4 gs_k0) ≤ 0 then gs_g Y0 P_M_enough 40 [some (gs_r 20 a0), some (gs_i a1), some (gs_i a2), some (gs_i a3), some (gs_l a4), none] [] d else gs_g Y0 P_M_enough 29 [some (gs_r 20 a0), some (gs_i a1), some (gs_i a2), some (gs_i a3), some (gs_l a4), none] [] d := gs_if 4 (fun _ => rfl)
theorem k_M_enough_29 (a0 : Nat) (a1 : Int32) (a2 : Int32) (a3 : Int32) (a4 : Int64) (d : gs_D) : gs_g Y0 P_M_enough 29 [some (gs_r 20 a0), some (gs_i a1), some (gs_i a2), some (gs_i a3), some (gs_l a4), none] [] d = gs_af (f_M_above [(gs_r 20 a0), (gs_i a3)] d) [] (fun s9 d9 => gs_g Y0 P_M_enough 34 [some (gs_r 20 a0), some (gs_i a1), some (gs_i a2), some (gs_i a3), some (gs_l a4), none] s9 d9) := gs_gc 3 (fun _ => rfl)
theorem k_M_enough_34 (a0 : Nat) (a1 : Int32) (a2 : Int32) (a3 : Int32) (a4 : Int64) (s0 : Int64) (d : gs_D) : gs_g Y0 P_M_enough 34 [some (gs_r 20 a0), some (gs_i a1), some (gs_i a2), some (gs_i a3), some (gs_l a4), none] [(gs_l s0)] d = if (lg_cmp s0 a4) < 0 then gs_g Y0 P_M_enough 44 [some (gs_r 20 a0), some (gs_i a1), some (gs_i a2), some (gs_i a3), some (gs_l a4), none] [] d else gs_g Y0 P_M_enough 40 [some (gs_r 20 a0), some (gs_i a1), some (gs_i a2), some (gs_i a3), some (gs_l a4), none] [] d := gs_if 3 (fun _ => rfl)
theorem k_M_enough_40 (a0 : Nat) (a1 : Int32) (a2 : Int32) (a3 : Int32) (a4 : Int64) (d : gs_D) : gs_g Y0 P_M_enough 40 [some (gs_r 20 a0), some (gs_i a1), some (gs_i a2), some (gs_i a3), some (gs_l a4), none] [] d = gs_g Y0 P_M_enough 4 [some (gs_r 20 a0), some (gs_i a1), some (gs_i (gs_n 1)), some (gs_i (a3 + gs_n 1)), some (gs_l a4), none] [] d := gs_gs 4 (fun _ => rfl)
theorem k_M_enough_44 (a0 : Nat) (a1 : Int32) (a2 : Int32) (a3 : Int32) (a4 : Int64) (d : gs_D) : gs_g Y0 P_M_enough 44 [some (gs_r 20 a0), some (gs_i a1), some (gs_i a2), some (gs_i a3), some (gs_l a4), none] [] d = gs_g Y0 P_M_enough 4 [some (gs_r 20 a0), some (gs_i a1), some (gs_i (gs_n 0)), some (gs_i (a3 + gs_n 1)), some (gs_l a4), none] [] d := gs_gs 3 (fun _ => rfl)
theorem k_M_enough_52 (a0 : Nat) (a1 : Int32) (a2 : Int32) (a3 : Int32) (a4 : Option gs_V) (d : gs_D) : gs_g Y0 P_M_enough 52 [some (gs_r 20 a0), some (gs_i a1), some (gs_i a2), some (gs_i a3), a4, none] [] d = some (some (gs_i a2), d) := gs_an 2 (fun _ => rfl)
def I_M_settle : List (Nat × Jvm.ClassFile.Instr × Nat) := [(0, .aload_n 0, 0), (1, .iload_n 1, 0), (2, .iconst 0, 0), (3, .invokevirtual 33, 0), (6, .istore_n 2, 0), (7, .aload_n 0, 0), (8, .iload_n 1, 0), (9, .iconst 1, 0), (10, .invokevirtual 33, 0), (13, .istore_n 3, 0), (14, .aload_n 0, 0), (15, .iload_n 1, 0), (16, .iconst 5, 0), (17, .invokevirtual 33, 0), (20, .i2l, 0), (21, .lstore 4, 0), (23, .iload_n 2, 0), (24, .ifCond .lt 67, 91), (27, .aload_n 0, 0), (28, .getfield 7, 0), (31, .iconst 3, 0), (32, .iload_n 2, 0), (33, .imul, 0), (34, .dup2, 0), (35, .laload, 0), (36, .lload 4, 0), (38, .lsub, 0), (39, .lastore, 0), (40, .aload_n 0, 0), (41, .getfield 7, 0), (44, .iconst 3, 0), (45, .iload_n 3, 0), (46, .imul, 0), (47, .dup2, 0), (48, .laload, 0), (49, .lload 4, 0), (51, .ladd, 0), (52, .lastore, 0), (53, .aload_n 0, 0), (54, .getfield 7, 0), (57, .bipush 70, 0), (59, .bipush 6, 0), (61, .iload_n 2, 0), (62, .imul, 0), (63, .iadd, 0), (64, .iload_n 3, 0), (65, .iadd, 0), (66, .dup2, 0), (67, .laload, 0), (68, .lload 4, 0), (70, .ladd, 0), (71, .lastore, 0), (72, .aload_n 0, 0), (73, .getfield 7, 0), (76, .bipush 70, 0), (78, .bipush 6, 0), (80, .iload_n 3, 0), (81, .imul, 0), (82, .iadd, 0), (83, .iload_n 2, 0), (84, .iadd, 0), (85, .dup2, 0), (86, .laload, 0), (87, .lload 4, 0), (89, .lsub, 0), (90, .lastore, 0), (91, .aload_n 0, 0), (92, .iload_n 1, 0), (93, .iconst 2, 0), (94, .invokevirtual 33, 0), (97, .ifCond .lt 65, 162), (100, .aload_n 0, 0), (101, .iload_n 1, 0), (102, .iconst 4, 0), (103, .invokevirtual 33, 0), (106, .istore 6, 0), (108, .aload_n 0, 0), (109, .getfield 7, 0), (112, .iconst 3, 0), (113, .aload_n 0, 0), (114, .iload_n 1, 0), (115, .iconst 2, 0), (116, .invokevirtual 33, 0), (119, .imul, 0), (120, .iload 6, 0), (122, .iadd, 0), (123, .dup2, 0), (124, .laload, 0), (125, .aload_n 0, 0), (126, .iload_n 1, 0), (127, .bipush 6, 0), (129, .invokevirtual 33, 0), (132, .i2l, 0), (133, .lsub, 0), (134, .lastore, 0), (135, .aload_n 0, 0), (136, .getfield 7, 0), (139, .iconst 3, 0), (140, .aload_n 0, 0), (141, .iload_n 1, 0), (142, .iconst 3, 0), (143, .invokevirtual 33, 0), (146, .imul, 0), (147, .iload 6, 0), (149, .iadd, 0), (150, .dup2, 0), (151, .laload, 0), (152, .aload_n 0, 0), (153, .iload_n 1, 0), (154, .bipush 6, 0), (156, .invokevirtual 33, 0), (159, .i2l, 0), (160, .ladd, 0), (161, .lastore, 0), (162, .aload_n 0, 0), (163, .iload_n 1, 0), (164, .iconst 1, 0), (165, .invokevirtual 78, 0), (168, .return_, 0)]
def F_M_settle : List (Nat × Nat × Nat) := [(7, 5, 0)]
def K_M_settle : List (Nat × gs_V) := []
noncomputable def C_M_settle : List (Nat × Nat × Nat × gs_F) := [(33, 2, 5, f_M_of), (78, 2, 5, f_M_setFate)]
noncomputable def P_M_settle : gs_P := (gs_lk I_M_settle, gs_lk F_M_settle, gs_lk K_M_settle, gs_lk C_M_settle)
noncomputable def f_M_settle : gs_F := gs_f Y0 7 0 P_M_settle
theorem e_M_settle (a0 : Nat) (a1 : Int32) (d : gs_D) : f_M_settle [(gs_r 20 a0), (gs_i a1)] d = gs_ck 0 (gs_g Y0 P_M_settle 0 [some (gs_r 20 a0), some (gs_i a1), none, none, none, none, none] [] d) := rfl
theorem k_M_settle_0 (a0 : Nat) (a1 : Int32) (d : gs_D) : gs_g Y0 P_M_settle 0 [some (gs_r 20 a0), some (gs_i a1), none, none, none, none, none] [] d = gs_af (f_M_of [(gs_r 20 a0), (gs_i a1), (gs_i (gs_n 0))] d) [] (fun s9 d9 => gs_g Y0 P_M_settle 6 [some (gs_r 20 a0), some (gs_i a1), none, none, none, none, none] s9 d9) := gs_gc 4 (fun _ => rfl)
theorem k_M_settle_6 (a0 : Nat) (a1 : Int32) (s0 : Int32) (d : gs_D) : gs_g Y0 P_M_settle 6 [some (gs_r 20 a0), some (gs_i a1), none, none, none, none, none] [(gs_i s0)] d = gs_af (f_M_of [(gs_r 20 a0), (gs_i a1), (gs_i (gs_n 1))] d) [] (fun s9 d9 => gs_g Y0 P_M_settle 13 [some (gs_r 20 a0), some (gs_i a1), some (gs_i s0), none, none, none, none] s9 d9) := gs_gc 5 (fun _ => rfl)
theorem k_M_settle_13 (a0 : Nat) (a1 : Int32) (a2 : Int32) (s0 : Int32) (d : gs_D) : gs_g Y0 P_M_settle 13 [some (gs_r 20 a0), some (gs_i a1), some (gs_i a2), none, none, none, none] [(gs_i s0)] d = gs_af (f_M_of [(gs_r 20 a0), (gs_i a1), (gs_i (gs_n 5))] d) [] (fun s9 d9 => gs_g Y0 P_M_settle 20 [some (gs_r 20 a0), some (gs_i a1), some (gs_i a2), some (gs_i s0), none, none, none] s9 d9) := gs_gc 5 (fun _ => rfl)
theorem k_M_settle_20 (a0 : Nat) (a1 : Int32) (a2 : Int32) (a3 : Int32) (s0 : Int32) (d : gs_D) : gs_g Y0 P_M_settle 20 [some (gs_r 20 a0), some (gs_i a1), some (gs_i a2), some (gs_i a3), none, none, none] [(gs_i s0)] d = if a2 < 0 then gs_g Y0 P_M_settle 91 [some (gs_r 20 a0), some (gs_i a1), some (gs_i a2), some (gs_i a3), some (gs_l s0.toInt64), none, none] [] d else gs_g Y0 P_M_settle 27 [some (gs_r 20 a0), some (gs_i a1), some (gs_i a2), some (gs_i a3), some (gs_l s0.toInt64), none, none] [] d := gs_if 4 (fun _ => rfl)
theorem k_M_settle_27 (a0 : Nat) (a1 : Int32) (a2 : Int32) (a3 : Int32) (a4 : Int64) (d : gs_D) : gs_g Y0 P_M_settle 27 [some (gs_r 20 a0), some (gs_i a1), some (gs_i a2), some (gs_i a3), some (gs_l a4), none, none] [] d = gs_ix ((gs_n 3) * a2) 430 (gs_g Y0 P_M_settle 36 [some (gs_r 20 a0), some (gs_i a1), some (gs_i a2), some (gs_i a3), some (gs_l a4), none, none] [(gs_l (d.2 21 a0 ((gs_n 3) * a2).toNatClampNeg)), (gs_i ((gs_n 3) * a2)), (gs_r 21 a0)] d) := gs_gx 7 (fun _ => rfl)
theorem k_M_settle_36 (a0 : Nat) (a1 : Int32) (a2 : Int32) (a3 : Int32) (a4 : Int64) (s0 : Nat) (s1 : Int32) (s2 : Int64) (d : gs_D) : gs_g Y0 P_M_settle 36 [some (gs_r 20 a0), some (gs_i a1), some (gs_i a2), some (gs_i a3), some (gs_l a4), none, none] [(gs_l s2), (gs_i s1), (gs_r 21 s0)] d = gs_ix s1 430 (gs_g Y0 P_M_settle 40 [some (gs_r 20 a0), some (gs_i a1), some (gs_i a2), some (gs_i a3), some (gs_l a4), none, none] [] (gs_wL d 21 s0 s1.toNatClampNeg (s2 - a4))) := gs_gx 3 (fun _ => rfl)
theorem k_M_settle_40 (a0 : Nat) (a1 : Int32) (a2 : Int32) (a3 : Int32) (a4 : Int64) (d : gs_D) : gs_g Y0 P_M_settle 40 [some (gs_r 20 a0), some (gs_i a1), some (gs_i a2), some (gs_i a3), some (gs_l a4), none, none] [] d = gs_ix ((gs_n 3) * a3) 430 (gs_g Y0 P_M_settle 49 [some (gs_r 20 a0), some (gs_i a1), some (gs_i a2), some (gs_i a3), some (gs_l a4), none, none] [(gs_l (d.2 21 a0 ((gs_n 3) * a3).toNatClampNeg)), (gs_i ((gs_n 3) * a3)), (gs_r 21 a0)] d) := gs_gx 7 (fun _ => rfl)
theorem k_M_settle_49 (a0 : Nat) (a1 : Int32) (a2 : Int32) (a3 : Int32) (a4 : Int64) (s0 : Nat) (s1 : Int32) (s2 : Int64) (d : gs_D) : gs_g Y0 P_M_settle 49 [some (gs_r 20 a0), some (gs_i a1), some (gs_i a2), some (gs_i a3), some (gs_l a4), none, none] [(gs_l s2), (gs_i s1), (gs_r 21 s0)] d = gs_ix s1 430 (gs_g Y0 P_M_settle 53 [some (gs_r 20 a0), some (gs_i a1), some (gs_i a2), some (gs_i a3), some (gs_l a4), none, none] [] (gs_wL d 21 s0 s1.toNatClampNeg (s2 + a4))) := gs_gx 3 (fun _ => rfl)
theorem k_M_settle_53 (a0 : Nat) (a1 : Int32) (a2 : Int32) (a3 : Int32) (a4 : Int64) (d : gs_D) : gs_g Y0 P_M_settle 53 [some (gs_r 20 a0), some (gs_i a1), some (gs_i a2), some (gs_i a3), some (gs_l a4), none, none] [] d = gs_ix (((Int8.ofInt 70).toInt32 + ((Int8.ofInt 6).toInt32 * a2)) + a3) 430 (gs_g Y0 P_M_settle 68 [some (gs_r 20 a0), some (gs_i a1), some (gs_i a2), some (gs_i a3), some (gs_l a4), none, none] [(gs_l (d.2 21 a0 (((Int8.ofInt 70).toInt32 + ((Int8.ofInt 6).toInt32 * a2)) + a3).toNatClampNeg)), (gs_i (((Int8.ofInt 70).toInt32 + ((Int8.ofInt 6).toInt32 * a2)) + a3)), (gs_r 21 a0)] d) := gs_gx 11 (fun _ => rfl)
theorem k_M_settle_68 (a0 : Nat) (a1 : Int32) (a2 : Int32) (a3 : Int32) (a4 : Int64) (s0 : Nat) (s1 : Int32) (s2 : Int64) (d : gs_D) : gs_g Y0 P_M_settle 68 [some (gs_r 20 a0), some (gs_i a1), some (gs_i a2), some (gs_i a3), some (gs_l a4), none, none] [(gs_l s2), (gs_i s1), (gs_r 21 s0)] d = gs_ix s1 430 (gs_g Y0 P_M_settle 72 [some (gs_r 20 a0), some (gs_i a1), some (gs_i a2), some (gs_i a3), some (gs_l a4), none, none] [] (gs_wL d 21 s0 s1.toNatClampNeg (s2 + a4))) := gs_gx 3 (fun _ => rfl)
theorem k_M_settle_72 (a0 : Nat) (a1 : Int32) (a2 : Int32) (a3 : Int32) (a4 : Int64) (d : gs_D) : gs_g Y0 P_M_settle 72 [some (gs_r 20 a0), some (gs_i a1), some (gs_i a2), some (gs_i a3), some (gs_l a4), none, none] [] d = gs_ix (((Int8.ofInt 70).toInt32 + ((Int8.ofInt 6).toInt32 * a3)) + a2) 430 (gs_g Y0 P_M_settle 87 [some (gs_r 20 a0), some (gs_i a1), some (gs_i a2), some (gs_i a3), some (gs_l a4), none, none] [(gs_l (d.2 21 a0 (((Int8.ofInt 70).toInt32 + ((Int8.ofInt 6).toInt32 * a3)) + a2).toNatClampNeg)), (gs_i (((Int8.ofInt 70).toInt32 + ((Int8.ofInt 6).toInt32 * a3)) + a2)), (gs_r 21 a0)] d) := gs_gx 11 (fun _ => rfl)
theorem k_M_settle_87 (a0 : Nat) (a1 : Int32) (a2 : Int32) (a3 : Int32) (a4 : Int64) (s0 : Nat) (s1 : Int32) (s2 : Int64) (d : gs_D) : gs_g Y0 P_M_settle 87 [some (gs_r 20 a0), some (gs_i a1), some (gs_i a2), some (gs_i a3), some (gs_l a4), none, none] [(gs_l s2), (gs_i s1), (gs_r 21 s0)] d = gs_ix s1 430 (gs_g Y0 P_M_settle 91 [some (gs_r 20 a0), some (gs_i a1), some (gs_i a2), some (gs_i a3), some (gs_l a4), none, none] [] (gs_wL d 21 s0 s1.toNatClampNeg (s2 - a4))) := gs_gx 3 (fun _ => rfl)
theorem k_M_settle_91 (a0 : Nat) (a1 : Int32) (a2 : Int32) (a3 : Int32) (a4 : Int64) (d : gs_D) : gs_g Y0 P_M_settle 91 [some (gs_r 20 a0), some (gs_i a1), some (gs_i a2), some (gs_i a3), some (gs_l a4), none, none] [] d = gs_af (f_M_of [(gs_r 20 a0), (gs_i a1), (gs_i (gs_n 2))] d) [] (fun s9 d9 => gs_g Y0 P_M_settle 97 [some (gs_r 20 a0), some (gs_i a1), some (gs_i a2), some (gs_i a3), some (gs_l a4), none, none] s9 d9) := gs_gc 4 (fun _ => rfl)
theorem k_M_settle_97 (a0 : Nat) (a1 : Int32) (a2 : Int32) (a3 : Int32) (a4 : Int64) (s0 : Int32) (d : gs_D) : gs_g Y0 P_M_settle 97 [some (gs_r 20 a0), some (gs_i a1), some (gs_i a2), some (gs_i a3), some (gs_l a4), none, none] [(gs_i s0)] d = if s0 < 0 then gs_g Y0 P_M_settle 162 [some (gs_r 20 a0), some (gs_i a1), some (gs_i a2), some (gs_i a3), some (gs_l a4), none, none] [] d else gs_g Y0 P_M_settle 100 [some (gs_r 20 a0), some (gs_i a1), some (gs_i a2), some (gs_i a3), some (gs_l a4), none, none] [] d := gs_if 1 (fun _ => rfl)
theorem k_M_settle_100 (a0 : Nat) (a1 : Int32) (a2 : Int32) (a3 : Int32) (a4 : Int64) (d : gs_D) : gs_g Y0 P_M_settle 100 [some (gs_r 20 a0), some (gs_i a1), some (gs_i a2), some (gs_i a3), some (gs_l a4), none, none] [] d = gs_af (f_M_of [(gs_r 20 a0), (gs_i a1), (gs_i (gs_n 4))] d) [] (fun s9 d9 => gs_g Y0 P_M_settle 106 [some (gs_r 20 a0), some (gs_i a1), some (gs_i a2), some (gs_i a3), some (gs_l a4), none, none] s9 d9) := gs_gc 4 (fun _ => rfl)
theorem k_M_settle_106 (a0 : Nat) (a1 : Int32) (a2 : Int32) (a3 : Int32) (a4 : Int64) (s0 : Int32) (d : gs_D) : gs_g Y0 P_M_settle 106 [some (gs_r 20 a0), some (gs_i a1), some (gs_i a2), some (gs_i a3), some (gs_l a4), none, none] [(gs_i s0)] d = gs_af (f_M_of [(gs_r 20 a0), (gs_i a1), (gs_i (gs_n 2))] d) [(gs_i (gs_n 3)), (gs_r 21 a0)] (fun s9 d9 => gs_g Y0 P_M_settle 119 [some (gs_r 20 a0), some (gs_i a1), some (gs_i a2), some (gs_i a3), some (gs_l a4), none, some (gs_i s0)] s9 d9) := gs_gc 8 (fun _ => rfl)
theorem k_M_settle_119 (a0 : Nat) (a1 : Int32) (a2 : Int32) (a3 : Int32) (a4 : Int64) (a6 : Int32) (s0 : Nat) (s1 : Int32) (s2 : Int32) (d : gs_D) : gs_g Y0 P_M_settle 119 [some (gs_r 20 a0), some (gs_i a1), some (gs_i a2), some (gs_i a3), some (gs_l a4), none, some (gs_i a6)] [(gs_i s2), (gs_i s1), (gs_r 21 s0)] d = gs_ix ((s1 * s2) + a6) 430 (gs_g Y0 P_M_settle 125 [some (gs_r 20 a0), some (gs_i a1), some (gs_i a2), some (gs_i a3), some (gs_l a4), none, some (gs_i a6)] [(gs_l (d.2 21 s0 ((s1 * s2) + a6).toNatClampNeg)), (gs_i ((s1 * s2) + a6)), (gs_r 21 s0)] d) := gs_gx 5 (fun _ => rfl)
theorem k_M_settle_125 (a0 : Nat) (a1 : Int32) (a2 : Int32) (a3 : Int32) (a4 : Int64) (a6 : Int32) (s0 : Nat) (s1 : Int32) (s2 : Int64) (d : gs_D) : gs_g Y0 P_M_settle 125 [some (gs_r 20 a0), some (gs_i a1), some (gs_i a2), some (gs_i a3), some (gs_l a4), none, some (gs_i a6)] [(gs_l s2), (gs_i s1), (gs_r 21 s0)] d = gs_af (f_M_of [(gs_r 20 a0), (gs_i a1), (gs_i (Int8.ofInt 6).toInt32)] d) [(gs_l s2), (gs_i s1), (gs_r 21 s0)] (fun s9 d9 => gs_g Y0 P_M_settle 132 [some (gs_r 20 a0), some (gs_i a1), some (gs_i a2), some (gs_i a3), some (gs_l a4), none, some (gs_i a6)] s9 d9) := gs_gc 4 (fun _ => rfl)
theorem k_M_settle_132 (a0 : Nat) (a1 : Int32) (a2 : Int32) (a3 : Int32) (a4 : Int64) (a6 : Int32) (s0 : Nat) (s1 : Int32) (s2 : Int64) (s3 : Int32) (d : gs_D) : gs_g Y0 P_M_settle 132 [some (gs_r 20 a0), some (gs_i a1), some (gs_i a2), some (gs_i a3), some (gs_l a4), none, some (gs_i a6)] [(gs_i s3), (gs_l s2), (gs_i s1), (gs_r 21 s0)] d = gs_ix s1 430 (gs_g Y0 P_M_settle 135 [some (gs_r 20 a0), some (gs_i a1), some (gs_i a2), some (gs_i a3), some (gs_l a4), none, some (gs_i a6)] [] (gs_wL d 21 s0 s1.toNatClampNeg (s2 - s3.toInt64))) := gs_gx 3 (fun _ => rfl)
theorem k_M_settle_135 (a0 : Nat) (a1 : Int32) (a2 : Int32) (a3 : Int32) (a4 : Int64) (a6 : Int32) (d : gs_D) : gs_g Y0 P_M_settle 135 [some (gs_r 20 a0), some (gs_i a1), some (gs_i a2), some (gs_i a3), some (gs_l a4), none, some (gs_i a6)] [] d = gs_af (f_M_of [(gs_r 20 a0), (gs_i a1), (gs_i (gs_n 3))] d) [(gs_i (gs_n 3)), (gs_r 21 a0)] (fun s9 d9 => gs_g Y0 P_M_settle 146 [some (gs_r 20 a0), some (gs_i a1), some (gs_i a2), some (gs_i a3), some (gs_l a4), none, some (gs_i a6)] s9 d9) := gs_gc 7 (fun _ => rfl)
theorem k_M_settle_146 (a0 : Nat) (a1 : Int32) (a2 : Int32) (a3 : Int32) (a4 : Int64) (a6 : Int32) (s0 : Nat) (s1 : Int32) (s2 : Int32) (d : gs_D) : gs_g Y0 P_M_settle 146 [some (gs_r 20 a0), some (gs_i a1), some (gs_i a2), some (gs_i a3), some (gs_l a4), none, some (gs_i a6)] [(gs_i s2), (gs_i s1), (gs_r 21 s0)] d = gs_ix ((s1 * s2) + a6) 430 (gs_g Y0 P_M_settle 152 [some (gs_r 20 a0), some (gs_i a1), some (gs_i a2), some (gs_i a3), some (gs_l a4), none, some (gs_i a6)] [(gs_l (d.2 21 s0 ((s1 * s2) + a6).toNatClampNeg)), (gs_i ((s1 * s2) + a6)), (gs_r 21 s0)] d) := gs_gx 5 (fun _ => rfl)
theorem k_M_settle_152 (a0 : Nat) (a1 : Int32) (a2 : Int32) (a3 : Int32) (a4 : Int64) (a6 : Int32) (s0 : Nat) (s1 : Int32) (s2 : Int64) (d : gs_D) : gs_g Y0 P_M_settle 152 [some (gs_r 20 a0), some (gs_i a1), some (gs_i a2), some (gs_i a3), some (gs_l a4), none, some (gs_i a6)] [(gs_l s2), (gs_i s1), (gs_r 21 s0)] d = gs_af (f_M_of [(gs_r 20 a0), (gs_i a1), (gs_i (Int8.ofInt 6).toInt32)] d) [(gs_l s2), (gs_i s1), (gs_r 21 s0)] (fun s9 d9 => gs_g Y0 P_M_settle 159 [some (gs_r 20 a0), some (gs_i a1), some (gs_i a2), some (gs_i a3), some (gs_l a4), none, some (gs_i a6)] s9 d9) := gs_gc 4 (fun _ => rfl)
theorem k_M_settle_159 (a0 : Nat) (a1 : Int32) (a2 : Int32) (a3 : Int32) (a4 : Int64) (a6 : Int32) (s0 : Nat) (s1 : Int32) (s2 : Int64) (s3 : Int32) (d : gs_D) : gs_g Y0 P_M_settle 159 [some (gs_r 20 a0), some (gs_i a1), some (gs_i a2), some (gs_i a3), some (gs_l a4), none, some (gs_i a6)] [(gs_i s3), (gs_l s2), (gs_i s1), (gs_r 21 s0)] d = gs_ix s1 430 (gs_g Y0 P_M_settle 162 [some (gs_r 20 a0), some (gs_i a1), some (gs_i a2), some (gs_i a3), some (gs_l a4), none, some (gs_i a6)] [] (gs_wL d 21 s0 s1.toNatClampNeg (s2 + s3.toInt64))) := gs_gx 3 (fun _ => rfl)
theorem k_M_settle_162 (a0 : Nat) (a1 : Int32) (a2 : Int32) (a3 : Int32) (a4 : Int64) (a6 : Option gs_V) (d : gs_D) : gs_g Y0 P_M_settle 162 [some (gs_r 20 a0), some (gs_i a1), some (gs_i a2), some (gs_i a3), some (gs_l a4), none, a6] [] d = gs_af (f_M_setFate [(gs_r 20 a0), (gs_i a1), (gs_i (gs_n 1))] d) [] (fun s9 d9 => gs_g Y0 P_M_settle 168 [some (gs_r 20 a0), some (gs_i a1), some (gs_i a2), some (gs_i a3), some (gs_l a4), none, a6] s9 d9) := gs_gc 4 (fun _ => rfl)
theorem k_M_settle_168 (a0 : Nat) (a1 : Int32) (a2 : Int32) (a3 : Int32) (a4 : Int64) (a6 : Option gs_V) (d : gs_D) : gs_g Y0 P_M_settle 168 [some (gs_r 20 a0), some (gs_i a1), some (gs_i a2), some (gs_i a3), some (gs_l a4), none, a6] [] d = some (none, d) := gs_an 1 (fun _ => rfl)
def I_M_goThrough : List (Nat × Jvm.ClassFile.Instr × Nat) := [(0, .iconst 0, 0), (1, .istore_n 1, 0), (2, .iconst 1, 0), (3, .istore_n 2, 0), (4, .iload_n 2, 0), (5, .ifCond .eq 68, 73), (8, .iconst 0, 0), (9, .istore_n 2, 0), (10, .aload_n 0, 0), (11, .invokevirtual 82, 0), (14, .iconst 0, 0), (15, .istore_n 3, 0), (16, .iload_n 3, 0), (17, .aload_n 0, 0), (18, .getfield 58, 0), (21, .if_icmp .ge 49, 70), (24, .iload_n 2, 0), (25, .ifCond .ne 45, 70), (28, .aload_n 0, 0), (29, .iload_n 3, 0), (30, .invokevirtual 85, 0), (33, .ifCond .ne 31, 64), (36, .aload_n 0, 0), (37, .aload_n 0, 0), (38, .getfield 16, 0), (41, .iload_n 3, 0), (42, .iaload, 0), (43, .invokevirtual 88, 0), (46, .ifCond .eq 18, 64), (49, .aload_n 0, 0), (50, .aload_n 0, 0), (51, .getfield 16, 0), (54, .iload_n 3, 0), (55, .iaload, 0), (56, .invokevirtual 91, 0), (59, .iinc 1 1, 0), (62, .iconst 1, 0), (63, .istore_n 2, 0), (64, .iinc 3 1, 0), (67, .goto (-51), 16), (70, .goto (-66), 4), (73, .iload_n 1, 0), (74, .ireturn, 0)]
def F_M_goThrough : List (Nat × Nat × Nat) := [(58, 5, 3), (16, 5, 2)]
def K_M_goThrough : List (Nat × gs_V) := []
noncomputable def C_M_goThrough : List (Nat × Nat × Nat × gs_F) := [(82, 0, 5, f_M_order), (85, 1, 5, f_M_behindCount), (88, 1, 5, f_M_enough), (91, 1, 5, f_M_settle)]
noncomputable def P_M_goThrough : gs_P := (gs_lk I_M_goThrough, gs_lk F_M_goThrough, gs_lk K_M_goThrough, gs_lk C_M_goThrough)
noncomputable def f_M_goThrough : gs_F := gs_f Y0 4 1 P_M_goThrough
theorem e_M_goThrough (a0 : Nat) (d : gs_D) : f_M_goThrough [(gs_r 20 a0)] d = gs_ck 1 (gs_g Y0 P_M_goThrough 0 [some (gs_r 20 a0), none, none, none] [] d) := rfl
theorem k_M_goThrough_0 (a0 : Nat) (d : gs_D) : gs_g Y0 P_M_goThrough 0 [some (gs_r 20 a0), none, none, none] [] d = gs_g Y0 P_M_goThrough 4 [some (gs_r 20 a0), some (gs_i (gs_n 0)), some (gs_i (gs_n 1)), none] [] d := gs_gs 3 (fun _ => rfl)
theorem k_M_goThrough_4 (a0 : Nat) (a1 : Int32) (a2 : Int32) (a3 : Option gs_V) (d : gs_D) : gs_g Y0 P_M_goThrough 4 [some (gs_r 20 a0), some (gs_i a1), some (gs_i a2), a3] [] d = if a2 = 0 then gs_g Y0 P_M_goThrough 73 [some (gs_r 20 a0), some (gs_i a1), some (gs_i a2), a3] [] d else gs_g Y0 P_M_goThrough 8 [some (gs_r 20 a0), some (gs_i a1), some (gs_i a2), a3] [] d := gs_if 2 (fun _ => rfl)
theorem k_M_goThrough_8 (a0 : Nat) (a1 : Int32) (a2 : Int32) (a3 : Option gs_V) (d : gs_D) : gs_g Y0 P_M_goThrough 8 [some (gs_r 20 a0), some (gs_i a1), some (gs_i a2), a3] [] d = gs_af (f_M_order [(gs_r 20 a0)] d) [] (fun s9 d9 => gs_g Y0 P_M_goThrough 14 [some (gs_r 20 a0), some (gs_i a1), some (gs_i (gs_n 0)), a3] s9 d9) := gs_gc 4 (fun _ => rfl)
theorem k_M_goThrough_14 (a0 : Nat) (a1 : Int32) (a2 : Int32) (a3 : Option gs_V) (d : gs_D) : gs_g Y0 P_M_goThrough 14 [some (gs_r 20 a0), some (gs_i a1), some (gs_i a2), a3] [] d = gs_g Y0 P_M_goThrough 16 [some (gs_r 20 a0), some (gs_i a1), some (gs_i a2), some (gs_i (gs_n 0))] [] d := gs_gs 1 (fun _ => rfl)
theorem k_M_goThrough_16 (a0 : Nat) (a1 : Int32) (a2 : Int32) (a3 : Int32) (d : gs_D) : gs_g Y0 P_M_goThrough 16 [some (gs_r 20 a0), some (gs_i a1), some (gs_i a2), some (gs_i a3)] [] d = if (d.1 20 a0 3) ≤ a3 then gs_g Y0 P_M_goThrough 70 [some (gs_r 20 a0), some (gs_i a1), some (gs_i a2), some (gs_i a3)] [] d else gs_g Y0 P_M_goThrough 24 [some (gs_r 20 a0), some (gs_i a1), some (gs_i a2), some (gs_i a3)] [] d := gs_if 4 (fun _ => rfl)
theorem k_M_goThrough_24 (a0 : Nat) (a1 : Int32) (a2 : Int32) (a3 : Int32) (d : gs_D) : gs_g Y0 P_M_goThrough 24 [some (gs_r 20 a0), some (gs_i a1), some (gs_i a2), some (gs_i a3)] [] d = if ¬ a2 = 0 then gs_g Y0 P_M_goThrough 70 [some (gs_r 20 a0), some (gs_i a1), some (gs_i a2), some (gs_i a3)] [] d else gs_g Y0 P_M_goThrough 28 [some (gs_r 20 a0), some (gs_i a1), some (gs_i a2), some (gs_i a3)] [] d := gs_if 2 (fun _ => rfl)
theorem k_M_goThrough_28 (a0 : Nat) (a1 : Int32) (a2 : Int32) (a3 : Int32) (d : gs_D) : gs_g Y0 P_M_goThrough 28 [some (gs_r 20 a0), some (gs_i a1), some (gs_i a2), some (gs_i a3)] [] d = gs_af (f_M_behindCount [(gs_r 20 a0), (gs_i a3)] d) [] (fun s9 d9 => gs_g Y0 P_M_goThrough 33 [some (gs_r 20 a0), some (gs_i a1), some (gs_i a2), some (gs_i a3)] s9 d9) := gs_gc 3 (fun _ => rfl)
theorem k_M_goThrough_33 (a0 : Nat) (a1 : Int32) (a2 : Int32) (a3 : Int32) (s0 : Int32) (d : gs_D) : gs_g Y0 P_M_goThrough 33 [some (gs_r 20 a0), some (gs_i a1), some (gs_i a2), some (gs_i a3)] [(gs_i s0)] d = if ¬ s0 = 0 then gs_g Y0 P_M_goThrough 64 [some (gs_r 20 a0), some (gs_i a1), some (gs_i a2), some (gs_i a3)] [] d else gs_g Y0 P_M_goThrough 36 [some (gs_r 20 a0), some (gs_i a1), some (gs_i a2), some (gs_i a3)] [] d := gs_if 1 (fun _ => rfl)
theorem k_M_goThrough_36 (a0 : Nat) (a1 : Int32) (a2 : Int32) (a3 : Int32) (d : gs_D) : gs_g Y0 P_M_goThrough 36 [some (gs_r 20 a0), some (gs_i a1), some (gs_i a2), some (gs_i a3)] [] d = gs_ix a3 10 (gs_g Y0 P_M_goThrough 43 [some (gs_r 20 a0), some (gs_i a1), some (gs_i a2), some (gs_i a3)] [(gs_i (d.1 23 a0 a3.toNatClampNeg)), (gs_r 20 a0)] d) := gs_gx 5 (fun _ => rfl)
theorem k_M_goThrough_43 (a0 : Nat) (a1 : Int32) (a2 : Int32) (a3 : Int32) (s0 : Nat) (s1 : Int32) (d : gs_D) : gs_g Y0 P_M_goThrough 43 [some (gs_r 20 a0), some (gs_i a1), some (gs_i a2), some (gs_i a3)] [(gs_i s1), (gs_r 20 s0)] d = gs_af (f_M_enough [(gs_r 20 s0), (gs_i s1)] d) [] (fun s9 d9 => gs_g Y0 P_M_goThrough 46 [some (gs_r 20 a0), some (gs_i a1), some (gs_i a2), some (gs_i a3)] s9 d9) := gs_gc 1 (fun _ => rfl)
theorem k_M_goThrough_46 (a0 : Nat) (a1 : Int32) (a2 : Int32) (a3 : Int32) (s0 : Int32) (d : gs_D) : gs_g Y0 P_M_goThrough 46 [some (gs_r 20 a0), some (gs_i a1), some (gs_i a2), some (gs_i a3)] [(gs_i s0)] d = if s0 = 0 then gs_g Y0 P_M_goThrough 64 [some (gs_r 20 a0), some (gs_i a1), some (gs_i a2), some (gs_i a3)] [] d else gs_g Y0 P_M_goThrough 49 [some (gs_r 20 a0), some (gs_i a1), some (gs_i a2), some (gs_i a3)] [] d := gs_if 1 (fun _ => rfl)
theorem k_M_goThrough_49 (a0 : Nat) (a1 : Int32) (a2 : Int32) (a3 : Int32) (d : gs_D) : gs_g Y0 P_M_goThrough 49 [some (gs_r 20 a0), some (gs_i a1), some (gs_i a2), some (gs_i a3)] [] d = gs_ix a3 10 (gs_g Y0 P_M_goThrough 56 [some (gs_r 20 a0), some (gs_i a1), some (gs_i a2), some (gs_i a3)] [(gs_i (d.1 23 a0 a3.toNatClampNeg)), (gs_r 20 a0)] d) := gs_gx 5 (fun _ => rfl)
theorem k_M_goThrough_56 (a0 : Nat) (a1 : Int32) (a2 : Int32) (a3 : Int32) (s0 : Nat) (s1 : Int32) (d : gs_D) : gs_g Y0 P_M_goThrough 56 [some (gs_r 20 a0), some (gs_i a1), some (gs_i a2), some (gs_i a3)] [(gs_i s1), (gs_r 20 s0)] d = gs_af (f_M_settle [(gs_r 20 s0), (gs_i s1)] d) [] (fun s9 d9 => gs_g Y0 P_M_goThrough 59 [some (gs_r 20 a0), some (gs_i a1), some (gs_i a2), some (gs_i a3)] s9 d9) := gs_gc 1 (fun _ => rfl)
theorem k_M_goThrough_59 (a0 : Nat) (a1 : Int32) (a2 : Int32) (a3 : Int32) (d : gs_D) : gs_g Y0 P_M_goThrough 59 [some (gs_r 20 a0), some (gs_i a1), some (gs_i a2), some (gs_i a3)] [] d = gs_g Y0 P_M_goThrough 16 [some (gs_r 20 a0), some (gs_i (a1 + gs_n 1)), some (gs_i (gs_n 1)), some (gs_i (a3 + gs_n 1))] [] d := gs_gs 4 (fun _ => rfl)
theorem k_M_goThrough_64 (a0 : Nat) (a1 : Int32) (a2 : Int32) (a3 : Int32) (d : gs_D) : gs_g Y0 P_M_goThrough 64 [some (gs_r 20 a0), some (gs_i a1), some (gs_i a2), some (gs_i a3)] [] d = gs_g Y0 P_M_goThrough 16 [some (gs_r 20 a0), some (gs_i a1), some (gs_i a2), some (gs_i (a3 + gs_n 1))] [] d := gs_gs 1 (fun _ => rfl)
theorem k_M_goThrough_70 (a0 : Nat) (a1 : Int32) (a2 : Int32) (a3 : Int32) (d : gs_D) : gs_g Y0 P_M_goThrough 70 [some (gs_r 20 a0), some (gs_i a1), some (gs_i a2), some (gs_i a3)] [] d = gs_g Y0 P_M_goThrough 4 [some (gs_r 20 a0), some (gs_i a1), some (gs_i a2), some (gs_i a3)] [] d := gs_gs 0 (fun _ => rfl)
theorem k_M_goThrough_73 (a0 : Nat) (a1 : Int32) (a2 : Int32) (a3 : Option gs_V) (d : gs_D) : gs_g Y0 P_M_goThrough 73 [some (gs_r 20 a0), some (gs_i a1), some (gs_i a2), a3] [] d = some (some (gs_i a1), d) := gs_an 2 (fun _ => rfl)
def I_M_issue : List (Nat × Jvm.ClassFile.Instr × Nat) := [(0, .iload_n 1, 0), (1, .bipush 6, 0), (3, .invokestatic 29, 0), (6, .ifCond .eq 25, 31), (9, .iload_n 2, 0), (10, .iconst 3, 0), (11, .invokestatic 29, 0), (14, .ifCond .eq 17, 31), (17, .iload_n 3, 0), (18, .invokestatic 95, 0), (21, .ifCond .eq 10, 31), (24, .aload_n 0, 0), (25, .invokevirtual 98, 0), (28, .ifCond .eq 5, 33), (31, .iconst 0, 0), (32, .ireturn, 0), (33, .aload_n 0, 0), (34, .getfield 7, 0), (37, .iconst 3, 0), (38, .iload_n 1, 0), (39, .imul, 0), (40, .iload_n 2, 0), (41, .iadd, 0), (42, .dup2, 0), (43, .laload, 0), (44, .iload_n 3, 0), (45, .i2l, 0), (46, .ladd, 0), (47, .lastore, 0), (48, .iconst 1, 0), (49, .ireturn, 0)]
def F_M_issue : List (Nat × Nat × Nat) := [(7, 5, 0)]
def K_M_issue : List (Nat × gs_V) := []
noncomputable def C_M_issue : List (Nat × Nat × Nat × gs_F) := [(29, 2, 1000, f_M_within), (95, 1, 1000, f_M_amountFits), (98, 0, 5, f_M_day)]
noncomputable def P_M_issue : gs_P := (gs_lk I_M_issue, gs_lk F_M_issue, gs_lk K_M_issue, gs_lk C_M_issue)
noncomputable def f_M_issue : gs_F := gs_f Y0 4 2 P_M_issue
theorem e_M_issue (a0 : Nat) (a1 : Int32) (a2 : Int32) (a3 : Int32) (d : gs_D) : f_M_issue [(gs_r 20 a0), (gs_i a1), (gs_i a2), (gs_i a3)] d = gs_ck 2 (gs_g Y0 P_M_issue 0 [some (gs_r 20 a0), some (gs_i a1), some (gs_i a2), some (gs_i a3)] [] d) := rfl
theorem k_M_issue_0 (a0 : Nat) (a1 : Int32) (a2 : Int32) (a3 : Int32) (d : gs_D) : gs_g Y0 P_M_issue 0 [some (gs_r 20 a0), some (gs_i a1), some (gs_i a2), some (gs_i a3)] [] d = gs_af (f_M_within [(gs_i a1), (gs_i (Int8.ofInt 6).toInt32)] d) [] (fun s9 d9 => gs_g Y0 P_M_issue 6 [some (gs_r 20 a0), some (gs_i a1), some (gs_i a2), some (gs_i a3)] s9 d9) := gs_gc 3 (fun _ => rfl)
theorem k_M_issue_6 (a0 : Nat) (a1 : Int32) (a2 : Int32) (a3 : Int32) (s0 : Int32) (d : gs_D) : gs_g Y0 P_M_issue 6 [some (gs_r 20 a0), some (gs_i a1), some (gs_i a2), some (gs_i a3)] [(gs_i s0)] d = if s0 = 0 then gs_g Y0 P_M_issue 31 [some (gs_r 20 a0), some (gs_i a1), some (gs_i a2), some (gs_i a3)] [] d else gs_g Y0 P_M_issue 9 [some (gs_r 20 a0), some (gs_i a1), some (gs_i a2), some (gs_i a3)] [] d := gs_if 1 (fun _ => rfl)
theorem k_M_issue_9 (a0 : Nat) (a1 : Int32) (a2 : Int32) (a3 : Int32) (d : gs_D) : gs_g Y0 P_M_issue 9 [some (gs_r 20 a0), some (gs_i a1), some (gs_i a2), some (gs_i a3)] [] d = gs_af (f_M_within [(gs_i a2), (gs_i (gs_n 3))] d) [] (fun s9 d9 => gs_g Y0 P_M_issue 14 [some (gs_r 20 a0), some (gs_i a1), some (gs_i a2), some (gs_i a3)] s9 d9) := gs_gc 3 (fun _ => rfl)
theorem k_M_issue_14 (a0 : Nat) (a1 : Int32) (a2 : Int32) (a3 : Int32) (s0 : Int32) (d : gs_D) : gs_g Y0 P_M_issue 14 [some (gs_r 20 a0), some (gs_i a1), some (gs_i a2), some (gs_i a3)] [(gs_i s0)] d = if s0 = 0 then gs_g Y0 P_M_issue 31 [some (gs_r 20 a0), some (gs_i a1), some (gs_i a2), some (gs_i a3)] [] d else gs_g Y0 P_M_issue 17 [some (gs_r 20 a0), some (gs_i a1), some (gs_i a2), some (gs_i a3)] [] d := gs_if 1 (fun _ => rfl)
theorem k_M_issue_17 (a0 : Nat) (a1 : Int32) (a2 : Int32) (a3 : Int32) (d : gs_D) : gs_g Y0 P_M_issue 17 [some (gs_r 20 a0), some (gs_i a1), some (gs_i a2), some (gs_i a3)] [] d = gs_af (f_M_amountFits [(gs_i a3)] d) [] (fun s9 d9 => gs_g Y0 P_M_issue 21 [some (gs_r 20 a0), some (gs_i a1), some (gs_i a2), some (gs_i a3)] s9 d9) := gs_gc 2 (fun _ => rfl)
theorem k_M_issue_21 (a0 : Nat) (a1 : Int32) (a2 : Int32) (a3 : Int32) (s0 : Int32) (d : gs_D) : gs_g Y0 P_M_issue 21 [some (gs_r 20 a0), some (gs_i a1), some (gs_i a2), some (gs_i a3)] [(gs_i s0)] d = if s0 = 0 then gs_g Y0 P_M_issue 31 [some (gs_r 20 a0), some (gs_i a1), some (gs_i a2), some (gs_i a3)] [] d else gs_g Y0 P_M_issue 24 [some (gs_r 20 a0), some (gs_i a1), some (gs_i a2), some (gs_i a3)] [] d := gs_if 1 (fun _ => rfl)
theorem k_M_issue_24 (a0 : Nat) (a1 : Int32) (a2 : Int32) (a3 : Int32) (d : gs_D) : gs_g Y0 P_M_issue 24 [some (gs_r 20 a0), some (gs_i a1), some (gs_i a2), some (gs_i a3)] [] d = gs_af (f_M_day [(gs_r 20 a0)] d) [] (fun s9 d9 => gs_g Y0 P_M_issue 28 [some (gs_r 20 a0), some (gs_i a1), some (gs_i a2), some (gs_i a3)] s9 d9) := gs_gc 2 (fun _ => rfl)
theorem k_M_issue_28 (a0 : Nat) (a1 : Int32) (a2 : Int32) (a3 : Int32) (s0 : Int32) (d : gs_D) : gs_g Y0 P_M_issue 28 [some (gs_r 20 a0), some (gs_i a1), some (gs_i a2), some (gs_i a3)] [(gs_i s0)] d = if s0 = 0 then gs_g Y0 P_M_issue 33 [some (gs_r 20 a0), some (gs_i a1), some (gs_i a2), some (gs_i a3)] [] d else gs_g Y0 P_M_issue 31 [some (gs_r 20 a0), some (gs_i a1), some (gs_i a2), some (gs_i a3)] [] d := gs_if 1 (fun _ => rfl)
theorem k_M_issue_31 (a0 : Nat) (a1 : Int32) (a2 : Int32) (a3 : Int32) (d : gs_D) : gs_g Y0 P_M_issue 31 [some (gs_r 20 a0), some (gs_i a1), some (gs_i a2), some (gs_i a3)] [] d = some (some (gs_i (gs_n 0)), d) := gs_an 2 (fun _ => rfl)
theorem k_M_issue_33 (a0 : Nat) (a1 : Int32) (a2 : Int32) (a3 : Int32) (d : gs_D) : gs_g Y0 P_M_issue 33 [some (gs_r 20 a0), some (gs_i a1), some (gs_i a2), some (gs_i a3)] [] d = gs_ix (((gs_n 3) * a1) + a2) 430 (gs_g Y0 P_M_issue 44 [some (gs_r 20 a0), some (gs_i a1), some (gs_i a2), some (gs_i a3)] [(gs_l (d.2 21 a0 (((gs_n 3) * a1) + a2).toNatClampNeg)), (gs_i (((gs_n 3) * a1) + a2)), (gs_r 21 a0)] d) := gs_gx 9 (fun _ => rfl)
theorem k_M_issue_44 (a0 : Nat) (a1 : Int32) (a2 : Int32) (a3 : Int32) (s0 : Nat) (s1 : Int32) (s2 : Int64) (d : gs_D) : gs_g Y0 P_M_issue 44 [some (gs_r 20 a0), some (gs_i a1), some (gs_i a2), some (gs_i a3)] [(gs_l s2), (gs_i s1), (gs_r 21 s0)] d = gs_ix s1 430 (gs_g Y0 P_M_issue 48 [some (gs_r 20 a0), some (gs_i a1), some (gs_i a2), some (gs_i a3)] [] (gs_wL d 21 s0 s1.toNatClampNeg (s2 + a3.toInt64))) := gs_gx 4 (fun _ => rfl)
theorem k_M_issue_48 (a0 : Nat) (a1 : Int32) (a2 : Int32) (a3 : Int32) (d : gs_D) : gs_g Y0 P_M_issue 48 [some (gs_r 20 a0), some (gs_i a1), some (gs_i a2), some (gs_i a3)] [] d = some (some (gs_i (gs_n 1)), d) := gs_an 2 (fun _ => rfl)
def I_M_terms : List (Nat × Jvm.ClassFile.Instr × Nat) := [(0, .iload_n 1, 0), (1, .invokestatic 101, 0), (4, .ifCond .eq 29, 33), (7, .iload_n 2, 0), (8, .sipush 1001, 0), (11, .invokestatic 29, 0), (14, .ifCond .eq 19, 33), (17, .iload_n 3, 0), (18, .bipush 101, 0), (20, .invokestatic 29, 0), (23, .ifCond .eq 10, 33), (26, .aload_n 0, 0), (27, .invokevirtual 98, 0), (30, .ifCond .eq 5, 35), (33, .iconst 0, 0), (34, .ireturn, 0), (35, .aload_n 0, 0), (36, .getfield 7, 0), (39, .bipush 29, 0), (41, .iload_n 1, 0), (42, .iadd, 0), (43, .laload, 0), (44, .lstore 4, 0), (46, .aload_n 0, 0), (47, .getfield 7, 0), (50, .bipush 31, 0), (52, .iload_n 1, 0), (53, .iadd, 0), (54, .laload, 0), (55, .lstore 6, 0), (57, .aload_n 0, 0), (58, .getfield 7, 0), (61, .bipush 29, 0), (63, .iload_n 1, 0), (64, .iadd, 0), (65, .iload_n 2, 0), (66, .i2l, 0), (67, .lastore, 0), (68, .aload_n 0, 0), (69, .getfield 7, 0), (72, .bipush 31, 0), (74, .iload_n 1, 0), (75, .iadd, 0), (76, .iload_n 3, 0), (77, .i2l, 0), (78, .lastore, 0), (79, .iconst 1, 0), (80, .istore 8, 0), (82, .iconst 0, 0), (83, .istore 9, 0), (85, .iload 9, 0), (87, .bipush 6, 0), (89, .if_icmp .ge 32, 121), (92, .iload 8, 0), (94, .ifCond .eq 18, 112), (97, .aload_n 0, 0), (98, .iload 9, 0), (100, .invokevirtual 75, 0), (103, .lconst 0, 0), (104, .lcmp, 0), (105, .ifCond .lt 7, 112), (108, .iconst 1, 0), (109, .goto 4, 113), (112, .iconst 0, 0), (113, .istore 8, 0), (115, .iinc 9 1, 0), (118, .goto (-33), 85), (121, .iload 8, 0), (123, .ifCond .ne 25, 148), (126, .aload_n 0, 0), (127, .getfield 7, 0), (130, .bipush 29, 0), (132, .iload_n 1, 0), (133, .iadd, 0), (134, .lload 4, 0), (136, .lastore, 0), (137, .aload_n 0, 0), (138, .getfield 7, 0), (141, .bipush 31, 0), (143, .iload_n 1, 0), (144, .iadd, 0), (145, .lload 6, 0), (147, .lastore, 0), (148, .iload 8, 0), (150, .ireturn, 0)]
def F_M_terms : List (Nat × Nat × Nat) := [(7, 5, 0)]
def K_M_terms : List (Nat × gs_V) := []
noncomputable def C_M_terms : List (Nat × Nat × Nat × gs_F) := [(101, 1, 1000, f_M_security), (29, 2, 1000, f_M_within), (98, 0, 5, f_M_day), (75, 1, 5, f_M_above)]
noncomputable def P_M_terms : gs_P := (gs_lk I_M_terms, gs_lk F_M_terms, gs_lk K_M_terms, gs_lk C_M_terms)
noncomputable def f_M_terms : gs_F := gs_f Y0 10 2 P_M_terms
theorem e_M_terms (a0 : Nat) (a1 : Int32) (a2 : Int32) (a3 : Int32) (d : gs_D) : f_M_terms [(gs_r 20 a0), (gs_i a1), (gs_i a2), (gs_i a3)] d = gs_ck 2 (gs_g Y0 P_M_terms 0 [some (gs_r 20 a0), some (gs_i a1), some (gs_i a2), some (gs_i a3), none, none, none, none, none, none] [] d) := rfl
theorem k_M_terms_0 (a0 : Nat) (a1 : Int32) (a2 : Int32) (a3 : Int32) (d : gs_D) : gs_g Y0 P_M_terms 0 [some (gs_r 20 a0), some (gs_i a1), some (gs_i a2), some (gs_i a3), none, none, none, none, none, none] [] d = gs_af (f_M_security [(gs_i a1)] d) [] (fun s9 d9 => gs_g Y0 P_M_terms 4 [some (gs_r 20 a0), some (gs_i a1), some (gs_i a2), some (gs_i a3), none, none, none, none, none, none] s9 d9) := gs_gc 2 (fun _ => rfl)
theorem k_M_terms_4 (a0 : Nat) (a1 : Int32) (a2 : Int32) (a3 : Int32) (s0 : Int32) (d : gs_D) : gs_g Y0 P_M_terms 4 [some (gs_r 20 a0), some (gs_i a1), some (gs_i a2), some (gs_i a3), none, none, none, none, none, none] [(gs_i s0)] d = if s0 = 0 then gs_g Y0 P_M_terms 33 [some (gs_r 20 a0), some (gs_i a1), some (gs_i a2), some (gs_i a3), none, none, none, none, none, none] [] d else gs_g Y0 P_M_terms 7 [some (gs_r 20 a0), some (gs_i a1), some (gs_i a2), some (gs_i a3), none, none, none, none, none, none] [] d := gs_if 1 (fun _ => rfl)
theorem k_M_terms_7 (a0 : Nat) (a1 : Int32) (a2 : Int32) (a3 : Int32) (d : gs_D) : gs_g Y0 P_M_terms 7 [some (gs_r 20 a0), some (gs_i a1), some (gs_i a2), some (gs_i a3), none, none, none, none, none, none] [] d = gs_af (f_M_within [(gs_i a2), (gs_i (Int16.ofInt 1001).toInt32)] d) [] (fun s9 d9 => gs_g Y0 P_M_terms 14 [some (gs_r 20 a0), some (gs_i a1), some (gs_i a2), some (gs_i a3), none, none, none, none, none, none] s9 d9) := gs_gc 3 (fun _ => rfl)
theorem k_M_terms_14 (a0 : Nat) (a1 : Int32) (a2 : Int32) (a3 : Int32) (s0 : Int32) (d : gs_D) : gs_g Y0 P_M_terms 14 [some (gs_r 20 a0), some (gs_i a1), some (gs_i a2), some (gs_i a3), none, none, none, none, none, none] [(gs_i s0)] d = if s0 = 0 then gs_g Y0 P_M_terms 33 [some (gs_r 20 a0), some (gs_i a1), some (gs_i a2), some (gs_i a3), none, none, none, none, none, none] [] d else gs_g Y0 P_M_terms 17 [some (gs_r 20 a0), some (gs_i a1), some (gs_i a2), some (gs_i a3), none, none, none, none, none, none] [] d := gs_if 1 (fun _ => rfl)
theorem k_M_terms_17 (a0 : Nat) (a1 : Int32) (a2 : Int32) (a3 : Int32) (d : gs_D) : gs_g Y0 P_M_terms 17 [some (gs_r 20 a0), some (gs_i a1), some (gs_i a2), some (gs_i a3), none, none, none, none, none, none] [] d = gs_af (f_M_within [(gs_i a3), (gs_i (Int8.ofInt 101).toInt32)] d) [] (fun s9 d9 => gs_g Y0 P_M_terms 23 [some (gs_r 20 a0), some (gs_i a1), some (gs_i a2), some (gs_i a3), none, none, none, none, none, none] s9 d9) := gs_gc 3 (fun _ => rfl)
theorem k_M_terms_23 (a0 : Nat) (a1 : Int32) (a2 : Int32) (a3 : Int32) (s0 : Int32) (d : gs_D) : gs_g Y0 P_M_terms 23 [some (gs_r 20 a0), some (gs_i a1), some (gs_i a2), some (gs_i a3), none, none, none, none, none, none] [(gs_i s0)] d = if s0 = 0 then gs_g Y0 P_M_terms 33 [some (gs_r 20 a0), some (gs_i a1), some (gs_i a2), some (gs_i a3), none, none, none, none, none, none] [] d else gs_g Y0 P_M_terms 26 [some (gs_r 20 a0), some (gs_i a1), some (gs_i a2), some (gs_i a3), none, none, none, none, none, none] [] d := gs_if 1 (fun _ => rfl)
theorem k_M_terms_26 (a0 : Nat) (a1 : Int32) (a2 : Int32) (a3 : Int32) (d : gs_D) : gs_g Y0 P_M_terms 26 [some (gs_r 20 a0), some (gs_i a1), some (gs_i a2), some (gs_i a3), none, none, none, none, none, none] [] d = gs_af (f_M_day [(gs_r 20 a0)] d) [] (fun s9 d9 => gs_g Y0 P_M_terms 30 [some (gs_r 20 a0), some (gs_i a1), some (gs_i a2), some (gs_i a3), none, none, none, none, none, none] s9 d9) := gs_gc 2 (fun _ => rfl)
theorem k_M_terms_30 (a0 : Nat) (a1 : Int32) (a2 : Int32) (a3 : Int32) (s0 : Int32) (d : gs_D) : gs_g Y0 P_M_terms 30 [some (gs_r 20 a0), some (gs_i a1), some (gs_i a2), some (gs_i a3), none, none, none, none, none, none] [(gs_i s0)] d = if s0 = 0 then gs_g Y0 P_M_terms 35 [some (gs_r 20 a0), some (gs_i a1), some (gs_i a2), some (gs_i a3), none, none, none, none, none, none] [] d else gs_g Y0 P_M_terms 33 [some (gs_r 20 a0), some (gs_i a1), some (gs_i a2), some (gs_i a3), none, none, none, none, none, none] [] d := gs_if 1 (fun _ => rfl)
theorem k_M_terms_33 (a0 : Nat) (a1 : Int32) (a2 : Int32) (a3 : Int32) (d : gs_D) : gs_g Y0 P_M_terms 33 [some (gs_r 20 a0), some (gs_i a1), some (gs_i a2), some (gs_i a3), none, none, none, none, none, none] [] d = some (some (gs_i (gs_n 0)), d) := gs_an 2 (fun _ => rfl)
theorem k_M_terms_35 (a0 : Nat) (a1 : Int32) (a2 : Int32) (a3 : Int32) (d : gs_D) : gs_g Y0 P_M_terms 35 [some (gs_r 20 a0), some (gs_i a1), some (gs_i a2), some (gs_i a3), none, none, none, none, none, none] [] d = gs_ix ((Int8.ofInt 29).toInt32 + a1) 430 (gs_g Y0 P_M_terms 44 [some (gs_r 20 a0), some (gs_i a1), some (gs_i a2), some (gs_i a3), none, none, none, none, none, none] [(gs_l (d.2 21 a0 ((Int8.ofInt 29).toInt32 + a1).toNatClampNeg))] d) := gs_gx 6 (fun _ => rfl)
theorem k_M_terms_44 (a0 : Nat) (a1 : Int32) (a2 : Int32) (a3 : Int32) (s0 : Int64) (d : gs_D) : gs_g Y0 P_M_terms 44 [some (gs_r 20 a0), some (gs_i a1), some (gs_i a2), some (gs_i a3), none, none, none, none, none, none] [(gs_l s0)] d = gs_ix ((Int8.ofInt 31).toInt32 + a1) 430 (gs_g Y0 P_M_terms 55 [some (gs_r 20 a0), some (gs_i a1), some (gs_i a2), some (gs_i a3), some (gs_l s0), none, none, none, none, none] [(gs_l (d.2 21 a0 ((Int8.ofInt 31).toInt32 + a1).toNatClampNeg))] d) := gs_gx 7 (fun _ => rfl)
theorem k_M_terms_55 (a0 : Nat) (a1 : Int32) (a2 : Int32) (a3 : Int32) (a4 : Int64) (s0 : Int64) (d : gs_D) : gs_g Y0 P_M_terms 55 [some (gs_r 20 a0), some (gs_i a1), some (gs_i a2), some (gs_i a3), some (gs_l a4), none, none, none, none, none] [(gs_l s0)] d = gs_ix ((Int8.ofInt 29).toInt32 + a1) 430 (gs_g Y0 P_M_terms 68 [some (gs_r 20 a0), some (gs_i a1), some (gs_i a2), some (gs_i a3), some (gs_l a4), none, some (gs_l s0), none, none, none] [] (gs_wL d 21 a0 ((Int8.ofInt 29).toInt32 + a1).toNatClampNeg a2.toInt64)) := gs_gx 9 (fun _ => rfl)
theorem k_M_terms_68 (a0 : Nat) (a1 : Int32) (a2 : Int32) (a3 : Int32) (a4 : Int64) (a6 : Int64) (d : gs_D) : gs_g Y0 P_M_terms 68 [some (gs_r 20 a0), some (gs_i a1), some (gs_i a2), some (gs_i a3), some (gs_l a4), none, some (gs_l a6), none, none, none] [] d = gs_ix ((Int8.ofInt 31).toInt32 + a1) 430 (gs_g Y0 P_M_terms 79 [some (gs_r 20 a0), some (gs_i a1), some (gs_i a2), some (gs_i a3), some (gs_l a4), none, some (gs_l a6), none, none, none] [] (gs_wL d 21 a0 ((Int8.ofInt 31).toInt32 + a1).toNatClampNeg a3.toInt64)) := gs_gx 8 (fun _ => rfl)
theorem k_M_terms_79 (a0 : Nat) (a1 : Int32) (a2 : Int32) (a3 : Int32) (a4 : Int64) (a6 : Int64) (d : gs_D) : gs_g Y0 P_M_terms 79 [some (gs_r 20 a0), some (gs_i a1), some (gs_i a2), some (gs_i a3), some (gs_l a4), none, some (gs_l a6), none, none, none] [] d = gs_g Y0 P_M_terms 85 [some (gs_r 20 a0), some (gs_i a1), some (gs_i a2), some (gs_i a3), some (gs_l a4), none, some (gs_l a6), none, some (gs_i (gs_n 1)), some (gs_i (gs_n 0))] [] d := gs_gs 3 (fun _ => rfl)
theorem k_M_terms_85 (a0 : Nat) (a1 : Int32) (a2 : Int32) (a3 : Int32) (a4 : Int64) (a6 : Int64) (a8 : Int32) (a9 : Int32) (d : gs_D) : gs_g Y0 P_M_terms 85 [some (gs_r 20 a0), some (gs_i a1), some (gs_i a2), some (gs_i a3), some (gs_l a4), none, some (gs_l a6), none, some (gs_i a8), some (gs_i a9)] [] d = if (Int8.ofInt 6).toInt32 ≤ a9 then gs_g Y0 P_M_terms 121 [some (gs_r 20 a0), some (gs_i a1), some (gs_i a2), some (gs_i a3), some (gs_l a4), none, some (gs_l a6), none, some (gs_i a8), some (gs_i a9)] [] d else gs_g Y0 P_M_terms 92 [some (gs_r 20 a0), some (gs_i a1), some (gs_i a2), some (gs_i a3), some (gs_l a4), none, some (gs_l a6), none, some (gs_i a8), some (gs_i a9)] [] d := gs_if 3 (fun _ => rfl)
theorem k_M_terms_92 (a0 : Nat) (a1 : Int32) (a2 : Int32) (a3 : Int32) (a4 : Int64) (a6 : Int64) (a8 : Int32) (a9 : Int32) (d : gs_D) : gs_g Y0 P_M_terms 92 [some (gs_r 20 a0), some (gs_i a1), some (gs_i a2), some (gs_i a3), some (gs_l a4), none, some (gs_l a6), none, some (gs_i a8), some (gs_i a9)] [] d = if a8 = 0 then gs_g Y0 P_M_terms 112 [some (gs_r 20 a0), some (gs_i a1), some (gs_i a2), some (gs_i a3), some (gs_l a4), none, some (gs_l a6), none, some (gs_i a8), some (gs_i a9)] [] d else gs_g Y0 P_M_terms 97 [some (gs_r 20 a0), some (gs_i a1), some (gs_i a2), some (gs_i a3), some (gs_l a4), none, some (gs_l a6), none, some (gs_i a8), some (gs_i a9)] [] d := gs_if 2 (fun _ => rfl)
theorem k_M_terms_97 (a0 : Nat) (a1 : Int32) (a2 : Int32) (a3 : Int32) (a4 : Int64) (a6 : Int64) (a8 : Int32) (a9 : Int32) (d : gs_D) : gs_g Y0 P_M_terms 97 [some (gs_r 20 a0), some (gs_i a1), some (gs_i a2), some (gs_i a3), some (gs_l a4), none, some (gs_l a6), none, some (gs_i a8), some (gs_i a9)] [] d = gs_af (f_M_above [(gs_r 20 a0), (gs_i a9)] d) [] (fun s9 d9 => gs_g Y0 P_M_terms 103 [some (gs_r 20 a0), some (gs_i a1), some (gs_i a2), some (gs_i a3), some (gs_l a4), none, some (gs_l a6), none, some (gs_i a8), some (gs_i a9)] s9 d9) := gs_gc 3 (fun _ => rfl)
theorem k_M_terms_103 (a0 : Nat) (a1 : Int32) (a2 : Int32) (a3 : Int32) (a4 : Int64) (a6 : Int64) (a8 : Int32) (a9 : Int32) (s0 : Int64) (d : gs_D) : gs_g Y0 P_M_terms 103 [some (gs_r 20 a0), some (gs_i a1), some (gs_i a2), some (gs_i a3), some (gs_l a4), none, some (gs_l a6), none, some (gs_i a8), some (gs_i a9)] [(gs_l s0)] d = if (lg_cmp s0 gs_k0) < 0 then gs_g Y0 P_M_terms 112 [some (gs_r 20 a0), some (gs_i a1), some (gs_i a2), some (gs_i a3), some (gs_l a4), none, some (gs_l a6), none, some (gs_i a8), some (gs_i a9)] [] d else gs_g Y0 P_M_terms 108 [some (gs_r 20 a0), some (gs_i a1), some (gs_i a2), some (gs_i a3), some (gs_l a4), none, some (gs_l a6), none, some (gs_i a8), some (gs_i a9)] [] d := gs_if 3 (fun _ => rfl)
theorem k_M_terms_108 (a0 : Nat) (a1 : Int32) (a2 : Int32) (a3 : Int32) (a4 : Int64) (a6 : Int64) (a8 : Int32) (a9 : Int32) (d : gs_D) : gs_g Y0 P_M_terms 108 [some (gs_r 20 a0), some (gs_i a1), some (gs_i a2), some (gs_i a3), some (gs_l a4), none, some (gs_l a6), none, some (gs_i a8), some (gs_i a9)] [] d = gs_g Y0 P_M_terms 85 [some (gs_r 20 a0), some (gs_i a1), some (gs_i a2), some (gs_i a3), some (gs_l a4), none, some (gs_l a6), none, some (gs_i (gs_n 1)), some (gs_i (a9 + gs_n 1))] [] d := gs_gs 4 (fun _ => rfl)
theorem k_M_terms_112 (a0 : Nat) (a1 : Int32) (a2 : Int32) (a3 : Int32) (a4 : Int64) (a6 : Int64) (a8 : Int32) (a9 : Int32) (d : gs_D) : gs_g Y0 P_M_terms 112 [some (gs_r 20 a0), some (gs_i a1), some (gs_i a2), some (gs_i a3), some (gs_l a4), none, some (gs_l a6), none, some (gs_i a8), some (gs_i a9)] [] d = gs_g Y0 P_M_terms 85 [some (gs_r 20 a0), some (gs_i a1), some (gs_i a2), some (gs_i a3), some (gs_l a4), none, some (gs_l a6), none, some (gs_i (gs_n 0)), some (gs_i (a9 + gs_n 1))] [] d := gs_gs 3 (fun _ => rfl)
theorem k_M_terms_121 (a0 : Nat) (a1 : Int32) (a2 : Int32) (a3 : Int32) (a4 : Int64) (a6 : Int64) (a8 : Int32) (a9 : Int32) (d : gs_D) : gs_g Y0 P_M_terms 121 [some (gs_r 20 a0), some (gs_i a1), some (gs_i a2), some (gs_i a3), some (gs_l a4), none, some (gs_l a6), none, some (gs_i a8), some (gs_i a9)] [] d = if ¬ a8 = 0 then gs_g Y0 P_M_terms 148 [some (gs_r 20 a0), some (gs_i a1), some (gs_i a2), some (gs_i a3), some (gs_l a4), none, some (gs_l a6), none, some (gs_i a8), some (gs_i a9)] [] d else gs_g Y0 P_M_terms 126 [some (gs_r 20 a0), some (gs_i a1), some (gs_i a2), some (gs_i a3), some (gs_l a4), none, some (gs_l a6), none, some (gs_i a8), some (gs_i a9)] [] d := gs_if 2 (fun _ => rfl)
theorem k_M_terms_126 (a0 : Nat) (a1 : Int32) (a2 : Int32) (a3 : Int32) (a4 : Int64) (a6 : Int64) (a8 : Int32) (a9 : Int32) (d : gs_D) : gs_g Y0 P_M_terms 126 [some (gs_r 20 a0), some (gs_i a1), some (gs_i a2), some (gs_i a3), some (gs_l a4), none, some (gs_l a6), none, some (gs_i a8), some (gs_i a9)] [] d = gs_ix ((Int8.ofInt 29).toInt32 + a1) 430 (gs_g Y0 P_M_terms 137 [some (gs_r 20 a0), some (gs_i a1), some (gs_i a2), some (gs_i a3), some (gs_l a4), none, some (gs_l a6), none, some (gs_i a8), some (gs_i a9)] [] (gs_wL d 21 a0 ((Int8.ofInt 29).toInt32 + a1).toNatClampNeg a4)) := gs_gx 7 (fun _ => rfl)
theorem k_M_terms_137 (a0 : Nat) (a1 : Int32) (a2 : Int32) (a3 : Int32) (a4 : Int64) (a6 : Int64) (a8 : Int32) (a9 : Int32) (d : gs_D) : gs_g Y0 P_M_terms 137 [some (gs_r 20 a0), some (gs_i a1), some (gs_i a2), some (gs_i a3), some (gs_l a4), none, some (gs_l a6), none, some (gs_i a8), some (gs_i a9)] [] d = gs_ix ((Int8.ofInt 31).toInt32 + a1) 430 (gs_g Y0 P_M_terms 148 [some (gs_r 20 a0), some (gs_i a1), some (gs_i a2), some (gs_i a3), some (gs_l a4), none, some (gs_l a6), none, some (gs_i a8), some (gs_i a9)] [] (gs_wL d 21 a0 ((Int8.ofInt 31).toInt32 + a1).toNatClampNeg a6)) := gs_gx 7 (fun _ => rfl)
theorem k_M_terms_148 (a0 : Nat) (a1 : Int32) (a2 : Int32) (a3 : Int32) (a4 : Int64) (a6 : Int64) (a8 : Int32) (a9 : Int32) (d : gs_D) : gs_g Y0 P_M_terms 148 [some (gs_r 20 a0), some (gs_i a1), some (gs_i a2), some (gs_i a3), some (gs_l a4), none, some (gs_l a6), none, some (gs_i a8), some (gs_i a9)] [] d = some (some (gs_i a8), d) := gs_an 2 (fun _ => rfl)
def I_M_pledge : List (Nat × Jvm.ClassFile.Instr × Nat) := [(0, .iload_n 1, 0), (1, .bipush 6, 0), (3, .invokestatic 29, 0), (6, .ifCond .eq 17, 23), (9, .iload_n 2, 0), (10, .invokestatic 101, 0), (13, .ifCond .eq 10, 23), (16, .iload_n 3, 0), (17, .invokestatic 95, 0), (20, .ifCond .ne 5, 25), (23, .iconst (-1), 0), (24, .ireturn, 0), (25, .aload_n 0, 0), (26, .getfield 7, 0), (29, .iconst 3, 0), (30, .iload_n 1, 0), (31, .imul, 0), (32, .iload_n 2, 0), (33, .iadd, 0), (34, .laload, 0), (35, .iload_n 3, 0), (36, .i2l, 0), (37, .lcmp, 0), (38, .ifCond .ge 6, 44), (41, .bipush (-4), 0), (43, .ireturn, 0), (44, .aload_n 0, 0), (45, .getfield 7, 0), (48, .iconst 3, 0), (49, .iload_n 1, 0), (50, .imul, 0), (51, .iload_n 2, 0), (52, .iadd, 0), (53, .dup2, 0), (54, .laload, 0), (55, .iload_n 3, 0), (56, .i2l, 0), (57, .lsub, 0), (58, .lastore, 0), (59, .aload_n 0, 0), (60, .getfield 7, 0), (63, .bipush 17, 0), (65, .iconst 2, 0), (66, .iload_n 1, 0), (67, .imul, 0), (68, .iadd, 0), (69, .iload_n 2, 0), (70, .iadd, 0), (71, .dup2, 0), (72, .laload, 0), (73, .iload_n 3, 0), (74, .i2l, 0), (75, .ladd, 0), (76, .lastore, 0), (77, .aload_n 0, 0), (78, .invokevirtual 104, 0), (81, .ireturn, 0)]
def F_M_pledge : List (Nat × Nat × Nat) := [(7, 5, 0)]
def K_M_pledge : List (Nat × gs_V) := []
noncomputable def C_M_pledge : List (Nat × Nat × Nat × gs_F) := [(29, 2, 1000, f_M_within), (101, 1, 1000, f_M_security), (95, 1, 1000, f_M_amountFits), (104, 0, 5, f_M_goThrough)]
noncomputable def P_M_pledge : gs_P := (gs_lk I_M_pledge, gs_lk F_M_pledge, gs_lk K_M_pledge, gs_lk C_M_pledge)
noncomputable def f_M_pledge : gs_F := gs_f Y0 4 1 P_M_pledge
theorem e_M_pledge (a0 : Nat) (a1 : Int32) (a2 : Int32) (a3 : Int32) (d : gs_D) : f_M_pledge [(gs_r 20 a0), (gs_i a1), (gs_i a2), (gs_i a3)] d = gs_ck 1 (gs_g Y0 P_M_pledge 0 [some (gs_r 20 a0), some (gs_i a1), some (gs_i a2), some (gs_i a3)] [] d) := rfl
theorem k_M_pledge_0 (a0 : Nat) (a1 : Int32) (a2 : Int32) (a3 : Int32) (d : gs_D) : gs_g Y0 P_M_pledge 0 [some (gs_r 20 a0), some (gs_i a1), some (gs_i a2), some (gs_i a3)] [] d = gs_af (f_M_within [(gs_i a1), (gs_i (Int8.ofInt 6).toInt32)] d) [] (fun s9 d9 => gs_g Y0 P_M_pledge 6 [some (gs_r 20 a0), some (gs_i a1), some (gs_i a2), some (gs_i a3)] s9 d9) := gs_gc 3 (fun _ => rfl)
theorem k_M_pledge_6 (a0 : Nat) (a1 : Int32) (a2 : Int32) (a3 : Int32) (s0 : Int32) (d : gs_D) : gs_g Y0 P_M_pledge 6 [some (gs_r 20 a0), some (gs_i a1), some (gs_i a2), some (gs_i a3)] [(gs_i s0)] d = if s0 = 0 then gs_g Y0 P_M_pledge 23 [some (gs_r 20 a0), some (gs_i a1), some (gs_i a2), some (gs_i a3)] [] d else gs_g Y0 P_M_pledge 9 [some (gs_r 20 a0), some (gs_i a1), some (gs_i a2), some (gs_i a3)] [] d := gs_if 1 (fun _ => rfl)
theorem k_M_pledge_9 (a0 : Nat) (a1 : Int32) (a2 : Int32) (a3 : Int32) (d : gs_D) : gs_g Y0 P_M_pledge 9 [some (gs_r 20 a0), some (gs_i a1), some (gs_i a2), some (gs_i a3)] [] d = gs_af (f_M_security [(gs_i a2)] d) [] (fun s9 d9 => gs_g Y0 P_M_pledge 13 [some (gs_r 20 a0), some (gs_i a1), some (gs_i a2), some (gs_i a3)] s9 d9) := gs_gc 2 (fun _ => rfl)
theorem k_M_pledge_13 (a0 : Nat) (a1 : Int32) (a2 : Int32) (a3 : Int32) (s0 : Int32) (d : gs_D) : gs_g Y0 P_M_pledge 13 [some (gs_r 20 a0), some (gs_i a1), some (gs_i a2), some (gs_i a3)] [(gs_i s0)] d = if s0 = 0 then gs_g Y0 P_M_pledge 23 [some (gs_r 20 a0), some (gs_i a1), some (gs_i a2), some (gs_i a3)] [] d else gs_g Y0 P_M_pledge 16 [some (gs_r 20 a0), some (gs_i a1), some (gs_i a2), some (gs_i a3)] [] d := gs_if 1 (fun _ => rfl)
theorem k_M_pledge_16 (a0 : Nat) (a1 : Int32) (a2 : Int32) (a3 : Int32) (d : gs_D) : gs_g Y0 P_M_pledge 16 [some (gs_r 20 a0), some (gs_i a1), some (gs_i a2), some (gs_i a3)] [] d = gs_af (f_M_amountFits [(gs_i a3)] d) [] (fun s9 d9 => gs_g Y0 P_M_pledge 20 [some (gs_r 20 a0), some (gs_i a1), some (gs_i a2), some (gs_i a3)] s9 d9) := gs_gc 2 (fun _ => rfl)
theorem k_M_pledge_20 (a0 : Nat) (a1 : Int32) (a2 : Int32) (a3 : Int32) (s0 : Int32) (d : gs_D) : gs_g Y0 P_M_pledge 20 [some (gs_r 20 a0), some (gs_i a1), some (gs_i a2), some (gs_i a3)] [(gs_i s0)] d = if ¬ s0 = 0 then gs_g Y0 P_M_pledge 25 [some (gs_r 20 a0), some (gs_i a1), some (gs_i a2), some (gs_i a3)] [] d else gs_g Y0 P_M_pledge 23 [some (gs_r 20 a0), some (gs_i a1), some (gs_i a2), some (gs_i a3)] [] d := gs_if 1 (fun _ => rfl)
theorem k_M_pledge_23 (a0 : Nat) (a1 : Int32) (a2 : Int32) (a3 : Int32) (d : gs_D) : gs_g Y0 P_M_pledge 23 [some (gs_r 20 a0), some (gs_i a1), some (gs_i a2), some (gs_i a3)] [] d = some (some (gs_i (gs_n (-1))), d) := gs_an 2 (fun _ => rfl)
theorem k_M_pledge_25 (a0 : Nat) (a1 : Int32) (a2 : Int32) (a3 : Int32) (d : gs_D) : gs_g Y0 P_M_pledge 25 [some (gs_r 20 a0), some (gs_i a1), some (gs_i a2), some (gs_i a3)] [] d = gs_ix (((gs_n 3) * a1) + a2) 430 (gs_g Y0 P_M_pledge 35 [some (gs_r 20 a0), some (gs_i a1), some (gs_i a2), some (gs_i a3)] [(gs_l (d.2 21 a0 (((gs_n 3) * a1) + a2).toNatClampNeg))] d) := gs_gx 8 (fun _ => rfl)
theorem k_M_pledge_35 (a0 : Nat) (a1 : Int32) (a2 : Int32) (a3 : Int32) (s0 : Int64) (d : gs_D) : gs_g Y0 P_M_pledge 35 [some (gs_r 20 a0), some (gs_i a1), some (gs_i a2), some (gs_i a3)] [(gs_l s0)] d = if 0 ≤ (lg_cmp s0 a3.toInt64) then gs_g Y0 P_M_pledge 44 [some (gs_r 20 a0), some (gs_i a1), some (gs_i a2), some (gs_i a3)] [] d else gs_g Y0 P_M_pledge 41 [some (gs_r 20 a0), some (gs_i a1), some (gs_i a2), some (gs_i a3)] [] d := gs_if 4 (fun _ => rfl)
theorem k_M_pledge_41 (a0 : Nat) (a1 : Int32) (a2 : Int32) (a3 : Int32) (d : gs_D) : gs_g Y0 P_M_pledge 41 [some (gs_r 20 a0), some (gs_i a1), some (gs_i a2), some (gs_i a3)] [] d = some (some (gs_i (Int8.ofInt (-4)).toInt32), d) := gs_an 2 (fun _ => rfl)
theorem k_M_pledge_44 (a0 : Nat) (a1 : Int32) (a2 : Int32) (a3 : Int32) (d : gs_D) : gs_g Y0 P_M_pledge 44 [some (gs_r 20 a0), some (gs_i a1), some (gs_i a2), some (gs_i a3)] [] d = gs_ix (((gs_n 3) * a1) + a2) 430 (gs_g Y0 P_M_pledge 55 [some (gs_r 20 a0), some (gs_i a1), some (gs_i a2), some (gs_i a3)] [(gs_l (d.2 21 a0 (((gs_n 3) * a1) + a2).toNatClampNeg)), (gs_i (((gs_n 3) * a1) + a2)), (gs_r 21 a0)] d) := gs_gx 9 (fun _ => rfl)
theorem k_M_pledge_55 (a0 : Nat) (a1 : Int32) (a2 : Int32) (a3 : Int32) (s0 : Nat) (s1 : Int32) (s2 : Int64) (d : gs_D) : gs_g Y0 P_M_pledge 55 [some (gs_r 20 a0), some (gs_i a1), some (gs_i a2), some (gs_i a3)] [(gs_l s2), (gs_i s1), (gs_r 21 s0)] d = gs_ix s1 430 (gs_g Y0 P_M_pledge 59 [some (gs_r 20 a0), some (gs_i a1), some (gs_i a2), some (gs_i a3)] [] (gs_wL d 21 s0 s1.toNatClampNeg (s2 - a3.toInt64))) := gs_gx 4 (fun _ => rfl)
theorem k_M_pledge_59 (a0 : Nat) (a1 : Int32) (a2 : Int32) (a3 : Int32) (d : gs_D) : gs_g Y0 P_M_pledge 59 [some (gs_r 20 a0), some (gs_i a1), some (gs_i a2), some (gs_i a3)] [] d = gs_ix (((Int8.ofInt 17).toInt32 + ((gs_n 2) * a1)) + a2) 430 (gs_g Y0 P_M_pledge 73 [some (gs_r 20 a0), some (gs_i a1), some (gs_i a2), some (gs_i a3)] [(gs_l (d.2 21 a0 (((Int8.ofInt 17).toInt32 + ((gs_n 2) * a1)) + a2).toNatClampNeg)), (gs_i (((Int8.ofInt 17).toInt32 + ((gs_n 2) * a1)) + a2)), (gs_r 21 a0)] d) := gs_gx 11 (fun _ => rfl)
theorem k_M_pledge_73 (a0 : Nat) (a1 : Int32) (a2 : Int32) (a3 : Int32) (s0 : Nat) (s1 : Int32) (s2 : Int64) (d : gs_D) : gs_g Y0 P_M_pledge 73 [some (gs_r 20 a0), some (gs_i a1), some (gs_i a2), some (gs_i a3)] [(gs_l s2), (gs_i s1), (gs_r 21 s0)] d = gs_ix s1 430 (gs_g Y0 P_M_pledge 77 [some (gs_r 20 a0), some (gs_i a1), some (gs_i a2), some (gs_i a3)] [] (gs_wL d 21 s0 s1.toNatClampNeg (s2 + a3.toInt64))) := gs_gx 4 (fun _ => rfl)
theorem k_M_pledge_77 (a0 : Nat) (a1 : Int32) (a2 : Int32) (a3 : Int32) (d : gs_D) : gs_g Y0 P_M_pledge 77 [some (gs_r 20 a0), some (gs_i a1), some (gs_i a2), some (gs_i a3)] [] d = gs_af (f_M_goThrough [(gs_r 20 a0)] d) [] (fun s9 d9 => gs_g Y0 P_M_pledge 81 [some (gs_r 20 a0), some (gs_i a1), some (gs_i a2), some (gs_i a3)] s9 d9) := gs_gc 2 (fun _ => rfl)
theorem k_M_pledge_81 (a0 : Nat) (a1 : Int32) (a2 : Int32) (a3 : Int32) (s0 : Int32) (d : gs_D) : gs_g Y0 P_M_pledge 81 [some (gs_r 20 a0), some (gs_i a1), some (gs_i a2), some (gs_i a3)] [(gs_i s0)] d = some (some (gs_i s0), d) := gs_an 1 (fun _ => rfl)
end
section
def I_M_release : List (Nat × Jvm.ClassFile.Instr × Nat) := [(0, .iload_n 1, 0), (1, .bipush 6, 0), (3, .invokestatic 29, 0), (6, .ifCond .eq 17, 23), (9, .iload_n 2, 0), (10, .invokestatic 101, 0), (13, .ifCond .eq 10, 23), (16, .iload_n 3, 0), (17, .invokestatic 95, 0), (20, .ifCond .ne 5, 25), (23, .iconst (-1), 0), (24, .ireturn, 0), (25, .aload_n 0, 0), (26, .getfield 7, 0), (29, .bipush 17, 0), (31, .iconst 2, 0), (32, .iload_n 1, 0), (33, .imul, 0), (34, .iadd, 0), (35, .iload_n 2, 0), (36, .iadd, 0), (37, .laload, 0), (38, .iload_n 3, 0), (39, .i2l, 0), (40, .lcmp, 0), (41, .ifCond .ge 6, 47), (44, .bipush (-4), 0), (46, .ireturn, 0), (47, .aload_n 0, 0), (48, .getfield 7, 0), (51, .bipush 17, 0), (53, .iconst 2, 0), (54, .iload_n 1, 0), (55, .imul, 0), (56, .iadd, 0), (57, .iload_n 2, 0), (58, .iadd, 0), (59, .dup2, 0), (60, .laload, 0), (61, .iload_n 3, 0), (62, .i2l, 0), (63, .lsub, 0), (64, .lastore, 0), (65, .aload_n 0, 0), (66, .iload_n 1, 0), (67, .invokevirtual 75, 0), (70, .lconst 0, 0), (71, .lcmp, 0), (72, .ifCond .ge 24, 96), (75, .aload_n 0, 0), (76, .getfield 7, 0), (79, .bipush 17, 0), (81, .iconst 2, 0), (82, .iload_n 1, 0), (83, .imul, 0), (84, .iadd, 0), (85, .iload_n 2, 0), (86, .iadd, 0), (87, .dup2, 0), (88, .laload, 0), (89, .iload_n 3, 0), (90, .i2l, 0), (91, .ladd, 0), (92, .lastore, 0), (93, .bipush (-4), 0), (95, .ireturn, 0), (96, .aload_n 0, 0), (97, .getfield 7, 0), (100, .iconst 3, 0), (101, .iload_n 1, 0), (102, .imul, 0), (103, .iload_n 2, 0), (104, .iadd, 0), (105, .dup2, 0), (106, .laload, 0), (107, .iload_n 3, 0), (108, .i2l, 0), (109, .ladd, 0), (110, .lastore, 0), (111, .aload_n 0, 0), (112, .invokevirtual 104, 0), (115, .ireturn, 0)]
def F_M_release : List (Nat × Nat × Nat) := [(7, 5, 0)]
def K_M_release : List (Nat × gs_V) := []
noncomputable def C_M_release : List (Nat × Nat × Nat × gs_F) := [(29, 2, 1000, f_M_within), (101, 1, 1000, f_M_security), (95, 1, 1000, f_M_amountFits), (75, 1, 5, f_M_above), (104, 0, 5, f_M_goThrough)]
noncomputable def P_M_release : gs_P := (gs_lk I_M_release, gs_lk F_M_release, gs_lk K_M_release, gs_lk C_M_release)
noncomputable def f_M_release : gs_F := gs_f Y0 4 1 P_M_release
theorem e_M_release (a0 : Nat) (a1 : Int32) (a2 : Int32) (a3 : Int32) (d : gs_D) : f_M_release [(gs_r 20 a0), (gs_i a1), (gs_i a2), (gs_i a3)] d = gs_ck 1 (gs_g Y0 P_M_release 0 [some (gs_r 20 a0), some (gs_i a1), some (gs_i a2), some (gs_i a3)] [] d) := rfl
theorem k_M_release_0 (a0 : Nat) (a1 : Int32) (a2 : Int32) (a3 : Int32) (d : gs_D) : gs_g Y0 P_M_release 0 [some (gs_r 20 a0), some (gs_i a1), some (gs_i a2), some (gs_i a3)] [] d = gs_af (f_M_within [(gs_i a1), (gs_i (Int8.ofInt 6).toInt32)] d) [] (fun s9 d9 => gs_g Y0 P_M_release 6 [some (gs_r 20 a0), some (gs_i a1), some (gs_i a2), some (gs_i a3)] s9 d9) := gs_gc 3 (fun _ => rfl)
theorem k_M_release_6 (a0 : Nat) (a1 : Int32) (a2 : Int32) (a3 : Int32) (s0 : Int32) (d : gs_D) : gs_g Y0 P_M_release 6 [some (gs_r 20 a0), some (gs_i a1), some (gs_i a2), some (gs_i a3)] [(gs_i s0)] d = if s0 = 0 then gs_g Y0 P_M_release 23 [some (gs_r 20 a0), some (gs_i a1), some (gs_i a2), some (gs_i a3)] [] d else gs_g Y0 P_M_release 9 [some (gs_r 20 a0), some (gs_i a1), some (gs_i a2), some (gs_i a3)] [] d := gs_if 1 (fun _ => rfl)
theorem k_M_release_9 (a0 : Nat) (a1 : Int32) (a2 : Int32) (a3 : Int32) (d : gs_D) : gs_g Y0 P_M_release 9 [some (gs_r 20 a0), some (gs_i a1), some (gs_i a2), some (gs_i a3)] [] d = gs_af (f_M_security [(gs_i a2)] d) [] (fun s9 d9 => gs_g Y0 P_M_release 13 [some (gs_r 20 a0), some (gs_i a1), some (gs_i a2), some (gs_i a3)] s9 d9) := gs_gc 2 (fun _ => rfl)
theorem k_M_release_13 (a0 : Nat) (a1 : Int32) (a2 : Int32) (a3 : Int32) (s0 : Int32) (d : gs_D) : gs_g Y0 P_M_release 13 [some (gs_r 20 a0), some (gs_i a1), some (gs_i a2), some (gs_i a3)] [(gs_i s0)] d = if s0 = 0 then gs_g Y0 P_M_release 23 [some (gs_r 20 a0), some (gs_i a1), some (gs_i a2), some (gs_i a3)] [] d else gs_g Y0 P_M_release 16 [some (gs_r 20 a0), some (gs_i a1), some (gs_i a2), some (gs_i a3)] [] d := gs_if 1 (fun _ => rfl)
theorem k_M_release_16 (a0 : Nat) (a1 : Int32) (a2 : Int32) (a3 : Int32) (d : gs_D) : gs_g Y0 P_M_release 16 [some (gs_r 20 a0), some (gs_i a1), some (gs_i a2), some (gs_i a3)] [] d = gs_af (f_M_amountFits [(gs_i a3)] d) [] (fun s9 d9 => gs_g Y0 P_M_release 20 [some (gs_r 20 a0), some (gs_i a1), some (gs_i a2), some (gs_i a3)] s9 d9) := gs_gc 2 (fun _ => rfl)
theorem k_M_release_20 (a0 : Nat) (a1 : Int32) (a2 : Int32) (a3 : Int32) (s0 : Int32) (d : gs_D) : gs_g Y0 P_M_release 20 [some (gs_r 20 a0), some (gs_i a1), some (gs_i a2), some (gs_i a3)] [(gs_i s0)] d = if ¬ s0 = 0 then gs_g Y0 P_M_release 25 [some (gs_r 20 a0), some (gs_i a1), some (gs_i a2), some (gs_i a3)] [] d else gs_g Y0 P_M_release 23 [some (gs_r 20 a0), some (gs_i a1), some (gs_i a2), some (gs_i a3)] [] d := gs_if 1 (fun _ => rfl)
theorem k_M_release_23 (a0 : Nat) (a1 : Int32) (a2 : Int32) (a3 : Int32) (d : gs_D) : gs_g Y0 P_M_release 23 [some (gs_r 20 a0), some (gs_i a1), some (gs_i a2), some (gs_i a3)] [] d = some (some (gs_i (gs_n (-1))), d) := gs_an 2 (fun _ => rfl)
theorem k_M_release_25 (a0 : Nat) (a1 : Int32) (a2 : Int32) (a3 : Int32) (d : gs_D) : gs_g Y0 P_M_release 25 [some (gs_r 20 a0), some (gs_i a1), some (gs_i a2), some (gs_i a3)] [] d = gs_ix (((Int8.ofInt 17).toInt32 + ((gs_n 2) * a1)) + a2) 430 (gs_g Y0 P_M_release 38 [some (gs_r 20 a0), some (gs_i a1), some (gs_i a2), some (gs_i a3)] [(gs_l (d.2 21 a0 (((Int8.ofInt 17).toInt32 + ((gs_n 2) * a1)) + a2).toNatClampNeg))] d) := gs_gx 10 (fun _ => rfl)
theorem k_M_release_38 (a0 : Nat) (a1 : Int32) (a2 : Int32) (a3 : Int32) (s0 : Int64) (d : gs_D) : gs_g Y0 P_M_release 38 [some (gs_r 20 a0), some (gs_i a1), some (gs_i a2), some (gs_i a3)] [(gs_l s0)] d = if 0 ≤ (lg_cmp s0 a3.toInt64) then gs_g Y0 P_M_release 47 [some (gs_r 20 a0), some (gs_i a1), some (gs_i a2), some (gs_i a3)] [] d else gs_g Y0 P_M_release 44 [some (gs_r 20 a0), some (gs_i a1), some (gs_i a2), some (gs_i a3)] [] d := gs_if 4 (fun _ => rfl)
theorem k_M_release_44 (a0 : Nat) (a1 : Int32) (a2 : Int32) (a3 : Int32) (d : gs_D) : gs_g Y0 P_M_release 44 [some (gs_r 20 a0), some (gs_i a1), some (gs_i a2), some (gs_i a3)] [] d = some (some (gs_i (Int8.ofInt (-4)).toInt32), d) := gs_an 2 (fun _ => rfl)
theorem k_M_release_47 (a0 : Nat) (a1 : Int32) (a2 : Int32) (a3 : Int32) (d : gs_D) : gs_g Y0 P_M_release 47 [some (gs_r 20 a0), some (gs_i a1), some (gs_i a2), some (gs_i a3)] [] d = gs_ix (((Int8.ofInt 17).toInt32 + ((gs_n 2) * a1)) + a2) 430 (gs_g Y0 P_M_release 61 [some (gs_r 20 a0), some (gs_i a1), some (gs_i a2), some (gs_i a3)] [(gs_l (d.2 21 a0 (((Int8.ofInt 17).toInt32 + ((gs_n 2) * a1)) + a2).toNatClampNeg)), (gs_i (((Int8.ofInt 17).toInt32 + ((gs_n 2) * a1)) + a2)), (gs_r 21 a0)] d) := gs_gx 11 (fun _ => rfl)
theorem k_M_release_61 (a0 : Nat) (a1 : Int32) (a2 : Int32) (a3 : Int32) (s0 : Nat) (s1 : Int32) (s2 : Int64) (d : gs_D) : gs_g Y0 P_M_release 61 [some (gs_r 20 a0), some (gs_i a1), some (gs_i a2), some (gs_i a3)] [(gs_l s2), (gs_i s1), (gs_r 21 s0)] d = gs_ix s1 430 (gs_g Y0 P_M_release 65 [some (gs_r 20 a0), some (gs_i a1), some (gs_i a2), some (gs_i a3)] [] (gs_wL d 21 s0 s1.toNatClampNeg (s2 - a3.toInt64))) := gs_gx 4 (fun _ => rfl)
theorem k_M_release_65 (a0 : Nat) (a1 : Int32) (a2 : Int32) (a3 : Int32) (d : gs_D) : gs_g Y0 P_M_release 65 [some (gs_r 20 a0), some (gs_i a1), some (gs_i a2), some (gs_i a3)] [] d = gs_af (f_M_above [(gs_r 20 a0), (gs_i a1)] d) [] (fun s9 d9 => gs_g Y0 P_M_release 70 [some (gs_r 20 a0), some (gs_i a1), some (gs_i a2), some (gs_i a3)] s9 d9) := gs_gc 3 (fun _ => rfl)
theorem k_M_release_70 (a0 : Nat) (a1 : Int32) (a2 : Int32) (a3 : Int32) (s0 : Int64) (d : gs_D) : gs_g Y0 P_M_release 70 [some (gs_r 20 a0), some (gs_i a1), some (gs_i a2), some (gs_i a3)] [(gs_l s0)] d = if 0 ≤ (lg_cmp s0 gs_k0) then gs_g Y0 P_M_release 96 [some (gs_r 20 a0), some (gs_i a1), some (gs_i a2), some (gs_i a3)] [] d else gs_g Y0 P_M_release 75 [some (gs_r 20 a0), some (gs_i a1), some (gs_i a2), some (gs_i a3)] [] d := gs_if 3 (fun _ => rfl)
theorem k_M_release_75 (a0 : Nat) (a1 : Int32) (a2 : Int32) (a3 : Int32) (d : gs_D) : gs_g Y0 P_M_release 75 [some (gs_r 20 a0), some (gs_i a1), some (gs_i a2), some (gs_i a3)] [] d = gs_ix (((Int8.ofInt 17).toInt32 + ((gs_n 2) * a1)) + a2) 430 (gs_g Y0 P_M_release 89 [some (gs_r 20 a0), some (gs_i a1), some (gs_i a2), some (gs_i a3)] [(gs_l (d.2 21 a0 (((Int8.ofInt 17).toInt32 + ((gs_n 2) * a1)) + a2).toNatClampNeg)), (gs_i (((Int8.ofInt 17).toInt32 + ((gs_n 2) * a1)) + a2)), (gs_r 21 a0)] d) := gs_gx 11 (fun _ => rfl)
theorem k_M_release_89 (a0 : Nat) (a1 : Int32) (a2 : Int32) (a3 : Int32) (s0 : Nat) (s1 : Int32) (s2 : Int64) (d : gs_D) : gs_g Y0 P_M_release 89 [some (gs_r 20 a0), some (gs_i a1), some (gs_i a2), some (gs_i a3)] [(gs_l s2), (gs_i s1), (gs_r 21 s0)] d = gs_ix s1 430 (gs_g Y0 P_M_release 93 [some (gs_r 20 a0), some (gs_i a1), some (gs_i a2), some (gs_i a3)] [] (gs_wL d 21 s0 s1.toNatClampNeg (s2 + a3.toInt64))) := gs_gx 4 (fun _ => rfl)
theorem k_M_release_93 (a0 : Nat) (a1 : Int32) (a2 : Int32) (a3 : Int32) (d : gs_D) : gs_g Y0 P_M_release 93 [some (gs_r 20 a0), some (gs_i a1), some (gs_i a2), some (gs_i a3)] [] d = some (some (gs_i (Int8.ofInt (-4)).toInt32), d) := gs_an 2 (fun _ => rfl)
theorem k_M_release_96 (a0 : Nat) (a1 : Int32) (a2 : Int32) (a3 : Int32) (d : gs_D) : gs_g Y0 P_M_release 96 [some (gs_r 20 a0), some (gs_i a1), some (gs_i a2), some (gs_i a3)] [] d = gs_ix (((gs_n 3) * a1) + a2) 430 (gs_g Y0 P_M_release 107 [some (gs_r 20 a0), some (gs_i a1), some (gs_i a2), some (gs_i a3)] [(gs_l (d.2 21 a0 (((gs_n 3) * a1) + a2).toNatClampNeg)), (gs_i (((gs_n 3) * a1) + a2)), (gs_r 21 a0)] d) := gs_gx 9 (fun _ => rfl)
theorem k_M_release_107 (a0 : Nat) (a1 : Int32) (a2 : Int32) (a3 : Int32) (s0 : Nat) (s1 : Int32) (s2 : Int64) (d : gs_D) : gs_g Y0 P_M_release 107 [some (gs_r 20 a0), some (gs_i a1), some (gs_i a2), some (gs_i a3)] [(gs_l s2), (gs_i s1), (gs_r 21 s0)] d = gs_ix s1 430 (gs_g Y0 P_M_release 111 [some (gs_r 20 a0), some (gs_i a1), some (gs_i a2), some (gs_i a3)] [] (gs_wL d 21 s0 s1.toNatClampNeg (s2 + a3.toInt64))) := gs_gx 4 (fun _ => rfl)
theorem k_M_release_111 (a0 : Nat) (a1 : Int32) (a2 : Int32) (a3 : Int32) (d : gs_D) : gs_g Y0 P_M_release 111 [some (gs_r 20 a0), some (gs_i a1), some (gs_i a2), some (gs_i a3)] [] d = gs_af (f_M_goThrough [(gs_r 20 a0)] d) [] (fun s9 d9 => gs_g Y0 P_M_release 115 [some (gs_r 20 a0), some (gs_i a1), some (gs_i a2), some (gs_i a3)] s9 d9) := gs_gc 2 (fun _ => rfl)
theorem k_M_release_115 (a0 : Nat) (a1 : Int32) (a2 : Int32) (a3 : Int32) (s0 : Int32) (d : gs_D) : gs_g Y0 P_M_release 115 [some (gs_r 20 a0), some (gs_i a1), some (gs_i a2), some (gs_i a3)] [(gs_i s0)] d = some (some (gs_i s0), d) := gs_an 1 (fun _ => rfl)
def I_M_limit : List (Nat × Jvm.ClassFile.Instr × Nat) := [(0, .iload_n 1, 0), (1, .iload_n 2, 0), (2, .invokestatic 107, 0), (5, .ifCond .eq 14, 19), (8, .iload_n 3, 0), (9, .iconst (-1), 0), (10, .if_icmp .lt 9, 19), (13, .iload_n 3, 0), (14, .ldc 28, 0), (16, .if_icmp .le 5, 21), (19, .iconst (-1), 0), (20, .ireturn, 0), (21, .iload_n 3, 0), (22, .iconst (-1), 0), (23, .if_icmp .eq 26, 49), (26, .aload_n 0, 0), (27, .getfield 7, 0), (30, .bipush 70, 0), (32, .bipush 6, 0), (34, .iload_n 1, 0), (35, .imul, 0), (36, .iadd, 0), (37, .iload_n 2, 0), (38, .iadd, 0), (39, .laload, 0), (40, .iload_n 3, 0), (41, .i2l, 0), (42, .lcmp, 0), (43, .ifCond .le 6, 49), (46, .bipush (-4), 0), (48, .ireturn, 0), (49, .aload_n 0, 0), (50, .getfield 7, 0), (53, .bipush 34, 0), (55, .bipush 6, 0), (57, .iload_n 1, 0), (58, .imul, 0), (59, .iadd, 0), (60, .iload_n 2, 0), (61, .iadd, 0), (62, .iload_n 3, 0), (63, .i2l, 0), (64, .lastore, 0), (65, .aload_n 0, 0), (66, .invokevirtual 104, 0), (69, .ireturn, 0)]
def F_M_limit : List (Nat × Nat × Nat) := [(7, 5, 0)]
def K_M_limit : List (Nat × gs_V) := [(28, gs_i (gs_n 1000000))]
noncomputable def C_M_limit : List (Nat × Nat × Nat × gs_F) := [(107, 2, 1000, f_M_pair), (104, 0, 5, f_M_goThrough)]
noncomputable def P_M_limit : gs_P := (gs_lk I_M_limit, gs_lk F_M_limit, gs_lk K_M_limit, gs_lk C_M_limit)
noncomputable def f_M_limit : gs_F := gs_f Y0 4 1 P_M_limit
theorem e_M_limit (a0 : Nat) (a1 : Int32) (a2 : Int32) (a3 : Int32) (d : gs_D) : f_M_limit [(gs_r 20 a0), (gs_i a1), (gs_i a2), (gs_i a3)] d = gs_ck 1 (gs_g Y0 P_M_limit 0 [some (gs_r 20 a0), some (gs_i a1), some (gs_i a2), some (gs_i a3)] [] d) := rfl
theorem k_M_limit_0 (a0 : Nat) (a1 : Int32) (a2 : Int32) (a3 : Int32) (d : gs_D) : gs_g Y0 P_M_limit 0 [some (gs_r 20 a0), some (gs_i a1), some (gs_i a2), some (gs_i a3)] [] d = gs_af (f_M_pair [(gs_i a1), (gs_i a2)] d) [] (fun s9 d9 => gs_g Y0 P_M_limit 5 [some (gs_r 20 a0), some (gs_i a1), some (gs_i a2), some (gs_i a3)] s9 d9) := gs_gc 3 (fun _ => rfl)
theorem k_M_limit_5 (a0 : Nat) (a1 : Int32) (a2 : Int32) (a3 : Int32) (s0 : Int32) (d : gs_D) : gs_g Y0 P_M_limit 5 [some (gs_r 20 a0), some (gs_i a1), some (gs_i a2), some (gs_i a3)] [(gs_i s0)] d = if s0 = 0 then gs_g Y0 P_M_limit 19 [some (gs_r 20 a0), some (gs_i a1), some (gs_i a2), some (gs_i a3)] [] d else gs_g Y0 P_M_limit 8 [some (gs_r 20 a0), some (gs_i a1), some (gs_i a2), some (gs_i a3)] [] d := gs_if 1 (fun _ => rfl)
theorem k_M_limit_8 (a0 : Nat) (a1 : Int32) (a2 : Int32) (a3 : Int32) (d : gs_D) : gs_g Y0 P_M_limit 8 [some (gs_r 20 a0), some (gs_i a1), some (gs_i a2), some (gs_i a3)] [] d = if a3 < (gs_n (-1)) then gs_g Y0 P_M_limit 19 [some (gs_r 20 a0), some (gs_i a1), some (gs_i a2), some (gs_i a3)] [] d else gs_g Y0 P_M_limit 13 [some (gs_r 20 a0), some (gs_i a1), some (gs_i a2), some (gs_i a3)] [] d := gs_if 3 (fun _ => rfl)
theorem k_M_limit_13 (a0 : Nat) (a1 : Int32) (a2 : Int32) (a3 : Int32) (d : gs_D) : gs_g Y0 P_M_limit 13 [some (gs_r 20 a0), some (gs_i a1), some (gs_i a2), some (gs_i a3)] [] d = if a3 ≤ (gs_n 1000000) then gs_g Y0 P_M_limit 21 [some (gs_r 20 a0), some (gs_i a1), some (gs_i a2), some (gs_i a3)] [] d else gs_g Y0 P_M_limit 19 [some (gs_r 20 a0), some (gs_i a1), some (gs_i a2), some (gs_i a3)] [] d := gs_if 3 (fun _ => rfl)
theorem k_M_limit_19 (a0 : Nat) (a1 : Int32) (a2 : Int32) (a3 : Int32) (d : gs_D) : gs_g Y0 P_M_limit 19 [some (gs_r 20 a0), some (gs_i a1), some (gs_i a2), some (gs_i a3)] [] d = some (some (gs_i (gs_n (-1))), d) := gs_an 2 (fun _ => rfl)
theorem k_M_limit_21 (a0 : Nat) (a1 : Int32) (a2 : Int32) (a3 : Int32) (d : gs_D) : gs_g Y0 P_M_limit 21 [some (gs_r 20 a0), some (gs_i a1), some (gs_i a2), some (gs_i a3)] [] d = if a3 = (gs_n (-1)) then gs_g Y0 P_M_limit 49 [some (gs_r 20 a0), some (gs_i a1), some (gs_i a2), some (gs_i a3)] [] d else gs_g Y0 P_M_limit 26 [some (gs_r 20 a0), some (gs_i a1), some (gs_i a2), some (gs_i a3)] [] d := gs_if 3 (fun _ => rfl)
theorem k_M_limit_26 (a0 : Nat) (a1 : Int32) (a2 : Int32) (a3 : Int32) (d : gs_D) : gs_g Y0 P_M_limit 26 [some (gs_r 20 a0), some (gs_i a1), some (gs_i a2), some (gs_i a3)] [] d = gs_ix (((Int8.ofInt 70).toInt32 + ((Int8.ofInt 6).toInt32 * a1)) + a2) 430 (gs_g Y0 P_M_limit 40 [some (gs_r 20 a0), some (gs_i a1), some (gs_i a2), some (gs_i a3)] [(gs_l (d.2 21 a0 (((Int8.ofInt 70).toInt32 + ((Int8.ofInt 6).toInt32 * a1)) + a2).toNatClampNeg))] d) := gs_gx 10 (fun _ => rfl)
theorem k_M_limit_40 (a0 : Nat) (a1 : Int32) (a2 : Int32) (a3 : Int32) (s0 : Int64) (d : gs_D) : gs_g Y0 P_M_limit 40 [some (gs_r 20 a0), some (gs_i a1), some (gs_i a2), some (gs_i a3)] [(gs_l s0)] d = if (lg_cmp s0 a3.toInt64) ≤ 0 then gs_g Y0 P_M_limit 49 [some (gs_r 20 a0), some (gs_i a1), some (gs_i a2), some (gs_i a3)] [] d else gs_g Y0 P_M_limit 46 [some (gs_r 20 a0), some (gs_i a1), some (gs_i a2), some (gs_i a3)] [] d := gs_if 4 (fun _ => rfl)
theorem k_M_limit_46 (a0 : Nat) (a1 : Int32) (a2 : Int32) (a3 : Int32) (d : gs_D) : gs_g Y0 P_M_limit 46 [some (gs_r 20 a0), some (gs_i a1), some (gs_i a2), some (gs_i a3)] [] d = some (some (gs_i (Int8.ofInt (-4)).toInt32), d) := gs_an 2 (fun _ => rfl)
theorem k_M_limit_49 (a0 : Nat) (a1 : Int32) (a2 : Int32) (a3 : Int32) (d : gs_D) : gs_g Y0 P_M_limit 49 [some (gs_r 20 a0), some (gs_i a1), some (gs_i a2), some (gs_i a3)] [] d = gs_ix (((Int8.ofInt 34).toInt32 + ((Int8.ofInt 6).toInt32 * a1)) + a2) 430 (gs_g Y0 P_M_limit 65 [some (gs_r 20 a0), some (gs_i a1), some (gs_i a2), some (gs_i a3)] [] (gs_wL d 21 a0 (((Int8.ofInt 34).toInt32 + ((Int8.ofInt 6).toInt32 * a1)) + a2).toNatClampNeg a3.toInt64)) := gs_gx 12 (fun _ => rfl)
theorem k_M_limit_65 (a0 : Nat) (a1 : Int32) (a2 : Int32) (a3 : Int32) (d : gs_D) : gs_g Y0 P_M_limit 65 [some (gs_r 20 a0), some (gs_i a1), some (gs_i a2), some (gs_i a3)] [] d = gs_af (f_M_goThrough [(gs_r 20 a0)] d) [] (fun s9 d9 => gs_g Y0 P_M_limit 69 [some (gs_r 20 a0), some (gs_i a1), some (gs_i a2), some (gs_i a3)] s9 d9) := gs_gc 2 (fun _ => rfl)
theorem k_M_limit_69 (a0 : Nat) (a1 : Int32) (a2 : Int32) (a3 : Int32) (s0 : Int32) (d : gs_D) : gs_g Y0 P_M_limit 69 [some (gs_r 20 a0), some (gs_i a1), some (gs_i a2), some (gs_i a3)] [(gs_i s0)] d = some (some (gs_i s0), d) := gs_an 1 (fun _ => rfl)
def I_M_room : List (Nat × Jvm.ClassFile.Instr × Nat) := [(0, .aload_n 0, 0), (1, .invokevirtual 82, 0), (4, .aload_n 0, 0), (5, .invokevirtual 98, 0), (8, .iconst 1, 0), (9, .if_icmp .eq 8, 17), (12, .bipush (-2), 0), (14, .goto 27, 41), (17, .aload_n 0, 0), (18, .getfield 58, 0), (21, .bipush 10, 0), (23, .if_icmp .eq 12, 35), (26, .aload_n 0, 0), (27, .invokevirtual 62, 0), (30, .bipush 40, 0), (32, .if_icmp .ne 8, 40), (35, .bipush (-3), 0), (37, .goto 4, 41), (40, .iconst 0, 0), (41, .ireturn, 0)]
def F_M_room : List (Nat × Nat × Nat) := [(58, 5, 3)]
def K_M_room : List (Nat × gs_V) := []
noncomputable def C_M_room : List (Nat × Nat × Nat × gs_F) := [(82, 0, 5, f_M_order), (98, 0, 5, f_M_day), (62, 0, 5, f_M_count)]
noncomputable def P_M_room : gs_P := (gs_lk I_M_room, gs_lk F_M_room, gs_lk K_M_room, gs_lk C_M_room)
noncomputable def f_M_room : gs_F := gs_f Y0 1 1 P_M_room
theorem e_M_room (a0 : Nat) (d : gs_D) : f_M_room [(gs_r 20 a0)] d = gs_ck 1 (gs_g Y0 P_M_room 0 [some (gs_r 20 a0)] [] d) := rfl
theorem k_M_room_0 (a0 : Nat) (d : gs_D) : gs_g Y0 P_M_room 0 [some (gs_r 20 a0)] [] d = gs_af (f_M_order [(gs_r 20 a0)] d) [] (fun s9 d9 => gs_g Y0 P_M_room 4 [some (gs_r 20 a0)] s9 d9) := gs_gc 2 (fun _ => rfl)
theorem k_M_room_4 (a0 : Nat) (d : gs_D) : gs_g Y0 P_M_room 4 [some (gs_r 20 a0)] [] d = gs_af (f_M_day [(gs_r 20 a0)] d) [] (fun s9 d9 => gs_g Y0 P_M_room 8 [some (gs_r 20 a0)] s9 d9) := gs_gc 2 (fun _ => rfl)
theorem k_M_room_8 (a0 : Nat) (s0 : Int32) (d : gs_D) : gs_g Y0 P_M_room 8 [some (gs_r 20 a0)] [(gs_i s0)] d = if s0 = (gs_n 1) then gs_g Y0 P_M_room 17 [some (gs_r 20 a0)] [] d else gs_g Y0 P_M_room 12 [some (gs_r 20 a0)] [] d := gs_if 2 (fun _ => rfl)
theorem k_M_room_12 (a0 : Nat) (d : gs_D) : gs_g Y0 P_M_room 12 [some (gs_r 20 a0)] [] d = some (some (gs_i (Int8.ofInt (-2)).toInt32), d) := gs_an 3 (fun _ => rfl)
theorem k_M_room_17 (a0 : Nat) (d : gs_D) : gs_g Y0 P_M_room 17 [some (gs_r 20 a0)] [] d = if (d.1 20 a0 3) = (Int8.ofInt 10).toInt32 then gs_g Y0 P_M_room 35 [some (gs_r 20 a0)] [] d else gs_g Y0 P_M_room 26 [some (gs_r 20 a0)] [] d := gs_if 4 (fun _ => rfl)
theorem k_M_room_26 (a0 : Nat) (d : gs_D) : gs_g Y0 P_M_room 26 [some (gs_r 20 a0)] [] d = gs_af (f_M_count [(gs_r 20 a0)] d) [] (fun s9 d9 => gs_g Y0 P_M_room 30 [some (gs_r 20 a0)] s9 d9) := gs_gc 2 (fun _ => rfl)
theorem k_M_room_30 (a0 : Nat) (s0 : Int32) (d : gs_D) : gs_g Y0 P_M_room 30 [some (gs_r 20 a0)] [(gs_i s0)] d = if ¬ s0 = (Int8.ofInt 40).toInt32 then gs_g Y0 P_M_room 40 [some (gs_r 20 a0)] [] d else gs_g Y0 P_M_room 35 [some (gs_r 20 a0)] [] d := gs_if 2 (fun _ => rfl)
theorem k_M_room_35 (a0 : Nat) (d : gs_D) : gs_g Y0 P_M_room 35 [some (gs_r 20 a0)] [] d = some (some (gs_i (Int8.ofInt (-3)).toInt32), d) := gs_an 3 (fun _ => rfl)
theorem k_M_room_40 (a0 : Nat) (d : gs_D) : gs_g Y0 P_M_room 40 [some (gs_r 20 a0)] [] d = some (some (gs_i (gs_n 0)), d) := gs_an 2 (fun _ => rfl)
def I_M_accept : List (Nat × Jvm.ClassFile.Instr × Nat) := [(0, .aload_n 0, 0), (1, .invokevirtual 110, 0), (4, .istore 5, 0), (6, .iload 5, 0), (8, .ifCond .ge 6, 14), (11, .iload 5, 0), (13, .ireturn, 0), (14, .aload_n 0, 0), (15, .invokevirtual 62, 0), (18, .istore 6, 0), (20, .iconst 0, 0), (21, .istore 7, 0), (23, .iload 7, 0), (25, .iconst 4, 0), (26, .if_icmp .ge 52, 78), (29, .iload_n 1, 0), (30, .iconst 3, 0), (31, .iload 7, 0), (33, .imul, 0), (34, .ishr, 0), (35, .bipush 7, 0), (37, .iand, 0), (38, .istore 8, 0), (40, .aload_n 0, 0), (41, .getfield 7, 0), (44, .bipush 110, 0), (46, .bipush 8, 0), (48, .iload 6, 0), (50, .imul, 0), (51, .iadd, 0), (52, .iload 7, 0), (54, .iadd, 0), (55, .iload 8, 0), (57, .bipush 7, 0), (59, .if_icmp .ne 9, 68), (62, .ldc2_w 26, 0), (65, .goto 6, 71), (68, .iload 8, 0), (70, .i2l, 0), (71, .lastore, 0), (72, .iinc 7 1, 0), (75, .goto (-52), 23), (78, .aload_n 0, 0), (79, .getfield 7, 0), (82, .bipush 114, 0), (84, .bipush 8, 0), (86, .iload 6, 0), (88, .imul, 0), (89, .iadd, 0), (90, .iload_n 2, 0), (91, .i2l, 0), (92, .lastore, 0), (93, .aload_n 0, 0), (94, .getfield 7, 0), (97, .bipush 115, 0), (99, .bipush 8, 0), (101, .iload 6, 0), (103, .imul, 0), (104, .iadd, 0), (105, .iload_n 3, 0), (106, .i2l, 0), (107, .lastore, 0), (108, .aload_n 0, 0), (109, .getfield 7, 0), (112, .bipush 116, 0), (114, .bipush 8, 0), (116, .iload 6, 0), (118, .imul, 0), (119, .iadd, 0), (120, .iload 4, 0), (122, .i2l, 0), (123, .lastore, 0), (124, .aload_n 0, 0), (125, .getfield 7, 0), (128, .bipush 117, 0), (130, .bipush 8, 0), (132, .iload 6, 0), (134, .imul, 0), (135, .iadd, 0), (136, .iload_n 1, 0), (137, .bipush 12, 0), (139, .ishr, 0), (140, .i2l, 0), (141, .lastore, 0), (142, .aload_n 0, 0), (143, .getfield 7, 0), (146, .bipush 107, 0), (148, .dup2, 0), (149, .laload, 0), (150, .lconst 1, 0), (151, .ladd, 0), (152, .lastore, 0), (153, .aload_n 0, 0), (154, .invokevirtual 104, 0), (157, .istore 7, 0), (159, .iload 7, 0), (161, .ifCond .lt 8, 169), (164, .iload 6, 0), (166, .goto 4, 170), (169, .iconst (-1), 0), (170, .ireturn, 0)]
def F_M_accept : List (Nat × Nat × Nat) := [(7, 5, 0)]
def K_M_accept : List (Nat × gs_V) := [(26, gs_l (gs_m (-1)))]
noncomputable def C_M_accept : List (Nat × Nat × Nat × gs_F) := [(110, 0, 5, f_M_room), (62, 0, 5, f_M_count), (104, 0, 5, f_M_goThrough)]
noncomputable def P_M_accept : gs_P := (gs_lk I_M_accept, gs_lk F_M_accept, gs_lk K_M_accept, gs_lk C_M_accept)
noncomputable def f_M_accept : gs_F := gs_f Y0 9 1 P_M_accept
theorem e_M_accept (a0 : Nat) (a1 : Int32) (a2 : Int32) (a3 : Int32) (a4 : Int32) (d : gs_D) : f_M_accept [(gs_r 20 a0), (gs_i a1), (gs_i a2), (gs_i a3), (gs_i a4)] d = gs_ck 1 (gs_g Y0 P_M_accept 0 [some (gs_r 20 a0), some (gs_i a1), some (gs_i a2), some (gs_i a3), some (gs_i a4), none, none, none, none] [] d) := rfl
theorem k_M_accept_0 (a0 : Nat) (a1 : Int32) (a2 : Int32) (a3 : Int32) (a4 : Int32) (d : gs_D) : gs_g Y0 P_M_accept 0 [some (gs_r 20 a0), some (gs_i a1), some (gs_i a2), some (gs_i a3), some (gs_i a4), none, none, none, none] [] d = gs_af (f_M_room [(gs_r 20 a0)] d) [] (fun s9 d9 => gs_g Y0 P_M_accept 4 [some (gs_r 20 a0), some (gs_i a1), some (gs_i a2), some (gs_i a3), some (gs_i a4), none, none, none, none] s9 d9) := gs_gc 2 (fun _ => rfl)
theorem k_M_accept_4 (a0 : Nat) (a1 : Int32) (a2 : Int32) (a3 : Int32) (a4 : Int32) (s0 : Int32) (d : gs_D) : gs_g Y0 P_M_accept 4 [some (gs_r 20 a0), some (gs_i a1), some (gs_i a2), some (gs_i a3), some (gs_i a4), none, none, none, none] [(gs_i s0)] d = if 0 ≤ s0 then gs_g Y0 P_M_accept 14 [some (gs_r 20 a0), some (gs_i a1), some (gs_i a2), some (gs_i a3), some (gs_i a4), some (gs_i s0), none, none, none] [] d else gs_g Y0 P_M_accept 11 [some (gs_r 20 a0), some (gs_i a1), some (gs_i a2), some (gs_i a3), some (gs_i a4), some (gs_i s0), none, none, none] [] d := gs_if 3 (fun _ => rfl)
theorem k_M_accept_11 (a0 : Nat) (a1 : Int32) (a2 : Int32) (a3 : Int32) (a4 : Int32) (a5 : Int32) (d : gs_D) : gs_g Y0 P_M_accept 11 [some (gs_r 20 a0), some (gs_i a1), some (gs_i a2), some (gs_i a3), some (gs_i a4), some (gs_i a5), none, none, none] [] d = some (some (gs_i a5), d) := gs_an 2 (fun _ => rfl)
theorem k_M_accept_14 (a0 : Nat) (a1 : Int32) (a2 : Int32) (a3 : Int32) (a4 : Int32) (a5 : Int32) (d : gs_D) : gs_g Y0 P_M_accept 14 [some (gs_r 20 a0), some (gs_i a1), some (gs_i a2), some (gs_i a3), some (gs_i a4), some (gs_i a5), none, none, none] [] d = gs_af (f_M_count [(gs_r 20 a0)] d) [] (fun s9 d9 => gs_g Y0 P_M_accept 18 [some (gs_r 20 a0), some (gs_i a1), some (gs_i a2), some (gs_i a3), some (gs_i a4), some (gs_i a5), none, none, none] s9 d9) := gs_gc 2 (fun _ => rfl)
theorem k_M_accept_18 (a0 : Nat) (a1 : Int32) (a2 : Int32) (a3 : Int32) (a4 : Int32) (a5 : Int32) (s0 : Int32) (d : gs_D) : gs_g Y0 P_M_accept 18 [some (gs_r 20 a0), some (gs_i a1), some (gs_i a2), some (gs_i a3), some (gs_i a4), some (gs_i a5), none, none, none] [(gs_i s0)] d = gs_g Y0 P_M_accept 23 [some (gs_r 20 a0), some (gs_i a1), some (gs_i a2), some (gs_i a3), some (gs_i a4), some (gs_i a5), some (gs_i s0), some (gs_i (gs_n 0)), none] [] d := gs_gs 2 (fun _ => rfl)
theorem k_M_accept_23 (a0 : Nat) (a1 : Int32) (a2 : Int32) (a3 : Int32) (a4 : Int32) (a5 : Int32) (a6 : Int32) (a7 : Int32) (a8 : Option gs_V) (d : gs_D) : gs_g Y0 P_M_accept 23 [some (gs_r 20 a0), some (gs_i a1), some (gs_i a2), some (gs_i a3), some (gs_i a4), some (gs_i a5), some (gs_i a6), some (gs_i a7), a8] [] d = if (gs_n 4) ≤ a7 then gs_g Y0 P_M_accept 78 [some (gs_r 20 a0), some (gs_i a1), some (gs_i a2), some (gs_i a3), some (gs_i a4), some (gs_i a5), some (gs_i a6), some (gs_i a7), a8] [] d else gs_g Y0 P_M_accept 29 [some (gs_r 20 a0), some (gs_i a1), some (gs_i a2), some (gs_i a3), some (gs_i a4), some (gs_i a5), some (gs_i a6), some (gs_i a7), a8] [] d := gs_if 3 (fun _ => rfl)
theorem k_M_accept_29 (a0 : Nat) (a1 : Int32) (a2 : Int32) (a3 : Int32) (a4 : Int32) (a5 : Int32) (a6 : Int32) (a7 : Int32) (a8 : Option gs_V) (d : gs_D) : gs_g Y0 P_M_accept 29 [some (gs_r 20 a0), some (gs_i a1), some (gs_i a2), some (gs_i a3), some (gs_i a4), some (gs_i a5), some (gs_i a6), some (gs_i a7), a8] [] d = if ¬ ((a1 >>> (((gs_n 3) * a7) &&& 31)) &&& (Int8.ofInt 7).toInt32) = (Int8.ofInt 7).toInt32 then gs_g Y0 P_M_accept 68 [some (gs_r 20 a0), some (gs_i a1), some (gs_i a2), some (gs_i a3), some (gs_i a4), some (gs_i a5), some (gs_i a6), some (gs_i a7), some (gs_i ((a1 >>> (((gs_n 3) * a7) &&& 31)) &&& (Int8.ofInt 7).toInt32))] [(gs_i (((Int8.ofInt 110).toInt32 + ((Int8.ofInt 8).toInt32 * a6)) + a7)), (gs_r 21 a0)] d else gs_g Y0 P_M_accept 62 [some (gs_r 20 a0), some (gs_i a1), some (gs_i a2), some (gs_i a3), some (gs_i a4), some (gs_i a5), some (gs_i a6), some (gs_i a7), some (gs_i ((a1 >>> (((gs_n 3) * a7) &&& 31)) &&& (Int8.ofInt 7).toInt32))] [(gs_i (((Int8.ofInt 110).toInt32 + ((Int8.ofInt 8).toInt32 * a6)) + a7)), (gs_r 21 a0)] d := gs_if 20 (fun _ => rfl)
theorem k_M_accept_62 (a0 : Nat) (a1 : Int32) (a2 : Int32) (a3 : Int32) (a4 : Int32) (a5 : Int32) (a6 : Int32) (a7 : Int32) (a8 : Int32) (s0 : Nat) (s1 : Int32) (d : gs_D) : gs_g Y0 P_M_accept 62 [some (gs_r 20 a0), some (gs_i a1), some (gs_i a2), some (gs_i a3), some (gs_i a4), some (gs_i a5), some (gs_i a6), some (gs_i a7), some (gs_i a8)] [(gs_i s1), (gs_r 21 s0)] d = gs_ix s1 430 (gs_g Y0 P_M_accept 72 [some (gs_r 20 a0), some (gs_i a1), some (gs_i a2), some (gs_i a3), some (gs_i a4), some (gs_i a5), some (gs_i a6), some (gs_i a7), some (gs_i a8)] [] (gs_wL d 21 s0 s1.toNatClampNeg (gs_m (-1)))) := gs_gx 3 (fun _ => rfl)
theorem k_M_accept_68 (a0 : Nat) (a1 : Int32) (a2 : Int32) (a3 : Int32) (a4 : Int32) (a5 : Int32) (a6 : Int32) (a7 : Int32) (a8 : Int32) (s0 : Nat) (s1 : Int32) (d : gs_D) : gs_g Y0 P_M_accept 68 [some (gs_r 20 a0), some (gs_i a1), some (gs_i a2), some (gs_i a3), some (gs_i a4), some (gs_i a5), some (gs_i a6), some (gs_i a7), some (gs_i a8)] [(gs_i s1), (gs_r 21 s0)] d = gs_ix s1 430 (gs_g Y0 P_M_accept 72 [some (gs_r 20 a0), some (gs_i a1), some (gs_i a2), some (gs_i a3), some (gs_i a4), some (gs_i a5), some (gs_i a6), some (gs_i a7), some (gs_i a8)] [] (gs_wL d 21 s0 s1.toNatClampNeg a8.toInt64)) := gs_gx 3 (fun _ => rfl)
theorem k_M_accept_72 (a0 : Nat) (a1 : Int32) (a2 : Int32) (a3 : Int32) (a4 : Int32) (a5 : Int32) (a6 : Int32) (a7 : Int32) (a8 : Int32) (d : gs_D) : gs_g Y0 P_M_accept 72 [some (gs_r 20 a0), some (gs_i a1), some (gs_i a2), some (gs_i a3), some (gs_i a4), some (gs_i a5), some (gs_i a6), some (gs_i a7), some (gs_i a8)] [] d = gs_g Y0 P_M_accept 23 [some (gs_r 20 a0), some (gs_i a1), some (gs_i a2), some (gs_i a3), some (gs_i a4), some (gs_i a5), some (gs_i a6), some (gs_i (a7 + gs_n 1)), some (gs_i a8)] [] d := gs_gs 1 (fun _ => rfl)
theorem k_M_accept_78 (a0 : Nat) (a1 : Int32) (a2 : Int32) (a3 : Int32) (a4 : Int32) (a5 : Int32) (a6 : Int32) (a7 : Int32) (a8 : Option gs_V) (d : gs_D) : gs_g Y0 P_M_accept 78 [some (gs_r 20 a0), some (gs_i a1), some (gs_i a2), some (gs_i a3), some (gs_i a4), some (gs_i a5), some (gs_i a6), some (gs_i a7), a8] [] d = gs_ix ((Int8.ofInt 114).toInt32 + ((Int8.ofInt 8).toInt32 * a6)) 430 (gs_g Y0 P_M_accept 93 [some (gs_r 20 a0), some (gs_i a1), some (gs_i a2), some (gs_i a3), some (gs_i a4), some (gs_i a5), some (gs_i a6), some (gs_i a7), a8] [] (gs_wL d 21 a0 ((Int8.ofInt 114).toInt32 + ((Int8.ofInt 8).toInt32 * a6)).toNatClampNeg a2.toInt64)) := gs_gx 10 (fun _ => rfl)
theorem k_M_accept_93 (a0 : Nat) (a1 : Int32) (a2 : Int32) (a3 : Int32) (a4 : Int32) (a5 : Int32) (a6 : Int32) (a7 : Int32) (a8 : Option gs_V) (d : gs_D) : gs_g Y0 P_M_accept 93 [some (gs_r 20 a0), some (gs_i a1), some (gs_i a2), some (gs_i a3), some (gs_i a4), some (gs_i a5), some (gs_i a6), some (gs_i a7), a8] [] d = gs_ix ((Int8.ofInt 115).toInt32 + ((Int8.ofInt 8).toInt32 * a6)) 430 (gs_g Y0 P_M_accept 108 [some (gs_r 20 a0), some (gs_i a1), some (gs_i a2), some (gs_i a3), some (gs_i a4), some (gs_i a5), some (gs_i a6), some (gs_i a7), a8] [] (gs_wL d 21 a0 ((Int8.ofInt 115).toInt32 + ((Int8.ofInt 8).toInt32 * a6)).toNatClampNeg a3.toInt64)) := gs_gx 10 (fun _ => rfl)
theorem k_M_accept_108 (a0 : Nat) (a1 : Int32) (a2 : Int32) (a3 : Int32) (a4 : Int32) (a5 : Int32) (a6 : Int32) (a7 : Int32) (a8 : Option gs_V) (d : gs_D) : gs_g Y0 P_M_accept 108 [some (gs_r 20 a0), some (gs_i a1), some (gs_i a2), some (gs_i a3), some (gs_i a4), some (gs_i a5), some (gs_i a6), some (gs_i a7), a8] [] d = gs_ix ((Int8.ofInt 116).toInt32 + ((Int8.ofInt 8).toInt32 * a6)) 430 (gs_g Y0 P_M_accept 124 [some (gs_r 20 a0), some (gs_i a1), some (gs_i a2), some (gs_i a3), some (gs_i a4), some (gs_i a5), some (gs_i a6), some (gs_i a7), a8] [] (gs_wL d 21 a0 ((Int8.ofInt 116).toInt32 + ((Int8.ofInt 8).toInt32 * a6)).toNatClampNeg a4.toInt64)) := gs_gx 10 (fun _ => rfl)
theorem k_M_accept_124 (a0 : Nat) (a1 : Int32) (a2 : Int32) (a3 : Int32) (a4 : Int32) (a5 : Int32) (a6 : Int32) (a7 : Int32) (a8 : Option gs_V) (d : gs_D) : gs_g Y0 P_M_accept 124 [some (gs_r 20 a0), some (gs_i a1), some (gs_i a2), some (gs_i a3), some (gs_i a4), some (gs_i a5), some (gs_i a6), some (gs_i a7), a8] [] d = gs_ix ((Int8.ofInt 117).toInt32 + ((Int8.ofInt 8).toInt32 * a6)) 430 (gs_g Y0 P_M_accept 142 [some (gs_r 20 a0), some (gs_i a1), some (gs_i a2), some (gs_i a3), some (gs_i a4), some (gs_i a5), some (gs_i a6), some (gs_i a7), a8] [] (gs_wL d 21 a0 ((Int8.ofInt 117).toInt32 + ((Int8.ofInt 8).toInt32 * a6)).toNatClampNeg (a1 >>> ((Int8.ofInt 12).toInt32 &&& 31)).toInt64)) := gs_gx 12 (fun _ => rfl)
theorem k_M_accept_142 (a0 : Nat) (a1 : Int32) (a2 : Int32) (a3 : Int32) (a4 : Int32) (a5 : Int32) (a6 : Int32) (a7 : Int32) (a8 : Option gs_V) (d : gs_D) : gs_g Y0 P_M_accept 142 [some (gs_r 20 a0), some (gs_i a1), some (gs_i a2), some (gs_i a3), some (gs_i a4), some (gs_i a5), some (gs_i a6), some (gs_i a7), a8] [] d = gs_ix (Int8.ofInt 107).toInt32 430 (gs_g Y0 P_M_accept 150 [some (gs_r 20 a0), some (gs_i a1), some (gs_i a2), some (gs_i a3), some (gs_i a4), some (gs_i a5), some (gs_i a6), some (gs_i a7), a8] [(gs_l (d.2 21 a0 (Int8.ofInt 107).toInt32.toNatClampNeg)), (gs_i (Int8.ofInt 107).toInt32), (gs_r 21 a0)] d) := gs_gx 5 (fun _ => rfl)
theorem k_M_accept_150 (a0 : Nat) (a1 : Int32) (a2 : Int32) (a3 : Int32) (a4 : Int32) (a5 : Int32) (a6 : Int32) (a7 : Int32) (a8 : Option gs_V) (s0 : Nat) (s1 : Int32) (s2 : Int64) (d : gs_D) : gs_g Y0 P_M_accept 150 [some (gs_r 20 a0), some (gs_i a1), some (gs_i a2), some (gs_i a3), some (gs_i a4), some (gs_i a5), some (gs_i a6), some (gs_i a7), a8] [(gs_l s2), (gs_i s1), (gs_r 21 s0)] d = gs_ix s1 430 (gs_g Y0 P_M_accept 153 [some (gs_r 20 a0), some (gs_i a1), some (gs_i a2), some (gs_i a3), some (gs_i a4), some (gs_i a5), some (gs_i a6), some (gs_i a7), a8] [] (gs_wL d 21 s0 s1.toNatClampNeg (s2 + gs_k1))) := gs_gx 3 (fun _ => rfl)
theorem k_M_accept_153 (a0 : Nat) (a1 : Int32) (a2 : Int32) (a3 : Int32) (a4 : Int32) (a5 : Int32) (a6 : Int32) (a7 : Int32) (a8 : Option gs_V) (d : gs_D) : gs_g Y0 P_M_accept 153 [some (gs_r 20 a0), some (gs_i a1), some (gs_i a2), some (gs_i a3), some (gs_i a4), some (gs_i a5), some (gs_i a6), some (gs_i a7), a8] [] d = gs_af (f_M_goThrough [(gs_r 20 a0)] d) [] (fun s9 d9 => gs_g Y0 P_M_accept 157 [some (gs_r 20 a0), some (gs_i a1), some (gs_i a2), some (gs_i a3), some (gs_i a4), some (gs_i a5), some (gs_i a6), some (gs_i a7), a8] s9 d9) := gs_gc 2 (fun _ => rfl)
theorem k_M_accept_157 (a0 : Nat) (a1 : Int32) (a2 : Int32) (a3 : Int32) (a4 : Int32) (a5 : Int32) (a6 : Int32) (a7 : Int32) (a8 : Option gs_V) (s0 : Int32) (d : gs_D) : gs_g Y0 P_M_accept 157 [some (gs_r 20 a0), some (gs_i a1), some (gs_i a2), some (gs_i a3), some (gs_i a4), some (gs_i a5), some (gs_i a6), some (gs_i a7), a8] [(gs_i s0)] d = if s0 < 0 then gs_g Y0 P_M_accept 169 [some (gs_r 20 a0), some (gs_i a1), some (gs_i a2), some (gs_i a3), some (gs_i a4), some (gs_i a5), some (gs_i a6), some (gs_i s0), a8] [] d else gs_g Y0 P_M_accept 164 [some (gs_r 20 a0), some (gs_i a1), some (gs_i a2), some (gs_i a3), some (gs_i a4), some (gs_i a5), some (gs_i a6), some (gs_i s0), a8] [] d := gs_if 3 (fun _ => rfl)
theorem k_M_accept_164 (a0 : Nat) (a1 : Int32) (a2 : Int32) (a3 : Int32) (a4 : Int32) (a5 : Int32) (a6 : Int32) (a7 : Int32) (a8 : Option gs_V) (d : gs_D) : gs_g Y0 P_M_accept 164 [some (gs_r 20 a0), some (gs_i a1), some (gs_i a2), some (gs_i a3), some (gs_i a4), some (gs_i a5), some (gs_i a6), some (gs_i a7), a8] [] d = some (some (gs_i a6), d) := gs_an 3 (fun _ => rfl)
theorem k_M_accept_169 (a0 : Nat) (a1 : Int32) (a2 : Int32) (a3 : Int32) (a4 : Int32) (a5 : Int32) (a6 : Int32) (a7 : Int32) (a8 : Option gs_V) (d : gs_D) : gs_g Y0 P_M_accept 169 [some (gs_r 20 a0), some (gs_i a1), some (gs_i a2), some (gs_i a3), some (gs_i a4), some (gs_i a5), some (gs_i a6), some (gs_i a7), a8] [] d = some (some (gs_i (gs_n (-1))), d) := gs_an 2 (fun _ => rfl)
def I_M_pay : List (Nat × Jvm.ClassFile.Instr × Nat) := [(0, .iload_n 1, 0), (1, .iload_n 2, 0), (2, .invokestatic 107, 0), (5, .ifCond .eq 19, 24), (8, .iload_n 3, 0), (9, .invokestatic 95, 0), (12, .ifCond .eq 12, 24), (15, .iload 4, 0), (17, .iconst 3, 0), (18, .invokestatic 29, 0), (21, .ifCond .ne 5, 26), (24, .iconst (-1), 0), (25, .ireturn, 0), (26, .aload_n 0, 0), (27, .iload_n 1, 0), (28, .iload_n 2, 0), (29, .iconst 3, 0), (30, .ishl, 0), (31, .ior, 0), (32, .sipush 448, 0), (35, .ior, 0), (36, .sipush 3584, 0), (39, .ior, 0), (40, .iload 4, 0), (42, .bipush 12, 0), (44, .ishl, 0), (45, .ior, 0), (46, .iconst 0, 0), (47, .iload_n 3, 0), (48, .iconst 0, 0), (49, .invokevirtual 113, 0), (52, .ireturn, 0)]
def F_M_pay : List (Nat × Nat × Nat) := []
def K_M_pay : List (Nat × gs_V) := []
noncomputable def C_M_pay : List (Nat × Nat × Nat × gs_F) := [(107, 2, 1000, f_M_pair), (95, 1, 1000, f_M_amountFits), (29, 2, 1000, f_M_within), (113, 4, 5, f_M_accept)]
noncomputable def P_M_pay : gs_P := (gs_lk I_M_pay, gs_lk F_M_pay, gs_lk K_M_pay, gs_lk C_M_pay)
noncomputable def f_M_pay : gs_F := gs_f Y0 5 1 P_M_pay
theorem e_M_pay (a0 : Nat) (a1 : Int32) (a2 : Int32) (a3 : Int32) (a4 : Int32) (d : gs_D) : f_M_pay [(gs_r 20 a0), (gs_i a1), (gs_i a2), (gs_i a3), (gs_i a4)] d = gs_ck 1 (gs_g Y0 P_M_pay 0 [some (gs_r 20 a0), some (gs_i a1), some (gs_i a2), some (gs_i a3), some (gs_i a4)] [] d) := rfl
theorem k_M_pay_0 (a0 : Nat) (a1 : Int32) (a2 : Int32) (a3 : Int32) (a4 : Int32) (d : gs_D) : gs_g Y0 P_M_pay 0 [some (gs_r 20 a0), some (gs_i a1), some (gs_i a2), some (gs_i a3), some (gs_i a4)] [] d = gs_af (f_M_pair [(gs_i a1), (gs_i a2)] d) [] (fun s9 d9 => gs_g Y0 P_M_pay 5 [some (gs_r 20 a0), some (gs_i a1), some (gs_i a2), some (gs_i a3), some (gs_i a4)] s9 d9) := gs_gc 3 (fun _ => rfl)
theorem k_M_pay_5 (a0 : Nat) (a1 : Int32) (a2 : Int32) (a3 : Int32) (a4 : Int32) (s0 : Int32) (d : gs_D) : gs_g Y0 P_M_pay 5 [some (gs_r 20 a0), some (gs_i a1), some (gs_i a2), some (gs_i a3), some (gs_i a4)] [(gs_i s0)] d = if s0 = 0 then gs_g Y0 P_M_pay 24 [some (gs_r 20 a0), some (gs_i a1), some (gs_i a2), some (gs_i a3), some (gs_i a4)] [] d else gs_g Y0 P_M_pay 8 [some (gs_r 20 a0), some (gs_i a1), some (gs_i a2), some (gs_i a3), some (gs_i a4)] [] d := gs_if 1 (fun _ => rfl)
theorem k_M_pay_8 (a0 : Nat) (a1 : Int32) (a2 : Int32) (a3 : Int32) (a4 : Int32) (d : gs_D) : gs_g Y0 P_M_pay 8 [some (gs_r 20 a0), some (gs_i a1), some (gs_i a2), some (gs_i a3), some (gs_i a4)] [] d = gs_af (f_M_amountFits [(gs_i a3)] d) [] (fun s9 d9 => gs_g Y0 P_M_pay 12 [some (gs_r 20 a0), some (gs_i a1), some (gs_i a2), some (gs_i a3), some (gs_i a4)] s9 d9) := gs_gc 2 (fun _ => rfl)
theorem k_M_pay_12 (a0 : Nat) (a1 : Int32) (a2 : Int32) (a3 : Int32) (a4 : Int32) (s0 : Int32) (d : gs_D) : gs_g Y0 P_M_pay 12 [some (gs_r 20 a0), some (gs_i a1), some (gs_i a2), some (gs_i a3), some (gs_i a4)] [(gs_i s0)] d = if s0 = 0 then gs_g Y0 P_M_pay 24 [some (gs_r 20 a0), some (gs_i a1), some (gs_i a2), some (gs_i a3), some (gs_i a4)] [] d else gs_g Y0 P_M_pay 15 [some (gs_r 20 a0), some (gs_i a1), some (gs_i a2), some (gs_i a3), some (gs_i a4)] [] d := gs_if 1 (fun _ => rfl)
theorem k_M_pay_15 (a0 : Nat) (a1 : Int32) (a2 : Int32) (a3 : Int32) (a4 : Int32) (d : gs_D) : gs_g Y0 P_M_pay 15 [some (gs_r 20 a0), some (gs_i a1), some (gs_i a2), some (gs_i a3), some (gs_i a4)] [] d = gs_af (f_M_within [(gs_i a4), (gs_i (gs_n 3))] d) [] (fun s9 d9 => gs_g Y0 P_M_pay 21 [some (gs_r 20 a0), some (gs_i a1), some (gs_i a2), some (gs_i a3), some (gs_i a4)] s9 d9) := gs_gc 3 (fun _ => rfl)
theorem k_M_pay_21 (a0 : Nat) (a1 : Int32) (a2 : Int32) (a3 : Int32) (a4 : Int32) (s0 : Int32) (d : gs_D) : gs_g Y0 P_M_pay 21 [some (gs_r 20 a0), some (gs_i a1), some (gs_i a2), some (gs_i a3), some (gs_i a4)] [(gs_i s0)] d = if ¬ s0 = 0 then gs_g Y0 P_M_pay 26 [some (gs_r 20 a0), some (gs_i a1), some (gs_i a2), some (gs_i a3), some (gs_i a4)] [] d else gs_g Y0 P_M_pay 24 [some (gs_r 20 a0), some (gs_i a1), some (gs_i a2), some (gs_i a3), some (gs_i a4)] [] d := gs_if 1 (fun _ => rfl)
theorem k_M_pay_24 (a0 : Nat) (a1 : Int32) (a2 : Int32) (a3 : Int32) (a4 : Int32) (d : gs_D) : gs_g Y0 P_M_pay 24 [some (gs_r 20 a0), some (gs_i a1), some (gs_i a2), some (gs_i a3), some (gs_i a4)] [] d = some (some (gs_i (gs_n (-1))), d) := gs_an 2 (fun _ => rfl)
theorem k_M_pay_26 (a0 : Nat) (a1 : Int32) (a2 : Int32) (a3 : Int32) (a4 : Int32) (d : gs_D) : gs_g Y0 P_M_pay 26 [some (gs_r 20 a0), some (gs_i a1), some (gs_i a2), some (gs_i a3), some (gs_i a4)] [] d = gs_af (f_M_accept [(gs_r 20 a0), (gs_i ((((a1 ||| (a2 <<< ((gs_n 3) &&& 31))) ||| (Int16.ofInt 448).toInt32) ||| (Int16.ofInt 3584).toInt32) ||| (a4 <<< ((Int8.ofInt 12).toInt32 &&& 31)))), (gs_i (gs_n 0)), (gs_i a3), (gs_i (gs_n 0))] d) [] (fun s9 d9 => gs_g Y0 P_M_pay 52 [some (gs_r 20 a0), some (gs_i a1), some (gs_i a2), some (gs_i a3), some (gs_i a4)] s9 d9) := gs_gc 18 (fun _ => rfl)
theorem k_M_pay_52 (a0 : Nat) (a1 : Int32) (a2 : Int32) (a3 : Int32) (a4 : Int32) (s0 : Int32) (d : gs_D) : gs_g Y0 P_M_pay 52 [some (gs_r 20 a0), some (gs_i a1), some (gs_i a2), some (gs_i a3), some (gs_i a4)] [(gs_i s0)] d = some (some (gs_i s0), d) := gs_an 1 (fun _ => rfl)
def I_M_deliver : List (Nat × Jvm.ClassFile.Instr × Nat) := [(0, .iload_n 1, 0), (1, .iload_n 2, 0), (2, .invokestatic 107, 0), (5, .ifCond .eq 18, 23), (8, .iload_n 3, 0), (9, .invokestatic 101, 0), (12, .ifCond .eq 11, 23), (15, .iload 4, 0), (17, .invokestatic 95, 0), (20, .ifCond .ne 5, 25), (23, .iconst (-1), 0), (24, .ireturn, 0), (25, .aload_n 0, 0), (26, .bipush 63, 0), (28, .iload_n 1, 0), (29, .bipush 6, 0), (31, .ishl, 0), (32, .ior, 0), (33, .iload_n 2, 0), (34, .bipush 9, 0), (36, .ishl, 0), (37, .ior, 0), (38, .sipush 4096, 0), (41, .ior, 0), (42, .iload_n 3, 0), (43, .iconst 0, 0), (44, .iload 4, 0), (46, .invokevirtual 113, 0), (49, .ireturn, 0)]
def F_M_deliver : List (Nat × Nat × Nat) := []
def K_M_deliver : List (Nat × gs_V) := []
noncomputable def C_M_deliver : List (Nat × Nat × Nat × gs_F) := [(107, 2, 1000, f_M_pair), (101, 1, 1000, f_M_security), (95, 1, 1000, f_M_amountFits), (113, 4, 5, f_M_accept)]
noncomputable def P_M_deliver : gs_P := (gs_lk I_M_deliver, gs_lk F_M_deliver, gs_lk K_M_deliver, gs_lk C_M_deliver)
noncomputable def f_M_deliver : gs_F := gs_f Y0 5 1 P_M_deliver
theorem e_M_deliver (a0 : Nat) (a1 : Int32) (a2 : Int32) (a3 : Int32) (a4 : Int32) (d : gs_D) : f_M_deliver [(gs_r 20 a0), (gs_i a1), (gs_i a2), (gs_i a3), (gs_i a4)] d = gs_ck 1 (gs_g Y0 P_M_deliver 0 [some (gs_r 20 a0), some (gs_i a1), some (gs_i a2), some (gs_i a3), some (gs_i a4)] [] d) := rfl
theorem k_M_deliver_0 (a0 : Nat) (a1 : Int32) (a2 : Int32) (a3 : Int32) (a4 : Int32) (d : gs_D) : gs_g Y0 P_M_deliver 0 [some (gs_r 20 a0), some (gs_i a1), some (gs_i a2), some (gs_i a3), some (gs_i a4)] [] d = gs_af (f_M_pair [(gs_i a1), (gs_i a2)] d) [] (fun s9 d9 => gs_g Y0 P_M_deliver 5 [some (gs_r 20 a0), some (gs_i a1), some (gs_i a2), some (gs_i a3), some (gs_i a4)] s9 d9) := gs_gc 3 (fun _ => rfl)
theorem k_M_deliver_5 (a0 : Nat) (a1 : Int32) (a2 : Int32) (a3 : Int32) (a4 : Int32) (s0 : Int32) (d : gs_D) : gs_g Y0 P_M_deliver 5 [some (gs_r 20 a0), some (gs_i a1), some (gs_i a2), some (gs_i a3), some (gs_i a4)] [(gs_i s0)] d = if s0 = 0 then gs_g Y0 P_M_deliver 23 [some (gs_r 20 a0), some (gs_i a1), some (gs_i a2), some (gs_i a3), some (gs_i a4)] [] d else gs_g Y0 P_M_deliver 8 [some (gs_r 20 a0), some (gs_i a1), some (gs_i a2), some (gs_i a3), some (gs_i a4)] [] d := gs_if 1 (fun _ => rfl)
theorem k_M_deliver_8 (a0 : Nat) (a1 : Int32) (a2 : Int32) (a3 : Int32) (a4 : Int32) (d : gs_D) : gs_g Y0 P_M_deliver 8 [some (gs_r 20 a0), some (gs_i a1), some (gs_i a2), some (gs_i a3), some (gs_i a4)] [] d = gs_af (f_M_security [(gs_i a3)] d) [] (fun s9 d9 => gs_g Y0 P_M_deliver 12 [some (gs_r 20 a0), some (gs_i a1), some (gs_i a2), some (gs_i a3), some (gs_i a4)] s9 d9) := gs_gc 2 (fun _ => rfl)
theorem k_M_deliver_12 (a0 : Nat) (a1 : Int32) (a2 : Int32) (a3 : Int32) (a4 : Int32) (s0 : Int32) (d : gs_D) : gs_g Y0 P_M_deliver 12 [some (gs_r 20 a0), some (gs_i a1), some (gs_i a2), some (gs_i a3), some (gs_i a4)] [(gs_i s0)] d = if s0 = 0 then gs_g Y0 P_M_deliver 23 [some (gs_r 20 a0), some (gs_i a1), some (gs_i a2), some (gs_i a3), some (gs_i a4)] [] d else gs_g Y0 P_M_deliver 15 [some (gs_r 20 a0), some (gs_i a1), some (gs_i a2), some (gs_i a3), some (gs_i a4)] [] d := gs_if 1 (fun _ => rfl)
theorem k_M_deliver_15 (a0 : Nat) (a1 : Int32) (a2 : Int32) (a3 : Int32) (a4 : Int32) (d : gs_D) : gs_g Y0 P_M_deliver 15 [some (gs_r 20 a0), some (gs_i a1), some (gs_i a2), some (gs_i a3), some (gs_i a4)] [] d = gs_af (f_M_amountFits [(gs_i a4)] d) [] (fun s9 d9 => gs_g Y0 P_M_deliver 20 [some (gs_r 20 a0), some (gs_i a1), some (gs_i a2), some (gs_i a3), some (gs_i a4)] s9 d9) := gs_gc 2 (fun _ => rfl)
theorem k_M_deliver_20 (a0 : Nat) (a1 : Int32) (a2 : Int32) (a3 : Int32) (a4 : Int32) (s0 : Int32) (d : gs_D) : gs_g Y0 P_M_deliver 20 [some (gs_r 20 a0), some (gs_i a1), some (gs_i a2), some (gs_i a3), some (gs_i a4)] [(gs_i s0)] d = if ¬ s0 = 0 then gs_g Y0 P_M_deliver 25 [some (gs_r 20 a0), some (gs_i a1), some (gs_i a2), some (gs_i a3), some (gs_i a4)] [] d else gs_g Y0 P_M_deliver 23 [some (gs_r 20 a0), some (gs_i a1), some (gs_i a2), some (gs_i a3), some (gs_i a4)] [] d := gs_if 1 (fun _ => rfl)
theorem k_M_deliver_23 (a0 : Nat) (a1 : Int32) (a2 : Int32) (a3 : Int32) (a4 : Int32) (d : gs_D) : gs_g Y0 P_M_deliver 23 [some (gs_r 20 a0), some (gs_i a1), some (gs_i a2), some (gs_i a3), some (gs_i a4)] [] d = some (some (gs_i (gs_n (-1))), d) := gs_an 2 (fun _ => rfl)
theorem k_M_deliver_25 (a0 : Nat) (a1 : Int32) (a2 : Int32) (a3 : Int32) (a4 : Int32) (d : gs_D) : gs_g Y0 P_M_deliver 25 [some (gs_r 20 a0), some (gs_i a1), some (gs_i a2), some (gs_i a3), some (gs_i a4)] [] d = gs_af (f_M_accept [(gs_r 20 a0), (gs_i ((((Int8.ofInt 63).toInt32 ||| (a1 <<< ((Int8.ofInt 6).toInt32 &&& 31))) ||| (a2 <<< ((Int8.ofInt 9).toInt32 &&& 31))) ||| (Int16.ofInt 4096).toInt32)), (gs_i a3), (gs_i (gs_n 0)), (gs_i a4)] d) [] (fun s9 d9 => gs_g Y0 P_M_deliver 49 [some (gs_r 20 a0), some (gs_i a1), some (gs_i a2), some (gs_i a3), some (gs_i a4)] s9 d9) := gs_gc 16 (fun _ => rfl)
theorem k_M_deliver_49 (a0 : Nat) (a1 : Int32) (a2 : Int32) (a3 : Int32) (a4 : Int32) (s0 : Int32) (d : gs_D) : gs_g Y0 P_M_deliver 49 [some (gs_r 20 a0), some (gs_i a1), some (gs_i a2), some (gs_i a3), some (gs_i a4)] [(gs_i s0)] d = some (some (gs_i s0), d) := gs_an 1 (fun _ => rfl)
def I_M_exchange : List (Nat × Jvm.ClassFile.Instr × Nat) := [(0, .iload_n 1, 0), (1, .iload_n 2, 0), (2, .invokestatic 107, 0), (5, .ifCond .eq 26, 31), (8, .iload_n 3, 0), (9, .invokestatic 101, 0), (12, .ifCond .eq 19, 31), (15, .iload 4, 0), (17, .invokestatic 95, 0), (20, .ifCond .eq 11, 31), (23, .iload 5, 0), (25, .invokestatic 95, 0), (28, .ifCond .ne 5, 33), (31, .iconst (-1), 0), (32, .ireturn, 0), (33, .aload_n 0, 0), (34, .iload_n 2, 0), (35, .iload_n 1, 0), (36, .iconst 3, 0), (37, .ishl, 0), (38, .ior, 0), (39, .iload_n 1, 0), (40, .bipush 6, 0), (42, .ishl, 0), (43, .ior, 0), (44, .iload_n 2, 0), (45, .bipush 9, 0), (47, .ishl, 0), (48, .ior, 0), (49, .sipush 4096, 0), (52, .ior, 0), (53, .iload_n 3, 0), (54, .iload 5, 0), (56, .iload 4, 0), (58, .invokevirtual 113, 0), (61, .ireturn, 0)]
def F_M_exchange : List (Nat × Nat × Nat) := []
def K_M_exchange : List (Nat × gs_V) := []
noncomputable def C_M_exchange : List (Nat × Nat × Nat × gs_F) := [(107, 2, 1000, f_M_pair), (101, 1, 1000, f_M_security), (95, 1, 1000, f_M_amountFits), (113, 4, 5, f_M_accept)]
noncomputable def P_M_exchange : gs_P := (gs_lk I_M_exchange, gs_lk F_M_exchange, gs_lk K_M_exchange, gs_lk C_M_exchange)
noncomputable def f_M_exchange : gs_F := gs_f Y0 6 1 P_M_exchange
theorem e_M_exchange (a0 : Nat) (a1 : Int32) (a2 : Int32) (a3 : Int32) (a4 : Int32) (a5 : Int32) (d : gs_D) : f_M_exchange [(gs_r 20 a0), (gs_i a1), (gs_i a2), (gs_i a3), (gs_i a4), (gs_i a5)] d = gs_ck 1 (gs_g Y0 P_M_exchange 0 [some (gs_r 20 a0), some (gs_i a1), some (gs_i a2), some (gs_i a3), some (gs_i a4), some (gs_i a5)] [] d) := rfl
theorem k_M_exchange_0 (a0 : Nat) (a1 : Int32) (a2 : Int32) (a3 : Int32) (a4 : Int32) (a5 : Int32) (d : gs_D) : gs_g Y0 P_M_exchange 0 [some (gs_r 20 a0), some (gs_i a1), some (gs_i a2), some (gs_i a3), some (gs_i a4), some (gs_i a5)] [] d = gs_af (f_M_pair [(gs_i a1), (gs_i a2)] d) [] (fun s9 d9 => gs_g Y0 P_M_exchange 5 [some (gs_r 20 a0), some (gs_i a1), some (gs_i a2), some (gs_i a3), some (gs_i a4), some (gs_i a5)] s9 d9) := gs_gc 3 (fun _ => rfl)
theorem k_M_exchange_5 (a0 : Nat) (a1 : Int32) (a2 : Int32) (a3 : Int32) (a4 : Int32) (a5 : Int32) (s0 : Int32) (d : gs_D) : gs_g Y0 P_M_exchange 5 [some (gs_r 20 a0), some (gs_i a1), some (gs_i a2), some (gs_i a3), some (gs_i a4), some (gs_i a5)] [(gs_i s0)] d = if s0 = 0 then gs_g Y0 P_M_exchange 31 [some (gs_r 20 a0), some (gs_i a1), some (gs_i a2), some (gs_i a3), some (gs_i a4), some (gs_i a5)] [] d else gs_g Y0 P_M_exchange 8 [some (gs_r 20 a0), some (gs_i a1), some (gs_i a2), some (gs_i a3), some (gs_i a4), some (gs_i a5)] [] d := gs_if 1 (fun _ => rfl)
theorem k_M_exchange_8 (a0 : Nat) (a1 : Int32) (a2 : Int32) (a3 : Int32) (a4 : Int32) (a5 : Int32) (d : gs_D) : gs_g Y0 P_M_exchange 8 [some (gs_r 20 a0), some (gs_i a1), some (gs_i a2), some (gs_i a3), some (gs_i a4), some (gs_i a5)] [] d = gs_af (f_M_security [(gs_i a3)] d) [] (fun s9 d9 => gs_g Y0 P_M_exchange 12 [some (gs_r 20 a0), some (gs_i a1), some (gs_i a2), some (gs_i a3), some (gs_i a4), some (gs_i a5)] s9 d9) := gs_gc 2 (fun _ => rfl)
theorem k_M_exchange_12 (a0 : Nat) (a1 : Int32) (a2 : Int32) (a3 : Int32) (a4 : Int32) (a5 : Int32) (s0 : Int32) (d : gs_D) : gs_g Y0 P_M_exchange 12 [some (gs_r 20 a0), some (gs_i a1), some (gs_i a2), some (gs_i a3), some (gs_i a4), some (gs_i a5)] [(gs_i s0)] d = if s0 = 0 then gs_g Y0 P_M_exchange 31 [some (gs_r 20 a0), some (gs_i a1), some (gs_i a2), some (gs_i a3), some (gs_i a4), some (gs_i a5)] [] d else gs_g Y0 P_M_exchange 15 [some (gs_r 20 a0), some (gs_i a1), some (gs_i a2), some (gs_i a3), some (gs_i a4), some (gs_i a5)] [] d := gs_if 1 (fun _ => rfl)
theorem k_M_exchange_15 (a0 : Nat) (a1 : Int32) (a2 : Int32) (a3 : Int32) (a4 : Int32) (a5 : Int32) (d : gs_D) : gs_g Y0 P_M_exchange 15 [some (gs_r 20 a0), some (gs_i a1), some (gs_i a2), some (gs_i a3), some (gs_i a4), some (gs_i a5)] [] d = gs_af (f_M_amountFits [(gs_i a4)] d) [] (fun s9 d9 => gs_g Y0 P_M_exchange 20 [some (gs_r 20 a0), some (gs_i a1), some (gs_i a2), some (gs_i a3), some (gs_i a4), some (gs_i a5)] s9 d9) := gs_gc 2 (fun _ => rfl)
theorem k_M_exchange_20 (a0 : Nat) (a1 : Int32) (a2 : Int32) (a3 : Int32) (a4 : Int32) (a5 : Int32) (s0 : Int32) (d : gs_D) : gs_g Y0 P_M_exchange 20 [some (gs_r 20 a0), some (gs_i a1), some (gs_i a2), some (gs_i a3), some (gs_i a4), some (gs_i a5)] [(gs_i s0)] d = if s0 = 0 then gs_g Y0 P_M_exchange 31 [some (gs_r 20 a0), some (gs_i a1), some (gs_i a2), some (gs_i a3), some (gs_i a4), some (gs_i a5)] [] d else gs_g Y0 P_M_exchange 23 [some (gs_r 20 a0), some (gs_i a1), some (gs_i a2), some (gs_i a3), some (gs_i a4), some (gs_i a5)] [] d := gs_if 1 (fun _ => rfl)
theorem k_M_exchange_23 (a0 : Nat) (a1 : Int32) (a2 : Int32) (a3 : Int32) (a4 : Int32) (a5 : Int32) (d : gs_D) : gs_g Y0 P_M_exchange 23 [some (gs_r 20 a0), some (gs_i a1), some (gs_i a2), some (gs_i a3), some (gs_i a4), some (gs_i a5)] [] d = gs_af (f_M_amountFits [(gs_i a5)] d) [] (fun s9 d9 => gs_g Y0 P_M_exchange 28 [some (gs_r 20 a0), some (gs_i a1), some (gs_i a2), some (gs_i a3), some (gs_i a4), some (gs_i a5)] s9 d9) := gs_gc 2 (fun _ => rfl)
theorem k_M_exchange_28 (a0 : Nat) (a1 : Int32) (a2 : Int32) (a3 : Int32) (a4 : Int32) (a5 : Int32) (s0 : Int32) (d : gs_D) : gs_g Y0 P_M_exchange 28 [some (gs_r 20 a0), some (gs_i a1), some (gs_i a2), some (gs_i a3), some (gs_i a4), some (gs_i a5)] [(gs_i s0)] d = if ¬ s0 = 0 then gs_g Y0 P_M_exchange 33 [some (gs_r 20 a0), some (gs_i a1), some (gs_i a2), some (gs_i a3), some (gs_i a4), some (gs_i a5)] [] d else gs_g Y0 P_M_exchange 31 [some (gs_r 20 a0), some (gs_i a1), some (gs_i a2), some (gs_i a3), some (gs_i a4), some (gs_i a5)] [] d := gs_if 1 (fun _ => rfl)
theorem k_M_exchange_31 (a0 : Nat) (a1 : Int32) (a2 : Int32) (a3 : Int32) (a4 : Int32) (a5 : Int32) (d : gs_D) : gs_g Y0 P_M_exchange 31 [some (gs_r 20 a0), some (gs_i a1), some (gs_i a2), some (gs_i a3), some (gs_i a4), some (gs_i a5)] [] d = some (some (gs_i (gs_n (-1))), d) := gs_an 2 (fun _ => rfl)
theorem k_M_exchange_33 (a0 : Nat) (a1 : Int32) (a2 : Int32) (a3 : Int32) (a4 : Int32) (a5 : Int32) (d : gs_D) : gs_g Y0 P_M_exchange 33 [some (gs_r 20 a0), some (gs_i a1), some (gs_i a2), some (gs_i a3), some (gs_i a4), some (gs_i a5)] [] d = gs_af (f_M_accept [(gs_r 20 a0), (gs_i ((((a2 ||| (a1 <<< ((gs_n 3) &&& 31))) ||| (a1 <<< ((Int8.ofInt 6).toInt32 &&& 31))) ||| (a2 <<< ((Int8.ofInt 9).toInt32 &&& 31))) ||| (Int16.ofInt 4096).toInt32)), (gs_i a3), (gs_i a5), (gs_i a4)] d) [] (fun s9 d9 => gs_g Y0 P_M_exchange 61 [some (gs_r 20 a0), some (gs_i a1), some (gs_i a2), some (gs_i a3), some (gs_i a4), some (gs_i a5)] s9 d9) := gs_gc 20 (fun _ => rfl)
theorem k_M_exchange_61 (a0 : Nat) (a1 : Int32) (a2 : Int32) (a3 : Int32) (a4 : Int32) (a5 : Int32) (s0 : Int32) (d : gs_D) : gs_g Y0 P_M_exchange 61 [some (gs_r 20 a0), some (gs_i a1), some (gs_i a2), some (gs_i a3), some (gs_i a4), some (gs_i a5)] [(gs_i s0)] d = some (some (gs_i s0), d) := gs_an 1 (fun _ => rfl)
def I_M_isWaiting : List (Nat × Jvm.ClassFile.Instr × Nat) := [(0, .iload_n 1, 0), (1, .aload_n 0, 0), (2, .invokevirtual 62, 0), (5, .invokestatic 29, 0), (8, .ifCond .eq 15, 23), (11, .aload_n 0, 0), (12, .iload_n 1, 0), (13, .invokevirtual 66, 0), (16, .ifCond .ne 7, 23), (19, .iconst 1, 0), (20, .goto 4, 24), (23, .iconst 0, 0), (24, .ireturn, 0)]
def F_M_isWaiting : List (Nat × Nat × Nat) := []
def K_M_isWaiting : List (Nat × gs_V) := []
noncomputable def C_M_isWaiting : List (Nat × Nat × Nat × gs_F) := [(62, 0, 5, f_M_count), (29, 2, 1000, f_M_within), (66, 1, 5, f_M_fate)]
noncomputable def P_M_isWaiting : gs_P := (gs_lk I_M_isWaiting, gs_lk F_M_isWaiting, gs_lk K_M_isWaiting, gs_lk C_M_isWaiting)
noncomputable def f_M_isWaiting : gs_F := gs_f Y0 2 2 P_M_isWaiting
theorem e_M_isWaiting (a0 : Nat) (a1 : Int32) (d : gs_D) : f_M_isWaiting [(gs_r 20 a0), (gs_i a1)] d = gs_ck 2 (gs_g Y0 P_M_isWaiting 0 [some (gs_r 20 a0), some (gs_i a1)] [] d) := rfl
theorem k_M_isWaiting_0 (a0 : Nat) (a1 : Int32) (d : gs_D) : gs_g Y0 P_M_isWaiting 0 [some (gs_r 20 a0), some (gs_i a1)] [] d = gs_af (f_M_count [(gs_r 20 a0)] d) [(gs_i a1)] (fun s9 d9 => gs_g Y0 P_M_isWaiting 5 [some (gs_r 20 a0), some (gs_i a1)] s9 d9) := gs_gc 3 (fun _ => rfl)
theorem k_M_isWaiting_5 (a0 : Nat) (a1 : Int32) (s0 : Int32) (s1 : Int32) (d : gs_D) : gs_g Y0 P_M_isWaiting 5 [some (gs_r 20 a0), some (gs_i a1)] [(gs_i s1), (gs_i s0)] d = gs_af (f_M_within [(gs_i s0), (gs_i s1)] d) [] (fun s9 d9 => gs_g Y0 P_M_isWaiting 8 [some (gs_r 20 a0), some (gs_i a1)] s9 d9) := gs_gc 1 (fun _ => rfl)
theorem k_M_isWaiting_8 (a0 : Nat) (a1 : Int32) (s0 : Int32) (d : gs_D) : gs_g Y0 P_M_isWaiting 8 [some (gs_r 20 a0), some (gs_i a1)] [(gs_i s0)] d = if s0 = 0 then gs_g Y0 P_M_isWaiting 23 [some (gs_r 20 a0), some (gs_i a1)] [] d else gs_g Y0 P_M_isWaiting 11 [some (gs_r 20 a0), some (gs_i a1)] [] d := gs_if 1 (fun _ => rfl)
theorem k_M_isWaiting_11 (a0 : Nat) (a1 : Int32) (d : gs_D) : gs_g Y0 P_M_isWaiting 11 [some (gs_r 20 a0), some (gs_i a1)] [] d = gs_af (f_M_fate [(gs_r 20 a0), (gs_i a1)] d) [] (fun s9 d9 => gs_g Y0 P_M_isWaiting 16 [some (gs_r 20 a0), some (gs_i a1)] s9 d9) := gs_gc 3 (fun _ => rfl)
theorem k_M_isWaiting_16 (a0 : Nat) (a1 : Int32) (s0 : Int32) (d : gs_D) : gs_g Y0 P_M_isWaiting 16 [some (gs_r 20 a0), some (gs_i a1)] [(gs_i s0)] d = if ¬ s0 = 0 then gs_g Y0 P_M_isWaiting 23 [some (gs_r 20 a0), some (gs_i a1)] [] d else gs_g Y0 P_M_isWaiting 19 [some (gs_r 20 a0), some (gs_i a1)] [] d := gs_if 1 (fun _ => rfl)
theorem k_M_isWaiting_19 (a0 : Nat) (a1 : Int32) (d : gs_D) : gs_g Y0 P_M_isWaiting 19 [some (gs_r 20 a0), some (gs_i a1)] [] d = some (some (gs_i (gs_n 1)), d) := gs_an 3 (fun _ => rfl)
theorem k_M_isWaiting_23 (a0 : Nat) (a1 : Int32) (d : gs_D) : gs_g Y0 P_M_isWaiting 23 [some (gs_r 20 a0), some (gs_i a1)] [] d = some (some (gs_i (gs_n 0)), d) := gs_an 2 (fun _ => rfl)
def I_M_cancel : List (Nat × Jvm.ClassFile.Instr × Nat) := [(0, .aload_n 0, 0), (1, .iload_n 1, 0), (2, .invokevirtual 117, 0), (5, .ifCond .ne 5, 10), (8, .iconst (-1), 0), (9, .ireturn, 0), (10, .aload_n 0, 0), (11, .iload_n 1, 0), (12, .iconst 2, 0), (13, .invokevirtual 78, 0), (16, .aload_n 0, 0), (17, .invokevirtual 104, 0), (20, .ireturn, 0)]
def F_M_cancel : List (Nat × Nat × Nat) := []
def K_M_cancel : List (Nat × gs_V) := []
noncomputable def C_M_cancel : List (Nat × Nat × Nat × gs_F) := [(117, 1, 5, f_M_isWaiting), (78, 2, 5, f_M_setFate), (104, 0, 5, f_M_goThrough)]
noncomputable def P_M_cancel : gs_P := (gs_lk I_M_cancel, gs_lk F_M_cancel, gs_lk K_M_cancel, gs_lk C_M_cancel)
noncomputable def f_M_cancel : gs_F := gs_f Y0 2 1 P_M_cancel
theorem e_M_cancel (a0 : Nat) (a1 : Int32) (d : gs_D) : f_M_cancel [(gs_r 20 a0), (gs_i a1)] d = gs_ck 1 (gs_g Y0 P_M_cancel 0 [some (gs_r 20 a0), some (gs_i a1)] [] d) := rfl
theorem k_M_cancel_0 (a0 : Nat) (a1 : Int32) (d : gs_D) : gs_g Y0 P_M_cancel 0 [some (gs_r 20 a0), some (gs_i a1)] [] d = gs_af (f_M_isWaiting [(gs_r 20 a0), (gs_i a1)] d) [] (fun s9 d9 => gs_g Y0 P_M_cancel 5 [some (gs_r 20 a0), some (gs_i a1)] s9 d9) := gs_gc 3 (fun _ => rfl)
theorem k_M_cancel_5 (a0 : Nat) (a1 : Int32) (s0 : Int32) (d : gs_D) : gs_g Y0 P_M_cancel 5 [some (gs_r 20 a0), some (gs_i a1)] [(gs_i s0)] d = if ¬ s0 = 0 then gs_g Y0 P_M_cancel 10 [some (gs_r 20 a0), some (gs_i a1)] [] d else gs_g Y0 P_M_cancel 8 [some (gs_r 20 a0), some (gs_i a1)] [] d := gs_if 1 (fun _ => rfl)
theorem k_M_cancel_8 (a0 : Nat) (a1 : Int32) (d : gs_D) : gs_g Y0 P_M_cancel 8 [some (gs_r 20 a0), some (gs_i a1)] [] d = some (some (gs_i (gs_n (-1))), d) := gs_an 2 (fun _ => rfl)
theorem k_M_cancel_10 (a0 : Nat) (a1 : Int32) (d : gs_D) : gs_g Y0 P_M_cancel 10 [some (gs_r 20 a0), some (gs_i a1)] [] d = gs_af (f_M_setFate [(gs_r 20 a0), (gs_i a1), (gs_i (gs_n 2))] d) [] (fun s9 d9 => gs_g Y0 P_M_cancel 16 [some (gs_r 20 a0), some (gs_i a1)] s9 d9) := gs_gc 4 (fun _ => rfl)
theorem k_M_cancel_16 (a0 : Nat) (a1 : Int32) (d : gs_D) : gs_g Y0 P_M_cancel 16 [some (gs_r 20 a0), some (gs_i a1)] [] d = gs_af (f_M_goThrough [(gs_r 20 a0)] d) [] (fun s9 d9 => gs_g Y0 P_M_cancel 20 [some (gs_r 20 a0), some (gs_i a1)] s9 d9) := gs_gc 2 (fun _ => rfl)
theorem k_M_cancel_20 (a0 : Nat) (a1 : Int32) (s0 : Int32) (d : gs_D) : gs_g Y0 P_M_cancel 20 [some (gs_r 20 a0), some (gs_i a1)] [(gs_i s0)] d = some (some (gs_i s0), d) := gs_an 1 (fun _ => rfl)
def I_M_prefer : List (Nat × Jvm.ClassFile.Instr × Nat) := [(0, .aload_n 0, 0), (1, .iload_n 1, 0), (2, .invokevirtual 117, 0), (5, .ifCond .eq 11, 16), (8, .iload_n 2, 0), (9, .iconst 3, 0), (10, .invokestatic 29, 0), (13, .ifCond .ne 5, 18), (16, .iconst (-1), 0), (17, .ireturn, 0), (18, .aload_n 0, 0), (19, .getfield 7, 0), (22, .bipush 117, 0), (24, .bipush 8, 0), (26, .iload_n 1, 0), (27, .imul, 0), (28, .iadd, 0), (29, .iload_n 2, 0), (30, .i2l, 0), (31, .lastore, 0), (32, .aload_n 0, 0), (33, .invokevirtual 104, 0), (36, .ireturn, 0)]
def F_M_prefer : List (Nat × Nat × Nat) := [(7, 5, 0)]
def K_M_prefer : List (Nat × gs_V) := []
noncomputable def C_M_prefer : List (Nat × Nat × Nat × gs_F) := [(117, 1, 5, f_M_isWaiting), (29, 2, 1000, f_M_within), (104, 0, 5, f_M_goThrough)]
noncomputable def P_M_prefer : gs_P := (gs_lk I_M_prefer, gs_lk F_M_prefer, gs_lk K_M_prefer, gs_lk C_M_prefer)
noncomputable def f_M_prefer : gs_F := gs_f Y0 3 1 P_M_prefer
theorem e_M_prefer (a0 : Nat) (a1 : Int32) (a2 : Int32) (d : gs_D) : f_M_prefer [(gs_r 20 a0), (gs_i a1), (gs_i a2)] d = gs_ck 1 (gs_g Y0 P_M_prefer 0 [some (gs_r 20 a0), some (gs_i a1), some (gs_i a2)] [] d) := rfl
theorem k_M_prefer_0 (a0 : Nat) (a1 : Int32) (a2 : Int32) (d : gs_D) : gs_g Y0 P_M_prefer 0 [some (gs_r 20 a0), some (gs_i a1), some (gs_i a2)] [] d = gs_af (f_M_isWaiting [(gs_r 20 a0), (gs_i a1)] d) [] (fun s9 d9 => gs_g Y0 P_M_prefer 5 [some (gs_r 20 a0), some (gs_i a1), some (gs_i a2)] s9 d9) := gs_gc 3 (fun _ => rfl)
theorem k_M_prefer_5 (a0 : Nat) (a1 : Int32) (a2 : Int32) (s0 : Int32) (d : gs_D) : gs_g Y0 P_M_prefer 5 [some (gs_r 20 a0), some (gs_i a1), some (gs_i a2)] [(gs_i s0)] d = if s0 = 0 then gs_g Y0 P_M_prefer 16 [some (gs_r 20 a0), some (gs_i a1), some (gs_i a2)] [] d else gs_g Y0 P_M_prefer 8 [some (gs_r 20 a0), some (gs_i a1), some (gs_i a2)] [] d := gs_if 1 (fun _ => rfl)
theorem k_M_prefer_8 (a0 : Nat) (a1 : Int32) (a2 : Int32) (d : gs_D) : gs_g Y0 P_M_prefer 8 [some (gs_r 20 a0), some (gs_i a1), some (gs_i a2)] [] d = gs_af (f_M_within [(gs_i a2), (gs_i (gs_n 3))] d) [] (fun s9 d9 => gs_g Y0 P_M_prefer 13 [some (gs_r 20 a0), some (gs_i a1), some (gs_i a2)] s9 d9) := gs_gc 3 (fun _ => rfl)
theorem k_M_prefer_13 (a0 : Nat) (a1 : Int32) (a2 : Int32) (s0 : Int32) (d : gs_D) : gs_g Y0 P_M_prefer 13 [some (gs_r 20 a0), some (gs_i a1), some (gs_i a2)] [(gs_i s0)] d = if ¬ s0 = 0 then gs_g Y0 P_M_prefer 18 [some (gs_r 20 a0), some (gs_i a1), some (gs_i a2)] [] d else gs_g Y0 P_M_prefer 16 [some (gs_r 20 a0), some (gs_i a1), some (gs_i a2)] [] d := gs_if 1 (fun _ => rfl)
theorem k_M_prefer_16 (a0 : Nat) (a1 : Int32) (a2 : Int32) (d : gs_D) : gs_g Y0 P_M_prefer 16 [some (gs_r 20 a0), some (gs_i a1), some (gs_i a2)] [] d = some (some (gs_i (gs_n (-1))), d) := gs_an 2 (fun _ => rfl)
theorem k_M_prefer_18 (a0 : Nat) (a1 : Int32) (a2 : Int32) (d : gs_D) : gs_g Y0 P_M_prefer 18 [some (gs_r 20 a0), some (gs_i a1), some (gs_i a2)] [] d = gs_ix ((Int8.ofInt 117).toInt32 + ((Int8.ofInt 8).toInt32 * a1)) 430 (gs_g Y0 P_M_prefer 32 [some (gs_r 20 a0), some (gs_i a1), some (gs_i a2)] [] (gs_wL d 21 a0 ((Int8.ofInt 117).toInt32 + ((Int8.ofInt 8).toInt32 * a1)).toNatClampNeg a2.toInt64)) := gs_gx 10 (fun _ => rfl)
theorem k_M_prefer_32 (a0 : Nat) (a1 : Int32) (a2 : Int32) (d : gs_D) : gs_g Y0 P_M_prefer 32 [some (gs_r 20 a0), some (gs_i a1), some (gs_i a2)] [] d = gs_af (f_M_goThrough [(gs_r 20 a0)] d) [] (fun s9 d9 => gs_g Y0 P_M_prefer 36 [some (gs_r 20 a0), some (gs_i a1), some (gs_i a2)] s9 d9) := gs_gc 2 (fun _ => rfl)
theorem k_M_prefer_36 (a0 : Nat) (a1 : Int32) (a2 : Int32) (s0 : Int32) (d : gs_D) : gs_g Y0 P_M_prefer 36 [some (gs_r 20 a0), some (gs_i a1), some (gs_i a2)] [(gs_i s0)] d = some (some (gs_i s0), d) := gs_an 1 (fun _ => rfl)
def I_M_spread : List (Nat × Jvm.ClassFile.Instr × Nat) := [(0, .aload_n 0, 0), (1, .invokevirtual 82, 0), (4, .iconst 0, 0), (5, .istore_n 1, 0), (6, .iload_n 1, 0), (7, .aload_n 0, 0), (8, .getfield 58, 0), (11, .if_icmp .ge 99, 110), (14, .aload_n 0, 0), (15, .getfield 23, 0), (18, .iload_n 1, 0), (19, .iconst 0, 0), (20, .iastore, 0), (21, .iconst 0, 0), (22, .istore_n 2, 0), (23, .iload_n 2, 0), (24, .iload_n 1, 0), (25, .if_icmp .ge 43, 68), (28, .aload_n 0, 0), (29, .getfield 23, 0), (32, .iload_n 1, 0), (33, .aload_n 0, 0), (34, .iload_n 1, 0), (35, .iload_n 2, 0), (36, .invokevirtual 72, 0), (39, .ifCond .eq 16, 55), (42, .aload_n 0, 0), (43, .getfield 23, 0), (46, .iload_n 1, 0), (47, .iaload, 0), (48, .iconst 1, 0), (49, .iload_n 2, 0), (50, .ishl, 0), (51, .ior, 0), (52, .goto 9, 61), (55, .aload_n 0, 0), (56, .getfield 23, 0), (59, .iload_n 1, 0), (60, .iaload, 0), (61, .iastore, 0), (62, .iinc 2 1, 0), (65, .goto (-42), 23), (68, .iconst 0, 0), (69, .istore_n 2, 0), (70, .iload_n 2, 0), (71, .bipush 54, 0), (73, .if_icmp .ge 31, 104), (76, .aload_n 0, 0), (77, .getfield 20, 0), (80, .bipush 54, 0), (82, .iload_n 1, 0), (83, .imul, 0), (84, .iload_n 2, 0), (85, .iadd, 0), (86, .aload_n 0, 0), (87, .aload_n 0, 0), (88, .getfield 16, 0), (91, .iload_n 1, 0), (92, .iaload, 0), (93, .iload_n 2, 0), (94, .invokevirtual 55, 0), (97, .lastore, 0), (98, .iinc 2 1, 0), (101, .goto (-31), 70), (104, .iinc 1 1, 0), (107, .goto (-101), 6), (110, .return_, 0)]
def F_M_spread : List (Nat × Nat × Nat) := [(58, 5, 3), (23, 5, 5), (20, 5, 4), (16, 5, 2)]
def K_M_spread : List (Nat × gs_V) := []
noncomputable def C_M_spread : List (Nat × Nat × Nat × gs_F) := [(82, 0, 5, f_M_order), (72, 2, 5, f_M_isBehind), (55, 2, 5, f_M_takes)]
noncomputable def P_M_spread : gs_P := (gs_lk I_M_spread, gs_lk F_M_spread, gs_lk K_M_spread, gs_lk C_M_spread)
noncomputable def f_M_spread : gs_F := gs_f Y0 3 0 P_M_spread
theorem e_M_spread (a0 : Nat) (d : gs_D) : f_M_spread [(gs_r 20 a0)] d = gs_ck 0 (gs_g Y0 P_M_spread 0 [some (gs_r 20 a0), none, none] [] d) := rfl
theorem k_M_spread_0 (a0 : Nat) (d : gs_D) : gs_g Y0 P_M_spread 0 [some (gs_r 20 a0), none, none] [] d = gs_af (f_M_order [(gs_r 20 a0)] d) [] (fun s9 d9 => gs_g Y0 P_M_spread 4 [some (gs_r 20 a0), none, none] s9 d9) := gs_gc 2 (fun _ => rfl)
theorem k_M_spread_4 (a0 : Nat) (d : gs_D) : gs_g Y0 P_M_spread 4 [some (gs_r 20 a0), none, none] [] d = gs_g Y0 P_M_spread 6 [some (gs_r 20 a0), some (gs_i (gs_n 0)), none] [] d := gs_gs 1 (fun _ => rfl)
theorem k_M_spread_6 (a0 : Nat) (a1 : Int32) (a2 : Option gs_V) (d : gs_D) : gs_g Y0 P_M_spread 6 [some (gs_r 20 a0), some (gs_i a1), a2] [] d = if (d.1 20 a0 3) ≤ a1 then gs_g Y0 P_M_spread 110 [some (gs_r 20 a0), some (gs_i a1), a2] [] d else gs_g Y0 P_M_spread 14 [some (gs_r 20 a0), some (gs_i a1), a2] [] d := gs_if 4 (fun _ => rfl)
theorem k_M_spread_14 (a0 : Nat) (a1 : Int32) (a2 : Option gs_V) (d : gs_D) : gs_g Y0 P_M_spread 14 [some (gs_r 20 a0), some (gs_i a1), a2] [] d = gs_ix a1 10 (gs_g Y0 P_M_spread 21 [some (gs_r 20 a0), some (gs_i a1), a2] [] (gs_wI d 25 a0 a1.toNatClampNeg (gs_n 0))) := gs_gx 5 (fun _ => rfl)
theorem k_M_spread_21 (a0 : Nat) (a1 : Int32) (a2 : Option gs_V) (d : gs_D) : gs_g Y0 P_M_spread 21 [some (gs_r 20 a0), some (gs_i a1), a2] [] d = gs_g Y0 P_M_spread 23 [some (gs_r 20 a0), some (gs_i a1), some (gs_i (gs_n 0))] [] d := gs_gs 1 (fun _ => rfl)
theorem k_M_spread_23 (a0 : Nat) (a1 : Int32) (a2 : Int32) (d : gs_D) : gs_g Y0 P_M_spread 23 [some (gs_r 20 a0), some (gs_i a1), some (gs_i a2)] [] d = if a1 ≤ a2 then gs_g Y0 P_M_spread 68 [some (gs_r 20 a0), some (gs_i a1), some (gs_i a2)] [] d else gs_g Y0 P_M_spread 28 [some (gs_r 20 a0), some (gs_i a1), some (gs_i a2)] [] d := gs_if 3 (fun _ => rfl)
theorem k_M_spread_28 (a0 : Nat) (a1 : Int32) (a2 : Int32) (d : gs_D) : gs_g Y0 P_M_spread 28 [some (gs_r 20 a0), some (gs_i a1), some (gs_i a2)] [] d = gs_af (f_M_isBehind [(gs_r 20 a0), (gs_i a1), (gs_i a2)] d) [(gs_i a1), (gs_r 25 a0)] (fun s9 d9 => gs_g Y0 P_M_spread 39 [some (gs_r 20 a0), some (gs_i a1), some (gs_i a2)] s9 d9) := gs_gc 7 (fun _ => rfl)
theorem k_M_spread_39 (a0 : Nat) (a1 : Int32) (a2 : Int32) (s0 : Nat) (s1 : Int32) (s2 : Int32) (d : gs_D) : gs_g Y0 P_M_spread 39 [some (gs_r 20 a0), some (gs_i a1), some (gs_i a2)] [(gs_i s2), (gs_i s1), (gs_r 25 s0)] d = if s2 = 0 then gs_g Y0 P_M_spread 55 [some (gs_r 20 a0), some (gs_i a1), some (gs_i a2)] [(gs_i s1), (gs_r 25 s0)] d else gs_g Y0 P_M_spread 42 [some (gs_r 20 a0), some (gs_i a1), some (gs_i a2)] [(gs_i s1), (gs_r 25 s0)] d := gs_if 1 (fun _ => rfl)
theorem k_M_spread_42 (a0 : Nat) (a1 : Int32) (a2 : Int32) (s0 : Nat) (s1 : Int32) (d : gs_D) : gs_g Y0 P_M_spread 42 [some (gs_r 20 a0), some (gs_i a1), some (gs_i a2)] [(gs_i s1), (gs_r 25 s0)] d = gs_ix a1 10 (gs_g Y0 P_M_spread 48 [some (gs_r 20 a0), some (gs_i a1), some (gs_i a2)] [(gs_i (d.1 25 a0 a1.toNatClampNeg)), (gs_i s1), (gs_r 25 s0)] d) := gs_gx 4 (fun _ => rfl)
theorem k_M_spread_48 (a0 : Nat) (a1 : Int32) (a2 : Int32) (s0 : Nat) (s1 : Int32) (s2 : Int32) (d : gs_D) : gs_g Y0 P_M_spread 48 [some (gs_r 20 a0), some (gs_i a1), some (gs_i a2)] [(gs_i s2), (gs_i s1), (gs_r 25 s0)] d = gs_ix s1 10 (gs_g Y0 P_M_spread 62 [some (gs_r 20 a0), some (gs_i a1), some (gs_i a2)] [] (gs_wI d 25 s0 s1.toNatClampNeg (s2 ||| ((gs_n 1) <<< (a2 &&& 31))))) := gs_gx 6 (fun _ => rfl)
theorem k_M_spread_55 (a0 : Nat) (a1 : Int32) (a2 : Int32) (s0 : Nat) (s1 : Int32) (d : gs_D) : gs_g Y0 P_M_spread 55 [some (gs_r 20 a0), some (gs_i a1), some (gs_i a2)] [(gs_i s1), (gs_r 25 s0)] d = gs_ix a1 10 (gs_g Y0 P_M_spread 61 [some (gs_r 20 a0), some (gs_i a1), some (gs_i a2)] [(gs_i (d.1 25 a0 a1.toNatClampNeg)), (gs_i s1), (gs_r 25 s0)] d) := gs_gx 4 (fun _ => rfl)
theorem k_M_spread_61 (a0 : Nat) (a1 : Int32) (a2 : Int32) (s0 : Nat) (s1 : Int32) (s2 : Int32) (d : gs_D) : gs_g Y0 P_M_spread 61 [some (gs_r 20 a0), some (gs_i a1), some (gs_i a2)] [(gs_i s2), (gs_i s1), (gs_r 25 s0)] d = gs_ix s1 10 (gs_g Y0 P_M_spread 62 [some (gs_r 20 a0), some (gs_i a1), some (gs_i a2)] [] (gs_wI d 25 s0 s1.toNatClampNeg s2)) := gs_gx 1 (fun _ => rfl)
theorem k_M_spread_62 (a0 : Nat) (a1 : Int32) (a2 : Int32) (d : gs_D) : gs_g Y0 P_M_spread 62 [some (gs_r 20 a0), some (gs_i a1), some (gs_i a2)] [] d = gs_g Y0 P_M_spread 23 [some (gs_r 20 a0), some (gs_i a1), some (gs_i (a2 + gs_n 1))] [] d := gs_gs 1 (fun _ => rfl)
theorem k_M_spread_68 (a0 : Nat) (a1 : Int32) (a2 : Int32) (d : gs_D) : gs_g Y0 P_M_spread 68 [some (gs_r 20 a0), some (gs_i a1), some (gs_i a2)] [] d = gs_g Y0 P_M_spread 70 [some (gs_r 20 a0), some (gs_i a1), some (gs_i (gs_n 0))] [] d := gs_gs 1 (fun _ => rfl)
theorem k_M_spread_70 (a0 : Nat) (a1 : Int32) (a2 : Int32) (d : gs_D) : gs_g Y0 P_M_spread 70 [some (gs_r 20 a0), some (gs_i a1), some (gs_i a2)] [] d = if (Int8.ofInt 54).toInt32 ≤ a2 then gs_g Y0 P_M_spread 104 [some (gs_r 20 a0), some (gs_i a1), some (gs_i a2)] [] d else gs_g Y0 P_M_spread 76 [some (gs_r 20 a0), some (gs_i a1), some (gs_i a2)] [] d := gs_if 3 (fun _ => rfl)
theorem k_M_spread_76 (a0 : Nat) (a1 : Int32) (a2 : Int32) (d : gs_D) : gs_g Y0 P_M_spread 76 [some (gs_r 20 a0), some (gs_i a1), some (gs_i a2)] [] d = gs_ix a1 10 (gs_g Y0 P_M_spread 93 [some (gs_r 20 a0), some (gs_i a1), some (gs_i a2)] [(gs_i (d.1 23 a0 a1.toNatClampNeg)), (gs_r 20 a0), (gs_i (((Int8.ofInt 54).toInt32 * a1) + a2)), (gs_r 24 a0)] d) := gs_gx 12 (fun _ => rfl)
theorem k_M_spread_93 (a0 : Nat) (a1 : Int32) (a2 : Int32) (s0 : Nat) (s1 : Int32) (s2 : Nat) (s3 : Int32) (d : gs_D) : gs_g Y0 P_M_spread 93 [some (gs_r 20 a0), some (gs_i a1), some (gs_i a2)] [(gs_i s3), (gs_r 20 s2), (gs_i s1), (gs_r 24 s0)] d = gs_af (f_M_takes [(gs_r 20 s2), (gs_i s3), (gs_i a2)] d) [(gs_i s1), (gs_r 24 s0)] (fun s9 d9 => gs_g Y0 P_M_spread 97 [some (gs_r 20 a0), some (gs_i a1), some (gs_i a2)] s9 d9) := gs_gc 2 (fun _ => rfl)
theorem k_M_spread_97 (a0 : Nat) (a1 : Int32) (a2 : Int32) (s0 : Nat) (s1 : Int32) (s2 : Int64) (d : gs_D) : gs_g Y0 P_M_spread 97 [some (gs_r 20 a0), some (gs_i a1), some (gs_i a2)] [(gs_l s2), (gs_i s1), (gs_r 24 s0)] d = gs_ix s1 540 (gs_g Y0 P_M_spread 98 [some (gs_r 20 a0), some (gs_i a1), some (gs_i a2)] [] (gs_wL d 24 s0 s1.toNatClampNeg s2)) := gs_gx 1 (fun _ => rfl)
theorem k_M_spread_98 (a0 : Nat) (a1 : Int32) (a2 : Int32) (d : gs_D) : gs_g Y0 P_M_spread 98 [some (gs_r 20 a0), some (gs_i a1), some (gs_i a2)] [] d = gs_g Y0 P_M_spread 70 [some (gs_r 20 a0), some (gs_i a1), some (gs_i (a2 + gs_n 1))] [] d := gs_gs 1 (fun _ => rfl)
theorem k_M_spread_104 (a0 : Nat) (a1 : Int32) (a2 : Int32) (d : gs_D) : gs_g Y0 P_M_spread 104 [some (gs_r 20 a0), some (gs_i a1), some (gs_i a2)] [] d = gs_g Y0 P_M_spread 6 [some (gs_r 20 a0), some (gs_i (a1 + gs_n 1)), some (gs_i a2)] [] d := gs_gs 1 (fun _ => rfl)
theorem k_M_spread_110 (a0 : Nat) (a1 : Int32) (a2 : Option gs_V) (d : gs_D) : gs_g Y0 P_M_spread 110 [some (gs_r 20 a0), some (gs_i a1), a2] [] d = some (none, d) := gs_an 1 (fun _ => rfl)
def I_M_closed : List (Nat × Jvm.ClassFile.Instr × Nat) := [(0, .iconst 1, 0), (1, .istore_n 2, 0), (2, .iconst 0, 0), (3, .istore_n 3, 0), (4, .iload_n 3, 0), (5, .aload_n 0, 0), (6, .getfield 58, 0), (9, .if_icmp .ge 40, 49), (12, .iload_n 2, 0), (13, .ifCond .eq 28, 41), (16, .iload_n 1, 0), (17, .iload_n 3, 0), (18, .ishr, 0), (19, .iconst 1, 0), (20, .iand, 0), (21, .ifCond .eq 16, 37), (24, .aload_n 0, 0), (25, .getfield 23, 0), (28, .iload_n 3, 0), (29, .iaload, 0), (30, .iload_n 1, 0), (31, .iconst (-1), 0), (32, .ixor, 0), (33, .iand, 0), (34, .ifCond .ne 7, 41), (37, .iconst 1, 0), (38, .goto 4, 42), (41, .iconst 0, 0), (42, .istore_n 2, 0), (43, .iinc 3 1, 0), (46, .goto (-42), 4), (49, .iload_n 2, 0), (50, .ireturn, 0)]
def F_M_closed : List (Nat × Nat × Nat) := [(58, 5, 3), (23, 5, 5)]
def K_M_closed : List (Nat × gs_V) := []
noncomputable def C_M_closed : List (Nat × Nat × Nat × gs_F) := []
noncomputable def P_M_closed : gs_P := (gs_lk I_M_closed, gs_lk F_M_closed, gs_lk K_M_closed, gs_lk C_M_closed)
noncomputable def f_M_closed : gs_F := gs_f Y0 4 2 P_M_closed
theorem e_M_closed (a0 : Nat) (a1 : Int32) (d : gs_D) : f_M_closed [(gs_r 20 a0), (gs_i a1)] d = gs_ck 2 (gs_g Y0 P_M_closed 0 [some (gs_r 20 a0), some (gs_i a1), none, none] [] d) := rfl
theorem k_M_closed_0 (a0 : Nat) (a1 : Int32) (d : gs_D) : gs_g Y0 P_M_closed 0 [some (gs_r 20 a0), some (gs_i a1), none, none] [] d = gs_g Y0 P_M_closed 4 [some (gs_r 20 a0), some (gs_i a1), some (gs_i (gs_n 1)), some (gs_i (gs_n 0))] [] d := gs_gs 3 (fun _ => rfl)
theorem k_M_closed_4 (a0 : Nat) (a1 : Int32) (a2 : Int32) (a3 : Int32) (d : gs_D) : gs_g Y0 P_M_closed 4 [some (gs_r 20 a0), some (gs_i a1), some (gs_i a2), some (gs_i a3)] [] d = if (d.1 20 a0 3) ≤ a3 then gs_g Y0 P_M_closed 49 [some (gs_r 20 a0), some (gs_i a1), some (gs_i a2), some (gs_i a3)] [] d else gs_g Y0 P_M_closed 12 [some (gs_r 20 a0), some (gs_i a1), some (gs_i a2), some (gs_i a3)] [] d := gs_if 4 (fun _ => rfl)
theorem k_M_closed_12 (a0 : Nat) (a1 : Int32) (a2 : Int32) (a3 : Int32) (d : gs_D) : gs_g Y0 P_M_closed 12 [some (gs_r 20 a0), some (gs_i a1), some (gs_i a2), some (gs_i a3)] [] d = if a2 = 0 then gs_g Y0 P_M_closed 41 [some (gs_r 20 a0), some (gs_i a1), some (gs_i a2), some (gs_i a3)] [] d else gs_g Y0 P_M_closed 16 [some (gs_r 20 a0), some (gs_i a1), some (gs_i a2), some (gs_i a3)] [] d := gs_if 2 (fun _ => rfl)
theorem k_M_closed_16 (a0 : Nat) (a1 : Int32) (a2 : Int32) (a3 : Int32) (d : gs_D) : gs_g Y0 P_M_closed 16 [some (gs_r 20 a0), some (gs_i a1), some (gs_i a2), some (gs_i a3)] [] d = if ((a1 >>> (a3 &&& 31)) &&& (gs_n 1)) = 0 then gs_g Y0 P_M_closed 37 [some (gs_r 20 a0), some (gs_i a1), some (gs_i a2), some (gs_i a3)] [] d else gs_g Y0 P_M_closed 24 [some (gs_r 20 a0), some (gs_i a1), some (gs_i a2), some (gs_i a3)] [] d := gs_if 6 (fun _ => rfl)
theorem k_M_closed_24 (a0 : Nat) (a1 : Int32) (a2 : Int32) (a3 : Int32) (d : gs_D) : gs_g Y0 P_M_closed 24 [some (gs_r 20 a0), some (gs_i a1), some (gs_i a2), some (gs_i a3)] [] d = gs_ix a3 10 (gs_g Y0 P_M_closed 30 [some (gs_r 20 a0), some (gs_i a1), some (gs_i a2), some (gs_i a3)] [(gs_i (d.1 25 a0 a3.toNatClampNeg))] d) := gs_gx 4 (fun _ => rfl)
theorem k_M_closed_30 (a0 : Nat) (a1 : Int32) (a2 : Int32) (a3 : Int32) (s0 : Int32) (d : gs_D) : gs_g Y0 P_M_closed 30 [some (gs_r 20 a0), some (gs_i a1), some (gs_i a2), some (gs_i a3)] [(gs_i s0)] d = if ¬ (s0 &&& (a1 ^^^ (gs_n (-1)))) = 0 then gs_g Y0 P_M_closed 41 [some (gs_r 20 a0), some (gs_i a1), some (gs_i a2), some (gs_i a3)] [] d else gs_g Y0 P_M_closed 37 [some (gs_r 20 a0), some (gs_i a1), some (gs_i a2), some (gs_i a3)] [] d := gs_if 5 (fun _ => rfl)
theorem k_M_closed_37 (a0 : Nat) (a1 : Int32) (a2 : Int32) (a3 : Int32) (d : gs_D) : gs_g Y0 P_M_closed 37 [some (gs_r 20 a0), some (gs_i a1), some (gs_i a2), some (gs_i a3)] [] d = gs_g Y0 P_M_closed 4 [some (gs_r 20 a0), some (gs_i a1), some (gs_i (gs_n 1)), some (gs_i (a3 + gs_n 1))] [] d := gs_gs 4 (fun _ => rfl)
theorem k_M_closed_41 (a0 : Nat) (a1 : Int32) (a2 : Int32) (a3 : Int32) (d : gs_D) : gs_g Y0 P_M_closed 41 [some (gs_r 20 a0), some (gs_i a1), some (gs_i a2), some (gs_i a3)] [] d = gs_g Y0 P_M_closed 4 [some (gs_r 20 a0), some (gs_i a1), some (gs_i (gs_n 0)), some (gs_i (a3 + gs_n 1))] [] d := gs_gs 3 (fun _ => rfl)
theorem k_M_closed_49 (a0 : Nat) (a1 : Int32) (a2 : Int32) (a3 : Int32) (d : gs_D) : gs_g Y0 P_M_closed 49 [some (gs_r 20 a0), some (gs_i a1), some (gs_i a2), some (gs_i a3)] [] d = some (some (gs_i a2), d) := gs_an 2 (fun _ => rfl)
def I_M_covered : List (Nat × Jvm.ClassFile.Instr × Nat) := [(0, .iconst 0, 0), (1, .istore_n 2, 0), (2, .iload_n 2, 0), (3, .bipush 54, 0), (5, .if_icmp .ge 76, 81), (8, .lconst 0, 0), (9, .lstore_n 3, 0), (10, .iconst 0, 0), (11, .istore 5, 0), (13, .iload 5, 0), (15, .aload_n 0, 0), (16, .getfield 58, 0), (19, .if_icmp .ge 38, 57), (22, .iload_n 1, 0), (23, .iload 5, 0), (25, .ishr, 0), (26, .iconst 1, 0), (27, .iand, 0), (28, .iconst 1, 0), (29, .if_icmp .ne 20, 49), (32, .lload_n 3, 0), (33, .aload_n 0, 0), (34, .getfield 20, 0), (37, .bipush 54, 0), (39, .iload 5, 0), (41, .imul, 0), (42, .iload_n 2, 0), (43, .iadd, 0), (44, .laload, 0), (45, .ladd, 0), (46, .goto 4, 50), (49, .lload_n 3, 0), (50, .lstore_n 3, 0), (51, .iinc 5 1, 0), (54, .goto (-41), 13), (57, .lload_n 3, 0), (58, .lconst 0, 0), (59, .lcmp, 0), (60, .ifCond .le 15, 75), (63, .aload_n 0, 0), (64, .iload_n 2, 0), (65, .invokevirtual 75, 0), (68, .lload_n 3, 0), (69, .lcmp, 0), (70, .ifCond .ge 5, 75), (73, .iconst 0, 0), (74, .ireturn, 0), (75, .iinc 2 1, 0), (78, .goto (-76), 2), (81, .iconst 1, 0), (82, .ireturn, 0)]
def F_M_covered : List (Nat × Nat × Nat) := [(58, 5, 3), (20, 5, 4)]
def K_M_covered : List (Nat × gs_V) := []
noncomputable def C_M_covered : List (Nat × Nat × Nat × gs_F) := [(75, 1, 5, f_M_above)]
noncomputable def P_M_covered : gs_P := (gs_lk I_M_covered, gs_lk F_M_covered, gs_lk K_M_covered, gs_lk C_M_covered)
noncomputable def f_M_covered : gs_F := gs_f Y0 6 2 P_M_covered
theorem e_M_covered (a0 : Nat) (a1 : Int32) (d : gs_D) : f_M_covered [(gs_r 20 a0), (gs_i a1)] d = gs_ck 2 (gs_g Y0 P_M_covered 0 [some (gs_r 20 a0), some (gs_i a1), none, none, none, none] [] d) := rfl
theorem k_M_covered_0 (a0 : Nat) (a1 : Int32) (d : gs_D) : gs_g Y0 P_M_covered 0 [some (gs_r 20 a0), some (gs_i a1), none, none, none, none] [] d = gs_g Y0 P_M_covered 2 [some (gs_r 20 a0), some (gs_i a1), some (gs_i (gs_n 0)), none, none, none] [] d := gs_gs 1 (fun _ => rfl)
theorem k_M_covered_2 (a0 : Nat) (a1 : Int32) (a2 : Int32) (a3 : Option gs_V) (a5 : Option gs_V) (d : gs_D) : gs_g Y0 P_M_covered 2 [some (gs_r 20 a0), some (gs_i a1), some (gs_i a2), a3, none, a5] [] d = if (Int8.ofInt 54).toInt32 ≤ a2 then gs_g Y0 P_M_covered 81 [some (gs_r 20 a0), some (gs_i a1), some (gs_i a2), a3, none, a5] [] d else gs_g Y0 P_M_covered 8 [some (gs_r 20 a0), some (gs_i a1), some (gs_i a2), a3, none, a5] [] d := gs_if 3 (fun _ => rfl)
theorem k_M_covered_8 (a0 : Nat) (a1 : Int32) (a2 : Int32) (a3 : Option gs_V) (a5 : Option gs_V) (d : gs_D) : gs_g Y0 P_M_covered 8 [some (gs_r 20 a0), some (gs_i a1), some (gs_i a2), a3, none, a5] [] d = gs_g Y0 P_M_covered 13 [some (gs_r 20 a0), some (gs_i a1), some (gs_i a2), some (gs_l gs_k0), none, some (gs_i (gs_n 0))] [] d := gs_gs 3 (fun _ => rfl)
theorem k_M_covered_13 (a0 : Nat) (a1 : Int32) (a2 : Int32) (a3 : Int64) (a5 : Int32) (d : gs_D) : gs_g Y0 P_M_covered 13 [some (gs_r 20 a0), some (gs_i a1), some (gs_i a2), some (gs_l a3), none, some (gs_i a5)] [] d = if (d.1 20 a0 3) ≤ a5 then gs_g Y0 P_M_covered 57 [some (gs_r 20 a0), some (gs_i a1), some (gs_i a2), some (gs_l a3), none, some (gs_i a5)] [] d else gs_g Y0 P_M_covered 22 [some (gs_r 20 a0), some (gs_i a1), some (gs_i a2), some (gs_l a3), none, some (gs_i a5)] [] d := gs_if 4 (fun _ => rfl)
theorem k_M_covered_22 (a0 : Nat) (a1 : Int32) (a2 : Int32) (a3 : Int64) (a5 : Int32) (d : gs_D) : gs_g Y0 P_M_covered 22 [some (gs_r 20 a0), some (gs_i a1), some (gs_i a2), some (gs_l a3), none, some (gs_i a5)] [] d = if ¬ ((a1 >>> (a5 &&& 31)) &&& (gs_n 1)) = (gs_n 1) then gs_g Y0 P_M_covered 49 [some (gs_r 20 a0), some (gs_i a1), some (gs_i a2), some (gs_l a3), none, some (gs_i a5)] [] d else gs_g Y0 P_M_covered 32 [some (gs_r 20 a0), some (gs_i a1), some (gs_i a2), some (gs_l a3), none, some (gs_i a5)] [] d := gs_if 7 (fun _ => rfl)
theorem k_M_covered_32 (a0 : Nat) (a1 : Int32) (a2 : Int32) (a3 : Int64) (a5 : Int32) (d : gs_D) : gs_g Y0 P_M_covered 32 [some (gs_r 20 a0), some (gs_i a1), some (gs_i a2), some (gs_l a3), none, some (gs_i a5)] [] d = gs_ix (((Int8.ofInt 54).toInt32 * a5) + a2) 540 (gs_g Y0 P_M_covered 45 [some (gs_r 20 a0), some (gs_i a1), some (gs_i a2), some (gs_l a3), none, some (gs_i a5)] [(gs_l (d.2 24 a0 (((Int8.ofInt 54).toInt32 * a5) + a2).toNatClampNeg)), (gs_l a3)] d) := gs_gx 9 (fun _ => rfl)
theorem k_M_covered_45 (a0 : Nat) (a1 : Int32) (a2 : Int32) (a3 : Int64) (a5 : Int32) (s0 : Int64) (s1 : Int64) (d : gs_D) : gs_g Y0 P_M_covered 45 [some (gs_r 20 a0), some (gs_i a1), some (gs_i a2), some (gs_l a3), none, some (gs_i a5)] [(gs_l s1), (gs_l s0)] d = gs_g Y0 P_M_covered 13 [some (gs_r 20 a0), some (gs_i a1), some (gs_i a2), some (gs_l (s0 + s1)), none, some (gs_i (a5 + gs_n 1))] [] d := gs_gs 4 (fun _ => rfl)
theorem k_M_covered_49 (a0 : Nat) (a1 : Int32) (a2 : Int32) (a3 : Int64) (a5 : Int32) (d : gs_D) : gs_g Y0 P_M_covered 49 [some (gs_r 20 a0), some (gs_i a1), some (gs_i a2), some (gs_l a3), none, some (gs_i a5)] [] d = gs_g Y0 P_M_covered 13 [some (gs_r 20 a0), some (gs_i a1), some (gs_i a2), some (gs_l a3), none, some (gs_i (a5 + gs_n 1))] [] d := gs_gs 3 (fun _ => rfl)
theorem k_M_covered_57 (a0 : Nat) (a1 : Int32) (a2 : Int32) (a3 : Int64) (a5 : Int32) (d : gs_D) : gs_g Y0 P_M_covered 57 [some (gs_r 20 a0), some (gs_i a1), some (gs_i a2), some (gs_l a3), none, some (gs_i a5)] [] d = if (lg_cmp a3 gs_k0) ≤ 0 then gs_g Y0 P_M_covered 75 [some (gs_r 20 a0), some (gs_i a1), some (gs_i a2), some (gs_l a3), none, some (gs_i a5)] [] d else gs_g Y0 P_M_covered 63 [some (gs_r 20 a0), some (gs_i a1), some (gs_i a2), some (gs_l a3), none, some (gs_i a5)] [] d := gs_if 4 (fun _ => rfl)
theorem k_M_covered_63 (a0 : Nat) (a1 : Int32) (a2 : Int32) (a3 : Int64) (a5 : Int32) (d : gs_D) : gs_g Y0 P_M_covered 63 [some (gs_r 20 a0), some (gs_i a1), some (gs_i a2), some (gs_l a3), none, some (gs_i a5)] [] d = gs_af (f_M_above [(gs_r 20 a0), (gs_i a2)] d) [] (fun s9 d9 => gs_g Y0 P_M_covered 68 [some (gs_r 20 a0), some (gs_i a1), some (gs_i a2), some (gs_l a3), none, some (gs_i a5)] s9 d9) := gs_gc 3 (fun _ => rfl)
theorem k_M_covered_68 (a0 : Nat) (a1 : Int32) (a2 : Int32) (a3 : Int64) (a5 : Int32) (s0 : Int64) (d : gs_D) : gs_g Y0 P_M_covered 68 [some (gs_r 20 a0), some (gs_i a1), some (gs_i a2), some (gs_l a3), none, some (gs_i a5)] [(gs_l s0)] d = if 0 ≤ (lg_cmp s0 a3) then gs_g Y0 P_M_covered 75 [some (gs_r 20 a0), some (gs_i a1), some (gs_i a2), some (gs_l a3), none, some (gs_i a5)] [] d else gs_g Y0 P_M_covered 73 [some (gs_r 20 a0), some (gs_i a1), some (gs_i a2), some (gs_l a3), none, some (gs_i a5)] [] d := gs_if 3 (fun _ => rfl)
theorem k_M_covered_73 (a0 : Nat) (a1 : Int32) (a2 : Int32) (a3 : Int64) (a5 : Int32) (d : gs_D) : gs_g Y0 P_M_covered 73 [some (gs_r 20 a0), some (gs_i a1), some (gs_i a2), some (gs_l a3), none, some (gs_i a5)] [] d = some (some (gs_i (gs_n 0)), d) := gs_an 2 (fun _ => rfl)
theorem k_M_covered_75 (a0 : Nat) (a1 : Int32) (a2 : Int32) (a3 : Int64) (a5 : Int32) (d : gs_D) : gs_g Y0 P_M_covered 75 [some (gs_r 20 a0), some (gs_i a1), some (gs_i a2), some (gs_l a3), none, some (gs_i a5)] [] d = gs_g Y0 P_M_covered 2 [some (gs_r 20 a0), some (gs_i a1), some (gs_i (a2 + gs_n 1)), some (gs_l a3), none, some (gs_i a5)] [] d := gs_gs 1 (fun _ => rfl)
theorem k_M_covered_81 (a0 : Nat) (a1 : Int32) (a2 : Int32) (a3 : Option gs_V) (a5 : Option gs_V) (d : gs_D) : gs_g Y0 P_M_covered 81 [some (gs_r 20 a0), some (gs_i a1), some (gs_i a2), a3, none, a5] [] d = some (some (gs_i (gs_n 1)), d) := gs_an 2 (fun _ => rfl)
def I_M_resolve : List (Nat × Jvm.ClassFile.Instr × Nat) := [(0, .aload_n 0, 0), (1, .invokevirtual 120, 0), (4, .iconst 0, 0), (5, .istore_n 1, 0), (6, .iconst 1, 0), (7, .istore_n 2, 0), (8, .iload_n 2, 0), (9, .iconst 1, 0), (10, .aload_n 0, 0), (11, .getfield 58, 0), (14, .ishl, 0), (15, .if_icmp .ge 37, 52), (18, .iload_n 2, 0), (19, .iload_n 1, 0), (20, .iconst (-1), 0), (21, .ixor, 0), (22, .iand, 0), (23, .ifCond .eq 23, 46), (26, .aload_n 0, 0), (27, .iload_n 2, 0), (28, .invokevirtual 123, 0), (31, .ifCond .eq 15, 46), (34, .aload_n 0, 0), (35, .iload_n 2, 0), (36, .invokevirtual 126, 0), (39, .ifCond .eq 7, 46), (42, .iload_n 1, 0), (43, .iload_n 2, 0), (44, .ior, 0), (45, .istore_n 1, 0), (46, .iinc 2 1, 0), (49, .goto (-41), 8), (52, .iconst 0, 0), (53, .istore_n 2, 0), (54, .iconst 0, 0), (55, .istore_n 3, 0), (56, .iload_n 3, 0), (57, .aload_n 0, 0), (58, .getfield 58, 0), (61, .if_icmp .ge 31, 92), (64, .iload_n 1, 0), (65, .iload_n 3, 0), (66, .ishr, 0), (67, .iconst 1, 0), (68, .iand, 0), (69, .iconst 1, 0), (70, .if_icmp .ne 16, 86), (73, .aload_n 0, 0), (74, .aload_n 0, 0), (75, .getfield 16, 0), (78, .iload_n 3, 0), (79, .iaload, 0), (80, .invokevirtual 91, 0), (83, .iinc 2 1, 0), (86, .iinc 3 1, 0), (89, .goto (-33), 56), (92, .iload_n 2, 0), (93, .ireturn, 0)]
def F_M_resolve : List (Nat × Nat × Nat) := [(58, 5, 3), (16, 5, 2)]
def K_M_resolve : List (Nat × gs_V) := []
noncomputable def C_M_resolve : List (Nat × Nat × Nat × gs_F) := [(120, 0, 5, f_M_spread), (123, 1, 5, f_M_closed), (126, 1, 5, f_M_covered), (91, 1, 5, f_M_settle)]
noncomputable def P_M_resolve : gs_P := (gs_lk I_M_resolve, gs_lk F_M_resolve, gs_lk K_M_resolve, gs_lk C_M_resolve)
noncomputable def f_M_resolve : gs_F := gs_f Y0 4 1 P_M_resolve
theorem e_M_resolve (a0 : Nat) (d : gs_D) : f_M_resolve [(gs_r 20 a0)] d = gs_ck 1 (gs_g Y0 P_M_resolve 0 [some (gs_r 20 a0), none, none, none] [] d) := rfl
theorem k_M_resolve_0 (a0 : Nat) (d : gs_D) : gs_g Y0 P_M_resolve 0 [some (gs_r 20 a0), none, none, none] [] d = gs_af (f_M_spread [(gs_r 20 a0)] d) [] (fun s9 d9 => gs_g Y0 P_M_resolve 4 [some (gs_r 20 a0), none, none, none] s9 d9) := gs_gc 2 (fun _ => rfl)
theorem k_M_resolve_4 (a0 : Nat) (d : gs_D) : gs_g Y0 P_M_resolve 4 [some (gs_r 20 a0), none, none, none] [] d = gs_g Y0 P_M_resolve 8 [some (gs_r 20 a0), some (gs_i (gs_n 0)), some (gs_i (gs_n 1)), none] [] d := gs_gs 3 (fun _ => rfl)
theorem k_M_resolve_8 (a0 : Nat) (a1 : Int32) (a2 : Int32) (d : gs_D) : gs_g Y0 P_M_resolve 8 [some (gs_r 20 a0), some (gs_i a1), some (gs_i a2), none] [] d = if ((gs_n 1) <<< ((d.1 20 a0 3) &&& 31)) ≤ a2 then gs_g Y0 P_M_resolve 52 [some (gs_r 20 a0), some (gs_i a1), some (gs_i a2), none] [] d else gs_g Y0 P_M_resolve 18 [some (gs_r 20 a0), some (gs_i a1), some (gs_i a2), none] [] d := gs_if 6 (fun _ => rfl)
theorem k_M_resolve_18 (a0 : Nat) (a1 : Int32) (a2 : Int32) (d : gs_D) : gs_g Y0 P_M_resolve 18 [some (gs_r 20 a0), some (gs_i a1), some (gs_i a2), none] [] d = if (a2 &&& (a1 ^^^ (gs_n (-1)))) = 0 then gs_g Y0 P_M_resolve 46 [some (gs_r 20 a0), some (gs_i a1), some (gs_i a2), none] [] d else gs_g Y0 P_M_resolve 26 [some (gs_r 20 a0), some (gs_i a1), some (gs_i a2), none] [] d := gs_if 6 (fun _ => rfl)
theorem k_M_resolve_26 (a0 : Nat) (a1 : Int32) (a2 : Int32) (d : gs_D) : gs_g Y0 P_M_resolve 26 [some (gs_r 20 a0), some (gs_i a1), some (gs_i a2), none] [] d = gs_af (f_M_closed [(gs_r 20 a0), (gs_i a2)] d) [] (fun s9 d9 => gs_g Y0 P_M_resolve 31 [some (gs_r 20 a0), some (gs_i a1), some (gs_i a2), none] s9 d9) := gs_gc 3 (fun _ => rfl)
theorem k_M_resolve_31 (a0 : Nat) (a1 : Int32) (a2 : Int32) (s0 : Int32) (d : gs_D) : gs_g Y0 P_M_resolve 31 [some (gs_r 20 a0), some (gs_i a1), some (gs_i a2), none] [(gs_i s0)] d = if s0 = 0 then gs_g Y0 P_M_resolve 46 [some (gs_r 20 a0), some (gs_i a1), some (gs_i a2), none] [] d else gs_g Y0 P_M_resolve 34 [some (gs_r 20 a0), some (gs_i a1), some (gs_i a2), none] [] d := gs_if 1 (fun _ => rfl)
theorem k_M_resolve_34 (a0 : Nat) (a1 : Int32) (a2 : Int32) (d : gs_D) : gs_g Y0 P_M_resolve 34 [some (gs_r 20 a0), some (gs_i a1), some (gs_i a2), none] [] d = gs_af (f_M_covered [(gs_r 20 a0), (gs_i a2)] d) [] (fun s9 d9 => gs_g Y0 P_M_resolve 39 [some (gs_r 20 a0), some (gs_i a1), some (gs_i a2), none] s9 d9) := gs_gc 3 (fun _ => rfl)
theorem k_M_resolve_39 (a0 : Nat) (a1 : Int32) (a2 : Int32) (s0 : Int32) (d : gs_D) : gs_g Y0 P_M_resolve 39 [some (gs_r 20 a0), some (gs_i a1), some (gs_i a2), none] [(gs_i s0)] d = if s0 = 0 then gs_g Y0 P_M_resolve 46 [some (gs_r 20 a0), some (gs_i a1), some (gs_i a2), none] [] d else gs_g Y0 P_M_resolve 42 [some (gs_r 20 a0), some (gs_i a1), some (gs_i a2), none] [] d := gs_if 1 (fun _ => rfl)
theorem k_M_resolve_42 (a0 : Nat) (a1 : Int32) (a2 : Int32) (d : gs_D) : gs_g Y0 P_M_resolve 42 [some (gs_r 20 a0), some (gs_i a1), some (gs_i a2), none] [] d = gs_g Y0 P_M_resolve 8 [some (gs_r 20 a0), some (gs_i (a1 ||| a2)), some (gs_i (a2 + gs_n 1)), none] [] d := gs_gs 5 (fun _ => rfl)
theorem k_M_resolve_46 (a0 : Nat) (a1 : Int32) (a2 : Int32) (d : gs_D) : gs_g Y0 P_M_resolve 46 [some (gs_r 20 a0), some (gs_i a1), some (gs_i a2), none] [] d = gs_g Y0 P_M_resolve 8 [some (gs_r 20 a0), some (gs_i a1), some (gs_i (a2 + gs_n 1)), none] [] d := gs_gs 1 (fun _ => rfl)
theorem k_M_resolve_52 (a0 : Nat) (a1 : Int32) (a2 : Int32) (d : gs_D) : gs_g Y0 P_M_resolve 52 [some (gs_r 20 a0), some (gs_i a1), some (gs_i a2), none] [] d = gs_g Y0 P_M_resolve 56 [some (gs_r 20 a0), some (gs_i a1), some (gs_i (gs_n 0)), some (gs_i (gs_n 0))] [] d := gs_gs 3 (fun _ => rfl)
theorem k_M_resolve_56 (a0 : Nat) (a1 : Int32) (a2 : Int32) (a3 : Int32) (d : gs_D) : gs_g Y0 P_M_resolve 56 [some (gs_r 20 a0), some (gs_i a1), some (gs_i a2), some (gs_i a3)] [] d = if (d.1 20 a0 3) ≤ a3 then gs_g Y0 P_M_resolve 92 [some (gs_r 20 a0), some (gs_i a1), some (gs_i a2), some (gs_i a3)] [] d else gs_g Y0 P_M_resolve 64 [some (gs_r 20 a0), some (gs_i a1), some (gs_i a2), some (gs_i a3)] [] d := gs_if 4 (fun _ => rfl)
theorem k_M_resolve_64 (a0 : Nat) (a1 : Int32) (a2 : Int32) (a3 : Int32) (d : gs_D) : gs_g Y0 P_M_resolve 64 [some (gs_r 20 a0), some (gs_i a1), some (gs_i a2), some (gs_i a3)] [] d = if ¬ ((a1 >>> (a3 &&& 31)) &&& (gs_n 1)) = (gs_n 1) then gs_g Y0 P_M_resolve 86 [some (gs_r 20 a0), some (gs_i a1), some (gs_i a2), some (gs_i a3)] [] d else gs_g Y0 P_M_resolve 73 [some (gs_r 20 a0), some (gs_i a1), some (gs_i a2), some (gs_i a3)] [] d := gs_if 7 (fun _ => rfl)
theorem k_M_resolve_73 (a0 : Nat) (a1 : Int32) (a2 : Int32) (a3 : Int32) (d : gs_D) : gs_g Y0 P_M_resolve 73 [some (gs_r 20 a0), some (gs_i a1), some (gs_i a2), some (gs_i a3)] [] d = gs_ix a3 10 (gs_g Y0 P_M_resolve 80 [some (gs_r 20 a0), some (gs_i a1), some (gs_i a2), some (gs_i a3)] [(gs_i (d.1 23 a0 a3.toNatClampNeg)), (gs_r 20 a0)] d) := gs_gx 5 (fun _ => rfl)
theorem k_M_resolve_80 (a0 : Nat) (a1 : Int32) (a2 : Int32) (a3 : Int32) (s0 : Nat) (s1 : Int32) (d : gs_D) : gs_g Y0 P_M_resolve 80 [some (gs_r 20 a0), some (gs_i a1), some (gs_i a2), some (gs_i a3)] [(gs_i s1), (gs_r 20 s0)] d = gs_af (f_M_settle [(gs_r 20 s0), (gs_i s1)] d) [] (fun s9 d9 => gs_g Y0 P_M_resolve 83 [some (gs_r 20 a0), some (gs_i a1), some (gs_i a2), some (gs_i a3)] s9 d9) := gs_gc 1 (fun _ => rfl)
theorem k_M_resolve_83 (a0 : Nat) (a1 : Int32) (a2 : Int32) (a3 : Int32) (d : gs_D) : gs_g Y0 P_M_resolve 83 [some (gs_r 20 a0), some (gs_i a1), some (gs_i a2), some (gs_i a3)] [] d = gs_g Y0 P_M_resolve 56 [some (gs_r 20 a0), some (gs_i a1), some (gs_i (a2 + gs_n 1)), some (gs_i (a3 + gs_n 1))] [] d := gs_gs 2 (fun _ => rfl)
theorem k_M_resolve_86 (a0 : Nat) (a1 : Int32) (a2 : Int32) (a3 : Int32) (d : gs_D) : gs_g Y0 P_M_resolve 86 [some (gs_r 20 a0), some (gs_i a1), some (gs_i a2), some (gs_i a3)] [] d = gs_g Y0 P_M_resolve 56 [some (gs_r 20 a0), some (gs_i a1), some (gs_i a2), some (gs_i (a3 + gs_n 1))] [] d := gs_gs 1 (fun _ => rfl)
theorem k_M_resolve_92 (a0 : Nat) (a1 : Int32) (a2 : Int32) (a3 : Int32) (d : gs_D) : gs_g Y0 P_M_resolve 92 [some (gs_r 20 a0), some (gs_i a1), some (gs_i a2), some (gs_i a3)] [] d = some (some (gs_i a2), d) := gs_an 2 (fun _ => rfl)
def I_M_advance : List (Nat × Jvm.ClassFile.Instr × Nat) := [(0, .aload_n 0, 0), (1, .getfield 7, 0), (4, .bipush 106, 0), (6, .aload_n 0, 0), (7, .getfield 7, 0), (10, .bipush 106, 0), (12, .laload, 0), (13, .lconst 1, 0), (14, .ladd, 0), (15, .ldc2_w 129, 0), (18, .lrem, 0), (19, .lastore, 0), (20, .aload_n 0, 0), (21, .invokevirtual 98, 0), (24, .ifCond .ne 55, 79), (27, .iconst 0, 0), (28, .istore_n 1, 0), (29, .iload_n 1, 0), (30, .aload_n 0, 0), (31, .invokevirtual 62, 0), (34, .if_icmp .ge 23, 57), (37, .aload_n 0, 0), (38, .iload_n 1, 0), (39, .invokevirtual 66, 0), (42, .ifCond .ne 9, 51), (45, .aload_n 0, 0), (46, .iload_n 1, 0), (47, .iconst 3, 0), (48, .invokevirtual 78, 0), (51, .iinc 1 1, 0), (54, .goto (-25), 29), (57, .bipush 70, 0), (59, .istore_n 1, 0), (60, .iload_n 1, 0), (61, .bipush 106, 0), (63, .if_icmp .ge 16, 79), (66, .aload_n 0, 0), (67, .getfield 7, 0), (70, .iload_n 1, 0), (71, .lconst 0, 0), (72, .lastore, 0), (73, .iinc 1 1, 0), (76, .goto (-16), 60), (79, .aload_n 0, 0), (80, .invokevirtual 98, 0), (83, .ireturn, 0)]
def F_M_advance : List (Nat × Nat × Nat) := [(7, 5, 0)]
def K_M_advance : List (Nat × gs_V) := [(129, gs_l (gs_m 3))]
noncomputable def C_M_advance : List (Nat × Nat × Nat × gs_F) := [(98, 0, 5, f_M_day), (62, 0, 5, f_M_count), (66, 1, 5, f_M_fate), (78, 2, 5, f_M_setFate)]
noncomputable def P_M_advance : gs_P := (gs_lk I_M_advance, gs_lk F_M_advance, gs_lk K_M_advance, gs_lk C_M_advance)
noncomputable def f_M_advance : gs_F := gs_f Y0 2 1 P_M_advance
theorem e_M_advance (a0 : Nat) (d : gs_D) : f_M_advance [(gs_r 20 a0)] d = gs_ck 1 (gs_g Y0 P_M_advance 0 [some (gs_r 20 a0), none] [] d) := rfl
theorem k_M_advance_0 (a0 : Nat) (d : gs_D) : gs_g Y0 P_M_advance 0 [some (gs_r 20 a0), none] [] d = gs_ix (Int8.ofInt 106).toInt32 430 (gs_g Y0 P_M_advance 13 [some (gs_r 20 a0), none] [(gs_l (d.2 21 a0 (Int8.ofInt 106).toInt32.toNatClampNeg)), (gs_i (Int8.ofInt 106).toInt32), (gs_r 21 a0)] d) := gs_gx 7 (fun _ => rfl)
theorem k_M_advance_13 (a0 : Nat) (s0 : Nat) (s1 : Int32) (s2 : Int64) (d : gs_D) : gs_g Y0 P_M_advance 13 [some (gs_r 20 a0), none] [(gs_l s2), (gs_i s1), (gs_r 21 s0)] d = gs_nzl (gs_m 3) (gs_g Y0 P_M_advance 19 [some (gs_r 20 a0), none] [(gs_l ((s2 + gs_k1) - (s2 + gs_k1) / (gs_m 3) * (gs_m 3))), (gs_i s1), (gs_r 21 s0)] d) := gs_gzl 4 (fun _ => rfl)
theorem k_M_advance_19 (a0 : Nat) (s0 : Nat) (s1 : Int32) (s2 : Int64) (d : gs_D) : gs_g Y0 P_M_advance 19 [some (gs_r 20 a0), none] [(gs_l s2), (gs_i s1), (gs_r 21 s0)] d = gs_ix s1 430 (gs_g Y0 P_M_advance 20 [some (gs_r 20 a0), none] [] (gs_wL d 21 s0 s1.toNatClampNeg s2)) := gs_gx 1 (fun _ => rfl)
theorem k_M_advance_20 (a0 : Nat) (d : gs_D) : gs_g Y0 P_M_advance 20 [some (gs_r 20 a0), none] [] d = gs_af (f_M_day [(gs_r 20 a0)] d) [] (fun s9 d9 => gs_g Y0 P_M_advance 24 [some (gs_r 20 a0), none] s9 d9) := gs_gc 2 (fun _ => rfl)
theorem k_M_advance_24 (a0 : Nat) (s0 : Int32) (d : gs_D) : gs_g Y0 P_M_advance 24 [some (gs_r 20 a0), none] [(gs_i s0)] d = if ¬ s0 = 0 then gs_g Y0 P_M_advance 79 [some (gs_r 20 a0), none] [] d else gs_g Y0 P_M_advance 27 [some (gs_r 20 a0), none] [] d := gs_if 1 (fun _ => rfl)
theorem k_M_advance_27 (a0 : Nat) (d : gs_D) : gs_g Y0 P_M_advance 27 [some (gs_r 20 a0), none] [] d = gs_g Y0 P_M_advance 29 [some (gs_r 20 a0), some (gs_i (gs_n 0))] [] d := gs_gs 1 (fun _ => rfl)
theorem k_M_advance_29 (a0 : Nat) (a1 : Int32) (d : gs_D) : gs_g Y0 P_M_advance 29 [some (gs_r 20 a0), some (gs_i a1)] [] d = gs_af (f_M_count [(gs_r 20 a0)] d) [(gs_i a1)] (fun s9 d9 => gs_g Y0 P_M_advance 34 [some (gs_r 20 a0), some (gs_i a1)] s9 d9) := gs_gc 3 (fun _ => rfl)
theorem k_M_advance_34 (a0 : Nat) (a1 : Int32) (s0 : Int32) (s1 : Int32) (d : gs_D) : gs_g Y0 P_M_advance 34 [some (gs_r 20 a0), some (gs_i a1)] [(gs_i s1), (gs_i s0)] d = if s1 ≤ s0 then gs_g Y0 P_M_advance 57 [some (gs_r 20 a0), some (gs_i a1)] [] d else gs_g Y0 P_M_advance 37 [some (gs_r 20 a0), some (gs_i a1)] [] d := gs_if 1 (fun _ => rfl)
theorem k_M_advance_37 (a0 : Nat) (a1 : Int32) (d : gs_D) : gs_g Y0 P_M_advance 37 [some (gs_r 20 a0), some (gs_i a1)] [] d = gs_af (f_M_fate [(gs_r 20 a0), (gs_i a1)] d) [] (fun s9 d9 => gs_g Y0 P_M_advance 42 [some (gs_r 20 a0), some (gs_i a1)] s9 d9) := gs_gc 3 (fun _ => rfl)
theorem k_M_advance_42 (a0 : Nat) (a1 : Int32) (s0 : Int32) (d : gs_D) : gs_g Y0 P_M_advance 42 [some (gs_r 20 a0), some (gs_i a1)] [(gs_i s0)] d = if ¬ s0 = 0 then gs_g Y0 P_M_advance 51 [some (gs_r 20 a0), some (gs_i a1)] [] d else gs_g Y0 P_M_advance 45 [some (gs_r 20 a0), some (gs_i a1)] [] d := gs_if 1 (fun _ => rfl)
theorem k_M_advance_45 (a0 : Nat) (a1 : Int32) (d : gs_D) : gs_g Y0 P_M_advance 45 [some (gs_r 20 a0), some (gs_i a1)] [] d = gs_af (f_M_setFate [(gs_r 20 a0), (gs_i a1), (gs_i (gs_n 3))] d) [] (fun s9 d9 => gs_g Y0 P_M_advance 51 [some (gs_r 20 a0), some (gs_i a1)] s9 d9) := gs_gc 4 (fun _ => rfl)
theorem k_M_advance_51 (a0 : Nat) (a1 : Int32) (d : gs_D) : gs_g Y0 P_M_advance 51 [some (gs_r 20 a0), some (gs_i a1)] [] d = gs_g Y0 P_M_advance 29 [some (gs_r 20 a0), some (gs_i (a1 + gs_n 1))] [] d := gs_gs 1 (fun _ => rfl)
theorem k_M_advance_57 (a0 : Nat) (a1 : Int32) (d : gs_D) : gs_g Y0 P_M_advance 57 [some (gs_r 20 a0), some (gs_i a1)] [] d = gs_g Y0 P_M_advance 60 [some (gs_r 20 a0), some (gs_i (Int8.ofInt 70).toInt32)] [] d := gs_gs 1 (fun _ => rfl)
theorem k_M_advance_60 (a0 : Nat) (a1 : Int32) (d : gs_D) : gs_g Y0 P_M_advance 60 [some (gs_r 20 a0), some (gs_i a1)] [] d = if (Int8.ofInt 106).toInt32 ≤ a1 then gs_g Y0 P_M_advance 79 [some (gs_r 20 a0), some (gs_i a1)] [] d else gs_g Y0 P_M_advance 66 [some (gs_r 20 a0), some (gs_i a1)] [] d := gs_if 3 (fun _ => rfl)
theorem k_M_advance_66 (a0 : Nat) (a1 : Int32) (d : gs_D) : gs_g Y0 P_M_advance 66 [some (gs_r 20 a0), some (gs_i a1)] [] d = gs_ix a1 430 (gs_g Y0 P_M_advance 73 [some (gs_r 20 a0), some (gs_i a1)] [] (gs_wL d 21 a0 a1.toNatClampNeg gs_k0)) := gs_gx 5 (fun _ => rfl)
theorem k_M_advance_73 (a0 : Nat) (a1 : Int32) (d : gs_D) : gs_g Y0 P_M_advance 73 [some (gs_r 20 a0), some (gs_i a1)] [] d = gs_g Y0 P_M_advance 60 [some (gs_r 20 a0), some (gs_i (a1 + gs_n 1))] [] d := gs_gs 1 (fun _ => rfl)
theorem k_M_advance_79 (a0 : Nat) (a1 : Option gs_V) (d : gs_D) : gs_g Y0 P_M_advance 79 [some (gs_r 20 a0), a1] [] d = gs_af (f_M_day [(gs_r 20 a0)] d) [] (fun s9 d9 => gs_g Y0 P_M_advance 83 [some (gs_r 20 a0), a1] s9 d9) := gs_gc 2 (fun _ => rfl)
theorem k_M_advance_83 (a0 : Nat) (a1 : Option gs_V) (s0 : Int32) (d : gs_D) : gs_g Y0 P_M_advance 83 [some (gs_r 20 a0), a1] [(gs_i s0)] d = some (some (gs_i s0), d) := gs_an 1 (fun _ => rfl)
def I_M_sync : List (Nat × Jvm.ClassFile.Instr × Nat) := [(0, .iconst 0, 0), (1, .istore_n 1, 0), (2, .iload_n 1, 0), (3, .sipush 430, 0), (6, .if_icmp .ge 21, 27), (9, .aload_n 0, 0), (10, .getfield 13, 0), (13, .iload_n 1, 0), (14, .aload_n 0, 0), (15, .getfield 7, 0), (18, .iload_n 1, 0), (19, .laload, 0), (20, .lastore, 0), (21, .iinc 1 1, 0), (24, .goto (-22), 2), (27, .return_, 0)]
def F_M_sync : List (Nat × Nat × Nat) := [(13, 5, 1), (7, 5, 0)]
def K_M_sync : List (Nat × gs_V) := []
noncomputable def C_M_sync : List (Nat × Nat × Nat × gs_F) := []
noncomputable def P_M_sync : gs_P := (gs_lk I_M_sync, gs_lk F_M_sync, gs_lk K_M_sync, gs_lk C_M_sync)
noncomputable def f_M_sync : gs_F := gs_f Y0 2 0 P_M_sync
theorem e_M_sync (a0 : Nat) (d : gs_D) : f_M_sync [(gs_r 20 a0)] d = gs_ck 0 (gs_g Y0 P_M_sync 0 [some (gs_r 20 a0), none] [] d) := rfl
theorem k_M_sync_0 (a0 : Nat) (d : gs_D) : gs_g Y0 P_M_sync 0 [some (gs_r 20 a0), none] [] d = gs_g Y0 P_M_sync 2 [some (gs_r 20 a0), some (gs_i (gs_n 0))] [] d := gs_gs 1 (fun _ => rfl)
theorem k_M_sync_2 (a0 : Nat) (a1 : Int32) (d : gs_D) : gs_g Y0 P_M_sync 2 [some (gs_r 20 a0), some (gs_i a1)] [] d = if (Int16.ofInt 430).toInt32 ≤ a1 then gs_g Y0 P_M_sync 27 [some (gs_r 20 a0), some (gs_i a1)] [] d else gs_g Y0 P_M_sync 9 [some (gs_r 20 a0), some (gs_i a1)] [] d := gs_if 3 (fun _ => rfl)
theorem k_M_sync_9 (a0 : Nat) (a1 : Int32) (d : gs_D) : gs_g Y0 P_M_sync 9 [some (gs_r 20 a0), some (gs_i a1)] [] d = gs_ix a1 430 (gs_g Y0 P_M_sync 20 [some (gs_r 20 a0), some (gs_i a1)] [(gs_l (d.2 21 a0 a1.toNatClampNeg)), (gs_i a1), (gs_r 22 a0)] d) := gs_gx 7 (fun _ => rfl)
theorem k_M_sync_20 (a0 : Nat) (a1 : Int32) (s0 : Nat) (s1 : Int32) (s2 : Int64) (d : gs_D) : gs_g Y0 P_M_sync 20 [some (gs_r 20 a0), some (gs_i a1)] [(gs_l s2), (gs_i s1), (gs_r 22 s0)] d = gs_ix s1 430 (gs_g Y0 P_M_sync 21 [some (gs_r 20 a0), some (gs_i a1)] [] (gs_wL d 22 s0 s1.toNatClampNeg s2)) := gs_gx 1 (fun _ => rfl)
theorem k_M_sync_21 (a0 : Nat) (a1 : Int32) (d : gs_D) : gs_g Y0 P_M_sync 21 [some (gs_r 20 a0), some (gs_i a1)] [] d = gs_g Y0 P_M_sync 2 [some (gs_r 20 a0), some (gs_i (a1 + gs_n 1))] [] d := gs_gs 1 (fun _ => rfl)
theorem k_M_sync_27 (a0 : Nat) (a1 : Int32) (d : gs_D) : gs_g Y0 P_M_sync 27 [some (gs_r 20 a0), some (gs_i a1)] [] d = some (none, d) := gs_an 1 (fun _ => rfl)
def I_M_crash : List (Nat × Jvm.ClassFile.Instr × Nat) := [(0, .iconst 0, 0), (1, .istore_n 1, 0), (2, .iload_n 1, 0), (3, .sipush 430, 0), (6, .if_icmp .ge 21, 27), (9, .aload_n 0, 0), (10, .getfield 7, 0), (13, .iload_n 1, 0), (14, .aload_n 0, 0), (15, .getfield 13, 0), (18, .iload_n 1, 0), (19, .laload, 0), (20, .lastore, 0), (21, .iinc 1 1, 0), (24, .goto (-22), 2), (27, .return_, 0)]
def F_M_crash : List (Nat × Nat × Nat) := [(7, 5, 0), (13, 5, 1)]
def K_M_crash : List (Nat × gs_V) := []
noncomputable def C_M_crash : List (Nat × Nat × Nat × gs_F) := []
noncomputable def P_M_crash : gs_P := (gs_lk I_M_crash, gs_lk F_M_crash, gs_lk K_M_crash, gs_lk C_M_crash)
noncomputable def f_M_crash : gs_F := gs_f Y0 2 0 P_M_crash
theorem e_M_crash (a0 : Nat) (d : gs_D) : f_M_crash [(gs_r 20 a0)] d = gs_ck 0 (gs_g Y0 P_M_crash 0 [some (gs_r 20 a0), none] [] d) := rfl
theorem k_M_crash_0 (a0 : Nat) (d : gs_D) : gs_g Y0 P_M_crash 0 [some (gs_r 20 a0), none] [] d = gs_g Y0 P_M_crash 2 [some (gs_r 20 a0), some (gs_i (gs_n 0))] [] d := gs_gs 1 (fun _ => rfl)
theorem k_M_crash_2 (a0 : Nat) (a1 : Int32) (d : gs_D) : gs_g Y0 P_M_crash 2 [some (gs_r 20 a0), some (gs_i a1)] [] d = if (Int16.ofInt 430).toInt32 ≤ a1 then gs_g Y0 P_M_crash 27 [some (gs_r 20 a0), some (gs_i a1)] [] d else gs_g Y0 P_M_crash 9 [some (gs_r 20 a0), some (gs_i a1)] [] d := gs_if 3 (fun _ => rfl)
theorem k_M_crash_9 (a0 : Nat) (a1 : Int32) (d : gs_D) : gs_g Y0 P_M_crash 9 [some (gs_r 20 a0), some (gs_i a1)] [] d = gs_ix a1 430 (gs_g Y0 P_M_crash 20 [some (gs_r 20 a0), some (gs_i a1)] [(gs_l (d.2 22 a0 a1.toNatClampNeg)), (gs_i a1), (gs_r 21 a0)] d) := gs_gx 7 (fun _ => rfl)
theorem k_M_crash_20 (a0 : Nat) (a1 : Int32) (s0 : Nat) (s1 : Int32) (s2 : Int64) (d : gs_D) : gs_g Y0 P_M_crash 20 [some (gs_r 20 a0), some (gs_i a1)] [(gs_l s2), (gs_i s1), (gs_r 21 s0)] d = gs_ix s1 430 (gs_g Y0 P_M_crash 21 [some (gs_r 20 a0), some (gs_i a1)] [] (gs_wL d 21 s0 s1.toNatClampNeg s2)) := gs_gx 1 (fun _ => rfl)
theorem k_M_crash_21 (a0 : Nat) (a1 : Int32) (d : gs_D) : gs_g Y0 P_M_crash 21 [some (gs_r 20 a0), some (gs_i a1)] [] d = gs_g Y0 P_M_crash 2 [some (gs_r 20 a0), some (gs_i (a1 + gs_n 1))] [] d := gs_gs 1 (fun _ => rfl)
theorem k_M_crash_27 (a0 : Nat) (a1 : Int32) (d : gs_D) : gs_g Y0 P_M_crash 27 [some (gs_r 20 a0), some (gs_i a1)] [] d = some (none, d) := gs_an 1 (fun _ => rfl)
def I_M_position : List (Nat × Jvm.ClassFile.Instr × Nat) := [(0, .iload_n 1, 0), (1, .bipush 6, 0), (3, .invokestatic 29, 0), (6, .ifCond .eq 19, 25), (9, .iload_n 2, 0), (10, .iconst 3, 0), (11, .invokestatic 29, 0), (14, .ifCond .eq 11, 25), (17, .iload_n 3, 0), (18, .iconst 2, 0), (19, .invokestatic 29, 0), (22, .ifCond .ne 7, 29), (25, .ldc2_w 26, 0), (28, .lreturn, 0), (29, .iload_n 3, 0), (30, .ifCond .ne 16, 46), (33, .aload_n 0, 0), (34, .getfield 7, 0), (37, .iconst 3, 0), (38, .iload_n 1, 0), (39, .imul, 0), (40, .iload_n 2, 0), (41, .iadd, 0), (42, .laload, 0), (43, .goto 24, 67), (46, .iload_n 2, 0), (47, .ifCond .ne 7, 54), (50, .lconst 0, 0), (51, .goto 16, 67), (54, .aload_n 0, 0), (55, .getfield 7, 0), (58, .bipush 17, 0), (60, .iconst 2, 0), (61, .iload_n 1, 0), (62, .imul, 0), (63, .iadd, 0), (64, .iload_n 2, 0), (65, .iadd, 0), (66, .laload, 0), (67, .lreturn, 0)]
def F_M_position : List (Nat × Nat × Nat) := [(7, 5, 0)]
def K_M_position : List (Nat × gs_V) := [(26, gs_l (gs_m (-1)))]
noncomputable def C_M_position : List (Nat × Nat × Nat × gs_F) := [(29, 2, 1000, f_M_within)]
noncomputable def P_M_position : gs_P := (gs_lk I_M_position, gs_lk F_M_position, gs_lk K_M_position, gs_lk C_M_position)
noncomputable def f_M_position : gs_F := gs_f Y0 4 3 P_M_position
theorem e_M_position (a0 : Nat) (a1 : Int32) (a2 : Int32) (a3 : Int32) (d : gs_D) : f_M_position [(gs_r 20 a0), (gs_i a1), (gs_i a2), (gs_i a3)] d = gs_ck 3 (gs_g Y0 P_M_position 0 [some (gs_r 20 a0), some (gs_i a1), some (gs_i a2), some (gs_i a3)] [] d) := rfl
theorem k_M_position_0 (a0 : Nat) (a1 : Int32) (a2 : Int32) (a3 : Int32) (d : gs_D) : gs_g Y0 P_M_position 0 [some (gs_r 20 a0), some (gs_i a1), some (gs_i a2), some (gs_i a3)] [] d = gs_af (f_M_within [(gs_i a1), (gs_i (Int8.ofInt 6).toInt32)] d) [] (fun s9 d9 => gs_g Y0 P_M_position 6 [some (gs_r 20 a0), some (gs_i a1), some (gs_i a2), some (gs_i a3)] s9 d9) := gs_gc 3 (fun _ => rfl)
theorem k_M_position_6 (a0 : Nat) (a1 : Int32) (a2 : Int32) (a3 : Int32) (s0 : Int32) (d : gs_D) : gs_g Y0 P_M_position 6 [some (gs_r 20 a0), some (gs_i a1), some (gs_i a2), some (gs_i a3)] [(gs_i s0)] d = if s0 = 0 then gs_g Y0 P_M_position 25 [some (gs_r 20 a0), some (gs_i a1), some (gs_i a2), some (gs_i a3)] [] d else gs_g Y0 P_M_position 9 [some (gs_r 20 a0), some (gs_i a1), some (gs_i a2), some (gs_i a3)] [] d := gs_if 1 (fun _ => rfl)
theorem k_M_position_9 (a0 : Nat) (a1 : Int32) (a2 : Int32) (a3 : Int32) (d : gs_D) : gs_g Y0 P_M_position 9 [some (gs_r 20 a0), some (gs_i a1), some (gs_i a2), some (gs_i a3)] [] d = gs_af (f_M_within [(gs_i a2), (gs_i (gs_n 3))] d) [] (fun s9 d9 => gs_g Y0 P_M_position 14 [some (gs_r 20 a0), some (gs_i a1), some (gs_i a2), some (gs_i a3)] s9 d9) := gs_gc 3 (fun _ => rfl)
theorem k_M_position_14 (a0 : Nat) (a1 : Int32) (a2 : Int32) (a3 : Int32) (s0 : Int32) (d : gs_D) : gs_g Y0 P_M_position 14 [some (gs_r 20 a0), some (gs_i a1), some (gs_i a2), some (gs_i a3)] [(gs_i s0)] d = if s0 = 0 then gs_g Y0 P_M_position 25 [some (gs_r 20 a0), some (gs_i a1), some (gs_i a2), some (gs_i a3)] [] d else gs_g Y0 P_M_position 17 [some (gs_r 20 a0), some (gs_i a1), some (gs_i a2), some (gs_i a3)] [] d := gs_if 1 (fun _ => rfl)
theorem k_M_position_17 (a0 : Nat) (a1 : Int32) (a2 : Int32) (a3 : Int32) (d : gs_D) : gs_g Y0 P_M_position 17 [some (gs_r 20 a0), some (gs_i a1), some (gs_i a2), some (gs_i a3)] [] d = gs_af (f_M_within [(gs_i a3), (gs_i (gs_n 2))] d) [] (fun s9 d9 => gs_g Y0 P_M_position 22 [some (gs_r 20 a0), some (gs_i a1), some (gs_i a2), some (gs_i a3)] s9 d9) := gs_gc 3 (fun _ => rfl)
theorem k_M_position_22 (a0 : Nat) (a1 : Int32) (a2 : Int32) (a3 : Int32) (s0 : Int32) (d : gs_D) : gs_g Y0 P_M_position 22 [some (gs_r 20 a0), some (gs_i a1), some (gs_i a2), some (gs_i a3)] [(gs_i s0)] d = if ¬ s0 = 0 then gs_g Y0 P_M_position 29 [some (gs_r 20 a0), some (gs_i a1), some (gs_i a2), some (gs_i a3)] [] d else gs_g Y0 P_M_position 25 [some (gs_r 20 a0), some (gs_i a1), some (gs_i a2), some (gs_i a3)] [] d := gs_if 1 (fun _ => rfl)
theorem k_M_position_25 (a0 : Nat) (a1 : Int32) (a2 : Int32) (a3 : Int32) (d : gs_D) : gs_g Y0 P_M_position 25 [some (gs_r 20 a0), some (gs_i a1), some (gs_i a2), some (gs_i a3)] [] d = some (some (gs_l (gs_m (-1))), d) := gs_an 2 (fun _ => rfl)
theorem k_M_position_29 (a0 : Nat) (a1 : Int32) (a2 : Int32) (a3 : Int32) (d : gs_D) : gs_g Y0 P_M_position 29 [some (gs_r 20 a0), some (gs_i a1), some (gs_i a2), some (gs_i a3)] [] d = if ¬ a3 = 0 then gs_g Y0 P_M_position 46 [some (gs_r 20 a0), some (gs_i a1), some (gs_i a2), some (gs_i a3)] [] d else gs_g Y0 P_M_position 33 [some (gs_r 20 a0), some (gs_i a1), some (gs_i a2), some (gs_i a3)] [] d := gs_if 2 (fun _ => rfl)
theorem k_M_position_33 (a0 : Nat) (a1 : Int32) (a2 : Int32) (a3 : Int32) (d : gs_D) : gs_g Y0 P_M_position 33 [some (gs_r 20 a0), some (gs_i a1), some (gs_i a2), some (gs_i a3)] [] d = gs_ix (((gs_n 3) * a1) + a2) 430 (gs_g Y0 P_M_position 43 [some (gs_r 20 a0), some (gs_i a1), some (gs_i a2), some (gs_i a3)] [(gs_l (d.2 21 a0 (((gs_n 3) * a1) + a2).toNatClampNeg))] d) := gs_gx 8 (fun _ => rfl)
theorem k_M_position_43 (a0 : Nat) (a1 : Int32) (a2 : Int32) (a3 : Int32) (s0 : Int64) (d : gs_D) : gs_g Y0 P_M_position 43 [some (gs_r 20 a0), some (gs_i a1), some (gs_i a2), some (gs_i a3)] [(gs_l s0)] d = some (some (gs_l s0), d) := gs_an 2 (fun _ => rfl)
theorem k_M_position_46 (a0 : Nat) (a1 : Int32) (a2 : Int32) (a3 : Int32) (d : gs_D) : gs_g Y0 P_M_position 46 [some (gs_r 20 a0), some (gs_i a1), some (gs_i a2), some (gs_i a3)] [] d = if ¬ a2 = 0 then gs_g Y0 P_M_position 54 [some (gs_r 20 a0), some (gs_i a1), some (gs_i a2), some (gs_i a3)] [] d else gs_g Y0 P_M_position 50 [some (gs_r 20 a0), some (gs_i a1), some (gs_i a2), some (gs_i a3)] [] d := gs_if 2 (fun _ => rfl)
theorem k_M_position_50 (a0 : Nat) (a1 : Int32) (a2 : Int32) (a3 : Int32) (d : gs_D) : gs_g Y0 P_M_position 50 [some (gs_r 20 a0), some (gs_i a1), some (gs_i a2), some (gs_i a3)] [] d = some (some (gs_l gs_k0), d) := gs_an 3 (fun _ => rfl)
theorem k_M_position_54 (a0 : Nat) (a1 : Int32) (a2 : Int32) (a3 : Int32) (d : gs_D) : gs_g Y0 P_M_position 54 [some (gs_r 20 a0), some (gs_i a1), some (gs_i a2), some (gs_i a3)] [] d = gs_ix (((Int8.ofInt 17).toInt32 + ((gs_n 2) * a1)) + a2) 430 (gs_g Y0 P_M_position 67 [some (gs_r 20 a0), some (gs_i a1), some (gs_i a2), some (gs_i a3)] [(gs_l (d.2 21 a0 (((Int8.ofInt 17).toInt32 + ((gs_n 2) * a1)) + a2).toNatClampNeg))] d) := gs_gx 10 (fun _ => rfl)
theorem k_M_position_67 (a0 : Nat) (a1 : Int32) (a2 : Int32) (a3 : Int32) (s0 : Int64) (d : gs_D) : gs_g Y0 P_M_position 67 [some (gs_r 20 a0), some (gs_i a1), some (gs_i a2), some (gs_i a3)] [(gs_l s0)] d = some (some (gs_l s0), d) := gs_an 1 (fun _ => rfl)
def I_M_line : List (Nat × Jvm.ClassFile.Instr × Nat) := [(0, .iload_n 1, 0), (1, .bipush 6, 0), (3, .invokestatic 29, 0), (6, .ifCond .eq 11, 17), (9, .aload_n 0, 0), (10, .iload_n 1, 0), (11, .invokevirtual 47, 0), (14, .goto 6, 20), (17, .ldc2_w 26, 0), (20, .lreturn, 0)]
def F_M_line : List (Nat × Nat × Nat) := []
def K_M_line : List (Nat × gs_V) := [(26, gs_l (gs_m (-1)))]
noncomputable def C_M_line : List (Nat × Nat × Nat × gs_F) := [(29, 2, 1000, f_M_within), (47, 1, 5, f_M_lineOf)]
noncomputable def P_M_line : gs_P := (gs_lk I_M_line, gs_lk F_M_line, gs_lk K_M_line, gs_lk C_M_line)
noncomputable def f_M_line : gs_F := gs_f Y0 2 3 P_M_line
theorem e_M_line (a0 : Nat) (a1 : Int32) (d : gs_D) : f_M_line [(gs_r 20 a0), (gs_i a1)] d = gs_ck 3 (gs_g Y0 P_M_line 0 [some (gs_r 20 a0), some (gs_i a1)] [] d) := rfl
theorem k_M_line_0 (a0 : Nat) (a1 : Int32) (d : gs_D) : gs_g Y0 P_M_line 0 [some (gs_r 20 a0), some (gs_i a1)] [] d = gs_af (f_M_within [(gs_i a1), (gs_i (Int8.ofInt 6).toInt32)] d) [] (fun s9 d9 => gs_g Y0 P_M_line 6 [some (gs_r 20 a0), some (gs_i a1)] s9 d9) := gs_gc 3 (fun _ => rfl)
theorem k_M_line_6 (a0 : Nat) (a1 : Int32) (s0 : Int32) (d : gs_D) : gs_g Y0 P_M_line 6 [some (gs_r 20 a0), some (gs_i a1)] [(gs_i s0)] d = if s0 = 0 then gs_g Y0 P_M_line 17 [some (gs_r 20 a0), some (gs_i a1)] [] d else gs_g Y0 P_M_line 9 [some (gs_r 20 a0), some (gs_i a1)] [] d := gs_if 1 (fun _ => rfl)
theorem k_M_line_9 (a0 : Nat) (a1 : Int32) (d : gs_D) : gs_g Y0 P_M_line 9 [some (gs_r 20 a0), some (gs_i a1)] [] d = gs_af (f_M_lineOf [(gs_r 20 a0), (gs_i a1)] d) [] (fun s9 d9 => gs_g Y0 P_M_line 14 [some (gs_r 20 a0), some (gs_i a1)] s9 d9) := gs_gc 3 (fun _ => rfl)
theorem k_M_line_14 (a0 : Nat) (a1 : Int32) (s0 : Int64) (d : gs_D) : gs_g Y0 P_M_line 14 [some (gs_r 20 a0), some (gs_i a1)] [(gs_l s0)] d = some (some (gs_l s0), d) := gs_an 2 (fun _ => rfl)
theorem k_M_line_17 (a0 : Nat) (a1 : Int32) (d : gs_D) : gs_g Y0 P_M_line 17 [some (gs_r 20 a0), some (gs_i a1)] [] d = some (some (gs_l (gs_m (-1))), d) := gs_an 2 (fun _ => rfl)
def I_M_net : List (Nat × Jvm.ClassFile.Instr × Nat) := [(0, .iload_n 1, 0), (1, .iload_n 2, 0), (2, .invokestatic 107, 0), (5, .ifCond .eq 20, 25), (8, .aload_n 0, 0), (9, .getfield 7, 0), (12, .bipush 70, 0), (14, .bipush 6, 0), (16, .iload_n 1, 0), (17, .imul, 0), (18, .iadd, 0), (19, .iload_n 2, 0), (20, .iadd, 0), (21, .laload, 0), (22, .goto 4, 26), (25, .lconst 0, 0), (26, .lreturn, 0)]
def F_M_net : List (Nat × Nat × Nat) := [(7, 5, 0)]
def K_M_net : List (Nat × gs_V) := []
noncomputable def C_M_net : List (Nat × Nat × Nat × gs_F) := [(107, 2, 1000, f_M_pair)]
noncomputable def P_M_net : gs_P := (gs_lk I_M_net, gs_lk F_M_net, gs_lk K_M_net, gs_lk C_M_net)
noncomputable def f_M_net : gs_F := gs_f Y0 3 3 P_M_net
theorem e_M_net (a0 : Nat) (a1 : Int32) (a2 : Int32) (d : gs_D) : f_M_net [(gs_r 20 a0), (gs_i a1), (gs_i a2)] d = gs_ck 3 (gs_g Y0 P_M_net 0 [some (gs_r 20 a0), some (gs_i a1), some (gs_i a2)] [] d) := rfl
theorem k_M_net_0 (a0 : Nat) (a1 : Int32) (a2 : Int32) (d : gs_D) : gs_g Y0 P_M_net 0 [some (gs_r 20 a0), some (gs_i a1), some (gs_i a2)] [] d = gs_af (f_M_pair [(gs_i a1), (gs_i a2)] d) [] (fun s9 d9 => gs_g Y0 P_M_net 5 [some (gs_r 20 a0), some (gs_i a1), some (gs_i a2)] s9 d9) := gs_gc 3 (fun _ => rfl)
theorem k_M_net_5 (a0 : Nat) (a1 : Int32) (a2 : Int32) (s0 : Int32) (d : gs_D) : gs_g Y0 P_M_net 5 [some (gs_r 20 a0), some (gs_i a1), some (gs_i a2)] [(gs_i s0)] d = if s0 = 0 then gs_g Y0 P_M_net 25 [some (gs_r 20 a0), some (gs_i a1), some (gs_i a2)] [] d else gs_g Y0 P_M_net 8 [some (gs_r 20 a0), some (gs_i a1), some (gs_i a2)] [] d := gs_if 1 (fun _ => rfl)
theorem k_M_net_8 (a0 : Nat) (a1 : Int32) (a2 : Int32) (d : gs_D) : gs_g Y0 P_M_net 8 [some (gs_r 20 a0), some (gs_i a1), some (gs_i a2)] [] d = gs_ix (((Int8.ofInt 70).toInt32 + ((Int8.ofInt 6).toInt32 * a1)) + a2) 430 (gs_g Y0 P_M_net 22 [some (gs_r 20 a0), some (gs_i a1), some (gs_i a2)] [(gs_l (d.2 21 a0 (((Int8.ofInt 70).toInt32 + ((Int8.ofInt 6).toInt32 * a1)) + a2).toNatClampNeg))] d) := gs_gx 10 (fun _ => rfl)
theorem k_M_net_22 (a0 : Nat) (a1 : Int32) (a2 : Int32) (s0 : Int64) (d : gs_D) : gs_g Y0 P_M_net 22 [some (gs_r 20 a0), some (gs_i a1), some (gs_i a2)] [(gs_l s0)] d = some (some (gs_l s0), d) := gs_an 2 (fun _ => rfl)
theorem k_M_net_25 (a0 : Nat) (a1 : Int32) (a2 : Int32) (d : gs_D) : gs_g Y0 P_M_net 25 [some (gs_r 20 a0), some (gs_i a1), some (gs_i a2)] [] d = some (some (gs_l gs_k0), d) := gs_an 2 (fun _ => rfl)
def I_M_status : List (Nat × Jvm.ClassFile.Instr × Nat) := [(0, .iload_n 1, 0), (1, .aload_n 0, 0), (2, .invokevirtual 62, 0), (5, .invokestatic 29, 0), (8, .ifCond .eq 11, 19), (11, .aload_n 0, 0), (12, .iload_n 1, 0), (13, .invokevirtual 66, 0), (16, .goto 4, 20), (19, .iconst (-1), 0), (20, .ireturn, 0)]
def F_M_status : List (Nat × Nat × Nat) := []
def K_M_status : List (Nat × gs_V) := []
noncomputable def C_M_status : List (Nat × Nat × Nat × gs_F) := [(62, 0, 5, f_M_count), (29, 2, 1000, f_M_within), (66, 1, 5, f_M_fate)]
noncomputable def P_M_status : gs_P := (gs_lk I_M_status, gs_lk F_M_status, gs_lk K_M_status, gs_lk C_M_status)
noncomputable def f_M_status : gs_F := gs_f Y0 2 1 P_M_status
theorem e_M_status (a0 : Nat) (a1 : Int32) (d : gs_D) : f_M_status [(gs_r 20 a0), (gs_i a1)] d = gs_ck 1 (gs_g Y0 P_M_status 0 [some (gs_r 20 a0), some (gs_i a1)] [] d) := rfl
theorem k_M_status_0 (a0 : Nat) (a1 : Int32) (d : gs_D) : gs_g Y0 P_M_status 0 [some (gs_r 20 a0), some (gs_i a1)] [] d = gs_af (f_M_count [(gs_r 20 a0)] d) [(gs_i a1)] (fun s9 d9 => gs_g Y0 P_M_status 5 [some (gs_r 20 a0), some (gs_i a1)] s9 d9) := gs_gc 3 (fun _ => rfl)
theorem k_M_status_5 (a0 : Nat) (a1 : Int32) (s0 : Int32) (s1 : Int32) (d : gs_D) : gs_g Y0 P_M_status 5 [some (gs_r 20 a0), some (gs_i a1)] [(gs_i s1), (gs_i s0)] d = gs_af (f_M_within [(gs_i s0), (gs_i s1)] d) [] (fun s9 d9 => gs_g Y0 P_M_status 8 [some (gs_r 20 a0), some (gs_i a1)] s9 d9) := gs_gc 1 (fun _ => rfl)
theorem k_M_status_8 (a0 : Nat) (a1 : Int32) (s0 : Int32) (d : gs_D) : gs_g Y0 P_M_status 8 [some (gs_r 20 a0), some (gs_i a1)] [(gs_i s0)] d = if s0 = 0 then gs_g Y0 P_M_status 19 [some (gs_r 20 a0), some (gs_i a1)] [] d else gs_g Y0 P_M_status 11 [some (gs_r 20 a0), some (gs_i a1)] [] d := gs_if 1 (fun _ => rfl)
theorem k_M_status_11 (a0 : Nat) (a1 : Int32) (d : gs_D) : gs_g Y0 P_M_status 11 [some (gs_r 20 a0), some (gs_i a1)] [] d = gs_af (f_M_fate [(gs_r 20 a0), (gs_i a1)] d) [] (fun s9 d9 => gs_g Y0 P_M_status 16 [some (gs_r 20 a0), some (gs_i a1)] s9 d9) := gs_gc 3 (fun _ => rfl)
theorem k_M_status_16 (a0 : Nat) (a1 : Int32) (s0 : Int32) (d : gs_D) : gs_g Y0 P_M_status 16 [some (gs_r 20 a0), some (gs_i a1)] [(gs_i s0)] d = some (some (gs_i s0), d) := gs_an 2 (fun _ => rfl)
theorem k_M_status_19 (a0 : Nat) (a1 : Int32) (d : gs_D) : gs_g Y0 P_M_status 19 [some (gs_r 20 a0), some (gs_i a1)] [] d = some (some (gs_i (gs_n (-1))), d) := gs_an 2 (fun _ => rfl)
def I_M_waiting : List (Nat × Jvm.ClassFile.Instr × Nat) := [(0, .aload_n 0, 0), (1, .invokevirtual 82, 0), (4, .iload_n 1, 0), (5, .aload_n 0, 0), (6, .getfield 58, 0), (9, .invokestatic 29, 0), (12, .ifCond .eq 12, 24), (15, .aload_n 0, 0), (16, .getfield 16, 0), (19, .iload_n 1, 0), (20, .iaload, 0), (21, .goto 4, 25), (24, .iconst (-1), 0), (25, .ireturn, 0)]
def F_M_waiting : List (Nat × Nat × Nat) := [(58, 5, 3), (16, 5, 2)]
def K_M_waiting : List (Nat × gs_V) := []
noncomputable def C_M_waiting : List (Nat × Nat × Nat × gs_F) := [(82, 0, 5, f_M_order), (29, 2, 1000, f_M_within)]
noncomputable def P_M_waiting : gs_P := (gs_lk I_M_waiting, gs_lk F_M_waiting, gs_lk K_M_waiting, gs_lk C_M_waiting)
noncomputable def f_M_waiting : gs_F := gs_f Y0 2 1 P_M_waiting
theorem e_M_waiting (a0 : Nat) (a1 : Int32) (d : gs_D) : f_M_waiting [(gs_r 20 a0), (gs_i a1)] d = gs_ck 1 (gs_g Y0 P_M_waiting 0 [some (gs_r 20 a0), some (gs_i a1)] [] d) := rfl
theorem k_M_waiting_0 (a0 : Nat) (a1 : Int32) (d : gs_D) : gs_g Y0 P_M_waiting 0 [some (gs_r 20 a0), some (gs_i a1)] [] d = gs_af (f_M_order [(gs_r 20 a0)] d) [] (fun s9 d9 => gs_g Y0 P_M_waiting 4 [some (gs_r 20 a0), some (gs_i a1)] s9 d9) := gs_gc 2 (fun _ => rfl)
theorem k_M_waiting_4 (a0 : Nat) (a1 : Int32) (d : gs_D) : gs_g Y0 P_M_waiting 4 [some (gs_r 20 a0), some (gs_i a1)] [] d = gs_af (f_M_within [(gs_i a1), (gs_i (d.1 20 a0 3))] d) [] (fun s9 d9 => gs_g Y0 P_M_waiting 12 [some (gs_r 20 a0), some (gs_i a1)] s9 d9) := gs_gc 4 (fun _ => rfl)
theorem k_M_waiting_12 (a0 : Nat) (a1 : Int32) (s0 : Int32) (d : gs_D) : gs_g Y0 P_M_waiting 12 [some (gs_r 20 a0), some (gs_i a1)] [(gs_i s0)] d = if s0 = 0 then gs_g Y0 P_M_waiting 24 [some (gs_r 20 a0), some (gs_i a1)] [] d else gs_g Y0 P_M_waiting 15 [some (gs_r 20 a0), some (gs_i a1)] [] d := gs_if 1 (fun _ => rfl)
theorem k_M_waiting_15 (a0 : Nat) (a1 : Int32) (d : gs_D) : gs_g Y0 P_M_waiting 15 [some (gs_r 20 a0), some (gs_i a1)] [] d = gs_ix a1 10 (gs_g Y0 P_M_waiting 21 [some (gs_r 20 a0), some (gs_i a1)] [(gs_i (d.1 23 a0 a1.toNatClampNeg))] d) := gs_gx 4 (fun _ => rfl)
theorem k_M_waiting_21 (a0 : Nat) (a1 : Int32) (s0 : Int32) (d : gs_D) : gs_g Y0 P_M_waiting 21 [some (gs_r 20 a0), some (gs_i a1)] [(gs_i s0)] d = some (some (gs_i s0), d) := gs_an 2 (fun _ => rfl)
theorem k_M_waiting_24 (a0 : Nat) (a1 : Int32) (d : gs_D) : gs_g Y0 P_M_waiting 24 [some (gs_r 20 a0), some (gs_i a1)] [] d = some (some (gs_i (gs_n (-1))), d) := gs_an 2 (fun _ => rfl)
def I_M_behind : List (Nat × Jvm.ClassFile.Instr × Nat) := [(0, .aload_n 0, 0), (1, .invokevirtual 82, 0), (4, .iload_n 1, 0), (5, .aload_n 0, 0), (6, .getfield 58, 0), (9, .invokestatic 29, 0), (12, .ifCond .eq 11, 23), (15, .aload_n 0, 0), (16, .iload_n 1, 0), (17, .invokevirtual 85, 0), (20, .goto 4, 24), (23, .iconst (-1), 0), (24, .ireturn, 0)]
def F_M_behind : List (Nat × Nat × Nat) := [(58, 5, 3)]
def K_M_behind : List (Nat × gs_V) := []
noncomputable def C_M_behind : List (Nat × Nat × Nat × gs_F) := [(82, 0, 5, f_M_order), (29, 2, 1000, f_M_within), (85, 1, 5, f_M_behindCount)]
noncomputable def P_M_behind : gs_P := (gs_lk I_M_behind, gs_lk F_M_behind, gs_lk K_M_behind, gs_lk C_M_behind)
noncomputable def f_M_behind : gs_F := gs_f Y0 2 1 P_M_behind
theorem e_M_behind (a0 : Nat) (a1 : Int32) (d : gs_D) : f_M_behind [(gs_r 20 a0), (gs_i a1)] d = gs_ck 1 (gs_g Y0 P_M_behind 0 [some (gs_r 20 a0), some (gs_i a1)] [] d) := rfl
theorem k_M_behind_0 (a0 : Nat) (a1 : Int32) (d : gs_D) : gs_g Y0 P_M_behind 0 [some (gs_r 20 a0), some (gs_i a1)] [] d = gs_af (f_M_order [(gs_r 20 a0)] d) [] (fun s9 d9 => gs_g Y0 P_M_behind 4 [some (gs_r 20 a0), some (gs_i a1)] s9 d9) := gs_gc 2 (fun _ => rfl)
theorem k_M_behind_4 (a0 : Nat) (a1 : Int32) (d : gs_D) : gs_g Y0 P_M_behind 4 [some (gs_r 20 a0), some (gs_i a1)] [] d = gs_af (f_M_within [(gs_i a1), (gs_i (d.1 20 a0 3))] d) [] (fun s9 d9 => gs_g Y0 P_M_behind 12 [some (gs_r 20 a0), some (gs_i a1)] s9 d9) := gs_gc 4 (fun _ => rfl)
theorem k_M_behind_12 (a0 : Nat) (a1 : Int32) (s0 : Int32) (d : gs_D) : gs_g Y0 P_M_behind 12 [some (gs_r 20 a0), some (gs_i a1)] [(gs_i s0)] d = if s0 = 0 then gs_g Y0 P_M_behind 23 [some (gs_r 20 a0), some (gs_i a1)] [] d else gs_g Y0 P_M_behind 15 [some (gs_r 20 a0), some (gs_i a1)] [] d := gs_if 1 (fun _ => rfl)
theorem k_M_behind_15 (a0 : Nat) (a1 : Int32) (d : gs_D) : gs_g Y0 P_M_behind 15 [some (gs_r 20 a0), some (gs_i a1)] [] d = gs_af (f_M_behindCount [(gs_r 20 a0), (gs_i a1)] d) [] (fun s9 d9 => gs_g Y0 P_M_behind 20 [some (gs_r 20 a0), some (gs_i a1)] s9 d9) := gs_gc 3 (fun _ => rfl)
theorem k_M_behind_20 (a0 : Nat) (a1 : Int32) (s0 : Int32) (d : gs_D) : gs_g Y0 P_M_behind 20 [some (gs_r 20 a0), some (gs_i a1)] [(gs_i s0)] d = some (some (gs_i s0), d) := gs_an 2 (fun _ => rfl)
theorem k_M_behind_23 (a0 : Nat) (a1 : Int32) (d : gs_D) : gs_g Y0 P_M_behind 23 [some (gs_r 20 a0), some (gs_i a1)] [] d = some (some (gs_i (gs_n (-1))), d) := gs_an 2 (fun _ => rfl)
end
section
/-! Sorted lists of numbers. -/
def gs_srt (key : Nat → Int) (l : List Nat) : Prop := l.Pairwise fun a b => key a < key b
theorem gs_srt_uq {key : Nat → Int} : ∀ {l1 l2 : List Nat}, gs_srt key l1 → gs_srt key l2 → (∀ x, x ∈ l1 ↔ x ∈ l2) → l1 = l2
  | [], [], _, _, _ => rfl
  | [], b :: l2, _, _, h => absurd ((h b).mpr List.mem_cons_self) (by simp)
  | a :: l1, [], _, _, h => absurd ((h a).mp List.mem_cons_self) (by simp)
  | a :: l1, b :: l2, h1, h2, h => by
    obtain ⟨p1, q1⟩ := List.pairwise_cons.mp h1
    obtain ⟨p2, q2⟩ := List.pairwise_cons.mp h2
    have e : a = b := by
      rcases List.mem_cons.mp ((h a).mp List.mem_cons_self) with z | z
      · exact z
      · rcases List.mem_cons.mp ((h b).mpr List.mem_cons_self) with y | y
        · exact y.symm
        · have x1 := p2 a z
          have x2 := p1 b y
          omega
    subst e
    have r : ∀ x, x ∈ l1 ↔ x ∈ l2 := by
      intro x
      constructor
      · intro z
        rcases List.mem_cons.mp ((h x).mp (List.mem_cons_of_mem _ z)) with y | y
        · subst y
          have := p1 x z
          omega
        · exact y
      · intro z
        rcases List.mem_cons.mp ((h x).mpr (List.mem_cons_of_mem _ z)) with y | y
        · subst y
          have := p2 x z
          omega
        · exact y
    rw [gs_srt_uq q1 q2 r]
theorem gs_getD {l : List Nat} {i a : Nat} (h : i < l.length) : l.getD i a = l[i] := by
  rw [List.getD_eq_getElem?_getD, List.getElem?_eq_getElem h]
  rfl
theorem gs_srt_sub {key : Nat → Int} {l1 l2 : List Nat} (h : l1.Sublist l2) (h2 : gs_srt key l2) : gs_srt key l1 := List.Pairwise.sublist h h2
theorem gs_srt_congr {key key' : Nat → Int} {l : List Nat} (h : ∀ x, x ∈ l → key x = key' x) (h2 : gs_srt key l) : gs_srt key' l := by
  refine List.Pairwise.imp_of_mem (fun {a b} ha hb hab => ?_) h2
  rw [← h a ha, ← h b hb]
  exact hab
/-- where a new one goes in: behind all that are not after it -/
theorem gs_srt_ins {key : Nat → Int} {l : List Nat} {i p : Nat} (h : gs_srt key l) (hp : p ≤ l.length) (h1 : ∀ k, k < p → key (l.getD k 0) < key i) (h2 : ∀ k, p ≤ k → k < l.length → key i < key (l.getD k 0)) : gs_srt key (l.take p ++ i :: l.drop p) := by
  have hlt : ∀ x, x ∈ l.take p → key x < key i := by
    intro x hx
    obtain ⟨k, hk, e⟩ := List.getElem_of_mem hx
    rw [List.length_take] at hk
    rw [List.getElem_take] at e
    have := h1 k (by omega)
    rw [gs_getD (by omega), e] at this
    exact this
  have hgt : ∀ x, x ∈ l.drop p → key i < key x := by
    intro x hx
    obtain ⟨k, hk, e⟩ := List.getElem_of_mem hx
    rw [List.length_drop] at hk
    rw [List.getElem_drop] at e
    have := h2 (p + k) (by omega) (by omega)
    rw [gs_getD (by omega), e] at this
    exact this
  refine List.pairwise_append.mpr ⟨gs_srt_sub (List.take_sublist _ _) h, List.pairwise_cons.mpr ⟨fun x hx => hgt x hx, gs_srt_sub (List.drop_sublist _ _) h⟩, ?_⟩
  intro a ha b hb
  rcases List.mem_cons.mp hb with z | z
  · rw [z]
    exact hlt a ha
  · exact Int.lt_trans (hlt a ha) (hgt b z)
theorem gs_srt_nd {key : Nat → Int} {l : List Nat} (h : gs_srt key l) {i j : Nat} (hi : i < l.length) (hj : j < l.length) (e : l.getD i 0 = l.getD j 0) : i = j := by
  rw [gs_getD hi, gs_getD hj] at e
  have hp := List.pairwise_iff_getElem.mp h
  rcases Nat.lt_trichotomy i j with z | z | z
  · have := hp i j hi hj z
    rw [e] at this
    omega
  · exact z
  · have := hp j i hj hi z
    rw [e] at this
    omega
/-! What is kept: S.1 f j with f = 0 held, 1 pledged, 2 prices, 3 haircuts, 4 limits, 5 nets, 6 the day and the count, 10 + i the i-th instruction (giver, taker, security, amount, money, priority, status); S.2 those that wait. -/
abbrev gs_S : Type := (Nat → Nat → Int) × List Nat
def gs_u (S : gs_S) (f j : Nat) (x : Int) : gs_S := (fun a b => if a = f ∧ b = j then x else S.1 a b, S.2)
def gs_ql (S : gs_S) (l : List Nat) : gs_S := (S.1, l)
def gs_key (S : gs_S) (i : Nat) : Int := S.1 (10 + i) 5 * 64 + i
def gs_wp (S : gs_S) (c : Nat) (pr : Int) : List Nat := (List.range c).filter fun i => decide (S.1 (10 + i) 6 = 0 ∧ S.1 (10 + i) 5 = pr)
/-- those that wait, in their order -/
def gs_wl (S : gs_S) : List Nat := gs_wp S (S.1 6 1).toNat 0 ++ (gs_wp S (S.1 6 1).toNat 1 ++ gs_wp S (S.1 6 1).toNat 2)
theorem gs_wp_mem {S : gs_S} {c : Nat} {pr : Int} {i : Nat} : i ∈ gs_wp S c pr ↔ i < c ∧ S.1 (10 + i) 6 = 0 ∧ S.1 (10 + i) 5 = pr := by
  unfold gs_wp
  rw [List.mem_filter, List.mem_range, decide_eq_true_iff]
theorem gs_wl_mem {S : gs_S} (hp : ∀ i : Nat, (i : Int) < S.1 6 1 → 0 ≤ S.1 (10 + i) 5 ∧ S.1 (10 + i) 5 < 3) {i : Nat} : i ∈ gs_wl S ↔ (i : Int) < S.1 6 1 ∧ S.1 (10 + i) 6 = 0 := by
  unfold gs_wl
  rw [List.mem_append, List.mem_append, gs_wp_mem, gs_wp_mem, gs_wp_mem]
  constructor
  · intro h
    have : (i : Int) < S.1 6 1 := by omega
    omega
  · intro h
    have := hp i h.1
    omega
theorem gs_wp_srt {S : gs_S} {c : Nat} {pr : Int} : gs_srt (gs_key S) (gs_wp S c pr) := by
  have h : (gs_wp S c pr).Pairwise (· < ·) := List.Pairwise.sublist List.filter_sublist List.pairwise_lt_range
  refine List.Pairwise.imp_of_mem (fun {a b} ha hb hab => ?_) h
  have x1 := gs_wp_mem.mp ha
  have x2 := gs_wp_mem.mp hb
  unfold gs_key
  rw [x1.2.2, x2.2.2]
  omega
theorem gs_wl_srt {S : gs_S} (hc : S.1 6 1 ≤ 40) : gs_srt (gs_key S) (gs_wl S) := by
  have key : ∀ (p q : Int) a b, p < q → a ∈ gs_wp S (S.1 6 1).toNat p → b ∈ gs_wp S (S.1 6 1).toNat q → gs_key S a < gs_key S b := by
    intro p q a b hpq ha hb
    have x1 := gs_wp_mem.mp ha
    have x2 := gs_wp_mem.mp hb
    unfold gs_key
    rw [x1.2.2, x2.2.2]
    omega
  refine List.pairwise_append.mpr ⟨gs_wp_srt, List.pairwise_append.mpr ⟨gs_wp_srt, gs_wp_srt, fun a ha b hb => key 1 2 a b (by omega) ha hb⟩, fun a ha b hb => ?_⟩
  rcases List.mem_append.mp hb with z | z
  · exact key 0 1 a b (by omega) ha z
  · exact key 0 2 a b (by omega) ha z
/-- a sorted list of those that wait is the list -/
theorem gs_wl_uq {S : gs_S} {l : List Nat} (hc : S.1 6 1 ≤ 40) (hp : ∀ i : Nat, (i : Int) < S.1 6 1 → 0 ≤ S.1 (10 + i) 5 ∧ S.1 (10 + i) 5 < 3) (h : gs_srt (gs_key S) l) (hm : ∀ i, i ∈ l ↔ (i : Int) < S.1 6 1 ∧ S.1 (10 + i) 6 = 0) : l = gs_wl S :=
  gs_srt_uq h (gs_wl_srt hc) fun x => (hm x).trans (gs_wl_mem hp).symm
end
section
/-! Closed and covered sets (RESOLVING), as mathematics: places 0 .. n-1 in their order, e k x: what settling the k-th does to position x, db k x: it debits x. -/
def gs_sum (f : Nat → Int) : Nat → Int
  | 0 => 0
  | n + 1 => gs_sum f n + f n
theorem gs_sum_le {f g : Nat → Int} : ∀ {n : Nat}, (∀ k, k < n → f k ≤ g k) → gs_sum f n ≤ gs_sum g n
  | 0, _ => Int.le_refl _
  | n + 1, h => by
    have a := gs_sum_le (n := n) fun k hk => h k (by omega)
    have b := h n (by omega)
    simp only [gs_sum]
    omega
theorem gs_sum_eq {f g : Nat → Int} {n : Nat} (h : ∀ k, k < n → f k = g k) : gs_sum f n = gs_sum g n := by
  induction n with
  | zero => rfl
  | succ n ih =>
    simp only [gs_sum]
    rw [ih fun k hk => h k (by omega), h n (by omega)]
theorem gs_sum_0 {f : Nat → Int} {n : Nat} (h : ∀ k, k < n → f k = 0) : gs_sum f n = 0 := by
  induction n with
  | zero => rfl
  | succ n ih =>
    simp only [gs_sum]
    rw [ih fun k hk => h k (by omega), h n (by omega)]
    rfl
/-- one term more or less -/
theorem gs_sum_up {f g : Nat → Int} {n k : Nat} (hk : k < n) (h : ∀ j, j < n → j ≠ k → g j = f j) : gs_sum g n = gs_sum f n + (g k - f k) := by
  induction n with
  | zero => omega
  | succ n ih =>
    simp only [gs_sum]
    by_cases e : k = n
    · subst e
      rw [gs_sum_eq (f := g) (g := f) fun j hj => h j (by omega) (by omega)]
      omega
    · rw [ih (by omega) fun j hj => h j (by omega), h n (by omega) (fun z => e z.symm)]
      omega
def gs_pos (e : Nat → Nat → Int) (C : Nat → Bool) (n x : Nat) : Int := gs_sum (fun k => if C k = true then e k x else 0) n
def gs_cl (mt : Nat → Nat → Bool) (n : Nat) (U : Nat → Bool) : Prop := ∀ k j, k < n → j < k → U k = true → mt k j = true → U j = true
def gs_cv2 (e : Nat → Nat → Int) (r : Nat → Int) (n N : Nat) (U : Nat → Bool) : Prop := ∀ x, x < N → 0 ≤ r x + gs_pos e U n x
/-- the last that debits what is below its floor is in no closed and covered set -/
theorem gs_drop_ok {e : Nat → Nat → Int} {db : Nat → Nat → Bool} {mt : Nat → Nat → Bool} {r : Nat → Int} {n N x k : Nat} {C U : Nat → Bool} (hd : ∀ k, k < n → e k x < 0 → db k x = true) (hm : ∀ k j, k < n → j < k → db k x = true → db j x = true → mt k j = true) (hx : x < N) (hUC : ∀ k, k < n → U k = true → C k = true) (hc : gs_cl mt n U) (hv : gs_cv2 e r n N U) (hb : r x + gs_pos e C n x < 0) (hk : k < n) (hdk : db k x = true) (hl : ∀ j, k < j → j < n → C j = true → ¬ db j x = true) : ¬ U k = true := by
  intro hU
  have a := hv x hx
  have b : gs_pos e U n x ≤ gs_pos e C n x := by
    refine gs_sum_le fun j hj => ?_
    by_cases h1 : U j = true
    · simp only [h1, hUC j hj h1, if_true]
      exact Int.le_refl _
    · rw [if_neg h1]
      by_cases h2 : C j = true
      · rw [if_pos h2]
        refine Int.not_lt.mp fun h3 => ?_
        have h4 := hd j hj h3
        rcases Nat.lt_trichotomy j k with h5 | h5 | h5
        · exact h1 (hc k j hk h5 hU (hm k j hk h5 hdk h4))
        · subst h5; exact h1 hU
        · exact hl j h5 hj h2 h4
      · rw [if_neg h2]
        exact Int.le_refl _
  omega
/-- below its floor: one of the set debits it -/
theorem gs_below {e : Nat → Nat → Int} {db : Nat → Nat → Bool} {r : Nat → Int} {n x : Nat} {C : Nat → Bool} (hd : ∀ k, k < n → e k x < 0 → db k x = true) (hr : 0 ≤ r x) (hb : r x + gs_pos e C n x < 0) : ∃ k, k < n ∧ C k = true ∧ db k x = true := by
  refine Classical.byContradiction fun hno => ?_
  have a : (0 : Int) ≤ gs_pos e C n x := by
    have : gs_sum (fun _ => 0) n ≤ gs_pos e C n x := by
      refine gs_sum_le fun j hj => ?_
      by_cases h2 : C j = true
      · rw [if_pos h2]
        exact Int.not_lt.mp fun h3 => hno ⟨j, hj, h2, hd j hj h3⟩
      · rw [if_neg h2]
        exact Int.le_refl _
    rwa [gs_sum_0 fun _ _ => rfl] at this
  omega
end
section
/-! One round of taking back: the last that debits what is below its floor goes, and what is behind one that is gone. -/
def gs_bd (mt : Nat → Nat → Bool) (C : Nat → Bool) (j : Nat) : Bool := (List.range j).any fun i => !C i && mt j i
theorem gs_bd_t {mt : Nat → Nat → Bool} {C : Nat → Bool} {j : Nat} : gs_bd mt C j = true ↔ ∃ i, i < j ∧ C i = false ∧ mt j i = true := by
  unfold gs_bd
  rw [List.any_eq_true]
  constructor
  · rintro ⟨i, hi, h⟩
    rw [Bool.and_eq_true, Bool.not_eq_true'] at h
    exact ⟨i, List.mem_range.mp hi, h.1, h.2⟩
  · rintro ⟨i, hi, h1, h2⟩
    exact ⟨i, List.mem_range.mpr hi, by rw [h1, h2]; rfl⟩
/-- what is left of C when k is dropped -/
def gs_left (mt : Nat → Nat → Bool) (n k : Nat) (C C2 : Nat → Bool) : Prop := (∀ j, j < k → C2 j = C j) ∧ C2 k = false ∧ (∀ j, k < j → j < n → C2 j = (C j && !gs_bd mt C2 j))
section DR
variable {e : Nat → Nat → Int} {db : Nat → Nat → Bool} {mt : Nat → Nat → Bool} {r : Nat → Int} {n N x k : Nat} {C C2 U : Nat → Bool}
theorem gs_left_sub (h : gs_left mt n k C C2) : ∀ j, j < n → C2 j = true → C j = true := by
  intro j hj hc
  rcases Nat.lt_trichotomy j k with z | z | z
  · rw [← h.1 j z]; exact hc
  · rw [z, h.2.1] at hc; cases hc
  · rw [h.2.2 j z hj, Bool.and_eq_true] at hc
    exact hc.1
theorem gs_left_cl (h : gs_left mt n k C C2) (hc : gs_cl mt n C) : gs_cl mt n C2 := by
  intro j i hj hi hU hm
  rcases Nat.lt_trichotomy j k with z | z | z
  · rw [h.1 i (by omega)]
    exact hc j i hj hi (by rw [← h.1 j z]; exact hU) hm
  · rw [z, h.2.1] at hU; cases hU
  · rw [h.2.2 j z hj, Bool.and_eq_true, Bool.not_eq_true'] at hU
    refine Classical.byContradiction fun hn => ?_
    have : gs_bd mt C2 j = true := gs_bd_t.mpr ⟨i, hi, by cases hx : C2 i; rfl; exact absurd hx hn, hm⟩
    rw [this] at hU
    cases hU.2
theorem gs_left_max (h : gs_left mt n k C C2) (hd : ∀ k, k < n → e k x < 0 → db k x = true) (hm : ∀ k j, k < n → j < k → db k x = true → db j x = true → mt k j = true) (hx : x < N) (hUC : ∀ k, k < n → U k = true → C k = true) (hc : gs_cl mt n U) (hv : gs_cv2 e r n N U) (hb : r x + gs_pos e C n x < 0) (hk : k < n) (hdk : db k x = true) (hl : ∀ j, k < j → j < n → C j = true → ¬ db j x = true) : ∀ j, j < n → U j = true → C2 j = true := by
  intro j
  induction j using Nat.strongRecOn with
  | _ j ih =>
    intro hj hU
    rcases Nat.lt_trichotomy j k with z | z | z
    · rw [h.1 j z]; exact hUC j hj hU
    · subst z
      exact absurd hU (gs_drop_ok hd hm hx hUC hc hv hb hk hdk hl)
    · rw [h.2.2 j z hj, hUC j hj hU]
      cases hbd : gs_bd mt C2 j
      · rfl
      · obtain ⟨i, hi, h1, h2⟩ := gs_bd_t.mp hbd
        have := ih i hi (by omega) (hc j i hj hi hU h2)
        rw [h1] at this
        cases this
end DR
def gs_cnt (C : Nat → Bool) (n : Nat) : Int := gs_sum (fun k => gs_z (C k)) n
theorem gs_z01 (b : Bool) : gs_z b = 0 ∨ gs_z b = 1 := by
  cases b
  · exact Or.inl rfl
  · exact Or.inr rfl
theorem gs_cnt_nn (C : Nat → Bool) : ∀ n, 0 ≤ gs_cnt C n ∧ gs_cnt C n ≤ n
  | 0 => by simp [gs_cnt, gs_sum]
  | n + 1 => by
    have a := gs_cnt_nn C n
    have b := gs_z01 (C n)
    unfold gs_cnt at a ⊢
    simp only [gs_sum]
    omega
theorem gs_cnt_lt {C C2 : Nat → Bool} {n k : Nat} (h : ∀ j, j < n → C2 j = true → C j = true) (hk : k < n) (h1 : C k = true) (h2 : C2 k = false) : gs_cnt C2 n < gs_cnt C n := by
  have le : ∀ m, m ≤ n → gs_cnt C2 m ≤ gs_cnt C m := by
    intro m hm
    refine gs_sum_le fun j hj => ?_
    cases hc : C2 j
    · have := gs_z01 (C j)
      rw [gs_zt_f]
      omega
    · rw [h j (by omega) hc]
      exact Int.le_refl _
  have lt : ∀ m, k < m → m ≤ n → gs_cnt C2 m < gs_cnt C m := by
    intro m
    induction m with
    | zero => intro z; omega
    | succ m ih =>
      intro z hm
      have s1 : gs_cnt C2 (m + 1) = gs_cnt C2 m + gs_z (C2 m) := rfl
      have s2 : gs_cnt C (m + 1) = gs_cnt C m + gs_z (C m) := rfl
      by_cases hkm : k = m
      · subst hkm
        have := le k (by omega)
        rw [s1, s2, h1, h2, gs_zt_t, gs_zt_f]
        omega
      · have a := ih (by omega) (by omega)
        have b : gs_z (C2 m) ≤ gs_z (C m) := by
          cases hc : C2 m
          · have := gs_z01 (C m)
            rw [gs_zt_f]
            omega
          · rw [h m (by omega) hc]
            exact Int.le_refl _
        rw [s1, s2]
        omega
  exact lt n hk (Nat.le_refl n)
theorem gs_cnt_0 {C : Nat → Bool} {n : Nat} (h : gs_cnt C n ≤ 0) : ∀ k, k < n → C k = false := by
  intro k hk
  cases hc : C k
  · rfl
  · have := gs_cnt_lt (C := C) (C2 := fun _ => false) (n := n) (k := k) (fun _ _ z => by cases z) hk hc rfl
    have := (gs_cnt_nn (fun _ => false) n).1
    omega
end
section
theorem gs_wI_o {d : gs_D} {t i j a b c : Nat} {x : Int32} (h : ¬ (a = t ∧ b = i ∧ c = j)) : (gs_wI d t i j x).1 a b c = d.1 a b c := if_neg h
theorem gs_wL_o {d : gs_D} {t i j a b c : Nat} {x : Int64} (h : ¬ (a = t ∧ b = i ∧ c = j)) : (gs_wL d t i j x).2 a b c = d.2 a b c := if_neg h
theorem gs_wI_s {d : gs_D} {t i j : Nat} {x : Int32} : (gs_wI d t i j x).1 t i j = x := if_pos ⟨rfl, rfl, rfl⟩
theorem gs_wL_s {d : gs_D} {t i j : Nat} {x : Int64} : (gs_wL d t i j x).2 t i j = x := if_pos ⟨rfl, rfl, rfl⟩
/-! The component's book b holds S; the model's row (tag t) holds S. -/
def gs_Cl (b : Nat) (d : gs_D) (S : gs_S) : Prop :=
  ((∀ j, j < 18 → d.2 5 b j = gs_m (S.1 0 j)) ∧ (∀ j, j < 18 → d.2 6 b j = gs_m (S.1 1 j)))
  ∧ ((∀ j, j < 3 → d.1 7 b j = gs_n (S.1 2 j)) ∧ (∀ j, j < 3 → d.1 8 b j = gs_n (S.1 3 j)))
  ∧ ((∀ j, j < 36 → d.1 9 b j = gs_n (S.1 4 j)) ∧ (∀ j, j < 36 → d.2 10 b j = gs_m (S.1 5 j)))
  ∧ (d.1 1 b 0 = gs_n (S.1 6 0) ∧ d.1 4 b 1 = gs_n (S.1 6 1) ∧ d.1 4 b 3 = gs_n S.2.length)
  ∧ (∀ i k : Nat, (i : Int) < S.1 6 1 → k < 7 → d.1 13 (gs_ii b i) k = gs_n (S.1 (10 + i) k))
  ∧ (∀ k : Nat, k < S.2.length → d.1 12 b k = gs_n (S.2.getD k 0 : Nat))
section CL
variable {b : Nat} {d : gs_D} {S : gs_S}
theorem gs_Cl.h (h : gs_Cl b d S) : ∀ j, j < 18 → d.2 5 b j = gs_m (S.1 0 j) := h.1.1
theorem gs_Cl.p (h : gs_Cl b d S) : ∀ j, j < 18 → d.2 6 b j = gs_m (S.1 1 j) := h.1.2
theorem gs_Cl.pr (h : gs_Cl b d S) : ∀ j, j < 3 → d.1 7 b j = gs_n (S.1 2 j) := h.2.1.1
theorem gs_Cl.hc (h : gs_Cl b d S) : ∀ j, j < 3 → d.1 8 b j = gs_n (S.1 3 j) := h.2.1.2
theorem gs_Cl.li (h : gs_Cl b d S) : ∀ j, j < 36 → d.1 9 b j = gs_n (S.1 4 j) := h.2.2.1.1
theorem gs_Cl.nt (h : gs_Cl b d S) : ∀ j, j < 36 → d.2 10 b j = gs_m (S.1 5 j) := h.2.2.1.2
theorem gs_Cl.dy (h : gs_Cl b d S) : d.1 1 b 0 = gs_n (S.1 6 0) := h.2.2.2.1.1
theorem gs_Cl.ct (h : gs_Cl b d S) : d.1 4 b 1 = gs_n (S.1 6 1) := h.2.2.2.1.2.1
theorem gs_Cl.wt (h : gs_Cl b d S) : d.1 4 b 3 = gs_n S.2.length := h.2.2.2.1.2.2
theorem gs_Cl.is (h : gs_Cl b d S) : ∀ i k : Nat, (i : Int) < S.1 6 1 → k < 7 → d.1 13 (gs_ii b i) k = gs_n (S.1 (10 + i) k) := h.2.2.2.2.1
theorem gs_Cl.od (h : gs_Cl b d S) : ∀ k : Nat, k < S.2.length → d.1 12 b k = gs_n (S.2.getD k 0 : Nat) := h.2.2.2.2.2
theorem gs_Cl.wH (h : gs_Cl b d S) (j : Nat) (x : Int) : gs_Cl b (gs_wL d 5 b j (gs_m x)) (gs_u S 0 j x) := by
  refine ⟨⟨fun k hk => ?_, fun k hk => ?_⟩, ⟨fun k hk => ?_, fun k hk => ?_⟩, ⟨fun k hk => ?_, fun k hk => ?_⟩, ⟨?_, ?_, ?_⟩, fun i k hi hk => ?_, fun k hk => ?_⟩
  · by_cases e : k = j
    · simp [gs_rL, gs_u, e]
    · simp [gs_rL, gs_u, e, h.h k hk]
  · simp [gs_rL, gs_u, h.p k hk]
  · simp [gs_rLI, gs_u, h.pr k hk]
  · simp [gs_rLI, gs_u, h.hc k hk]
  · simp [gs_rLI, gs_u, h.li k hk]
  · simp [gs_rL, gs_u, h.nt k hk]
  · simp [gs_rLI, gs_u, h.dy]
  · simp [gs_rLI, gs_u, h.ct]
  · simp [gs_rLI, gs_u, h.wt]
  · have e : (gs_u S 0 j x).1 (10 + i) k = S.1 (10 + i) k := if_neg (by omega)
    have hi : (i : Int) < S.1 6 1 := by simpa [gs_u] using hi
    rw [e, gs_rLI, h.is i k hi hk]
  · exact h.od k hk
theorem gs_Cl.wP (h : gs_Cl b d S) (j : Nat) (x : Int) : gs_Cl b (gs_wL d 6 b j (gs_m x)) (gs_u S 1 j x) := by
  refine ⟨⟨fun k hk => ?_, fun k hk => ?_⟩, ⟨fun k hk => ?_, fun k hk => ?_⟩, ⟨fun k hk => ?_, fun k hk => ?_⟩, ⟨?_, ?_, ?_⟩, fun i k hi hk => ?_, fun k hk => ?_⟩
  · simp [gs_rL, gs_u, h.h k hk]
  · by_cases e : k = j
    · simp [gs_rL, gs_u, e]
    · simp [gs_rL, gs_u, e, h.p k hk]
  · simp [gs_rLI, gs_u, h.pr k hk]
  · simp [gs_rLI, gs_u, h.hc k hk]
  · simp [gs_rLI, gs_u, h.li k hk]
  · simp [gs_rL, gs_u, h.nt k hk]
  · simp [gs_rLI, gs_u, h.dy]
  · simp [gs_rLI, gs_u, h.ct]
  · simp [gs_rLI, gs_u, h.wt]
  · have e : (gs_u S 1 j x).1 (10 + i) k = S.1 (10 + i) k := if_neg (by omega)
    have hi : (i : Int) < S.1 6 1 := by simpa [gs_u] using hi
    rw [e, gs_rLI, h.is i k hi hk]
  · exact h.od k hk
theorem gs_Cl.wN (h : gs_Cl b d S) (j : Nat) (x : Int) : gs_Cl b (gs_wL d 10 b j (gs_m x)) (gs_u S 5 j x) := by
  refine ⟨⟨fun k hk => ?_, fun k hk => ?_⟩, ⟨fun k hk => ?_, fun k hk => ?_⟩, ⟨fun k hk => ?_, fun k hk => ?_⟩, ⟨?_, ?_, ?_⟩, fun i k hi hk => ?_, fun k hk => ?_⟩
  · simp [gs_rL, gs_u, h.h k hk]
  · simp [gs_rL, gs_u, h.p k hk]
  · simp [gs_rLI, gs_u, h.pr k hk]
  · simp [gs_rLI, gs_u, h.hc k hk]
  · simp [gs_rLI, gs_u, h.li k hk]
  · by_cases e : k = j
    · simp [gs_rL, gs_u, e]
    · simp [gs_rL, gs_u, e, h.nt k hk]
  · simp [gs_rLI, gs_u, h.dy]
  · simp [gs_rLI, gs_u, h.ct]
  · simp [gs_rLI, gs_u, h.wt]
  · have e : (gs_u S 5 j x).1 (10 + i) k = S.1 (10 + i) k := if_neg (by omega)
    have hi : (i : Int) < S.1 6 1 := by simpa [gs_u] using hi
    rw [e, gs_rLI, h.is i k hi hk]
  · exact h.od k hk
/-- ints: prices (7, 2), haircuts (8, 3), limits (9, 4), the day (1, 6) -/
theorem gs_Cl.wI (h : gs_Cl b d S) {t f : Nat} (ht : (t = 7 ∧ f = 2) ∨ (t = 8 ∧ f = 3) ∨ (t = 9 ∧ f = 4)) (j : Nat) (x : Int) : gs_Cl b (gs_wI d t b j (gs_n x)) (gs_u S f j x) := by
  have ef : ∀ i k : Nat, (gs_u S f j x).1 (10 + i) k = S.1 (10 + i) k := fun i k => if_neg (by omega)
  have e6 : ∀ k : Nat, (gs_u S f j x).1 6 k = S.1 6 k := fun k => if_neg (by omega)
  have eo : ∀ a c : Nat, ∀ i : Nat, a ≠ t → (gs_wI d t b j (gs_n x)).1 a i c = d.1 a i c := fun a c i ha => if_neg (by omega)
  have eg : ∀ a c : Nat, a ≠ f → (gs_u S f j x).1 a c = S.1 a c := fun a c ha => if_neg (by omega)
  refine ⟨⟨fun k hk => ?_, fun k hk => ?_⟩, ⟨fun k hk => ?_, fun k hk => ?_⟩, ⟨fun k hk => ?_, fun k hk => ?_⟩, ⟨?_, ?_, ?_⟩, fun i k hi hk => ?_, fun k hk => ?_⟩
  · rw [eg 0 k (by omega), gs_rIL, h.h k hk]
  · rw [eg 1 k (by omega), gs_rIL, h.p k hk]
  · by_cases e : t = 7 ∧ k = j
    · obtain ⟨rfl, rfl⟩ := e
      have : f = 2 := by omega
      subst this
      simp [gs_rI, gs_u]
    · have : (gs_wI d t b j (gs_n x)).1 7 b k = d.1 7 b k := if_neg (by omega)
      rw [this, h.pr k hk, show (gs_u S f j x).1 2 k = S.1 2 k from if_neg (by omega)]
  · by_cases e : t = 8 ∧ k = j
    · obtain ⟨rfl, rfl⟩ := e
      have : f = 3 := by omega
      subst this
      simp [gs_rI, gs_u]
    · have : (gs_wI d t b j (gs_n x)).1 8 b k = d.1 8 b k := if_neg (by omega)
      rw [this, h.hc k hk, show (gs_u S f j x).1 3 k = S.1 3 k from if_neg (by omega)]
  · by_cases e : t = 9 ∧ k = j
    · obtain ⟨rfl, rfl⟩ := e
      have : f = 4 := by omega
      subst this
      simp [gs_rI, gs_u]
    · have : (gs_wI d t b j (gs_n x)).1 9 b k = d.1 9 b k := if_neg (by omega)
      rw [this, h.li k hk, show (gs_u S f j x).1 4 k = S.1 4 k from if_neg (by omega)]
  · rw [eg 5 k (by omega), gs_rIL, h.nt k hk]
  · rw [e6, eo 1 0 b (by omega), h.dy]
  · rw [e6, eo 4 1 b (by omega), h.ct]
  · rw [eo 4 3 b (by omega), h.wt]
    rfl
  · rw [ef, eo 13 k _ (by omega), h.is i k (by rw [e6] at hi; exact hi) hk]
  · rw [eo 12 k b (by omega)]
    exact h.od k hk
theorem gs_Cl.wD (h : gs_Cl b d S) (x : Int) : gs_Cl b (gs_wI d 1 b 0 (gs_n x)) (gs_u S 6 0 x) := by
  have ef : ∀ i k : Nat, (gs_u S 6 0 x).1 (10 + i) k = S.1 (10 + i) k := fun i k => if_neg (by omega)
  have eo : ∀ a c : Nat, ∀ i : Nat, a ≠ 1 → (gs_wI d 1 b 0 (gs_n x)).1 a i c = d.1 a i c := fun a c i ha => if_neg (by omega)
  have eg : ∀ a c : Nat, a ≠ 6 → (gs_u S 6 0 x).1 a c = S.1 a c := fun a c ha => if_neg (by omega)
  have e61 : (gs_u S 6 0 x).1 6 1 = S.1 6 1 := by
    show (if 6 = 6 ∧ 1 = 0 then x else S.1 6 1) = _
    rw [if_neg (by decide)]
  refine ⟨⟨fun k hk => ?_, fun k hk => ?_⟩, ⟨fun k hk => ?_, fun k hk => ?_⟩, ⟨fun k hk => ?_, fun k hk => ?_⟩, ⟨?_, ?_, ?_⟩, fun i k hi hk => ?_, fun k hk => ?_⟩
  · rw [eg 0 k (by omega), gs_rIL, h.h k hk]
  · rw [eg 1 k (by omega), gs_rIL, h.p k hk]
  · rw [eg 2 k (by omega), eo 7 k b (by omega), h.pr k hk]
  · rw [eg 3 k (by omega), eo 8 k b (by omega), h.hc k hk]
  · rw [eg 4 k (by omega), eo 9 k b (by omega), h.li k hk]
  · rw [eg 5 k (by omega), gs_rIL, h.nt k hk]
  · simp [gs_rI, gs_u]
  · rw [e61, eo 4 1 b (by omega), h.ct]
  · rw [eo 4 3 b (by omega), h.wt]
    rfl
  · rw [ef, eo 13 k _ (by omega), h.is i k (by rw [e61] at hi; exact hi) hk]
  · rw [eo 12 k b (by omega)]
    exact h.od k hk
/-- a field of an instruction -/
theorem gs_Cl.wS (h : gs_Cl b d S) (i k : Nat) (x : Int) (hk : k < 7) : gs_Cl b (gs_wI d 13 (gs_ii b i) k (gs_n x)) (gs_u S (10 + i) k x) := by
  have eo : ∀ a c : Nat, ∀ i' : Nat, a ≠ 13 → (gs_wI d 13 (gs_ii b i) k (gs_n x)).1 a i' c = d.1 a i' c := fun a c i ha => if_neg (by omega)
  have eg : ∀ a c : Nat, a < 10 → (gs_u S (10 + i) k x).1 a c = S.1 a c := fun a c ha => if_neg (by omega)
  refine ⟨⟨fun k hk => ?_, fun k hk => ?_⟩, ⟨fun k hk => ?_, fun k hk => ?_⟩, ⟨fun k hk => ?_, fun k hk => ?_⟩, ⟨?_, ?_, ?_⟩, fun i' k' hi hk' => ?_, fun k hk => ?_⟩
  · rw [eg 0 k (by omega), gs_rIL, h.h k hk]
  · rw [eg 1 k (by omega), gs_rIL, h.p k hk]
  · rw [eg 2 k (by omega), eo 7 k b (by omega), h.pr k hk]
  · rw [eg 3 k (by omega), eo 8 k b (by omega), h.hc k hk]
  · rw [eg 4 k (by omega), eo 9 k b (by omega), h.li k hk]
  · rw [eg 5 k (by omega), gs_rIL, h.nt k hk]
  · rw [eg 6 0 (by omega), eo 1 0 b (by omega), h.dy]
  · rw [eg 6 1 (by omega), eo 4 1 b (by omega), h.ct]
  · rw [eo 4 3 b (by omega), h.wt]
    rfl
  · by_cases e : i' = i ∧ k' = k
    · obtain ⟨rfl, rfl⟩ := e
      simp [gs_rI, gs_u]
    · have e1 : (gs_wI d 13 (gs_ii b i) k (gs_n x)).1 13 (gs_ii b i') k' = d.1 13 (gs_ii b i') k' := if_neg (by unfold gs_ii; omega)
      have e2 : (gs_u S (10 + i) k x).1 (10 + i') k' = S.1 (10 + i') k' := if_neg (by omega)
      rw [e1, e2, h.is i' k' (by rw [eg 6 1 (by omega)] at hi; exact hi) hk']
  · rw [eo 12 k b (by omega)]
    exact h.od k hk
end CL
-- what is left as it was: all but the book b = 0
def gs_now (t i : Nat) : Bool := Nat.ble t 19 && (match Nat.beq t 13 with
  | true => Nat.ble i 39
  | false => Nat.beq i 0)
def gs_fr (d d' : gs_D) : Prop := ∀ t i, gs_now t i = false → d'.1 t i = d.1 t i ∧ d'.2 t i = d.2 t i
theorem gs_fr.rf {d : gs_D} : gs_fr d d := fun _ _ _ => ⟨rfl, rfl⟩
theorem gs_fr.tr {d d' d'' : gs_D} (h : gs_fr d d') (h2 : gs_fr d' d'') : gs_fr d d'' := fun t i e => ⟨(h2 t i e).1.trans (h t i e).1, (h2 t i e).2.trans (h t i e).2⟩
theorem gs_fr.I {d : gs_D} {t i j : Nat} {x : Int32} (h : gs_now t i = true) : gs_fr d (gs_wI d t i j x) := fun a c e => by
  refine ⟨?_, rfl⟩
  funext k
  refine if_neg fun z => ?_
  rw [z.1, z.2.1, h] at e
  cases e
theorem gs_fr.L {d : gs_D} {t i j : Nat} {x : Int64} (h : gs_now t i = true) : gs_fr d (gs_wL d t i j x) := fun a c e => ⟨rfl, by
  funext k
  exact if_neg fun z => by rw [z.1, z.2.1, h] at e; cases e⟩
theorem gs_fr.i13 {i : Nat} (h : i < 40) : gs_now 13 i = true := by
  have : Nat.ble i 39 = true := Nat.ble_eq_true_of_le (by omega)
  exact this
theorem gs_fr.Cl {d d' : gs_D} {S : gs_S} (h : gs_fr d d') (h1 : gs_Cl 1 d S) : gs_Cl 1 d' S := by
  have e : ∀ t, t ≠ 13 → d'.1 t 1 = d.1 t 1 ∧ d'.2 t 1 = d.2 t 1 := fun t ht => h t 1 (by
    have : Nat.beq t 13 = false := by
      cases hb : Nat.beq t 13
      · rfl
      · exact absurd (Nat.eq_of_beq_eq_true hb) ht
    unfold gs_now
    rw [this]
    show (Nat.ble t 19 && Nat.beq 1 0) = false
    rw [show Nat.beq 1 0 = false from rfl, Bool.and_false])
  have e13 : ∀ i, d'.1 13 (gs_ii 1 i) = d.1 13 (gs_ii 1 i) := fun i => (h 13 _ (by
    have : Nat.ble (gs_ii 1 i) 39 = false := by
      cases hb : Nat.ble (gs_ii 1 i) 39
      · rfl
      · have := Nat.le_of_ble_eq_true hb
        unfold gs_ii at this
        omega
    exact this)).1
  unfold gs_Cl
  simp only [e13, (e 5 (by decide)).2, (e 6 (by decide)).2, (e 7 (by decide)).1, (e 8 (by decide)).1, (e 9 (by decide)).1, (e 10 (by decide)).2, (e 1 (by decide)).1, (e 4 (by decide)).1, (e 12 (by decide)).1]
  exact h1
end
section
theorem gs_zd0 {c : Prop} {i : Decidable c} : (gs_n (gs_z (@decide c i)) = gs_n 0) = ¬ c := by
  by_cases h : c
  · rw [gs_zd_t h, gs_eq_f2 (by omega) (by omega) (by omega)]
    simp [h]
  · rw [gs_zd_f h, gs_eq_t rfl]
    simp [h]
-- the component's small questions
theorem s_G_isParticipant {a : Int} (h1 : -2147483648 ≤ a) (h2 : a < 2147483648) (d : gs_D) : f_G_isParticipant [gs_i (gs_n a)] d = some (some (gs_i (gs_n (gs_z (decide (0 ≤ a ∧ a < 6))))), d) := by
  by_cases c1 : a < 0
  · simp (disch := omega) only [e_G_isParticipant, k_G_isParticipant_0, k_G_isParticipant_4, k_G_isParticipant_10, k_G_isParticipant_14, ↓reduceIte, Int.reduceAdd, Int.reduceSub, Int.reduceMul, Int.reduceToNat, gs_00, gs_ofi, gs_k0_m, gs_k1_m, gs_n8, gs_n16, gs_n_add, gs_n_sub, gs_n_mul, gs_n_neg, gs_m_add, gs_m_sub, gs_m_mul, gs_m_neg, gs_n_l, gs_m_n, gs_n_c, gs_eq_t, gs_eq_f1, gs_eq_f2, gs_lt_t, gs_lt_f, gs_le_t, gs_le_f, gs_cmp_lt, gs_cmp_eq, gs_cmp_gt, gs_ix_n, gs_nz_n, gs_nzl_g, gs_n_div, gs_af1, gs_af0, gs_ck0, gs_ck1, gs_ck2t, gs_ck2f, gs_ck3, gs_ck4, gs_zd_t, gs_zd_f, gs_zt_t, gs_zt_f, gs_nar1, gs_nar0, gs_tn, if_true, if_false, not_true_eq_false, not_false_eq_true]
  · by_cases c2 : a < 6
    · simp (disch := omega) only [e_G_isParticipant, k_G_isParticipant_0, k_G_isParticipant_4, k_G_isParticipant_10, k_G_isParticipant_14, ↓reduceIte, Int.reduceAdd, Int.reduceSub, Int.reduceMul, Int.reduceToNat, gs_00, gs_ofi, gs_k0_m, gs_k1_m, gs_n8, gs_n16, gs_n_add, gs_n_sub, gs_n_mul, gs_n_neg, gs_m_add, gs_m_sub, gs_m_mul, gs_m_neg, gs_n_l, gs_m_n, gs_n_c, gs_eq_t, gs_eq_f1, gs_eq_f2, gs_lt_t, gs_lt_f, gs_le_t, gs_le_f, gs_cmp_lt, gs_cmp_eq, gs_cmp_gt, gs_ix_n, gs_nz_n, gs_nzl_g, gs_n_div, gs_af1, gs_af0, gs_ck0, gs_ck1, gs_ck2t, gs_ck2f, gs_ck3, gs_ck4, gs_zd_t, gs_zd_f, gs_zt_t, gs_zt_f, gs_nar1, gs_nar0, gs_tn, if_true, if_false, not_true_eq_false, not_false_eq_true]
    · simp (disch := omega) only [e_G_isParticipant, k_G_isParticipant_0, k_G_isParticipant_4, k_G_isParticipant_10, k_G_isParticipant_14, ↓reduceIte, Int.reduceAdd, Int.reduceSub, Int.reduceMul, Int.reduceToNat, gs_00, gs_ofi, gs_k0_m, gs_k1_m, gs_n8, gs_n16, gs_n_add, gs_n_sub, gs_n_mul, gs_n_neg, gs_m_add, gs_m_sub, gs_m_mul, gs_m_neg, gs_n_l, gs_m_n, gs_n_c, gs_eq_t, gs_eq_f1, gs_eq_f2, gs_lt_t, gs_lt_f, gs_le_t, gs_le_f, gs_cmp_lt, gs_cmp_eq, gs_cmp_gt, gs_ix_n, gs_nz_n, gs_nzl_g, gs_n_div, gs_af1, gs_af0, gs_ck0, gs_ck1, gs_ck2t, gs_ck2f, gs_ck3, gs_ck4, gs_zd_t, gs_zd_f, gs_zt_t, gs_zt_f, gs_nar1, gs_nar0, gs_tn, if_true, if_false, not_true_eq_false, not_false_eq_true]
theorem s_G_isAsset {a : Int} (h1 : -2147483648 ≤ a) (h2 : a < 2147483648) (d : gs_D) : f_G_isAsset [gs_i (gs_n a)] d = some (some (gs_i (gs_n (gs_z (decide (0 ≤ a ∧ a < 3))))), d) := by
  by_cases c1 : a < 0
  · simp (disch := omega) only [e_G_isAsset, k_G_isAsset_0, k_G_isAsset_4, k_G_isAsset_9, k_G_isAsset_13, ↓reduceIte, Int.reduceAdd, Int.reduceSub, Int.reduceMul, Int.reduceToNat, gs_00, gs_ofi, gs_k0_m, gs_k1_m, gs_n8, gs_n16, gs_n_add, gs_n_sub, gs_n_mul, gs_n_neg, gs_m_add, gs_m_sub, gs_m_mul, gs_m_neg, gs_n_l, gs_m_n, gs_n_c, gs_eq_t, gs_eq_f1, gs_eq_f2, gs_lt_t, gs_lt_f, gs_le_t, gs_le_f, gs_cmp_lt, gs_cmp_eq, gs_cmp_gt, gs_ix_n, gs_nz_n, gs_nzl_g, gs_n_div, gs_af1, gs_af0, gs_ck0, gs_ck1, gs_ck2t, gs_ck2f, gs_ck3, gs_ck4, gs_zd_t, gs_zd_f, gs_zt_t, gs_zt_f, gs_nar1, gs_nar0, gs_tn, if_true, if_false, not_true_eq_false, not_false_eq_true]
  · by_cases c2 : a < 3
    · simp (disch := omega) only [e_G_isAsset, k_G_isAsset_0, k_G_isAsset_4, k_G_isAsset_9, k_G_isAsset_13, ↓reduceIte, Int.reduceAdd, Int.reduceSub, Int.reduceMul, Int.reduceToNat, gs_00, gs_ofi, gs_k0_m, gs_k1_m, gs_n8, gs_n16, gs_n_add, gs_n_sub, gs_n_mul, gs_n_neg, gs_m_add, gs_m_sub, gs_m_mul, gs_m_neg, gs_n_l, gs_m_n, gs_n_c, gs_eq_t, gs_eq_f1, gs_eq_f2, gs_lt_t, gs_lt_f, gs_le_t, gs_le_f, gs_cmp_lt, gs_cmp_eq, gs_cmp_gt, gs_ix_n, gs_nz_n, gs_nzl_g, gs_n_div, gs_af1, gs_af0, gs_ck0, gs_ck1, gs_ck2t, gs_ck2f, gs_ck3, gs_ck4, gs_zd_t, gs_zd_f, gs_zt_t, gs_zt_f, gs_nar1, gs_nar0, gs_tn, if_true, if_false, not_true_eq_false, not_false_eq_true]
    · simp (disch := omega) only [e_G_isAsset, k_G_isAsset_0, k_G_isAsset_4, k_G_isAsset_9, k_G_isAsset_13, ↓reduceIte, Int.reduceAdd, Int.reduceSub, Int.reduceMul, Int.reduceToNat, gs_00, gs_ofi, gs_k0_m, gs_k1_m, gs_n8, gs_n16, gs_n_add, gs_n_sub, gs_n_mul, gs_n_neg, gs_m_add, gs_m_sub, gs_m_mul, gs_m_neg, gs_n_l, gs_m_n, gs_n_c, gs_eq_t, gs_eq_f1, gs_eq_f2, gs_lt_t, gs_lt_f, gs_le_t, gs_le_f, gs_cmp_lt, gs_cmp_eq, gs_cmp_gt, gs_ix_n, gs_nz_n, gs_nzl_g, gs_n_div, gs_af1, gs_af0, gs_ck0, gs_ck1, gs_ck2t, gs_ck2f, gs_ck3, gs_ck4, gs_zd_t, gs_zd_f, gs_zt_t, gs_zt_f, gs_nar1, gs_nar0, gs_tn, if_true, if_false, not_true_eq_false, not_false_eq_true]
theorem s_G_isAmount {a : Int} (h1 : -2147483648 ≤ a) (h2 : a < 2147483648) (d : gs_D) : f_G_isAmount [gs_i (gs_n a)] d = some (some (gs_i (gs_n (gs_z (decide (1 ≤ a ∧ a ≤ 1000000))))), d) := by
  by_cases c1 : a < 1
  · simp (disch := omega) only [e_G_isAmount, k_G_isAmount_0, k_G_isAmount_5, k_G_isAmount_11, k_G_isAmount_15, ↓reduceIte, Int.reduceAdd, Int.reduceSub, Int.reduceMul, Int.reduceToNat, gs_00, gs_ofi, gs_k0_m, gs_k1_m, gs_n8, gs_n16, gs_n_add, gs_n_sub, gs_n_mul, gs_n_neg, gs_m_add, gs_m_sub, gs_m_mul, gs_m_neg, gs_n_l, gs_m_n, gs_n_c, gs_eq_t, gs_eq_f1, gs_eq_f2, gs_lt_t, gs_lt_f, gs_le_t, gs_le_f, gs_cmp_lt, gs_cmp_eq, gs_cmp_gt, gs_ix_n, gs_nz_n, gs_nzl_g, gs_n_div, gs_af1, gs_af0, gs_ck0, gs_ck1, gs_ck2t, gs_ck2f, gs_ck3, gs_ck4, gs_zd_t, gs_zd_f, gs_zt_t, gs_zt_f, gs_nar1, gs_nar0, gs_tn, if_true, if_false, not_true_eq_false, not_false_eq_true]
  · by_cases c2 : a ≤ 1000000
    · simp (disch := omega) only [e_G_isAmount, k_G_isAmount_0, k_G_isAmount_5, k_G_isAmount_11, k_G_isAmount_15, ↓reduceIte, Int.reduceAdd, Int.reduceSub, Int.reduceMul, Int.reduceToNat, gs_00, gs_ofi, gs_k0_m, gs_k1_m, gs_n8, gs_n16, gs_n_add, gs_n_sub, gs_n_mul, gs_n_neg, gs_m_add, gs_m_sub, gs_m_mul, gs_m_neg, gs_n_l, gs_m_n, gs_n_c, gs_eq_t, gs_eq_f1, gs_eq_f2, gs_lt_t, gs_lt_f, gs_le_t, gs_le_f, gs_cmp_lt, gs_cmp_eq, gs_cmp_gt, gs_ix_n, gs_nz_n, gs_nzl_g, gs_n_div, gs_af1, gs_af0, gs_ck0, gs_ck1, gs_ck2t, gs_ck2f, gs_ck3, gs_ck4, gs_zd_t, gs_zd_f, gs_zt_t, gs_zt_f, gs_nar1, gs_nar0, gs_tn, if_true, if_false, not_true_eq_false, not_false_eq_true]
    · simp (disch := omega) only [e_G_isAmount, k_G_isAmount_0, k_G_isAmount_5, k_G_isAmount_11, k_G_isAmount_15, ↓reduceIte, Int.reduceAdd, Int.reduceSub, Int.reduceMul, Int.reduceToNat, gs_00, gs_ofi, gs_k0_m, gs_k1_m, gs_n8, gs_n16, gs_n_add, gs_n_sub, gs_n_mul, gs_n_neg, gs_m_add, gs_m_sub, gs_m_mul, gs_m_neg, gs_n_l, gs_m_n, gs_n_c, gs_eq_t, gs_eq_f1, gs_eq_f2, gs_lt_t, gs_lt_f, gs_le_t, gs_le_f, gs_cmp_lt, gs_cmp_eq, gs_cmp_gt, gs_ix_n, gs_nz_n, gs_nzl_g, gs_n_div, gs_af1, gs_af0, gs_ck0, gs_ck1, gs_ck2t, gs_ck2f, gs_ck3, gs_ck4, gs_zd_t, gs_zd_f, gs_zt_t, gs_zt_f, gs_nar1, gs_nar0, gs_tn, if_true, if_false, not_true_eq_false, not_false_eq_true]
theorem s_G_isPriority {a : Int} (h1 : -2147483648 ≤ a) (h2 : a < 2147483648) (d : gs_D) : f_G_isPriority [gs_i (gs_n a)] d = some (some (gs_i (gs_n (gs_z (decide (0 ≤ a ∧ a < 3))))), d) := by
  by_cases c1 : a < 0
  · simp (disch := omega) only [e_G_isPriority, k_G_isPriority_0, k_G_isPriority_4, k_G_isPriority_9, k_G_isPriority_13, ↓reduceIte, Int.reduceAdd, Int.reduceSub, Int.reduceMul, Int.reduceToNat, gs_00, gs_ofi, gs_k0_m, gs_k1_m, gs_n8, gs_n16, gs_n_add, gs_n_sub, gs_n_mul, gs_n_neg, gs_m_add, gs_m_sub, gs_m_mul, gs_m_neg, gs_n_l, gs_m_n, gs_n_c, gs_eq_t, gs_eq_f1, gs_eq_f2, gs_lt_t, gs_lt_f, gs_le_t, gs_le_f, gs_cmp_lt, gs_cmp_eq, gs_cmp_gt, gs_ix_n, gs_nz_n, gs_nzl_g, gs_n_div, gs_af1, gs_af0, gs_ck0, gs_ck1, gs_ck2t, gs_ck2f, gs_ck3, gs_ck4, gs_zd_t, gs_zd_f, gs_zt_t, gs_zt_f, gs_nar1, gs_nar0, gs_tn, if_true, if_false, not_true_eq_false, not_false_eq_true]
  · by_cases c2 : a ≤ 2
    · simp (disch := omega) only [e_G_isPriority, k_G_isPriority_0, k_G_isPriority_4, k_G_isPriority_9, k_G_isPriority_13, ↓reduceIte, Int.reduceAdd, Int.reduceSub, Int.reduceMul, Int.reduceToNat, gs_00, gs_ofi, gs_k0_m, gs_k1_m, gs_n8, gs_n16, gs_n_add, gs_n_sub, gs_n_mul, gs_n_neg, gs_m_add, gs_m_sub, gs_m_mul, gs_m_neg, gs_n_l, gs_m_n, gs_n_c, gs_eq_t, gs_eq_f1, gs_eq_f2, gs_lt_t, gs_lt_f, gs_le_t, gs_le_f, gs_cmp_lt, gs_cmp_eq, gs_cmp_gt, gs_ix_n, gs_nz_n, gs_nzl_g, gs_n_div, gs_af1, gs_af0, gs_ck0, gs_ck1, gs_ck2t, gs_ck2f, gs_ck3, gs_ck4, gs_zd_t, gs_zd_f, gs_zt_t, gs_zt_f, gs_nar1, gs_nar0, gs_tn, if_true, if_false, not_true_eq_false, not_false_eq_true]
    · simp (disch := omega) only [e_G_isPriority, k_G_isPriority_0, k_G_isPriority_4, k_G_isPriority_9, k_G_isPriority_13, ↓reduceIte, Int.reduceAdd, Int.reduceSub, Int.reduceMul, Int.reduceToNat, gs_00, gs_ofi, gs_k0_m, gs_k1_m, gs_n8, gs_n16, gs_n_add, gs_n_sub, gs_n_mul, gs_n_neg, gs_m_add, gs_m_sub, gs_m_mul, gs_m_neg, gs_n_l, gs_m_n, gs_n_c, gs_eq_t, gs_eq_f1, gs_eq_f2, gs_lt_t, gs_lt_f, gs_le_t, gs_le_f, gs_cmp_lt, gs_cmp_eq, gs_cmp_gt, gs_ix_n, gs_nz_n, gs_nzl_g, gs_n_div, gs_af1, gs_af0, gs_ck0, gs_ck1, gs_ck2t, gs_ck2f, gs_ck3, gs_ck4, gs_zd_t, gs_zd_f, gs_zt_t, gs_zt_f, gs_nar1, gs_nar0, gs_tn, if_true, if_false, not_true_eq_false, not_false_eq_true]
theorem s_G_isSecurity {a : Int} (h1 : -2147483648 ≤ a) (h2 : a < 2147483648) (d : gs_D) : f_G_isSecurity [gs_i (gs_n a)] d = some (some (gs_i (gs_n (gs_z (decide (1 ≤ a ∧ a < 3))))), d) := by
  by_cases c1 : 0 ≤ a ∧ a < 3
  · by_cases c2 : a = 0
    · simp (disch := omega) only [e_G_isSecurity, k_G_isSecurity_0, k_G_isSecurity_4, k_G_isSecurity_7, k_G_isSecurity_11, k_G_isSecurity_15, s_G_isAsset, ↓reduceIte, Int.reduceAdd, Int.reduceSub, Int.reduceMul, Int.reduceToNat, gs_00, gs_ofi, gs_k0_m, gs_k1_m, gs_n8, gs_n16, gs_n_add, gs_n_sub, gs_n_mul, gs_n_neg, gs_m_add, gs_m_sub, gs_m_mul, gs_m_neg, gs_n_l, gs_m_n, gs_n_c, gs_eq_t, gs_eq_f1, gs_eq_f2, gs_lt_t, gs_lt_f, gs_le_t, gs_le_f, gs_cmp_lt, gs_cmp_eq, gs_cmp_gt, gs_ix_n, gs_nz_n, gs_nzl_g, gs_n_div, gs_af1, gs_af0, gs_ck0, gs_ck1, gs_ck2t, gs_ck2f, gs_ck3, gs_ck4, gs_zd_t, gs_zd_f, gs_zt_t, gs_zt_f, gs_nar1, gs_nar0, gs_tn, if_true, if_false, not_true_eq_false, not_false_eq_true]
    · simp (disch := omega) only [e_G_isSecurity, k_G_isSecurity_0, k_G_isSecurity_4, k_G_isSecurity_7, k_G_isSecurity_11, k_G_isSecurity_15, s_G_isAsset, ↓reduceIte, Int.reduceAdd, Int.reduceSub, Int.reduceMul, Int.reduceToNat, gs_00, gs_ofi, gs_k0_m, gs_k1_m, gs_n8, gs_n16, gs_n_add, gs_n_sub, gs_n_mul, gs_n_neg, gs_m_add, gs_m_sub, gs_m_mul, gs_m_neg, gs_n_l, gs_m_n, gs_n_c, gs_eq_t, gs_eq_f1, gs_eq_f2, gs_lt_t, gs_lt_f, gs_le_t, gs_le_f, gs_cmp_lt, gs_cmp_eq, gs_cmp_gt, gs_ix_n, gs_nz_n, gs_nzl_g, gs_n_div, gs_af1, gs_af0, gs_ck0, gs_ck1, gs_ck2t, gs_ck2f, gs_ck3, gs_ck4, gs_zd_t, gs_zd_f, gs_zt_t, gs_zt_f, gs_nar1, gs_nar0, gs_tn, if_true, if_false, not_true_eq_false, not_false_eq_true]
  · simp (disch := omega) only [e_G_isSecurity, k_G_isSecurity_0, k_G_isSecurity_4, k_G_isSecurity_7, k_G_isSecurity_11, k_G_isSecurity_15, s_G_isAsset, ↓reduceIte, Int.reduceAdd, Int.reduceSub, Int.reduceMul, Int.reduceToNat, gs_00, gs_ofi, gs_k0_m, gs_k1_m, gs_n8, gs_n16, gs_n_add, gs_n_sub, gs_n_mul, gs_n_neg, gs_m_add, gs_m_sub, gs_m_mul, gs_m_neg, gs_n_l, gs_m_n, gs_n_c, gs_eq_t, gs_eq_f1, gs_eq_f2, gs_lt_t, gs_lt_f, gs_le_t, gs_le_f, gs_cmp_lt, gs_cmp_eq, gs_cmp_gt, gs_ix_n, gs_nz_n, gs_nzl_g, gs_n_div, gs_af1, gs_af0, gs_ck0, gs_ck1, gs_ck2t, gs_ck2f, gs_ck3, gs_ck4, gs_zd_t, gs_zd_f, gs_zt_t, gs_zt_f, gs_nar1, gs_nar0, gs_tn, if_true, if_false, not_true_eq_false, not_false_eq_true]
theorem s_G_areTwo {a b : Int} (h1 : -2147483648 ≤ a) (h2 : a < 2147483648) (h3 : -2147483648 ≤ b) (h4 : b < 2147483648) (d : gs_D) : f_G_areTwo [gs_i (gs_n a), gs_i (gs_n b)] d = some (some (gs_i (gs_n (gs_z (decide ((0 ≤ a ∧ a < 6) ∧ (0 ≤ b ∧ b < 6) ∧ ¬ a = b))))), d) := by
  by_cases c1 : 0 ≤ a ∧ a < 6
  · by_cases c2 : 0 ≤ b ∧ b < 6
    · by_cases c3 : a = b
      · simp (disch := omega) only [e_G_areTwo, k_G_areTwo_0, k_G_areTwo_4, k_G_areTwo_7, k_G_areTwo_11, k_G_areTwo_14, k_G_areTwo_19, k_G_areTwo_23, s_G_isParticipant, ↓reduceIte, Int.reduceAdd, Int.reduceSub, Int.reduceMul, Int.reduceToNat, gs_00, gs_ofi, gs_k0_m, gs_k1_m, gs_n8, gs_n16, gs_n_add, gs_n_sub, gs_n_mul, gs_n_neg, gs_m_add, gs_m_sub, gs_m_mul, gs_m_neg, gs_n_l, gs_m_n, gs_n_c, gs_eq_t, gs_eq_f1, gs_eq_f2, gs_lt_t, gs_lt_f, gs_le_t, gs_le_f, gs_cmp_lt, gs_cmp_eq, gs_cmp_gt, gs_ix_n, gs_nz_n, gs_nzl_g, gs_n_div, gs_af1, gs_af0, gs_ck0, gs_ck1, gs_ck2t, gs_ck2f, gs_ck3, gs_ck4, gs_zd_t, gs_zd_f, gs_zt_t, gs_zt_f, gs_nar1, gs_nar0, gs_tn, if_true, if_false, not_true_eq_false, not_false_eq_true]
      · by_cases c4 : a < b
        · simp (disch := omega) only [e_G_areTwo, k_G_areTwo_0, k_G_areTwo_4, k_G_areTwo_7, k_G_areTwo_11, k_G_areTwo_14, k_G_areTwo_19, k_G_areTwo_23, s_G_isParticipant, ↓reduceIte, Int.reduceAdd, Int.reduceSub, Int.reduceMul, Int.reduceToNat, gs_00, gs_ofi, gs_k0_m, gs_k1_m, gs_n8, gs_n16, gs_n_add, gs_n_sub, gs_n_mul, gs_n_neg, gs_m_add, gs_m_sub, gs_m_mul, gs_m_neg, gs_n_l, gs_m_n, gs_n_c, gs_eq_t, gs_eq_f1, gs_eq_f2, gs_lt_t, gs_lt_f, gs_le_t, gs_le_f, gs_cmp_lt, gs_cmp_eq, gs_cmp_gt, gs_ix_n, gs_nz_n, gs_nzl_g, gs_n_div, gs_af1, gs_af0, gs_ck0, gs_ck1, gs_ck2t, gs_ck2f, gs_ck3, gs_ck4, gs_zd_t, gs_zd_f, gs_zt_t, gs_zt_f, gs_nar1, gs_nar0, gs_tn, if_true, if_false, not_true_eq_false, not_false_eq_true]
        · simp (disch := omega) only [e_G_areTwo, k_G_areTwo_0, k_G_areTwo_4, k_G_areTwo_7, k_G_areTwo_11, k_G_areTwo_14, k_G_areTwo_19, k_G_areTwo_23, s_G_isParticipant, ↓reduceIte, Int.reduceAdd, Int.reduceSub, Int.reduceMul, Int.reduceToNat, gs_00, gs_ofi, gs_k0_m, gs_k1_m, gs_n8, gs_n16, gs_n_add, gs_n_sub, gs_n_mul, gs_n_neg, gs_m_add, gs_m_sub, gs_m_mul, gs_m_neg, gs_n_l, gs_m_n, gs_n_c, gs_eq_t, gs_eq_f1, gs_eq_f2, gs_lt_t, gs_lt_f, gs_le_t, gs_le_f, gs_cmp_lt, gs_cmp_eq, gs_cmp_gt, gs_ix_n, gs_nz_n, gs_nzl_g, gs_n_div, gs_af1, gs_af0, gs_ck0, gs_ck1, gs_ck2t, gs_ck2f, gs_ck3, gs_ck4, gs_zd_t, gs_zd_f, gs_zt_t, gs_zt_f, gs_nar1, gs_nar0, gs_tn, if_true, if_false, not_true_eq_false, not_false_eq_true]
    · simp (disch := omega) only [e_G_areTwo, k_G_areTwo_0, k_G_areTwo_4, k_G_areTwo_7, k_G_areTwo_11, k_G_areTwo_14, k_G_areTwo_19, k_G_areTwo_23, s_G_isParticipant, ↓reduceIte, Int.reduceAdd, Int.reduceSub, Int.reduceMul, Int.reduceToNat, gs_00, gs_ofi, gs_k0_m, gs_k1_m, gs_n8, gs_n16, gs_n_add, gs_n_sub, gs_n_mul, gs_n_neg, gs_m_add, gs_m_sub, gs_m_mul, gs_m_neg, gs_n_l, gs_m_n, gs_n_c, gs_eq_t, gs_eq_f1, gs_eq_f2, gs_lt_t, gs_lt_f, gs_le_t, gs_le_f, gs_cmp_lt, gs_cmp_eq, gs_cmp_gt, gs_ix_n, gs_nz_n, gs_nzl_g, gs_n_div, gs_af1, gs_af0, gs_ck0, gs_ck1, gs_ck2t, gs_ck2f, gs_ck3, gs_ck4, gs_zd_t, gs_zd_f, gs_zt_t, gs_zt_f, gs_nar1, gs_nar0, gs_tn, if_true, if_false, not_true_eq_false, not_false_eq_true]
  · simp (disch := omega) only [e_G_areTwo, k_G_areTwo_0, k_G_areTwo_4, k_G_areTwo_7, k_G_areTwo_11, k_G_areTwo_14, k_G_areTwo_19, k_G_areTwo_23, s_G_isParticipant, ↓reduceIte, Int.reduceAdd, Int.reduceSub, Int.reduceMul, Int.reduceToNat, gs_00, gs_ofi, gs_k0_m, gs_k1_m, gs_n8, gs_n16, gs_n_add, gs_n_sub, gs_n_mul, gs_n_neg, gs_m_add, gs_m_sub, gs_m_mul, gs_m_neg, gs_n_l, gs_m_n, gs_n_c, gs_eq_t, gs_eq_f1, gs_eq_f2, gs_lt_t, gs_lt_f, gs_le_t, gs_le_f, gs_cmp_lt, gs_cmp_eq, gs_cmp_gt, gs_ix_n, gs_nz_n, gs_nzl_g, gs_n_div, gs_af1, gs_af0, gs_ck0, gs_ck1, gs_ck2t, gs_ck2f, gs_ck3, gs_ck4, gs_zd_t, gs_zd_f, gs_zt_t, gs_zt_f, gs_nar1, gs_nar0, gs_tn, if_true, if_false, not_true_eq_false, not_false_eq_true]
theorem s_G_holding (a b : Int) (d : gs_D) : f_G_holding [gs_i (gs_n a), gs_i (gs_n b)] d = some (some (gs_i (gs_n (a * 3 + b))), d) := by
  simp (disch := omega) only [e_G_holding, k_G_holding_0, ↓reduceIte, Int.reduceAdd, Int.reduceSub, Int.reduceMul, Int.reduceToNat, gs_00, gs_ofi, gs_k0_m, gs_k1_m, gs_n8, gs_n16, gs_n_add, gs_n_sub, gs_n_mul, gs_n_neg, gs_m_add, gs_m_sub, gs_m_mul, gs_m_neg, gs_n_l, gs_m_n, gs_n_c, gs_eq_t, gs_eq_f1, gs_eq_f2, gs_lt_t, gs_lt_f, gs_le_t, gs_le_f, gs_cmp_lt, gs_cmp_eq, gs_cmp_gt, gs_ix_n, gs_nz_n, gs_nzl_g, gs_n_div, gs_af1, gs_af0, gs_ck0, gs_ck1, gs_ck2t, gs_ck2f, gs_ck3, gs_ck4, gs_zd_t, gs_zd_f, gs_zt_t, gs_zt_f, gs_nar1, gs_nar0, gs_tn, if_true, if_false, not_true_eq_false, not_false_eq_true]
theorem s_G_pair (a b : Int) (d : gs_D) : f_G_pair [gs_i (gs_n a), gs_i (gs_n b)] d = some (some (gs_i (gs_n (a * 6 + b))), d) := by
  simp (disch := omega) only [e_G_pair, k_G_pair_0, ↓reduceIte, Int.reduceAdd, Int.reduceSub, Int.reduceMul, Int.reduceToNat, gs_00, gs_ofi, gs_k0_m, gs_k1_m, gs_n8, gs_n16, gs_n_add, gs_n_sub, gs_n_mul, gs_n_neg, gs_m_add, gs_m_sub, gs_m_mul, gs_m_neg, gs_n_l, gs_m_n, gs_n_c, gs_eq_t, gs_eq_f1, gs_eq_f2, gs_lt_t, gs_lt_f, gs_le_t, gs_le_f, gs_cmp_lt, gs_cmp_eq, gs_cmp_gt, gs_ix_n, gs_nz_n, gs_nzl_g, gs_n_div, gs_af1, gs_af0, gs_ck0, gs_ck1, gs_ck2t, gs_ck2f, gs_ck3, gs_ck4, gs_zd_t, gs_zd_f, gs_zt_t, gs_zt_f, gs_nar1, gs_nar0, gs_tn, if_true, if_false, not_true_eq_false, not_false_eq_true]
theorem s_G_bilateral (a b : Int) (d : gs_D) : f_G_bilateral [gs_i (gs_n a), gs_i (gs_n b)] d = some (some (gs_i (gs_n (18 + (a * 6 + b)))), d) := by
  simp (disch := omega) only [e_G_bilateral, k_G_bilateral_0, k_G_bilateral_7, s_G_pair, ↓reduceIte, Int.reduceAdd, Int.reduceSub, Int.reduceMul, Int.reduceToNat, gs_00, gs_ofi, gs_k0_m, gs_k1_m, gs_n8, gs_n16, gs_n_add, gs_n_sub, gs_n_mul, gs_n_neg, gs_m_add, gs_m_sub, gs_m_mul, gs_m_neg, gs_n_l, gs_m_n, gs_n_c, gs_eq_t, gs_eq_f1, gs_eq_f2, gs_lt_t, gs_lt_f, gs_le_t, gs_le_f, gs_cmp_lt, gs_cmp_eq, gs_cmp_gt, gs_ix_n, gs_nz_n, gs_nzl_g, gs_n_div, gs_af1, gs_af0, gs_ck0, gs_ck1, gs_ck2t, gs_ck2f, gs_ck3, gs_ck4, gs_zd_t, gs_zd_f, gs_zt_t, gs_zt_f, gs_nar1, gs_nar0, gs_tn, if_true, if_false, not_true_eq_false, not_false_eq_true]
-- the model's
theorem s_M_within {a e : Int} (h1 : -2147483648 ≤ a) (h2 : a < 2147483648) (h3 : 0 ≤ e) (h4 : e < 2147483648) (d : gs_D) : f_M_within [gs_i (gs_n a), gs_i (gs_n e)] d = some (some (gs_i (gs_n (gs_z (decide (0 ≤ a ∧ a < e))))), d) := by
  by_cases c1 : a < 0
  · simp (disch := omega) only [e_M_within, k_M_within_0, k_M_within_4, k_M_within_9, k_M_within_13, ↓reduceIte, Int.reduceAdd, Int.reduceSub, Int.reduceMul, Int.reduceToNat, gs_00, gs_ofi, gs_k0_m, gs_k1_m, gs_n8, gs_n16, gs_n_add, gs_n_sub, gs_n_mul, gs_n_neg, gs_m_add, gs_m_sub, gs_m_mul, gs_m_neg, gs_n_l, gs_m_n, gs_n_c, gs_eq_t, gs_eq_f1, gs_eq_f2, gs_lt_t, gs_lt_f, gs_le_t, gs_le_f, gs_cmp_lt, gs_cmp_eq, gs_cmp_gt, gs_ix_n, gs_nz_n, gs_nzl_g, gs_n_div, gs_af1, gs_af0, gs_ck0, gs_ck1, gs_ck2t, gs_ck2f, gs_ck3, gs_ck4, gs_zd_t, gs_zd_f, gs_zt_t, gs_zt_f, gs_nar1, gs_nar0, gs_tn, if_true, if_false, not_true_eq_false, not_false_eq_true]
  · by_cases c2 : a < e
    · simp (disch := omega) only [e_M_within, k_M_within_0, k_M_within_4, k_M_within_9, k_M_within_13, ↓reduceIte, Int.reduceAdd, Int.reduceSub, Int.reduceMul, Int.reduceToNat, gs_00, gs_ofi, gs_k0_m, gs_k1_m, gs_n8, gs_n16, gs_n_add, gs_n_sub, gs_n_mul, gs_n_neg, gs_m_add, gs_m_sub, gs_m_mul, gs_m_neg, gs_n_l, gs_m_n, gs_n_c, gs_eq_t, gs_eq_f1, gs_eq_f2, gs_lt_t, gs_lt_f, gs_le_t, gs_le_f, gs_cmp_lt, gs_cmp_eq, gs_cmp_gt, gs_ix_n, gs_nz_n, gs_nzl_g, gs_n_div, gs_af1, gs_af0, gs_ck0, gs_ck1, gs_ck2t, gs_ck2f, gs_ck3, gs_ck4, gs_zd_t, gs_zd_f, gs_zt_t, gs_zt_f, gs_nar1, gs_nar0, gs_tn, if_true, if_false, not_true_eq_false, not_false_eq_true]
    · simp (disch := omega) only [e_M_within, k_M_within_0, k_M_within_4, k_M_within_9, k_M_within_13, ↓reduceIte, Int.reduceAdd, Int.reduceSub, Int.reduceMul, Int.reduceToNat, gs_00, gs_ofi, gs_k0_m, gs_k1_m, gs_n8, gs_n16, gs_n_add, gs_n_sub, gs_n_mul, gs_n_neg, gs_m_add, gs_m_sub, gs_m_mul, gs_m_neg, gs_n_l, gs_m_n, gs_n_c, gs_eq_t, gs_eq_f1, gs_eq_f2, gs_lt_t, gs_lt_f, gs_le_t, gs_le_f, gs_cmp_lt, gs_cmp_eq, gs_cmp_gt, gs_ix_n, gs_nz_n, gs_nzl_g, gs_n_div, gs_af1, gs_af0, gs_ck0, gs_ck1, gs_ck2t, gs_ck2f, gs_ck3, gs_ck4, gs_zd_t, gs_zd_f, gs_zt_t, gs_zt_f, gs_nar1, gs_nar0, gs_tn, if_true, if_false, not_true_eq_false, not_false_eq_true]
theorem s_M_amountFits {a : Int} (h1 : -2147483648 ≤ a) (h2 : a < 2147483648) (d : gs_D) : f_M_amountFits [gs_i (gs_n a)] d = some (some (gs_i (gs_n (gs_z (decide (1 ≤ a ∧ a ≤ 1000000))))), d) := by
  by_cases c1 : a < 1
  · simp (disch := omega) only [e_M_amountFits, k_M_amountFits_0, k_M_amountFits_5, k_M_amountFits_11, k_M_amountFits_15, ↓reduceIte, Int.reduceAdd, Int.reduceSub, Int.reduceMul, Int.reduceToNat, gs_00, gs_ofi, gs_k0_m, gs_k1_m, gs_n8, gs_n16, gs_n_add, gs_n_sub, gs_n_mul, gs_n_neg, gs_m_add, gs_m_sub, gs_m_mul, gs_m_neg, gs_n_l, gs_m_n, gs_n_c, gs_eq_t, gs_eq_f1, gs_eq_f2, gs_lt_t, gs_lt_f, gs_le_t, gs_le_f, gs_cmp_lt, gs_cmp_eq, gs_cmp_gt, gs_ix_n, gs_nz_n, gs_nzl_g, gs_n_div, gs_af1, gs_af0, gs_ck0, gs_ck1, gs_ck2t, gs_ck2f, gs_ck3, gs_ck4, gs_zd_t, gs_zd_f, gs_zt_t, gs_zt_f, gs_nar1, gs_nar0, gs_tn, if_true, if_false, not_true_eq_false, not_false_eq_true]
  · by_cases c2 : a ≤ 1000000
    · simp (disch := omega) only [e_M_amountFits, k_M_amountFits_0, k_M_amountFits_5, k_M_amountFits_11, k_M_amountFits_15, ↓reduceIte, Int.reduceAdd, Int.reduceSub, Int.reduceMul, Int.reduceToNat, gs_00, gs_ofi, gs_k0_m, gs_k1_m, gs_n8, gs_n16, gs_n_add, gs_n_sub, gs_n_mul, gs_n_neg, gs_m_add, gs_m_sub, gs_m_mul, gs_m_neg, gs_n_l, gs_m_n, gs_n_c, gs_eq_t, gs_eq_f1, gs_eq_f2, gs_lt_t, gs_lt_f, gs_le_t, gs_le_f, gs_cmp_lt, gs_cmp_eq, gs_cmp_gt, gs_ix_n, gs_nz_n, gs_nzl_g, gs_n_div, gs_af1, gs_af0, gs_ck0, gs_ck1, gs_ck2t, gs_ck2f, gs_ck3, gs_ck4, gs_zd_t, gs_zd_f, gs_zt_t, gs_zt_f, gs_nar1, gs_nar0, gs_tn, if_true, if_false, not_true_eq_false, not_false_eq_true]
    · simp (disch := omega) only [e_M_amountFits, k_M_amountFits_0, k_M_amountFits_5, k_M_amountFits_11, k_M_amountFits_15, ↓reduceIte, Int.reduceAdd, Int.reduceSub, Int.reduceMul, Int.reduceToNat, gs_00, gs_ofi, gs_k0_m, gs_k1_m, gs_n8, gs_n16, gs_n_add, gs_n_sub, gs_n_mul, gs_n_neg, gs_m_add, gs_m_sub, gs_m_mul, gs_m_neg, gs_n_l, gs_m_n, gs_n_c, gs_eq_t, gs_eq_f1, gs_eq_f2, gs_lt_t, gs_lt_f, gs_le_t, gs_le_f, gs_cmp_lt, gs_cmp_eq, gs_cmp_gt, gs_ix_n, gs_nz_n, gs_nzl_g, gs_n_div, gs_af1, gs_af0, gs_ck0, gs_ck1, gs_ck2t, gs_ck2f, gs_ck3, gs_ck4, gs_zd_t, gs_zd_f, gs_zt_t, gs_zt_f, gs_nar1, gs_nar0, gs_tn, if_true, if_false, not_true_eq_false, not_false_eq_true]
theorem s_M_security {a : Int} (h1 : -2147483648 ≤ a) (h2 : a < 2147483648) (d : gs_D) : f_M_security [gs_i (gs_n a)] d = some (some (gs_i (gs_n (gs_z (decide (1 ≤ a ∧ a < 3))))), d) := by
  by_cases c1 : a = 1
  · simp (disch := omega) only [e_M_security, k_M_security_0, k_M_security_5, k_M_security_10, k_M_security_14, ↓reduceIte, Int.reduceAdd, Int.reduceSub, Int.reduceMul, Int.reduceToNat, gs_00, gs_ofi, gs_k0_m, gs_k1_m, gs_n8, gs_n16, gs_n_add, gs_n_sub, gs_n_mul, gs_n_neg, gs_m_add, gs_m_sub, gs_m_mul, gs_m_neg, gs_n_l, gs_m_n, gs_n_c, gs_eq_t, gs_eq_f1, gs_eq_f2, gs_lt_t, gs_lt_f, gs_le_t, gs_le_f, gs_cmp_lt, gs_cmp_eq, gs_cmp_gt, gs_ix_n, gs_nz_n, gs_nzl_g, gs_n_div, gs_af1, gs_af0, gs_ck0, gs_ck1, gs_ck2t, gs_ck2f, gs_ck3, gs_ck4, gs_zd_t, gs_zd_f, gs_zt_t, gs_zt_f, gs_nar1, gs_nar0, gs_tn, if_true, if_false, not_true_eq_false, not_false_eq_true]
  · by_cases c2 : a = 2
    · by_cases c3 : a < 1
      · simp (disch := omega) only [e_M_security, k_M_security_0, k_M_security_5, k_M_security_10, k_M_security_14, ↓reduceIte, Int.reduceAdd, Int.reduceSub, Int.reduceMul, Int.reduceToNat, gs_00, gs_ofi, gs_k0_m, gs_k1_m, gs_n8, gs_n16, gs_n_add, gs_n_sub, gs_n_mul, gs_n_neg, gs_m_add, gs_m_sub, gs_m_mul, gs_m_neg, gs_n_l, gs_m_n, gs_n_c, gs_eq_t, gs_eq_f1, gs_eq_f2, gs_lt_t, gs_lt_f, gs_le_t, gs_le_f, gs_cmp_lt, gs_cmp_eq, gs_cmp_gt, gs_ix_n, gs_nz_n, gs_nzl_g, gs_n_div, gs_af1, gs_af0, gs_ck0, gs_ck1, gs_ck2t, gs_ck2f, gs_ck3, gs_ck4, gs_zd_t, gs_zd_f, gs_zt_t, gs_zt_f, gs_nar1, gs_nar0, gs_tn, if_true, if_false, not_true_eq_false, not_false_eq_true]
      · simp (disch := omega) only [e_M_security, k_M_security_0, k_M_security_5, k_M_security_10, k_M_security_14, ↓reduceIte, Int.reduceAdd, Int.reduceSub, Int.reduceMul, Int.reduceToNat, gs_00, gs_ofi, gs_k0_m, gs_k1_m, gs_n8, gs_n16, gs_n_add, gs_n_sub, gs_n_mul, gs_n_neg, gs_m_add, gs_m_sub, gs_m_mul, gs_m_neg, gs_n_l, gs_m_n, gs_n_c, gs_eq_t, gs_eq_f1, gs_eq_f2, gs_lt_t, gs_lt_f, gs_le_t, gs_le_f, gs_cmp_lt, gs_cmp_eq, gs_cmp_gt, gs_ix_n, gs_nz_n, gs_nzl_g, gs_n_div, gs_af1, gs_af0, gs_ck0, gs_ck1, gs_ck2t, gs_ck2f, gs_ck3, gs_ck4, gs_zd_t, gs_zd_f, gs_zt_t, gs_zt_f, gs_nar1, gs_nar0, gs_tn, if_true, if_false, not_true_eq_false, not_false_eq_true]
    · by_cases c3 : a < 1
      · simp (disch := omega) only [e_M_security, k_M_security_0, k_M_security_5, k_M_security_10, k_M_security_14, ↓reduceIte, Int.reduceAdd, Int.reduceSub, Int.reduceMul, Int.reduceToNat, gs_00, gs_ofi, gs_k0_m, gs_k1_m, gs_n8, gs_n16, gs_n_add, gs_n_sub, gs_n_mul, gs_n_neg, gs_m_add, gs_m_sub, gs_m_mul, gs_m_neg, gs_n_l, gs_m_n, gs_n_c, gs_eq_t, gs_eq_f1, gs_eq_f2, gs_lt_t, gs_lt_f, gs_le_t, gs_le_f, gs_cmp_lt, gs_cmp_eq, gs_cmp_gt, gs_ix_n, gs_nz_n, gs_nzl_g, gs_n_div, gs_af1, gs_af0, gs_ck0, gs_ck1, gs_ck2t, gs_ck2f, gs_ck3, gs_ck4, gs_zd_t, gs_zd_f, gs_zt_t, gs_zt_f, gs_nar1, gs_nar0, gs_tn, if_true, if_false, not_true_eq_false, not_false_eq_true]
      · simp (disch := omega) only [e_M_security, k_M_security_0, k_M_security_5, k_M_security_10, k_M_security_14, ↓reduceIte, Int.reduceAdd, Int.reduceSub, Int.reduceMul, Int.reduceToNat, gs_00, gs_ofi, gs_k0_m, gs_k1_m, gs_n8, gs_n16, gs_n_add, gs_n_sub, gs_n_mul, gs_n_neg, gs_m_add, gs_m_sub, gs_m_mul, gs_m_neg, gs_n_l, gs_m_n, gs_n_c, gs_eq_t, gs_eq_f1, gs_eq_f2, gs_lt_t, gs_lt_f, gs_le_t, gs_le_f, gs_cmp_lt, gs_cmp_eq, gs_cmp_gt, gs_ix_n, gs_nz_n, gs_nzl_g, gs_n_div, gs_af1, gs_af0, gs_ck0, gs_ck1, gs_ck2t, gs_ck2f, gs_ck3, gs_ck4, gs_zd_t, gs_zd_f, gs_zt_t, gs_zt_f, gs_nar1, gs_nar0, gs_tn, if_true, if_false, not_true_eq_false, not_false_eq_true]
theorem s_M_pair {a b : Int} (h1 : -2147483648 ≤ a) (h2 : a < 2147483648) (h3 : -2147483648 ≤ b) (h4 : b < 2147483648) (d : gs_D) : f_M_pair [gs_i (gs_n a), gs_i (gs_n b)] d = some (some (gs_i (gs_n (gs_z (decide ((0 ≤ a ∧ a < 6) ∧ (0 ≤ b ∧ b < 6) ∧ ¬ a = b))))), d) := by
  by_cases c1 : 0 ≤ a ∧ a < 6
  · by_cases c2 : 0 ≤ b ∧ b < 6
    · by_cases c3 : a = b
      · simp (disch := omega) only [e_M_pair, k_M_pair_0, k_M_pair_6, k_M_pair_9, k_M_pair_15, k_M_pair_18, k_M_pair_23, k_M_pair_27, s_M_within, ↓reduceIte, Int.reduceAdd, Int.reduceSub, Int.reduceMul, Int.reduceToNat, gs_00, gs_ofi, gs_k0_m, gs_k1_m, gs_n8, gs_n16, gs_n_add, gs_n_sub, gs_n_mul, gs_n_neg, gs_m_add, gs_m_sub, gs_m_mul, gs_m_neg, gs_n_l, gs_m_n, gs_n_c, gs_eq_t, gs_eq_f1, gs_eq_f2, gs_lt_t, gs_lt_f, gs_le_t, gs_le_f, gs_cmp_lt, gs_cmp_eq, gs_cmp_gt, gs_ix_n, gs_nz_n, gs_nzl_g, gs_n_div, gs_af1, gs_af0, gs_ck0, gs_ck1, gs_ck2t, gs_ck2f, gs_ck3, gs_ck4, gs_zd_t, gs_zd_f, gs_zt_t, gs_zt_f, gs_nar1, gs_nar0, gs_tn, if_true, if_false, not_true_eq_false, not_false_eq_true]
      · by_cases c4 : a < b
        · simp (disch := omega) only [e_M_pair, k_M_pair_0, k_M_pair_6, k_M_pair_9, k_M_pair_15, k_M_pair_18, k_M_pair_23, k_M_pair_27, s_M_within, ↓reduceIte, Int.reduceAdd, Int.reduceSub, Int.reduceMul, Int.reduceToNat, gs_00, gs_ofi, gs_k0_m, gs_k1_m, gs_n8, gs_n16, gs_n_add, gs_n_sub, gs_n_mul, gs_n_neg, gs_m_add, gs_m_sub, gs_m_mul, gs_m_neg, gs_n_l, gs_m_n, gs_n_c, gs_eq_t, gs_eq_f1, gs_eq_f2, gs_lt_t, gs_lt_f, gs_le_t, gs_le_f, gs_cmp_lt, gs_cmp_eq, gs_cmp_gt, gs_ix_n, gs_nz_n, gs_nzl_g, gs_n_div, gs_af1, gs_af0, gs_ck0, gs_ck1, gs_ck2t, gs_ck2f, gs_ck3, gs_ck4, gs_zd_t, gs_zd_f, gs_zt_t, gs_zt_f, gs_nar1, gs_nar0, gs_tn, if_true, if_false, not_true_eq_false, not_false_eq_true]
        · simp (disch := omega) only [e_M_pair, k_M_pair_0, k_M_pair_6, k_M_pair_9, k_M_pair_15, k_M_pair_18, k_M_pair_23, k_M_pair_27, s_M_within, ↓reduceIte, Int.reduceAdd, Int.reduceSub, Int.reduceMul, Int.reduceToNat, gs_00, gs_ofi, gs_k0_m, gs_k1_m, gs_n8, gs_n16, gs_n_add, gs_n_sub, gs_n_mul, gs_n_neg, gs_m_add, gs_m_sub, gs_m_mul, gs_m_neg, gs_n_l, gs_m_n, gs_n_c, gs_eq_t, gs_eq_f1, gs_eq_f2, gs_lt_t, gs_lt_f, gs_le_t, gs_le_f, gs_cmp_lt, gs_cmp_eq, gs_cmp_gt, gs_ix_n, gs_nz_n, gs_nzl_g, gs_n_div, gs_af1, gs_af0, gs_ck0, gs_ck1, gs_ck2t, gs_ck2f, gs_ck3, gs_ck4, gs_zd_t, gs_zd_f, gs_zt_t, gs_zt_f, gs_nar1, gs_nar0, gs_tn, if_true, if_false, not_true_eq_false, not_false_eq_true]
    · simp (disch := omega) only [e_M_pair, k_M_pair_0, k_M_pair_6, k_M_pair_9, k_M_pair_15, k_M_pair_18, k_M_pair_23, k_M_pair_27, s_M_within, ↓reduceIte, Int.reduceAdd, Int.reduceSub, Int.reduceMul, Int.reduceToNat, gs_00, gs_ofi, gs_k0_m, gs_k1_m, gs_n8, gs_n16, gs_n_add, gs_n_sub, gs_n_mul, gs_n_neg, gs_m_add, gs_m_sub, gs_m_mul, gs_m_neg, gs_n_l, gs_m_n, gs_n_c, gs_eq_t, gs_eq_f1, gs_eq_f2, gs_lt_t, gs_lt_f, gs_le_t, gs_le_f, gs_cmp_lt, gs_cmp_eq, gs_cmp_gt, gs_ix_n, gs_nz_n, gs_nzl_g, gs_n_div, gs_af1, gs_af0, gs_ck0, gs_ck1, gs_ck2t, gs_ck2f, gs_ck3, gs_ck4, gs_zd_t, gs_zd_f, gs_zt_t, gs_zt_f, gs_nar1, gs_nar0, gs_tn, if_true, if_false, not_true_eq_false, not_false_eq_true]
  · simp (disch := omega) only [e_M_pair, k_M_pair_0, k_M_pair_6, k_M_pair_9, k_M_pair_15, k_M_pair_18, k_M_pair_23, k_M_pair_27, s_M_within, ↓reduceIte, Int.reduceAdd, Int.reduceSub, Int.reduceMul, Int.reduceToNat, gs_00, gs_ofi, gs_k0_m, gs_k1_m, gs_n8, gs_n16, gs_n_add, gs_n_sub, gs_n_mul, gs_n_neg, gs_m_add, gs_m_sub, gs_m_mul, gs_m_neg, gs_n_l, gs_m_n, gs_n_c, gs_eq_t, gs_eq_f1, gs_eq_f2, gs_lt_t, gs_lt_f, gs_le_t, gs_le_f, gs_cmp_lt, gs_cmp_eq, gs_cmp_gt, gs_ix_n, gs_nz_n, gs_nzl_g, gs_n_div, gs_af1, gs_af0, gs_ck0, gs_ck1, gs_ck2t, gs_ck2f, gs_ck3, gs_ck4, gs_zd_t, gs_zd_f, gs_zt_t, gs_zt_f, gs_nar1, gs_nar0, gs_tn, if_true, if_false, not_true_eq_false, not_false_eq_true]
end
section
-- lines, rooms, what an instruction does
def gs_ln (S : gs_S) (p : Int) : Int := S.1 1 (p * 3 + 1).toNat * S.1 2 1 * (100 - S.1 3 1) / 100 + S.1 1 (p * 3 + 2).toNat * S.1 2 2 * (100 - S.1 3 2) / 100
/-- how far position x is above its floor -/
def gs_rm (S : gs_S) (x : Int) : Int := if 18 ≤ x then (if S.1 4 (x - 18).toNat = -1 then 4611686018427387904 else S.1 4 (x - 18).toNat - S.1 5 (x - 18).toNat) else if x % 3 = 0 then S.1 0 x.toNat + gs_ln S (x / 3) else S.1 0 x.toNat
def gs_iok (S : gs_S) (i : Nat) : Prop := ((0 ≤ S.1 (10 + i) 0 ∧ S.1 (10 + i) 0 < 6) ∧ (0 ≤ S.1 (10 + i) 1 ∧ S.1 (10 + i) 1 < 6) ∧ ¬ S.1 (10 + i) 0 = S.1 (10 + i) 1) ∧ ((0 ≤ S.1 (10 + i) 2 ∧ S.1 (10 + i) 2 < 3) ∧ (0 ≤ S.1 (10 + i) 3 ∧ S.1 (10 + i) 3 ≤ 1000000) ∧ (0 ≤ S.1 (10 + i) 4 ∧ S.1 (10 + i) 4 ≤ 1000000) ∧ (0 < S.1 (10 + i) 3 → 1 ≤ S.1 (10 + i) 2)) ∧ ((0 ≤ S.1 (10 + i) 5 ∧ S.1 (10 + i) 5 < 3) ∧ (0 ≤ S.1 (10 + i) 6 ∧ S.1 (10 + i) 6 < 4))
/-- bounds -/
def gs_wb (B : Int) (S : gs_S) : Prop :=
  ((∀ j, j < 18 → -B ≤ S.1 0 j ∧ S.1 0 j ≤ B) ∧ (∀ j, j < 18 → 0 ≤ S.1 1 j ∧ S.1 1 j ≤ B) ∧ (∀ j, j < 36 → -B ≤ S.1 5 j ∧ S.1 5 j ≤ B))
  ∧ ((∀ j, j < 3 → 0 ≤ S.1 2 j ∧ S.1 2 j ≤ 1000) ∧ (∀ j, j < 3 → 0 ≤ S.1 3 j ∧ S.1 3 j ≤ 100) ∧ (∀ j, j < 36 → -1 ≤ S.1 4 j ∧ S.1 4 j ≤ 1000000))
  ∧ ((0 ≤ S.1 6 0 ∧ S.1 6 0 < 3) ∧ (0 ≤ S.1 6 1 ∧ S.1 6 1 ≤ 40) ∧ B ≤ 1000000000000)
  ∧ (∀ i : Nat, (i : Int) < S.1 6 1 → gs_iok S i)
/-- a product in its bounds -/
theorem gs_prod {B a b c : Int} (ha : 0 ≤ a ∧ a ≤ B) (hb : 0 ≤ b ∧ b ≤ 1000) (hc : 0 ≤ c ∧ c ≤ 100) (hB : B ≤ 1000000000000) : 0 ≤ a * b * (100 - c) ∧ a * b * (100 - c) ≤ 100000 * B := by
  have x1 : 0 ≤ a * b := Int.mul_nonneg ha.1 hb.1
  have x2 : a * b ≤ B * 1000 := Int.mul_le_mul ha.2 hb.2 hb.1 (by omega)
  refine ⟨Int.mul_nonneg x1 (by omega), ?_⟩
  have x3 : a * b * (100 - c) ≤ (B * 1000) * 100 := Int.mul_le_mul x2 (by omega) (by omega) (by omega)
  omega
section AC
variable {b : Nat} {d : gs_D} {S : gs_S} {B : Int}
theorem gs_ln_rg (hw : gs_wb B S) {p : Int} (h1 : 0 ≤ p) (h2 : p < 6) : 0 ≤ gs_ln S p ∧ gs_ln S p ≤ 2000 * B := by
  have a1 := gs_prod (hw.1.2.1 (p * 3 + 1).toNat (by omega)) (hw.2.1.1 1 (by omega)) (hw.2.1.2.1 1 (by omega)) hw.2.2.1.2.2
  have a2 := gs_prod (hw.1.2.1 (p * 3 + 2).toNat (by omega)) (hw.2.1.1 2 (by omega)) (hw.2.1.2.1 2 (by omega)) hw.2.2.1.2.2
  unfold gs_ln
  omega
theorem gs_rm_rg (hw : gs_wb B S) {x : Int} (h1 : 0 ≤ x) (h2 : x < 54) : -4611686018427387904 ≤ gs_rm S x ∧ gs_rm S x ≤ 4611686018427387904 := by
  have hB := hw.2.2.1.2.2
  unfold gs_rm
  split
  · have a1 := hw.2.1.2.2 (x - 18).toNat (by omega)
    have a2 := hw.1.2.2 (x - 18).toNat (by omega)
    split
    · omega
    · omega
  · have a1 := hw.1.1 x.toNat (by omega)
    have a2 := gs_ln_rg hw (p := x / 3) (by omega) (by omega)
    split
    · omega
    · omega
theorem s_A_creditOf (hC : gs_Cl b d S) (hw : gs_wb B S) {p : Int} (h1 : 0 ≤ p) (h2 : p < 6) : f_A_creditOf [gs_r 3 b, gs_i (gs_n p)] d = some (some (gs_l (gs_m (gs_ln S p))), d) := by
  have hB := hw.2.2.1.2.2
  have a1 := gs_prod (hw.1.2.1 (p * 3 + 1).toNat (by omega)) (hw.2.1.1 1 (by omega)) (hw.2.1.2.1 1 (by omega)) hB
  have a2 := gs_prod (hw.1.2.1 (p * 3 + 2).toNat (by omega)) (hw.2.1.1 2 (by omega)) (hw.2.1.2.1 2 (by omega)) hB
  have b1 := hw.2.1.1 1 (by omega)
  have b2 := hw.2.1.1 2 (by omega)
  have b3 := hw.2.1.2.1 1 (by omega)
  have b4 := hw.2.1.2.1 2 (by omega)
  have hp := hC.p
  have hpr := hC.pr
  have hhc := hC.hc
  simp (disch := omega) only [e_A_creditOf, k_A_creditOf_0, k_A_creditOf_9, k_A_creditOf_15, k_A_creditOf_25, k_A_creditOf_32, k_A_creditOf_43, k_A_creditOf_50, k_A_creditOf_58, hp, hpr, hhc, gs_m_div, Int.zero_add, ↓reduceIte, Int.reduceAdd, Int.reduceSub, Int.reduceMul, Int.reduceToNat, gs_00, gs_ofi, gs_k0_m, gs_k1_m, gs_n8, gs_n16, gs_n_add, gs_n_sub, gs_n_mul, gs_n_neg, gs_m_add, gs_m_sub, gs_m_mul, gs_m_neg, gs_n_l, gs_m_n, gs_n_c, gs_eq_t, gs_eq_f1, gs_eq_f2, gs_lt_t, gs_lt_f, gs_le_t, gs_le_f, gs_cmp_lt, gs_cmp_eq, gs_cmp_gt, gs_ix_n, gs_nz_n, gs_nzl_g, gs_n_div, gs_af1, gs_af0, gs_ck0, gs_ck1, gs_ck2t, gs_ck2f, gs_ck3, gs_ck4, gs_zd_t, gs_zd_f, gs_zt_t, gs_zt_f, gs_nar1, gs_nar0, gs_tn, if_true, if_false, not_true_eq_false, not_false_eq_true]
  rfl
theorem s_A_room (hC : gs_Cl b d S) (hw : gs_wb B S) {x : Int} (h1 : 0 ≤ x) (h2 : x < 54) : f_A_room [gs_r 3 b, gs_i (gs_n x)] d = some (some (gs_l (gs_m (gs_rm S x))), d) := by
  have hB := hw.2.2.1.2.2
  have hh := hC.h
  have hli := hC.li
  have hnt := hC.nt
  by_cases c1 : 18 ≤ x
  · have a1 := hw.2.1.2.2 (x - 18).toNat (by omega)
    have a2 := hw.1.2.2 (x - 18).toNat (by omega)
    by_cases c2 : S.1 4 (x - 18).toNat = -1
    · have e : gs_rm S x = 4611686018427387904 := by rw [gs_rm, if_pos c1, if_pos c2]
      simp (disch := omega) only [e_A_room, k_A_room_0, k_A_room_6, k_A_room_17, k_A_room_21, k_A_room_27, k_A_room_33, k_A_room_40, k_A_room_42, k_A_room_45, k_A_room_48, k_A_room_52, k_A_room_58, k_A_room_64, k_A_room_68, k_A_room_71, k_A_room_75, k_A_room_81, hli, hnt, e, ↓reduceIte, Int.reduceAdd, Int.reduceSub, Int.reduceMul, Int.reduceToNat, gs_00, gs_ofi, gs_k0_m, gs_k1_m, gs_n8, gs_n16, gs_n_add, gs_n_sub, gs_n_mul, gs_n_neg, gs_m_add, gs_m_sub, gs_m_mul, gs_m_neg, gs_n_l, gs_m_n, gs_n_c, gs_eq_t, gs_eq_f1, gs_eq_f2, gs_lt_t, gs_lt_f, gs_le_t, gs_le_f, gs_cmp_lt, gs_cmp_eq, gs_cmp_gt, gs_ix_n, gs_nz_n, gs_nzl_g, gs_n_div, gs_af1, gs_af0, gs_ck0, gs_ck1, gs_ck2t, gs_ck2f, gs_ck3, gs_ck4, gs_zd_t, gs_zd_f, gs_zt_t, gs_zt_f, gs_nar1, gs_nar0, gs_tn, if_true, if_false, not_true_eq_false, not_false_eq_true]
    · have e : gs_rm S x = S.1 4 (x - 18).toNat - S.1 5 (x - 18).toNat := by rw [gs_rm, if_pos c1, if_neg c2]
      simp (disch := omega) only [e_A_room, k_A_room_0, k_A_room_6, k_A_room_17, k_A_room_21, k_A_room_27, k_A_room_33, k_A_room_40, k_A_room_42, k_A_room_45, k_A_room_48, k_A_room_52, k_A_room_58, k_A_room_64, k_A_room_68, k_A_room_71, k_A_room_75, k_A_room_81, hli, hnt, e, ↓reduceIte, Int.reduceAdd, Int.reduceSub, Int.reduceMul, Int.reduceToNat, gs_00, gs_ofi, gs_k0_m, gs_k1_m, gs_n8, gs_n16, gs_n_add, gs_n_sub, gs_n_mul, gs_n_neg, gs_m_add, gs_m_sub, gs_m_mul, gs_m_neg, gs_n_l, gs_m_n, gs_n_c, gs_eq_t, gs_eq_f1, gs_eq_f2, gs_lt_t, gs_lt_f, gs_le_t, gs_le_f, gs_cmp_lt, gs_cmp_eq, gs_cmp_gt, gs_ix_n, gs_nz_n, gs_nzl_g, gs_n_div, gs_af1, gs_af0, gs_ck0, gs_ck1, gs_ck2t, gs_ck2f, gs_ck3, gs_ck4, gs_zd_t, gs_zd_f, gs_zt_t, gs_zt_f, gs_nar1, gs_nar0, gs_tn, if_true, if_false, not_true_eq_false, not_false_eq_true]
  · have a1 := hw.1.1 x.toNat (by omega)
    have cr := s_A_creditOf hC hw (p := x / 3) (by omega) (by omega)
    by_cases c2 : x % 3 = 0
    · have e : gs_rm S x = S.1 0 x.toNat + gs_ln S (x / 3) := by rw [gs_rm, if_neg c1, if_pos c2]
      simp (disch := omega) only [e_A_room, k_A_room_0, k_A_room_6, k_A_room_17, k_A_room_21, k_A_room_27, k_A_room_33, k_A_room_40, k_A_room_42, k_A_room_45, k_A_room_48, k_A_room_52, k_A_room_58, k_A_room_64, k_A_room_68, k_A_room_71, k_A_room_75, k_A_room_81, hh, cr, e, ↓reduceIte, Int.reduceAdd, Int.reduceSub, Int.reduceMul, Int.reduceToNat, gs_00, gs_ofi, gs_k0_m, gs_k1_m, gs_n8, gs_n16, gs_n_add, gs_n_sub, gs_n_mul, gs_n_neg, gs_m_add, gs_m_sub, gs_m_mul, gs_m_neg, gs_n_l, gs_m_n, gs_n_c, gs_eq_t, gs_eq_f1, gs_eq_f2, gs_lt_t, gs_lt_f, gs_le_t, gs_le_f, gs_cmp_lt, gs_cmp_eq, gs_cmp_gt, gs_ix_n, gs_nz_n, gs_nzl_g, gs_n_div, gs_af1, gs_af0, gs_ck0, gs_ck1, gs_ck2t, gs_ck2f, gs_ck3, gs_ck4, gs_zd_t, gs_zd_f, gs_zt_t, gs_zt_f, gs_nar1, gs_nar0, gs_tn, if_true, if_false, not_true_eq_false, not_false_eq_true]
    · have e : gs_rm S x = S.1 0 x.toNat := by rw [gs_rm, if_neg c1, if_neg c2]
      simp (disch := omega) only [e_A_room, k_A_room_0, k_A_room_6, k_A_room_17, k_A_room_21, k_A_room_27, k_A_room_33, k_A_room_40, k_A_room_42, k_A_room_45, k_A_room_48, k_A_room_52, k_A_room_58, k_A_room_64, k_A_room_68, k_A_room_71, k_A_room_75, k_A_room_81, hh, e, ↓reduceIte, Int.reduceAdd, Int.reduceSub, Int.reduceMul, Int.reduceToNat, gs_00, gs_ofi, gs_k0_m, gs_k1_m, gs_n8, gs_n16, gs_n_add, gs_n_sub, gs_n_mul, gs_n_neg, gs_m_add, gs_m_sub, gs_m_mul, gs_m_neg, gs_n_l, gs_m_n, gs_n_c, gs_eq_t, gs_eq_f1, gs_eq_f2, gs_lt_t, gs_lt_f, gs_le_t, gs_le_f, gs_cmp_lt, gs_cmp_eq, gs_cmp_gt, gs_ix_n, gs_nz_n, gs_nzl_g, gs_n_div, gs_af1, gs_af0, gs_ck0, gs_ck1, gs_ck2t, gs_ck2f, gs_ck3, gs_ck4, gs_zd_t, gs_zd_f, gs_zt_t, gs_zt_f, gs_nar1, gs_nar0, gs_tn, if_true, if_false, not_true_eq_false, not_false_eq_true]
/-- the first position below its floor, or -1 -/
def gs_fb (S : gs_S) (x : Int) : Prop := (x = -1 ∧ ∀ y : Int, 0 ≤ y → y < 54 → 0 ≤ gs_rm S y) ∨ (0 ≤ x ∧ x < 54 ∧ gs_rm S x < 0)
theorem s_A_firstBelowFloor (hC : gs_Cl b d S) (hw : gs_wb B S) : ∃ x, gs_fb S x ∧ f_A_firstBelowFloor [gs_r 3 b] d = some (some (gs_i (gs_n x)), d) := by
  have key : ∀ (n : Nat) (i : Int), 0 ≤ i → i + n = 54 → (∀ y : Int, 0 ≤ y → y < i → 0 ≤ gs_rm S y) → ∃ x, gs_fb S x ∧ gs_g Y0 P_A_firstBelowFloor 2 [some (gs_r 3 b), some (gs_i (gs_n i))] [] d = some (some (gs_i (gs_n x)), d) := by
    intro n
    induction n with
    | zero =>
      intro i h0 h1 h2
      refine ⟨-1, Or.inl ⟨rfl, fun y y0 y1 => h2 y y0 (by omega)⟩, ?_⟩
      simp (disch := omega) only [e_A_firstBelowFloor, k_A_firstBelowFloor_0, k_A_firstBelowFloor_2, k_A_firstBelowFloor_8, k_A_firstBelowFloor_13, k_A_firstBelowFloor_18, k_A_firstBelowFloor_20, k_A_firstBelowFloor_26, ↓reduceIte, Int.reduceAdd, Int.reduceSub, Int.reduceMul, Int.reduceToNat, gs_00, gs_ofi, gs_k0_m, gs_k1_m, gs_n8, gs_n16, gs_n_add, gs_n_sub, gs_n_mul, gs_n_neg, gs_m_add, gs_m_sub, gs_m_mul, gs_m_neg, gs_n_l, gs_m_n, gs_n_c, gs_eq_t, gs_eq_f1, gs_eq_f2, gs_lt_t, gs_lt_f, gs_le_t, gs_le_f, gs_cmp_lt, gs_cmp_eq, gs_cmp_gt, gs_ix_n, gs_nz_n, gs_nzl_g, gs_n_div, gs_af1, gs_af0, gs_ck0, gs_ck1, gs_ck2t, gs_ck2f, gs_ck3, gs_ck4, gs_zd_t, gs_zd_f, gs_zt_t, gs_zt_f, gs_nar1, gs_nar0, gs_tn, if_true, if_false, not_true_eq_false, not_false_eq_true]
    | succ n ih =>
      intro i h0 h1 h2
      have hr := s_A_room hC hw (x := i) h0 (by omega)
      have hg := gs_rm_rg hw (x := i) h0 (by omega)
      by_cases c : gs_rm S i < 0
      · refine ⟨i, Or.inr ⟨h0, by omega, c⟩, ?_⟩
        rw [k_A_firstBelowFloor_2]
        simp (disch := omega) only [e_A_firstBelowFloor, k_A_firstBelowFloor_0, k_A_firstBelowFloor_8, k_A_firstBelowFloor_13, k_A_firstBelowFloor_18, k_A_firstBelowFloor_20, k_A_firstBelowFloor_26, hr, ↓reduceIte, Int.reduceAdd, Int.reduceSub, Int.reduceMul, Int.reduceToNat, gs_00, gs_ofi, gs_k0_m, gs_k1_m, gs_n8, gs_n16, gs_n_add, gs_n_sub, gs_n_mul, gs_n_neg, gs_m_add, gs_m_sub, gs_m_mul, gs_m_neg, gs_n_l, gs_m_n, gs_n_c, gs_eq_t, gs_eq_f1, gs_eq_f2, gs_lt_t, gs_lt_f, gs_le_t, gs_le_f, gs_cmp_lt, gs_cmp_eq, gs_cmp_gt, gs_ix_n, gs_nz_n, gs_nzl_g, gs_n_div, gs_af1, gs_af0, gs_ck0, gs_ck1, gs_ck2t, gs_ck2f, gs_ck3, gs_ck4, gs_zd_t, gs_zd_f, gs_zt_t, gs_zt_f, gs_nar1, gs_nar0, gs_tn, if_true, if_false, not_true_eq_false, not_false_eq_true]
      · obtain ⟨x, hx, e⟩ := ih (i + 1) (by omega) (by omega) (fun y y0 y1 => by
          by_cases z : y = i
          · rw [z]; omega
          · exact h2 y y0 (by omega))
        refine ⟨x, hx, ?_⟩
        rw [k_A_firstBelowFloor_2]
        by_cases c2 : gs_rm S i = 0
        · simp (disch := omega) only [e_A_firstBelowFloor, k_A_firstBelowFloor_0, k_A_firstBelowFloor_8, k_A_firstBelowFloor_13, k_A_firstBelowFloor_18, k_A_firstBelowFloor_20, k_A_firstBelowFloor_26, hr, e, ↓reduceIte, Int.reduceAdd, Int.reduceSub, Int.reduceMul, Int.reduceToNat, gs_00, gs_ofi, gs_k0_m, gs_k1_m, gs_n8, gs_n16, gs_n_add, gs_n_sub, gs_n_mul, gs_n_neg, gs_m_add, gs_m_sub, gs_m_mul, gs_m_neg, gs_n_l, gs_m_n, gs_n_c, gs_eq_t, gs_eq_f1, gs_eq_f2, gs_lt_t, gs_lt_f, gs_le_t, gs_le_f, gs_cmp_lt, gs_cmp_eq, gs_cmp_gt, gs_ix_n, gs_nz_n, gs_nzl_g, gs_n_div, gs_af1, gs_af0, gs_ck0, gs_ck1, gs_ck2t, gs_ck2f, gs_ck3, gs_ck4, gs_zd_t, gs_zd_f, gs_zt_t, gs_zt_f, gs_nar1, gs_nar0, gs_tn, if_true, if_false, not_true_eq_false, not_false_eq_true]
        · simp (disch := omega) only [e_A_firstBelowFloor, k_A_firstBelowFloor_0, k_A_firstBelowFloor_8, k_A_firstBelowFloor_13, k_A_firstBelowFloor_18, k_A_firstBelowFloor_20, k_A_firstBelowFloor_26, hr, e, ↓reduceIte, Int.reduceAdd, Int.reduceSub, Int.reduceMul, Int.reduceToNat, gs_00, gs_ofi, gs_k0_m, gs_k1_m, gs_n8, gs_n16, gs_n_add, gs_n_sub, gs_n_mul, gs_n_neg, gs_m_add, gs_m_sub, gs_m_mul, gs_m_neg, gs_n_l, gs_m_n, gs_n_c, gs_eq_t, gs_eq_f1, gs_eq_f2, gs_lt_t, gs_lt_f, gs_le_t, gs_le_f, gs_cmp_lt, gs_cmp_eq, gs_cmp_gt, gs_ix_n, gs_nz_n, gs_nzl_g, gs_n_div, gs_af1, gs_af0, gs_ck0, gs_ck1, gs_ck2t, gs_ck2f, gs_ck3, gs_ck4, gs_zd_t, gs_zd_f, gs_zt_t, gs_zt_f, gs_nar1, gs_nar0, gs_tn, if_true, if_false, not_true_eq_false, not_false_eq_true]
  obtain ⟨x, hx, e⟩ := key 54 0 (by omega) (by omega) (fun y y0 y1 => by omega)
  refine ⟨x, hx, ?_⟩
  simp (disch := omega) only [e_A_firstBelowFloor, k_A_firstBelowFloor_0, e, ↓reduceIte, Int.reduceAdd, Int.reduceSub, Int.reduceMul, Int.reduceToNat, gs_00, gs_ofi, gs_k0_m, gs_k1_m, gs_n8, gs_n16, gs_n_add, gs_n_sub, gs_n_mul, gs_n_neg, gs_m_add, gs_m_sub, gs_m_mul, gs_m_neg, gs_n_l, gs_m_n, gs_n_c, gs_eq_t, gs_eq_f1, gs_eq_f2, gs_lt_t, gs_lt_f, gs_le_t, gs_le_f, gs_cmp_lt, gs_cmp_eq, gs_cmp_gt, gs_ix_n, gs_nz_n, gs_nzl_g, gs_n_div, gs_af1, gs_af0, gs_ck0, gs_ck1, gs_ck2t, gs_ck2f, gs_ck3, gs_ck4, gs_zd_t, gs_zd_f, gs_zt_t, gs_zt_f, gs_nar1, gs_nar0, gs_tn, if_true, if_false, not_true_eq_false, not_false_eq_true]
end AC
end
section
-- an instruction: does it meet another, does it debit, is it covered, what does it move
def gs_mt (S : gs_S) (i j : Nat) : Bool := decide ((0 < S.1 (10 + i) 4 ∧ 0 < S.1 (10 + j) 4 ∧ S.1 (10 + i) 1 = S.1 (10 + j) 1) ∨ (0 < S.1 (10 + i) 3 ∧ 0 < S.1 (10 + j) 3 ∧ S.1 (10 + i) 0 = S.1 (10 + j) 0 ∧ S.1 (10 + i) 2 = S.1 (10 + j) 2))
def gs_db (S : gs_S) (i : Nat) (x : Int) : Bool := decide ((0 < S.1 (10 + i) 3 ∧ x = S.1 (10 + i) 0 * 3 + S.1 (10 + i) 2) ∨ (0 < S.1 (10 + i) 4 ∧ (x = S.1 (10 + i) 1 * 3 + 0 ∨ x = 18 + (S.1 (10 + i) 1 * 6 + S.1 (10 + i) 0))))
def gs_cov (S : gs_S) (i : Nat) : Bool := decide ((S.1 (10 + i) 3 ≤ 0 ∨ S.1 (10 + i) 3 ≤ gs_rm S (S.1 (10 + i) 0 * 3 + S.1 (10 + i) 2)) ∧ (S.1 (10 + i) 4 = 0 ∨ (S.1 (10 + i) 4 ≤ gs_rm S (S.1 (10 + i) 1 * 3 + 0) ∧ S.1 (10 + i) 4 ≤ gs_rm S (18 + (S.1 (10 + i) 1 * 6 + S.1 (10 + i) 0)))))
def gs_ad (S : gs_S) (f j : Nat) (x : Int) : gs_S := gs_u S f j (S.1 f j + x)
def gs_sb (S : gs_S) (f j : Nat) (x : Int) : gs_S := gs_u S f j (S.1 f j - x)
def gs_mv (S : gs_S) (g t s am mo : Int) : gs_S := gs_sb (gs_ad (gs_ad (gs_sb (gs_ad (gs_sb S 0 (g * 3 + s).toNat am) 0 (t * 3 + s).toNat am) 0 (t * 3 + 0).toNat mo) 0 (g * 3 + 0).toNat mo) 5 (t * 6 + g).toNat mo) 5 (g * 6 + t).toNat mo
section IN
variable {b : Nat} {d : gs_D} {S : gs_S} {B : Int}
theorem gs_iok.r {i : Nat} (h : gs_iok S i) : (0 ≤ S.1 (10 + i) 0 ∧ S.1 (10 + i) 0 < 6) ∧ (0 ≤ S.1 (10 + i) 1 ∧ S.1 (10 + i) 1 < 6) ∧ (0 ≤ S.1 (10 + i) 2 ∧ S.1 (10 + i) 2 < 3) ∧ (0 ≤ S.1 (10 + i) 3 ∧ S.1 (10 + i) 3 ≤ 1000000) ∧ (0 ≤ S.1 (10 + i) 4 ∧ S.1 (10 + i) 4 ≤ 1000000) := ⟨h.1.1, h.1.2.1, h.2.1.1, h.2.1.2.1, h.2.1.2.2.1⟩
theorem s_I_meets (hC : gs_Cl b d S) (hw : gs_wb B S) {i j : Nat} (hi : (i : Int) < S.1 6 1) (hj : (j : Int) < S.1 6 1) : f_I_meets [gs_r 13 (gs_ii b i), gs_r 13 (gs_ii b j)] d = some (some (gs_i (gs_n (gs_z (gs_mt S i j)))), d) := by
  obtain ⟨a0, a1, a2, a3, a4⟩ := (hw.2.2.2 i hi).r
  obtain ⟨b0, b1, b2, b3, b4⟩ := (hw.2.2.2 j hj).r
  have hI := fun k => hC.is i k hi
  have hJ := fun k => hC.is j k hj
  simp (disch := omega) only [e_I_meets, k_I_meets_0, k_I_meets_7, k_I_meets_14, k_I_meets_25, k_I_meets_27, k_I_meets_34, k_I_meets_41, k_I_meets_52, k_I_meets_63, k_I_meets_67, hI, hJ, gs_00, gs_ofi, gs_k0_m, gs_k1_m, gs_n8, gs_n16, gs_n_add, gs_n_sub, gs_n_mul, gs_n_neg, gs_m_add, gs_m_sub, gs_m_mul, gs_m_neg, gs_n_l, gs_m_n, gs_n_c, gs_eq_iff, gs_lt_iff, gs_le_iff, gs_cge, gs_clt, gs_cle, gs_cgt, gs_ceq, gs_ix_n, gs_nz_n, gs_nzl_g, gs_n_div, gs_af1, gs_af0, gs_ck_ite, gs_ck0, gs_ck1, gs_ck2t, gs_ck2f, gs_ck3, gs_ck4, gs_nar1, gs_nar0, gs_tn, if_true, if_false, not_true_eq_false, not_false_eq_true]
  unfold gs_mt
  repeat' split
  all_goals simp (disch := omega) only [gs_zd_t, gs_zd_f]
theorem s_I_debits (hC : gs_Cl b d S) (hw : gs_wb B S) {i : Nat} {x : Int} (hi : (i : Int) < S.1 6 1) (h1 : 0 ≤ x) (h2 : x < 54) : f_I_debits [gs_r 13 (gs_ii b i), gs_i (gs_n x)] d = some (some (gs_i (gs_n (gs_z (gs_db S i x)))), d) := by
  obtain ⟨a0, a1, a2, a3, a4⟩ := (hw.2.2.2 i hi).r
  have hI := fun k => hC.is i k hi
  simp (disch := omega) only [e_I_debits, k_I_debits_0, k_I_debits_7, k_I_debits_19, k_I_debits_22, k_I_debits_24, k_I_debits_31, k_I_debits_40, k_I_debits_43, k_I_debits_55, k_I_debits_58, k_I_debits_62, s_G_holding, s_G_bilateral, hI, gs_00, gs_ofi, gs_k0_m, gs_k1_m, gs_n8, gs_n16, gs_n_add, gs_n_sub, gs_n_mul, gs_n_neg, gs_m_add, gs_m_sub, gs_m_mul, gs_m_neg, gs_n_l, gs_m_n, gs_n_c, gs_eq_iff, gs_lt_iff, gs_le_iff, gs_cge, gs_clt, gs_cle, gs_cgt, gs_ceq, gs_ix_n, gs_nz_n, gs_nzl_g, gs_n_div, gs_af1, gs_af0, gs_ck_ite, gs_ck0, gs_ck1, gs_ck2t, gs_ck2f, gs_ck3, gs_ck4, gs_nar1, gs_nar0, gs_tn, if_true, if_false, not_true_eq_false, not_false_eq_true]
  unfold gs_db
  repeat' split
  all_goals simp (disch := omega) only [gs_zd_t, gs_zd_f]
theorem s_A_covers (hC : gs_Cl b d S) (hw : gs_wb B S) {i : Nat} (hi : (i : Int) < S.1 6 1) : f_A_covers [gs_r 3 b, gs_r 13 (gs_ii b i)] d = some (some (gs_i (gs_n (gs_z (gs_cov S i)))), d) := by
  obtain ⟨a0, a1, a2, a3, a4⟩ := (hw.2.2.2 i hi).r
  have hI := fun k => hC.is i k hi
  have r1 := s_A_room hC hw (x := S.1 (10 + i) 0 * 3 + S.1 (10 + i) 2) (by omega) (by omega)
  have r2 := s_A_room hC hw (x := S.1 (10 + i) 1 * 3 + 0) (by omega) (by omega)
  have r3 := s_A_room hC hw (x := 18 + (S.1 (10 + i) 1 * 6 + S.1 (10 + i) 0)) (by omega) (by omega)
  have g1 := gs_rm_rg hw (x := S.1 (10 + i) 0 * 3 + S.1 (10 + i) 2) (by omega) (by omega)
  have g2 := gs_rm_rg hw (x := S.1 (10 + i) 1 * 3 + 0) (by omega) (by omega)
  have g3 := gs_rm_rg hw (x := 18 + (S.1 (10 + i) 1 * 6 + S.1 (10 + i) 0)) (by omega) (by omega)
  simp (disch := omega) only [e_A_covers, k_A_covers_0, k_A_covers_7, k_A_covers_19, k_A_covers_22, k_A_covers_31, k_A_covers_33, k_A_covers_40, k_A_covers_49, k_A_covers_52, k_A_covers_61, k_A_covers_73, k_A_covers_76, k_A_covers_85, k_A_covers_89, s_G_holding, s_G_bilateral, r1, r2, r3, hI, gs_00, gs_ofi, gs_k0_m, gs_k1_m, gs_n8, gs_n16, gs_n_add, gs_n_sub, gs_n_mul, gs_n_neg, gs_m_add, gs_m_sub, gs_m_mul, gs_m_neg, gs_n_l, gs_m_n, gs_n_c, gs_eq_iff, gs_lt_iff, gs_le_iff, gs_cge, gs_clt, gs_cle, gs_cgt, gs_ceq, gs_ix_n, gs_nz_n, gs_nzl_g, gs_n_div, gs_af1, gs_af0, gs_ck_ite, gs_ck0, gs_ck1, gs_ck2t, gs_ck2f, gs_ck3, gs_ck4, gs_nar1, gs_nar0, gs_tn, if_true, if_false, not_true_eq_false, not_false_eq_true]
  unfold gs_cov
  repeat' split
  all_goals simp (disch := omega) only [gs_zd_t, gs_zd_f]
theorem gs_Cl.aH (h : gs_Cl b d S) (j : Nat) (x : Int) : gs_Cl b (gs_wL d 5 b j (gs_m (S.1 0 j + x))) (gs_ad S 0 j x) := h.wH _ _
theorem gs_Cl.sH (h : gs_Cl b d S) (j : Nat) (x : Int) : gs_Cl b (gs_wL d 5 b j (gs_m (S.1 0 j - x))) (gs_sb S 0 j x) := h.wH _ _
theorem gs_Cl.aN (h : gs_Cl b d S) (j : Nat) (x : Int) : gs_Cl b (gs_wL d 10 b j (gs_m (S.1 5 j + x))) (gs_ad S 5 j x) := h.wN _ _
theorem gs_Cl.sN (h : gs_Cl b d S) (j : Nat) (x : Int) : gs_Cl b (gs_wL d 10 b j (gs_m (S.1 5 j - x))) (gs_sb S 5 j x) := h.wN _ _
theorem s_A_move (hC : gs_Cl 0 d S) (hw : gs_wb B S) {i : Nat} {sg : Int} (hi : (i : Int) < S.1 6 1) (hs : sg = 1 ∨ sg = -1) : ∃ d', f_A_move [gs_r 3 0, gs_r 13 (gs_ii 0 i), gs_i (gs_n sg)] d = some (none, d') ∧ gs_Cl 0 d' (gs_mv S (S.1 (10 + i) 0) (S.1 (10 + i) 1) (S.1 (10 + i) 2) (sg * S.1 (10 + i) 3) (sg * S.1 (10 + i) 4)) ∧ gs_fr d d' ∧ d'.1 = d.1 := by
  obtain ⟨a0, a1, a2, a3, a4⟩ := (hw.2.2.2 i hi).r
  have hI := fun k => hC.is i k hi
  have c1 := hC.sH (S.1 (10 + i) 0 * 3 + S.1 (10 + i) 2).toNat (sg * S.1 (10 + i) 3)
  have c2 := c1.aH (S.1 (10 + i) 1 * 3 + S.1 (10 + i) 2).toNat (sg * S.1 (10 + i) 3)
  have c3 := c2.sH (S.1 (10 + i) 1 * 3 + 0).toNat (sg * S.1 (10 + i) 4)
  have c4 := c3.aH (S.1 (10 + i) 0 * 3 + 0).toNat (sg * S.1 (10 + i) 4)
  have c5 := c4.aN (S.1 (10 + i) 1 * 6 + S.1 (10 + i) 0).toNat (sg * S.1 (10 + i) 4)
  have c6 := c5.sN (S.1 (10 + i) 0 * 6 + S.1 (10 + i) 1).toNat (sg * S.1 (10 + i) 4)
  refine ⟨_, ?_, c6, ((((gs_fr.L rfl).tr (gs_fr.L rfl)).tr (gs_fr.L rfl)).tr (gs_fr.L rfl)).tr ((gs_fr.L rfl).tr (gs_fr.L rfl)), rfl⟩
  have h0 := hC.h
  have h1 := c1.h
  have h2 := c2.h
  have h3 := c3.h
  have h4 := c4.nt
  have h5 := c5.nt
  simp (disch := omega) only [e_A_move, k_A_move_0, k_A_move_34, k_A_move_36, k_A_move_39, k_A_move_54, k_A_move_56, k_A_move_59, k_A_move_71, k_A_move_73, k_A_move_77, k_A_move_89, k_A_move_91, k_A_move_95, k_A_move_110, k_A_move_112, k_A_move_116, k_A_move_131, k_A_move_133, k_A_move_137, s_G_holding, s_G_pair, hI, gs_rLI, h0, h1, h2, h3, h4, h5, ↓reduceIte, Int.reduceAdd, Int.reduceSub, Int.reduceMul, Int.reduceToNat, gs_00, gs_ofi, gs_k0_m, gs_k1_m, gs_n8, gs_n16, gs_n_add, gs_n_sub, gs_n_mul, gs_n_neg, gs_m_add, gs_m_sub, gs_m_mul, gs_m_neg, gs_n_l, gs_m_n, gs_n_c, gs_eq_t, gs_eq_f1, gs_eq_f2, gs_lt_t, gs_lt_f, gs_le_t, gs_le_f, gs_cmp_lt, gs_cmp_eq, gs_cmp_gt, gs_ix_n, gs_nz_n, gs_nzl_g, gs_n_div, gs_af1, gs_af0, gs_ck0, gs_ck1, gs_ck2t, gs_ck2f, gs_ck3, gs_ck4, gs_zd_t, gs_zd_f, gs_zt_t, gs_zt_f, gs_nar1, gs_nar0, gs_tn, if_true, if_false, not_true_eq_false, not_false_eq_true]
end IN
end
section
-- the queue
def gs_qa (S : gs_S) (k : Int) : Nat := S.2.getD k.toNat 0
def gs_wq (S : gs_S) : Prop := (∀ k : Int, 0 ≤ k → k < S.2.length → (gs_qa S k : Int) < S.1 6 1) ∧ S.2.length ≤ 10
/-- how many of the first n the k-th meets -/
def gs_cah (S : gs_S) (k : Int) : Nat → Int
  | 0 => 0
  | n + 1 => gs_cah S k n + gs_z (gs_mt S (gs_qa S k) (gs_qa S n))
theorem gs_cah_rg (S : gs_S) (k : Int) : ∀ n : Nat, 0 ≤ gs_cah S k n ∧ gs_cah S k n ≤ n
  | 0 => by simp [gs_cah]
  | n + 1 => by
    have := gs_cah_rg S k n
    have : gs_z (gs_mt S (gs_qa S k) (gs_qa S n)) = 0 ∨ gs_z (gs_mt S (gs_qa S k) (gs_qa S n)) = 1 := by
      cases gs_mt S (gs_qa S k) (gs_qa S n)
      · exact Or.inl rfl
      · exact Or.inr rfl
    simp only [gs_cah]
    omega
section QU
variable {b : Nat} {d : gs_D} {S : gs_S} {B : Int}
theorem s_Q_isFull (hC : gs_Cl b d S) (hw : gs_wb B S) (hq : gs_wq S) : f_Q_isFull [gs_r 4 b] d = some (some (gs_i (gs_n (gs_z (decide (10 ≤ S.2.length ∨ 40 ≤ S.1 6 1))))), d) := by
  have h1 := hC.ct
  have h2 := hC.wt
  have h3 := hq.2
  have h4 := hw.2.2.1.2.1
  simp (disch := omega) only [e_Q_isFull, k_Q_isFull_0, k_Q_isFull_9, k_Q_isFull_18, k_Q_isFull_22, h1, h2, gs_00, gs_ofi, gs_k0_m, gs_k1_m, gs_n8, gs_n16, gs_n_add, gs_n_sub, gs_n_mul, gs_n_neg, gs_m_add, gs_m_sub, gs_m_mul, gs_m_neg, gs_n_l, gs_m_n, gs_n_c, gs_eq_iff, gs_lt_iff, gs_le_iff, gs_cge, gs_clt, gs_cle, gs_cgt, gs_ceq, gs_ix_n, gs_nz_n, gs_nzl_g, gs_n_div, gs_af1, gs_af0, gs_ck_ite, gs_ck0, gs_ck1, gs_ck2t, gs_ck2f, gs_ck3, gs_ck4, gs_nar1, gs_nar0, gs_tn, if_true, if_false, not_true_eq_false, not_false_eq_true]
  repeat' split
  all_goals simp (disch := omega) only [gs_zd_t, gs_zd_f]
theorem s_Q_isNumber (hC : gs_Cl b d S) (hw : gs_wb B S) {i : Int} (h5 : -2147483648 ≤ i) (h6 : i < 2147483648) : f_Q_isNumber [gs_r 4 b, gs_i (gs_n i)] d = some (some (gs_i (gs_n (gs_z (decide (0 ≤ i ∧ i < S.1 6 1))))), d) := by
  have h1 := hC.ct
  have h4 := hw.2.2.1.2.1
  simp (disch := omega) only [e_Q_isNumber, k_Q_isNumber_0, k_Q_isNumber_4, k_Q_isNumber_12, k_Q_isNumber_16, h1, gs_00, gs_ofi, gs_k0_m, gs_k1_m, gs_n8, gs_n16, gs_n_add, gs_n_sub, gs_n_mul, gs_n_neg, gs_m_add, gs_m_sub, gs_m_mul, gs_m_neg, gs_n_l, gs_m_n, gs_n_c, gs_eq_iff, gs_lt_iff, gs_le_iff, gs_cge, gs_clt, gs_cle, gs_cgt, gs_ceq, gs_ix_n, gs_nz_n, gs_nzl_g, gs_n_div, gs_af1, gs_af0, gs_ck_ite, gs_ck0, gs_ck1, gs_ck2t, gs_ck2f, gs_ck3, gs_ck4, gs_nar1, gs_nar0, gs_tn, if_true, if_false, not_true_eq_false, not_false_eq_true]
  repeat' split
  all_goals simp (disch := omega) only [gs_zd_t, gs_zd_f]
theorem s_Q_isPlace (hC : gs_Cl b d S) (hq : gs_wq S) {i : Int} (h5 : -2147483648 ≤ i) (h6 : i < 2147483648) : f_Q_isPlace [gs_r 4 b, gs_i (gs_n i)] d = some (some (gs_i (gs_n (gs_z (decide (0 ≤ i ∧ i < S.2.length))))), d) := by
  have h1 := hC.wt
  have h4 := hq.2
  simp (disch := omega) only [e_Q_isPlace, k_Q_isPlace_0, k_Q_isPlace_4, k_Q_isPlace_12, k_Q_isPlace_16, h1, gs_00, gs_ofi, gs_k0_m, gs_k1_m, gs_n8, gs_n16, gs_n_add, gs_n_sub, gs_n_mul, gs_n_neg, gs_m_add, gs_m_sub, gs_m_mul, gs_m_neg, gs_n_l, gs_m_n, gs_n_c, gs_eq_iff, gs_lt_iff, gs_le_iff, gs_cge, gs_clt, gs_cle, gs_cgt, gs_ceq, gs_ix_n, gs_nz_n, gs_nzl_g, gs_n_div, gs_af1, gs_af0, gs_ck_ite, gs_ck0, gs_ck1, gs_ck2t, gs_ck2f, gs_ck3, gs_ck4, gs_nar1, gs_nar0, gs_tn, if_true, if_false, not_true_eq_false, not_false_eq_true]
  repeat' split
  all_goals simp (disch := omega) only [gs_zd_t, gs_zd_f]
theorem gs_Cl.oi (hC : gs_Cl b d S) : ∀ k : Int, 0 ≤ k → k < S.2.length → d.1 12 b k.toNat = gs_n (gs_qa S k : Nat) := fun k h0 h1 => hC.od k.toNat (by omega)
theorem s_Q_at (hC : gs_Cl b d S) (hw : gs_wb B S) (hq : gs_wq S) {k : Int} (h0 : 0 ≤ k) (h1 : k < S.2.length) : f_Q_at [gs_r 4 b, gs_i (gs_n k)] d = some (some (gs_r 13 (gs_ii b (gs_qa S k))), d) := by
  have h2 := hC.oi k h0 h1
  have h3 := hq.1 k h0 h1
  have h4 := hw.2.2.1.2.1
  have h5 := hq.2
  simp (disch := omega) only [e_Q_at, k_Q_at_0, k_Q_at_10, k_Q_at_11, h2, ↓reduceIte, Int.reduceAdd, Int.reduceSub, Int.reduceMul, Int.reduceToNat, gs_00, gs_ofi, gs_k0_m, gs_k1_m, gs_n8, gs_n16, gs_n_add, gs_n_sub, gs_n_mul, gs_n_neg, gs_m_add, gs_m_sub, gs_m_mul, gs_m_neg, gs_n_l, gs_m_n, gs_n_c, gs_eq_t, gs_eq_f1, gs_eq_f2, gs_lt_t, gs_lt_f, gs_le_t, gs_le_f, gs_cmp_lt, gs_cmp_eq, gs_cmp_gt, gs_ix_n, gs_nz_n, gs_nzl_g, gs_n_div, gs_af1, gs_af0, gs_ck0, gs_ck1, gs_ck2t, gs_ck2f, gs_ck3, gs_ck4, gs_zd_t, gs_zd_f, gs_zt_t, gs_zt_f, gs_nar1, gs_nar0, gs_tn, if_true, if_false, not_true_eq_false, not_false_eq_true]
theorem s_Q_countAhead (hC : gs_Cl b d S) (hw : gs_wb B S) (hq : gs_wq S) {k : Int} (h0 : 0 ≤ k) (h1 : k < S.2.length) : f_Q_countAhead [gs_r 4 b, gs_i (gs_n k)] d = some (some (gs_i (gs_n (gs_cah S k k.toNat))), d) := by
  have h5 := hq.2
  have ak := s_Q_at hC hw hq h0 h1
  have key : ∀ (n : Nat) (j : Int), 0 ≤ j → j + n = k → gs_g Y0 P_Q_countAhead 4 [some (gs_r 4 b), some (gs_i (gs_n k)), some (gs_i (gs_n (gs_cah S k j.toNat))), some (gs_i (gs_n j))] [] d = some (some (gs_i (gs_n (gs_cah S k k.toNat))), d) := by
    intro n
    induction n with
    | zero =>
      intro j j0 j1
      have e : j = k := by omega
      subst e
      simp (disch := omega) only [e_Q_countAhead, k_Q_countAhead_0, k_Q_countAhead_4, k_Q_countAhead_9, k_Q_countAhead_14, k_Q_countAhead_19, k_Q_countAhead_22, k_Q_countAhead_25, k_Q_countAhead_28, k_Q_countAhead_34, ↓reduceIte, Int.reduceAdd, Int.reduceSub, Int.reduceMul, Int.reduceToNat, gs_00, gs_ofi, gs_k0_m, gs_k1_m, gs_n8, gs_n16, gs_n_add, gs_n_sub, gs_n_mul, gs_n_neg, gs_m_add, gs_m_sub, gs_m_mul, gs_m_neg, gs_n_l, gs_m_n, gs_n_c, gs_eq_t, gs_eq_f1, gs_eq_f2, gs_lt_t, gs_lt_f, gs_le_t, gs_le_f, gs_cmp_lt, gs_cmp_eq, gs_cmp_gt, gs_ix_n, gs_nz_n, gs_nzl_g, gs_n_div, gs_af1, gs_af0, gs_ck0, gs_ck1, gs_ck2t, gs_ck2f, gs_ck3, gs_ck4, gs_zd_t, gs_zd_f, gs_zt_t, gs_zt_f, gs_nar1, gs_nar0, gs_tn, if_true, if_false, not_true_eq_false, not_false_eq_true]
    | succ n ih =>
      intro j j0 j1
      have aj := s_Q_at hC hw hq j0 (by omega)
      have mt := s_I_meets hC hw (hq.1 k h0 h1) (hq.1 j j0 (by omega))
      have e := ih (j + 1) (by omega) (by omega)
      have cr := gs_cah_rg S k j.toNat
      have es : gs_cah S k (j + 1).toNat = gs_cah S k j.toNat + gs_z (gs_mt S (gs_qa S k) (gs_qa S j)) := by
        have : (j + 1).toNat = j.toNat + 1 := by omega
        rw [this]
        have : ((j.toNat : Nat) : Int) = j := by omega
        simp only [gs_cah, this]
      rw [es] at e
      rw [k_Q_countAhead_4]
      cases hm : gs_mt S (gs_qa S k) (gs_qa S j)
      · rw [hm] at mt e
        simp (disch := omega) only [e_Q_countAhead, k_Q_countAhead_0, k_Q_countAhead_9, k_Q_countAhead_14, k_Q_countAhead_19, k_Q_countAhead_22, k_Q_countAhead_25, k_Q_countAhead_28, k_Q_countAhead_34, ak, aj, mt, ↓reduceIte, Int.reduceAdd, Int.reduceSub, Int.reduceMul, Int.reduceToNat, gs_00, gs_ofi, gs_k0_m, gs_k1_m, gs_n8, gs_n16, gs_n_add, gs_n_sub, gs_n_mul, gs_n_neg, gs_m_add, gs_m_sub, gs_m_mul, gs_m_neg, gs_n_l, gs_m_n, gs_n_c, gs_eq_t, gs_eq_f1, gs_eq_f2, gs_lt_t, gs_lt_f, gs_le_t, gs_le_f, gs_cmp_lt, gs_cmp_eq, gs_cmp_gt, gs_ix_n, gs_nz_n, gs_nzl_g, gs_n_div, gs_af1, gs_af0, gs_ck0, gs_ck1, gs_ck2t, gs_ck2f, gs_ck3, gs_ck4, gs_zd_t, gs_zd_f, gs_zt_t, gs_zt_f, gs_nar1, gs_nar0, gs_tn, if_true, if_false, not_true_eq_false, not_false_eq_true]
        simpa only [gs_zt_f, Int.add_zero] using e
      · rw [hm] at mt e
        simp (disch := omega) only [e_Q_countAhead, k_Q_countAhead_0, k_Q_countAhead_9, k_Q_countAhead_14, k_Q_countAhead_19, k_Q_countAhead_22, k_Q_countAhead_25, k_Q_countAhead_28, k_Q_countAhead_34, ak, aj, mt, ↓reduceIte, Int.reduceAdd, Int.reduceSub, Int.reduceMul, Int.reduceToNat, gs_00, gs_ofi, gs_k0_m, gs_k1_m, gs_n8, gs_n16, gs_n_add, gs_n_sub, gs_n_mul, gs_n_neg, gs_m_add, gs_m_sub, gs_m_mul, gs_m_neg, gs_n_l, gs_m_n, gs_n_c, gs_eq_t, gs_eq_f1, gs_eq_f2, gs_lt_t, gs_lt_f, gs_le_t, gs_le_f, gs_cmp_lt, gs_cmp_eq, gs_cmp_gt, gs_ix_n, gs_nz_n, gs_nzl_g, gs_n_div, gs_af1, gs_af0, gs_ck0, gs_ck1, gs_ck2t, gs_ck2f, gs_ck3, gs_ck4, gs_zd_t, gs_zd_f, gs_zt_t, gs_zt_f, gs_nar1, gs_nar0, gs_tn, if_true, if_false, not_true_eq_false, not_false_eq_true]
        simpa only [gs_zt_t] using e
  have e := key k.toNat 0 (by omega) (by omega)
  simp (disch := omega) only [e_Q_countAhead, k_Q_countAhead_0, ↓reduceIte, Int.reduceAdd, Int.reduceSub, Int.reduceMul, Int.reduceToNat, gs_00, gs_ofi, gs_k0_m, gs_k1_m, gs_n8, gs_n16, gs_n_add, gs_n_sub, gs_n_mul, gs_n_neg, gs_m_add, gs_m_sub, gs_m_mul, gs_m_neg, gs_n_l, gs_m_n, gs_n_c, gs_eq_t, gs_eq_f1, gs_eq_f2, gs_lt_t, gs_lt_f, gs_le_t, gs_le_f, gs_cmp_lt, gs_cmp_eq, gs_cmp_gt, gs_ix_n, gs_nz_n, gs_nzl_g, gs_n_div, gs_af1, gs_af0, gs_ck0, gs_ck1, gs_ck2t, gs_ck2f, gs_ck3, gs_ck4, gs_zd_t, gs_zd_f, gs_zt_t, gs_zt_f, gs_nar1, gs_nar0, gs_tn, if_true, if_false, not_true_eq_false, not_false_eq_true]
  have e0 : gs_cah S k (0 : Int).toNat = 0 := rfl
  rw [e0] at e
  rw [e]
  rfl
theorem s_Q_placeOf (hC : gs_Cl b d S) (hw : gs_wb B S) (hq : gs_wq S) {i : Int} (h5 : -2147483648 ≤ i) (h6 : i < 2147483648) : ∃ k : Int, ((k = -1 ∧ ∀ j : Int, 0 ≤ j → j < S.2.length → ¬ (gs_qa S j : Int) = i) ∨ (0 ≤ k ∧ k < S.2.length ∧ (gs_qa S k : Int) = i)) ∧ f_Q_placeOf [gs_r 4 b, gs_i (gs_n i)] d = some (some (gs_i (gs_n k)), d) := by
  have h7 := hq.2
  have hwt := hC.wt
  have h4 := hw.2.2.1.2.1
  have key : ∀ (n : Nat) (j : Int), 0 ≤ j → j + n = S.2.length → (∀ y : Int, 0 ≤ y → y < j → ¬ (gs_qa S y : Int) = i) → ∃ k : Int, ((k = -1 ∧ ∀ j : Int, 0 ≤ j → j < S.2.length → ¬ (gs_qa S j : Int) = i) ∨ (0 ≤ k ∧ k < S.2.length ∧ (gs_qa S k : Int) = i)) ∧ gs_g Y0 P_Q_placeOf 2 [some (gs_r 4 b), some (gs_i (gs_n i)), some (gs_i (gs_n j))] [] d = some (some (gs_i (gs_n k)), d) := by
    intro n
    induction n with
    | zero =>
      intro j j0 j1 hj
      refine ⟨-1, Or.inl ⟨rfl, fun y y0 y1 => hj y y0 (by omega)⟩, ?_⟩
      simp (disch := omega) only [e_Q_placeOf, k_Q_placeOf_0, k_Q_placeOf_2, k_Q_placeOf_10, k_Q_placeOf_16, k_Q_placeOf_20, k_Q_placeOf_22, k_Q_placeOf_28, hwt, ↓reduceIte, Int.reduceAdd, Int.reduceSub, Int.reduceMul, Int.reduceToNat, gs_00, gs_ofi, gs_k0_m, gs_k1_m, gs_n8, gs_n16, gs_n_add, gs_n_sub, gs_n_mul, gs_n_neg, gs_m_add, gs_m_sub, gs_m_mul, gs_m_neg, gs_n_l, gs_m_n, gs_n_c, gs_eq_t, gs_eq_f1, gs_eq_f2, gs_lt_t, gs_lt_f, gs_le_t, gs_le_f, gs_cmp_lt, gs_cmp_eq, gs_cmp_gt, gs_ix_n, gs_nz_n, gs_nzl_g, gs_n_div, gs_af1, gs_af0, gs_ck0, gs_ck1, gs_ck2t, gs_ck2f, gs_ck3, gs_ck4, gs_zd_t, gs_zd_f, gs_zt_t, gs_zt_f, gs_nar1, gs_nar0, gs_tn, if_true, if_false, not_true_eq_false, not_false_eq_true]
    | succ n ih =>
      intro j j0 j1 hj
      have h2 := hC.oi j j0 (by omega)
      have h3 := hq.1 j j0 (by omega)
      by_cases c : (gs_qa S j : Int) = i
      · refine ⟨j, Or.inr ⟨j0, by omega, c⟩, ?_⟩
        rw [k_Q_placeOf_2]
        simp (disch := omega) only [e_Q_placeOf, k_Q_placeOf_0, k_Q_placeOf_10, k_Q_placeOf_16, k_Q_placeOf_20, k_Q_placeOf_22, k_Q_placeOf_28, hwt, h2, ↓reduceIte, Int.reduceAdd, Int.reduceSub, Int.reduceMul, Int.reduceToNat, gs_00, gs_ofi, gs_k0_m, gs_k1_m, gs_n8, gs_n16, gs_n_add, gs_n_sub, gs_n_mul, gs_n_neg, gs_m_add, gs_m_sub, gs_m_mul, gs_m_neg, gs_n_l, gs_m_n, gs_n_c, gs_eq_t, gs_eq_f1, gs_eq_f2, gs_lt_t, gs_lt_f, gs_le_t, gs_le_f, gs_cmp_lt, gs_cmp_eq, gs_cmp_gt, gs_ix_n, gs_nz_n, gs_nzl_g, gs_n_div, gs_af1, gs_af0, gs_ck0, gs_ck1, gs_ck2t, gs_ck2f, gs_ck3, gs_ck4, gs_zd_t, gs_zd_f, gs_zt_t, gs_zt_f, gs_nar1, gs_nar0, gs_tn, if_true, if_false, not_true_eq_false, not_false_eq_true]
      · obtain ⟨k, hk, e⟩ := ih (j + 1) (by omega) (by omega) (fun y y0 y1 => by
          by_cases z : y = j
          · rw [z]; exact c
          · exact hj y y0 (by omega))
        refine ⟨k, hk, ?_⟩
        rw [k_Q_placeOf_2]
        by_cases c2 : (gs_qa S j : Int) < i
        · simp (disch := omega) only [e_Q_placeOf, k_Q_placeOf_0, k_Q_placeOf_10, k_Q_placeOf_16, k_Q_placeOf_20, k_Q_placeOf_22, k_Q_placeOf_28, hwt, h2, e, ↓reduceIte, Int.reduceAdd, Int.reduceSub, Int.reduceMul, Int.reduceToNat, gs_00, gs_ofi, gs_k0_m, gs_k1_m, gs_n8, gs_n16, gs_n_add, gs_n_sub, gs_n_mul, gs_n_neg, gs_m_add, gs_m_sub, gs_m_mul, gs_m_neg, gs_n_l, gs_m_n, gs_n_c, gs_eq_t, gs_eq_f1, gs_eq_f2, gs_lt_t, gs_lt_f, gs_le_t, gs_le_f, gs_cmp_lt, gs_cmp_eq, gs_cmp_gt, gs_ix_n, gs_nz_n, gs_nzl_g, gs_n_div, gs_af1, gs_af0, gs_ck0, gs_ck1, gs_ck2t, gs_ck2f, gs_ck3, gs_ck4, gs_zd_t, gs_zd_f, gs_zt_t, gs_zt_f, gs_nar1, gs_nar0, gs_tn, if_true, if_false, not_true_eq_false, not_false_eq_true]
        · simp (disch := omega) only [e_Q_placeOf, k_Q_placeOf_0, k_Q_placeOf_10, k_Q_placeOf_16, k_Q_placeOf_20, k_Q_placeOf_22, k_Q_placeOf_28, hwt, h2, e, ↓reduceIte, Int.reduceAdd, Int.reduceSub, Int.reduceMul, Int.reduceToNat, gs_00, gs_ofi, gs_k0_m, gs_k1_m, gs_n8, gs_n16, gs_n_add, gs_n_sub, gs_n_mul, gs_n_neg, gs_m_add, gs_m_sub, gs_m_mul, gs_m_neg, gs_n_l, gs_m_n, gs_n_c, gs_eq_t, gs_eq_f1, gs_eq_f2, gs_lt_t, gs_lt_f, gs_le_t, gs_le_f, gs_cmp_lt, gs_cmp_eq, gs_cmp_gt, gs_ix_n, gs_nz_n, gs_nzl_g, gs_n_div, gs_af1, gs_af0, gs_ck0, gs_ck1, gs_ck2t, gs_ck2f, gs_ck3, gs_ck4, gs_zd_t, gs_zd_f, gs_zt_t, gs_zt_f, gs_nar1, gs_nar0, gs_tn, if_true, if_false, not_true_eq_false, not_false_eq_true]
  obtain ⟨k, hk, e⟩ := key S.2.length 0 (by omega) (by omega) (fun y y0 y1 => by omega)
  refine ⟨k, hk, ?_⟩
  simp (disch := omega) only [e_Q_placeOf, k_Q_placeOf_0, e, ↓reduceIte, Int.reduceAdd, Int.reduceSub, Int.reduceMul, Int.reduceToNat, gs_00, gs_ofi, gs_k0_m, gs_k1_m, gs_n8, gs_n16, gs_n_add, gs_n_sub, gs_n_mul, gs_n_neg, gs_m_add, gs_m_sub, gs_m_mul, gs_m_neg, gs_n_l, gs_m_n, gs_n_c, gs_eq_t, gs_eq_f1, gs_eq_f2, gs_lt_t, gs_lt_f, gs_le_t, gs_le_f, gs_cmp_lt, gs_cmp_eq, gs_cmp_gt, gs_ix_n, gs_nz_n, gs_nzl_g, gs_n_div, gs_af1, gs_af0, gs_ck0, gs_ck1, gs_ck2t, gs_ck2f, gs_ck3, gs_ck4, gs_zd_t, gs_zd_f, gs_zt_t, gs_zt_f, gs_nar1, gs_nar0, gs_tn, if_true, if_false, not_true_eq_false, not_false_eq_true]
theorem s_Q_comesBefore (hI0 : ∀ i k : Nat, (i : Int) < S.1 6 1 → k < 7 → d.1 13 (gs_ii b i) k = gs_n (S.1 (10 + i) k)) (hw : gs_wb B S) {i j : Nat} (hi : (i : Int) < S.1 6 1) (hj : (j : Int) < S.1 6 1) : f_Q_comesBefore [gs_r 4 b, gs_i (gs_n i), gs_i (gs_n j)] d = some (some (gs_i (gs_n (gs_z (decide (gs_key S i < gs_key S j))))), d) := by
  have p1 := (hw.2.2.2 i hi).2.2.1
  have p2 := (hw.2.2.2 j hj).2.2.1
  have hI := fun k => hI0 i k hi
  have hJ := fun k => hI0 j k hj
  have h4 := hw.2.2.1.2.1
  simp (disch := omega) only [e_Q_comesBefore, k_Q_comesBefore_0, k_Q_comesBefore_6, k_Q_comesBefore_16, k_Q_comesBefore_27, k_Q_comesBefore_33, k_Q_comesBefore_38, k_Q_comesBefore_42, hI, hJ, gs_00, gs_ofi, gs_k0_m, gs_k1_m, gs_n8, gs_n16, gs_n_add, gs_n_sub, gs_n_mul, gs_n_neg, gs_m_add, gs_m_sub, gs_m_mul, gs_m_neg, gs_n_l, gs_m_n, gs_n_c, gs_eq_iff, gs_lt_iff, gs_le_iff, gs_cge, gs_clt, gs_cle, gs_cgt, gs_ceq, gs_ix_n, gs_nz_n, gs_nzl_g, gs_n_div, gs_af1, gs_af0, gs_ck_ite, gs_ck0, gs_ck1, gs_ck2t, gs_ck2f, gs_ck3, gs_ck4, gs_nar1, gs_nar0, gs_tn, if_true, if_false, not_true_eq_false, not_false_eq_true]
  unfold gs_key
  repeat' split
  all_goals simp (disch := omega) only [gs_zd_t, gs_zd_f]
/-- another list -/
theorem gs_Cl.ls {d' : gs_D} {l : List Nat} (h : gs_Cl b d S) (h2 : d'.2 = d.2) (h1 : ∀ t i, ¬ (t = 12 ∧ i = b) → ¬ (t = 4 ∧ i = b) → d'.1 t i = d.1 t i) (h4 : d'.1 4 b 1 = d.1 4 b 1) (h3 : d'.1 4 b 3 = gs_n l.length) (ho : ∀ k : Nat, k < l.length → d'.1 12 b k = gs_n (l.getD k 0 : Nat)) : gs_Cl b d' (S.1, l) := by
  have e : ∀ t i, t ≠ 12 → t ≠ 4 → d'.1 t i = d.1 t i := fun t i a c => h1 t i (fun z => a z.1) (fun z => c z.1)
  refine ⟨⟨fun k hk => ?_, fun k hk => ?_⟩, ⟨fun k hk => ?_, fun k hk => ?_⟩, ⟨fun k hk => ?_, fun k hk => ?_⟩, ⟨?_, ?_, h3⟩, fun i k hi hk => ?_, ho⟩
  · rw [h2]; exact h.h k hk
  · rw [h2]; exact h.p k hk
  · rw [e 7 b (by decide) (by decide)]; exact h.pr k hk
  · rw [e 8 b (by decide) (by decide)]; exact h.hc k hk
  · rw [e 9 b (by decide) (by decide)]; exact h.li k hk
  · rw [h2]; exact h.nt k hk
  · rw [e 1 b (by decide) (by decide)]; exact h.dy
  · rw [h4]; exact h.ct
  · rw [e 13 _ (by decide) (by decide)]; exact h.is i k hi hk
end QU
end
section
-- the queue's changes
theorem gs_er (l : List Nat) (p j : Nat) : (l.eraseIdx p).getD j 0 = if j < p then l.getD j 0 else l.getD (j + 1) 0 := by
  rw [List.getD_eq_getElem?_getD, List.getElem?_eraseIdx]
  split <;> rw [List.getD_eq_getElem?_getD]
theorem gs_in (l : List Nat) (p i j : Nat) (h : p ≤ l.length) : (l.take p ++ i :: l.drop p).getD j 0 = if j < p then l.getD j 0 else if j = p then i else l.getD (j - 1) 0 := by
  have hl : (l.take p).length = p := by rw [List.length_take]; omega
  rw [List.getD_eq_getElem?_getD, List.getElem?_append, hl]
  by_cases c : j < p
  · rw [if_pos c, if_pos c, List.getElem?_take, if_pos c, List.getD_eq_getElem?_getD]
  · rw [if_neg c, if_neg c, List.getElem?_cons]
    by_cases c2 : j = p
    · rw [if_pos (by omega), if_pos c2]
      rfl
    · rw [if_neg (by omega), if_neg c2, List.getElem?_drop, List.getD_eq_getElem?_getD, show p + (j - p - 1) = j - 1 by omega]
/-- but for the list of book b nothing is changed -/
def gs_lf (b : Nat) (d d' : gs_D) : Prop := d'.2 = d.2 ∧ (∀ t i, ¬ (t = 12 ∧ i = b) → ¬ (t = 4 ∧ i = b) → d'.1 t i = d.1 t i) ∧ d'.1 4 b 1 = d.1 4 b 1
theorem gs_lf.fr {d d' : gs_D} (h : gs_lf 0 d d') : gs_fr d d' := fun t i e => ⟨h.2.1 t i (fun z => by rw [z.1, z.2] at e; cases e) (fun z => by rw [z.1, z.2] at e; cases e), by rw [h.1]⟩
theorem gs_lf.o {b : Nat} {d d' : gs_D} {j : Nat} {x : Int32} (h : gs_lf b d d') : gs_lf b d (gs_wI d' 12 b j x) := by
  refine ⟨h.1, fun t i a c => ?_, ?_⟩
  · rw [← h.2.1 t i a c]
    funext k
    exact if_neg fun z => a ⟨z.1, z.2.1⟩
  · rw [← h.2.2]
    exact gs_wI_o (by omega)
theorem gs_lf.w {b : Nat} {d d' : gs_D} {x : Int32} (h : gs_lf b d d') : gs_lf b d (gs_wI d' 4 b 3 x) := by
  refine ⟨h.1, fun t i a c => ?_, ?_⟩
  · rw [← h.2.1 t i a c]
    funext k
    exact if_neg fun z => c ⟨z.1, z.2.1⟩
  · rw [← h.2.2]
    exact gs_wI_o (by omega)
theorem gs_lf.rf {b : Nat} {d : gs_D} : gs_lf b d d := ⟨rfl, fun _ _ _ _ => rfl, rfl⟩
section QV
variable {b : Nat} {d : gs_D} {S : gs_S} {B : Int}
theorem s_Q_removeAt (hC : gs_Cl b d S) (hq : gs_wq S) {p : Int} (h0 : 0 ≤ p) (h1 : p < S.2.length) : ∃ d', f_Q_removeAt [gs_r 4 b, gs_i (gs_n p)] d = some (none, d') ∧ gs_Cl b d' (gs_ql S (S.2.eraseIdx p.toNat)) ∧ gs_lf b d d' := by
  have h5 := hq.2
  have hwt := hC.wt
  have key : ∀ (n : Nat) (k : Int) (dk : gs_D), p ≤ k → k + n = (S.2.length : Int) - 1 → gs_lf b d dk → dk.1 4 b 3 = gs_n ((S.2.length : Int) - 1) → (∀ j : Int, 0 ≤ j → j < k → dk.1 12 b j.toNat = gs_n ((S.2.eraseIdx p.toNat).getD j.toNat 0 : Nat)) → (∀ j : Int, k < j → j < S.2.length → dk.1 12 b j.toNat = gs_n (gs_qa S j : Nat)) →
      ∃ d', gs_g Y0 P_Q_removeAt 12 [some (gs_r 4 b), some (gs_i (gs_n p)), some (gs_i (gs_n k))] [] dk = some (none, d') ∧ gs_lf b d d' ∧ d'.1 4 b 3 = gs_n ((S.2.length : Int) - 1) ∧ (∀ j : Int, 0 ≤ j → j < (S.2.length : Int) - 1 → d'.1 12 b j.toNat = gs_n ((S.2.eraseIdx p.toNat).getD j.toNat 0 : Nat)) := by
    intro n
    induction n with
    | zero =>
      intro k dk k0 k1 hf hx ho hp
      refine ⟨dk, ?_, hf, hx, fun j j0 j1 => ho j j0 (by omega)⟩
      simp (disch := omega) only [e_Q_removeAt, k_Q_removeAt_0, k_Q_removeAt_12, k_Q_removeAt_20, k_Q_removeAt_33, k_Q_removeAt_34, k_Q_removeAt_40, hx, ↓reduceIte, Int.reduceAdd, Int.reduceSub, Int.reduceMul, Int.reduceToNat, gs_00, gs_ofi, gs_k0_m, gs_k1_m, gs_n8, gs_n16, gs_n_add, gs_n_sub, gs_n_mul, gs_n_neg, gs_m_add, gs_m_sub, gs_m_mul, gs_m_neg, gs_n_l, gs_m_n, gs_n_c, gs_eq_t, gs_eq_f1, gs_eq_f2, gs_lt_t, gs_lt_f, gs_le_t, gs_le_f, gs_cmp_lt, gs_cmp_eq, gs_cmp_gt, gs_ix_n, gs_nz_n, gs_nzl_g, gs_n_div, gs_af1, gs_af0, gs_ck0, gs_ck1, gs_ck2t, gs_ck2f, gs_ck3, gs_ck4, gs_zd_t, gs_zd_f, gs_zt_t, gs_zt_f, gs_nar1, gs_nar0, gs_tn, if_true, if_false, not_true_eq_false, not_false_eq_true]
    | succ n ih =>
      intro k dk k0 k1 hf hx ho hp
      have hv := hp (k + 1) (by omega) (by omega)
      obtain ⟨d', e, r⟩ := ih (k + 1) (gs_wI dk 12 b k.toNat (gs_n (gs_qa S (k + 1) : Nat))) (by omega) (by omega) hf.o (by rw [← hx]; exact gs_wI_o (by omega)) (fun j j0 j1 => by
          by_cases z : j = k
          · subst z
            rw [gs_er, if_neg (by omega)]
            rw [gs_wI_s]
            unfold gs_qa
            rw [show (j + 1).toNat = j.toNat + 1 by omega]
          · rw [← ho j j0 (by omega)]
            exact gs_wI_o (by omega)) (fun j j0 j1 => by
          rw [← hp j (by omega) j1]
          exact gs_wI_o (by omega))
      refine ⟨d', ?_, r⟩
      rw [k_Q_removeAt_12]
      simp (disch := omega) only [e_Q_removeAt, k_Q_removeAt_0, k_Q_removeAt_20, k_Q_removeAt_33, k_Q_removeAt_34, k_Q_removeAt_40, hx, hv, ↓reduceIte, Int.reduceAdd, Int.reduceSub, Int.reduceMul, Int.reduceToNat, gs_00, gs_ofi, gs_k0_m, gs_k1_m, gs_n8, gs_n16, gs_n_add, gs_n_sub, gs_n_mul, gs_n_neg, gs_m_add, gs_m_sub, gs_m_mul, gs_m_neg, gs_n_l, gs_m_n, gs_n_c, gs_eq_t, gs_eq_f1, gs_eq_f2, gs_lt_t, gs_lt_f, gs_le_t, gs_le_f, gs_cmp_lt, gs_cmp_eq, gs_cmp_gt, gs_ix_n, gs_nz_n, gs_nzl_g, gs_n_div, gs_af1, gs_af0, gs_ck0, gs_ck1, gs_ck2t, gs_ck2f, gs_ck3, gs_ck4, gs_zd_t, gs_zd_f, gs_zt_t, gs_zt_f, gs_nar1, gs_nar0, gs_tn, if_true, if_false, not_true_eq_false, not_false_eq_true]
      exact e
  have hk := key ((S.2.length : Int) - 1 - p).toNat p (gs_wI d 4 b 3 (gs_n ((S.2.length : Int) - 1))) (by omega) (by omega) gs_lf.rf.w (gs_wI_s) (fun j j0 j1 => by
      have : (gs_wI d 4 b 3 (gs_n ((S.2.length : Int) - 1))).1 12 b j.toNat = d.1 12 b j.toNat := gs_wI_o (by omega)
      rw [this, hC.oi j j0 (by omega), gs_er, if_pos (by omega)]
      rfl) (fun j j0 j1 => by
      have : (gs_wI d 4 b 3 (gs_n ((S.2.length : Int) - 1))).1 12 b j.toNat = d.1 12 b j.toNat := gs_wI_o (by omega)
      rw [this, hC.oi j (by omega) (by omega)])
  obtain ⟨d', e, hf, hx, ho⟩ := hk
  have hlen : (S.2.eraseIdx p.toNat).length = S.2.length - 1 := List.length_eraseIdx_of_lt (by omega)
  refine ⟨d', ?_, hC.ls hf.1 hf.2.1 hf.2.2 (by rw [hx, hlen]; congr 1; omega) (fun k hk => by
    have := ho k (by omega) (by omega)
    rw [gs_tn] at this
    exact this), hf⟩
  simp (disch := omega) only [e_Q_removeAt, k_Q_removeAt_0, hwt, e, ↓reduceIte, Int.reduceAdd, Int.reduceSub, Int.reduceMul, Int.reduceToNat, gs_00, gs_ofi, gs_k0_m, gs_k1_m, gs_n8, gs_n16, gs_n_add, gs_n_sub, gs_n_mul, gs_n_neg, gs_m_add, gs_m_sub, gs_m_mul, gs_m_neg, gs_n_l, gs_m_n, gs_n_c, gs_eq_t, gs_eq_f1, gs_eq_f2, gs_lt_t, gs_lt_f, gs_le_t, gs_le_f, gs_cmp_lt, gs_cmp_eq, gs_cmp_gt, gs_ix_n, gs_nz_n, gs_nzl_g, gs_n_div, gs_af1, gs_af0, gs_ck0, gs_ck1, gs_ck2t, gs_ck2f, gs_ck3, gs_ck4, gs_zd_t, gs_zd_f, gs_zt_t, gs_zt_f, gs_nar1, gs_nar0, gs_tn, if_true, if_false, not_true_eq_false, not_false_eq_true]
theorem s_Q_enter (hC : gs_Cl b d S) (hw : gs_wb B S) (hq : gs_wq S) {i : Nat} (hi : (i : Int) < S.1 6 1) (hL : S.2.length < 10) : ∃ (d' : gs_D) (p : Int), (0 ≤ p ∧ p ≤ S.2.length) ∧ (∀ k : Int, p ≤ k → k < S.2.length → gs_key S i < gs_key S (gs_qa S k)) ∧ (p = 0 ∨ ¬ gs_key S i < gs_key S (gs_qa S (p - 1))) ∧ f_Q_enter [gs_r 4 b, gs_i (gs_n i)] d = some (none, d') ∧ gs_Cl b d' (gs_ql S (S.2.take p.toNat ++ i :: S.2.drop p.toNat)) ∧ gs_lf b d d' := by
  have hwt := hC.wt
  have h4 := hw.2.2.1.2.1
  have key : ∀ (n : Nat) (q : Int) (dk : gs_D), q = n → q ≤ S.2.length → gs_lf b d dk → dk.1 4 b 3 = gs_n S.2.length → (∀ j : Int, 0 ≤ j → j < q → dk.1 12 b j.toNat = gs_n (gs_qa S j : Nat)) → (∀ j : Int, q < j → j ≤ S.2.length → dk.1 12 b j.toNat = gs_n (gs_qa S (j - 1) : Nat)) → (∀ k : Int, q ≤ k → k < S.2.length → gs_key S i < gs_key S (gs_qa S k)) →
      ∃ (d' : gs_D) (p : Int), (0 ≤ p ∧ p ≤ S.2.length) ∧ (∀ k : Int, p ≤ k → k < S.2.length → gs_key S i < gs_key S (gs_qa S k)) ∧ (p = 0 ∨ ¬ gs_key S i < gs_key S (gs_qa S (p - 1))) ∧ gs_g Y0 P_Q_enter 5 [some (gs_r 4 b), some (gs_i (gs_n i)), some (gs_i (gs_n q))] [] dk = some (none, d') ∧ gs_lf b d d' ∧ d'.1 4 b 3 = gs_n (S.2.length + 1) ∧ (∀ j : Int, 0 ≤ j → j ≤ S.2.length → d'.1 12 b j.toNat = gs_n ((S.2.take p.toNat ++ i :: S.2.drop p.toNat).getD j.toNat 0 : Nat)) := by
    have fin : ∀ (q : Int) (dk : gs_D), 0 ≤ q → q ≤ S.2.length → gs_lf b d dk → dk.1 4 b 3 = gs_n S.2.length → (∀ j : Int, 0 ≤ j → j < q → dk.1 12 b j.toNat = gs_n (gs_qa S j : Nat)) → (∀ j : Int, q < j → j ≤ S.2.length → dk.1 12 b j.toNat = gs_n (gs_qa S (j - 1) : Nat)) →
        ∃ d', gs_g Y0 P_Q_enter 45 [some (gs_r 4 b), some (gs_i (gs_n i)), some (gs_i (gs_n q))] [] dk = some (none, d') ∧ gs_lf b d d' ∧ d'.1 4 b 3 = gs_n (S.2.length + 1) ∧ (∀ j : Int, 0 ≤ j → j ≤ S.2.length → d'.1 12 b j.toNat = gs_n ((S.2.take q.toNat ++ i :: S.2.drop q.toNat).getD j.toNat 0 : Nat)) := by
      intro q dk q0 q1 hf hx h1 h2
      have hx' : (gs_wI dk 12 b q.toNat (gs_n i)).1 4 b 3 = gs_n S.2.length := by
        rw [← hx]
        exact gs_wI_o (by omega)
      refine ⟨gs_wI (gs_wI dk 12 b q.toNat (gs_n i)) 4 b 3 (gs_n (S.2.length + 1)), ?_, hf.o.w, gs_wI_s, fun j j0 j1 => ?_⟩
      · simp (disch := omega) only [e_Q_enter, k_Q_enter_0, k_Q_enter_9, k_Q_enter_19, k_Q_enter_22, k_Q_enter_25, k_Q_enter_38, k_Q_enter_39, k_Q_enter_45, k_Q_enter_52, hx', ↓reduceIte, Int.reduceAdd, Int.reduceSub, Int.reduceMul, Int.reduceToNat, gs_00, gs_ofi, gs_k0_m, gs_k1_m, gs_n8, gs_n16, gs_n_add, gs_n_sub, gs_n_mul, gs_n_neg, gs_m_add, gs_m_sub, gs_m_mul, gs_m_neg, gs_n_l, gs_m_n, gs_n_c, gs_eq_t, gs_eq_f1, gs_eq_f2, gs_lt_t, gs_lt_f, gs_le_t, gs_le_f, gs_cmp_lt, gs_cmp_eq, gs_cmp_gt, gs_ix_n, gs_nz_n, gs_nzl_g, gs_n_div, gs_af1, gs_af0, gs_ck0, gs_ck1, gs_ck2t, gs_ck2f, gs_ck3, gs_ck4, gs_zd_t, gs_zd_f, gs_zt_t, gs_zt_f, gs_nar1, gs_nar0, gs_tn, if_true, if_false, not_true_eq_false, not_false_eq_true]
      · have e1 : (gs_wI (gs_wI dk 12 b q.toNat (gs_n i)) 4 b 3 (gs_n (S.2.length + 1))).1 12 b j.toNat = (gs_wI dk 12 b q.toNat (gs_n i)).1 12 b j.toNat := gs_wI_o (by omega)
        rw [e1, gs_in _ _ _ _ (by omega)]
        by_cases c1 : j < q
        · rw [if_pos (by omega), show (gs_wI dk 12 b q.toNat (gs_n i)).1 12 b j.toNat = dk.1 12 b j.toNat from gs_wI_o (by omega), h1 j j0 c1]
          rfl
        · by_cases c2 : j = q
          · subst c2
            rw [if_neg (by omega), if_pos rfl]
            exact gs_wI_s
          · rw [if_neg (by omega), if_neg (by omega), show (gs_wI dk 12 b q.toNat (gs_n i)).1 12 b j.toNat = dk.1 12 b j.toNat from gs_wI_o (by omega), h2 j (by omega) j1]
            unfold gs_qa
            rw [show (j - 1).toNat = j.toNat - 1 by omega]
    intro n
    induction n with
    | zero =>
      intro q dk q0 q1 hf hx h1 h2 h3
      obtain ⟨d', e, r⟩ := fin q dk (by omega) q1 hf hx h1 h2
      refine ⟨d', q, by omega, h3, Or.inl (by omega), ?_, r⟩
      rw [k_Q_enter_5]
      simp (disch := omega) only [↓reduceIte, Int.reduceAdd, Int.reduceSub, Int.reduceMul, Int.reduceToNat, gs_00, gs_ofi, gs_k0_m, gs_k1_m, gs_n8, gs_n16, gs_n_add, gs_n_sub, gs_n_mul, gs_n_neg, gs_m_add, gs_m_sub, gs_m_mul, gs_m_neg, gs_n_l, gs_m_n, gs_n_c, gs_eq_t, gs_eq_f1, gs_eq_f2, gs_lt_t, gs_lt_f, gs_le_t, gs_le_f, gs_cmp_lt, gs_cmp_eq, gs_cmp_gt, gs_ix_n, gs_nz_n, gs_nzl_g, gs_n_div, gs_af1, gs_af0, gs_ck0, gs_ck1, gs_ck2t, gs_ck2f, gs_ck3, gs_ck4, gs_zd_t, gs_zd_f, gs_zt_t, gs_zt_f, gs_nar1, gs_nar0, gs_tn, if_true, if_false, not_true_eq_false, not_false_eq_true]
      exact e
    | succ n ih =>
      intro q dk q0 q1 hf hx h1 h2 h3
      have hv := h1 (q - 1) (by omega) (by omega)
      have hm := hq.1 (q - 1) (by omega) (by omega)
      have hcb := s_Q_comesBefore (d := dk) (S := S) (b := b) (fun i k hi hk => by rw [hf.2.1 13 _ (by omega) (by omega)]; exact hC.is i k hi hk) hw hi hm
      by_cases c : gs_key S i < gs_key S (gs_qa S (q - 1))
      · obtain ⟨d', p, r1, r2, r3, e, r⟩ := ih (q - 1) (gs_wI dk 12 b q.toNat (gs_n (gs_qa S (q - 1) : Nat))) (by omega) (by omega) hf.o (by rw [← hx]; exact gs_wI_o (by omega)) (fun j j0 j1 => by
            rw [← h1 j j0 (by omega)]
            exact gs_wI_o (by omega)) (fun j j0 j1 => by
            by_cases z : j = q
            · subst z
              exact gs_wI_s
            · rw [← h2 j (by omega) j1]
              exact gs_wI_o (by omega)) (fun k k0 k1 => by
            by_cases z : k = q - 1
            · rw [z]; exact c
            · exact h3 k (by omega) k1)
        refine ⟨d', p, r1, r2, r3, ?_, r⟩
        rw [k_Q_enter_5]
        simp (disch := omega) only [e_Q_enter, k_Q_enter_0, k_Q_enter_9, k_Q_enter_19, k_Q_enter_22, k_Q_enter_25, k_Q_enter_38, k_Q_enter_39, hv, hcb, ↓reduceIte, Int.reduceAdd, Int.reduceSub, Int.reduceMul, Int.reduceToNat, gs_00, gs_ofi, gs_k0_m, gs_k1_m, gs_n8, gs_n16, gs_n_add, gs_n_sub, gs_n_mul, gs_n_neg, gs_m_add, gs_m_sub, gs_m_mul, gs_m_neg, gs_n_l, gs_m_n, gs_n_c, gs_eq_t, gs_eq_f1, gs_eq_f2, gs_lt_t, gs_lt_f, gs_le_t, gs_le_f, gs_cmp_lt, gs_cmp_eq, gs_cmp_gt, gs_ix_n, gs_nz_n, gs_nzl_g, gs_n_div, gs_af1, gs_af0, gs_ck0, gs_ck1, gs_ck2t, gs_ck2f, gs_ck3, gs_ck4, gs_zd_t, gs_zd_f, gs_zt_t, gs_zt_f, gs_nar1, gs_nar0, gs_tn, if_true, if_false, not_true_eq_false, not_false_eq_true]
        exact e
      · obtain ⟨d', e, r⟩ := fin q dk (by omega) q1 hf hx h1 h2
        refine ⟨d', q, by omega, h3, Or.inr c, ?_, r⟩
        rw [k_Q_enter_5]
        simp (disch := omega) only [e_Q_enter, k_Q_enter_0, k_Q_enter_9, k_Q_enter_19, k_Q_enter_22, k_Q_enter_25, k_Q_enter_38, k_Q_enter_39, hv, hcb, ↓reduceIte, Int.reduceAdd, Int.reduceSub, Int.reduceMul, Int.reduceToNat, gs_00, gs_ofi, gs_k0_m, gs_k1_m, gs_n8, gs_n16, gs_n_add, gs_n_sub, gs_n_mul, gs_n_neg, gs_m_add, gs_m_sub, gs_m_mul, gs_m_neg, gs_n_l, gs_m_n, gs_n_c, gs_eq_t, gs_eq_f1, gs_eq_f2, gs_lt_t, gs_lt_f, gs_le_t, gs_le_f, gs_cmp_lt, gs_cmp_eq, gs_cmp_gt, gs_ix_n, gs_nz_n, gs_nzl_g, gs_n_div, gs_af1, gs_af0, gs_ck0, gs_ck1, gs_ck2t, gs_ck2f, gs_ck3, gs_ck4, gs_zd_t, gs_zd_f, gs_zt_t, gs_zt_f, gs_nar1, gs_nar0, gs_tn, if_true, if_false, not_true_eq_false, not_false_eq_true]
        exact e
  obtain ⟨d', p, r1, r2, r3, e, hf, hx, ho⟩ := key S.2.length S.2.length d rfl (by omega) gs_lf.rf hwt (fun j j0 j1 => hC.oi j j0 j1) (fun j j0 j1 => by omega) (fun k k0 k1 => by omega)
  have hlen : (S.2.take p.toNat ++ i :: S.2.drop p.toNat).length = S.2.length + 1 := by
    rw [List.length_append, List.length_cons, List.length_take, List.length_drop]
    omega
  refine ⟨d', p, r1, r2, r3, ?_, hC.ls hf.1 hf.2.1 hf.2.2 (by rw [hx, hlen]; rfl) (fun k hk => by
    have := ho k (by omega) (by omega)
    rw [gs_tn] at this
    exact this), hf⟩
  simp (disch := omega) only [e_Q_enter, k_Q_enter_0, hwt, e, ↓reduceIte, Int.reduceAdd, Int.reduceSub, Int.reduceMul, Int.reduceToNat, gs_00, gs_ofi, gs_k0_m, gs_k1_m, gs_n8, gs_n16, gs_n_add, gs_n_sub, gs_n_mul, gs_n_neg, gs_m_add, gs_m_sub, gs_m_mul, gs_m_neg, gs_n_l, gs_m_n, gs_n_c, gs_eq_t, gs_eq_f1, gs_eq_f2, gs_lt_t, gs_lt_f, gs_le_t, gs_le_f, gs_cmp_lt, gs_cmp_eq, gs_cmp_gt, gs_ix_n, gs_nz_n, gs_nzl_g, gs_n_div, gs_af1, gs_af0, gs_ck0, gs_ck1, gs_ck2t, gs_ck2f, gs_ck3, gs_ck4, gs_zd_t, gs_zd_f, gs_zt_t, gs_zt_f, gs_nar1, gs_nar0, gs_tn, if_true, if_false, not_true_eq_false, not_false_eq_true]
end QV
end
section
-- settling, as a change of S
/-- what settling i does to S.1 f j -/
def gs_dl (S : gs_S) (i f j : Nat) : Int := (if f = 0 ∧ j = (S.1 (10 + i) 0 * 3 + S.1 (10 + i) 2).toNat then -S.1 (10 + i) 3 else 0) + (if f = 0 ∧ j = (S.1 (10 + i) 1 * 3 + S.1 (10 + i) 2).toNat then S.1 (10 + i) 3 else 0) + (if f = 0 ∧ j = (S.1 (10 + i) 1 * 3 + 0).toNat then -S.1 (10 + i) 4 else 0) + (if f = 0 ∧ j = (S.1 (10 + i) 0 * 3 + 0).toNat then S.1 (10 + i) 4 else 0) + (if f = 5 ∧ j = (S.1 (10 + i) 1 * 6 + S.1 (10 + i) 0).toNat then S.1 (10 + i) 4 else 0) + (if f = 5 ∧ j = (S.1 (10 + i) 0 * 6 + S.1 (10 + i) 1).toNat then -S.1 (10 + i) 4 else 0)
theorem gs_ad_at (S : gs_S) (f j : Nat) (x : Int) (a c : Nat) : (gs_ad S f j x).1 a c = S.1 a c + if a = f ∧ c = j then x else 0 := by
  show (if a = f ∧ c = j then S.1 f j + x else S.1 a c) = _
  by_cases h : a = f ∧ c = j
  · rw [if_pos h, if_pos h, h.1, h.2]
  · rw [if_neg h, if_neg h, Int.add_zero]
theorem gs_sb_at (S : gs_S) (f j : Nat) (x : Int) (a c : Nat) : (gs_sb S f j x).1 a c = S.1 a c + if a = f ∧ c = j then -x else 0 := by
  show (if a = f ∧ c = j then S.1 f j - x else S.1 a c) = _
  by_cases h : a = f ∧ c = j
  · rw [if_pos h, if_pos h, h.1, h.2]
    omega
  · rw [if_neg h, if_neg h, Int.add_zero]
theorem gs_mv_at (S : gs_S) (i : Nat) {sg : Int} (hs : sg = 1 ∨ sg = -1) (f j : Nat) : (gs_mv S (S.1 (10 + i) 0) (S.1 (10 + i) 1) (S.1 (10 + i) 2) (sg * S.1 (10 + i) 3) (sg * S.1 (10 + i) 4)).1 f j = S.1 f j + sg * gs_dl S i f j := by
  unfold gs_mv gs_dl
  rw [gs_sb_at, gs_ad_at, gs_ad_at, gs_sb_at, gs_ad_at, gs_sb_at]
  rcases hs with rfl | rfl
  · simp only [Int.one_mul]
    omega
  · simp only [Int.neg_mul, Int.one_mul, Int.neg_neg]
    have ng : ∀ (c : Prop) (ic : Decidable c) (y : Int), (if c then -y else 0) = -(if c then y else 0) := by
      intro c ic y
      split <;> omega
    simp only [ng, Int.neg_neg]
    omega
theorem gs_dl_o (S : gs_S) (i : Nat) {f : Nat} (j : Nat) (h0 : f ≠ 0) (h5 : f ≠ 5) : gs_dl S i f j = 0 := by
  unfold gs_dl
  rw [if_neg (fun z => h0 z.1), if_neg (fun z => h0 z.1), if_neg (fun z => h0 z.1), if_neg (fun z => h0 z.1), if_neg (fun z => h5 z.1), if_neg (fun z => h5 z.1)]
  rfl
theorem gs_if_rg {c : Prop} {ic : Decidable c} {y : Int} (h : -1000000 ≤ y) (h2 : y ≤ 1000000) : -1000000 ≤ (@ite Int c ic y 0) ∧ (@ite Int c ic y 0) ≤ 1000000 := by
  split <;> omega
theorem gs_dl_rg {S : gs_S} {i : Nat} (h : gs_iok S i) (f j : Nat) : -6000000 ≤ gs_dl S i f j ∧ gs_dl S i f j ≤ 6000000 := by
  obtain ⟨a0, a1, a2, a3, a4⟩ := h.r
  have t1 := gs_if_rg (c := f = 0 ∧ j = (S.1 (10 + i) 0 * 3 + S.1 (10 + i) 2).toNat) (ic := inferInstance) (y := -S.1 (10 + i) 3) (by omega) (by omega)
  have t2 := gs_if_rg (c := f = 0 ∧ j = (S.1 (10 + i) 1 * 3 + S.1 (10 + i) 2).toNat) (ic := inferInstance) (y := S.1 (10 + i) 3) (by omega) (by omega)
  have t3 := gs_if_rg (c := f = 0 ∧ j = (S.1 (10 + i) 1 * 3 + 0).toNat) (ic := inferInstance) (y := -S.1 (10 + i) 4) (by omega) (by omega)
  have t4 := gs_if_rg (c := f = 0 ∧ j = (S.1 (10 + i) 0 * 3 + 0).toNat) (ic := inferInstance) (y := S.1 (10 + i) 4) (by omega) (by omega)
  have t5 := gs_if_rg (c := f = 5 ∧ j = (S.1 (10 + i) 1 * 6 + S.1 (10 + i) 0).toNat) (ic := inferInstance) (y := S.1 (10 + i) 4) (by omega) (by omega)
  have t6 := gs_if_rg (c := f = 5 ∧ j = (S.1 (10 + i) 0 * 6 + S.1 (10 + i) 1).toNat) (ic := inferInstance) (y := -S.1 (10 + i) 4) (by omega) (by omega)
  unfold gs_dl
  omega
/-- i moves (sg times) -/
def gs_mvd (S : gs_S) (i : Nat) (sg : Int) : gs_S := (fun f j => S.1 f j + sg * gs_dl S i f j, S.2)
theorem gs_mv_eq (S : gs_S) (i : Nat) {sg : Int} (hs : sg = 1 ∨ sg = -1) : gs_mv S (S.1 (10 + i) 0) (S.1 (10 + i) 1) (S.1 (10 + i) 2) (sg * S.1 (10 + i) 3) (sg * S.1 (10 + i) 4) = gs_mvd S i sg := by
  refine Prod.ext ?_ rfl
  funext f j
  exact gs_mv_at S i hs f j
theorem gs_mvd_ins (S : gs_S) (i : Nat) (sg : Int) {f : Nat} (j : Nat) (h0 : f ≠ 0) (h5 : f ≠ 5) : (gs_mvd S i sg).1 f j = S.1 f j := by
  show S.1 f j + sg * gs_dl S i f j = _
  rw [gs_dl_o S i j h0 h5, Int.mul_zero, Int.add_zero]
end
section
-- settling the k-th that waits, and going through
/-- the k-th leaves with status st -/
def gs_lv (S : gs_S) (k : Nat) (st : Int) : gs_S := ((gs_u S (10 + S.2.getD k 0) 6 st).1, S.2.eraseIdx k)
/-- the k-th settles -/
def gs_stl (S : gs_S) (k : Nat) : gs_S := gs_lv (gs_mvd S (S.2.getD k 0) 1) k 1
/-- the k-th is ready -/
def gs_rdy (S : gs_S) (k : Nat) : Bool := decide (gs_cah S k k = 0) && gs_cov S (S.2.getD k 0)
/-- the first that is ready, from k on -/
def gs_fst (S : gs_S) : Nat → Nat → Option Nat
  | 0, _ => none
  | n + 1, k => match gs_rdy S k with
    | true => some k
    | false => gs_fst S n (k + 1)
theorem gs_fst_lt {S : gs_S} : ∀ {n k p : Nat}, gs_fst S n k = some p → k ≤ p ∧ p < k + n
  | 0, _, _, h => by cases h
  | n + 1, k, p, h => by
    cases hr : gs_rdy S k
    · simp only [gs_fst, hr] at h
      have := gs_fst_lt h
      omega
    · simp only [gs_fst, hr] at h
      cases h
      omega
/-- GOING THROUGH, at most n times -/
def gs_thr : Nat → gs_S → Int × gs_S
  | 0, S => (0, S)
  | n + 1, S => match gs_fst S S.2.length 0 with
    | none => (0, S)
    | some k => ((gs_thr n (gs_stl S k)).1 + 1, (gs_thr n (gs_stl S k)).2)
theorem gs_stl_len {S : gs_S} {k : Nat} (h : k < S.2.length) : (gs_stl S k).2.length = S.2.length - 1 := List.length_eraseIdx_of_lt h
theorem gs_thr_en : ∀ (n m : Nat) (S : gs_S), S.2.length ≤ n → S.2.length ≤ m → gs_thr n S = gs_thr m S
  | 0, 0, _, _, _ => rfl
  | 0, m + 1, S, h, _ => by
    have e : S.2.length = 0 := by omega
    simp only [gs_thr, e, gs_fst]
  | n + 1, 0, S, _, h => by
    have e : S.2.length = 0 := by omega
    simp only [gs_thr, e, gs_fst]
  | n + 1, m + 1, S, h1, h2 => by
    simp only [gs_thr]
    cases hf : gs_fst S S.2.length 0 with
    | none => rfl
    | some k =>
      have hk := gs_fst_lt hf
      have hl := gs_stl_len (S := S) (k := k) (by omega)
      simp only
      rw [gs_thr_en n m (gs_stl S k) (by omega) (by omega)]
end
section
-- bounds are kept
section WB
variable {S : gs_S} {B : Int}
theorem gs_u_o (S : gs_S) (f j : Nat) (x : Int) {a : Nat} (c : Nat) (h : a ≠ f) : (gs_u S f j x).1 a c = S.1 a c := if_neg fun z => h z.1
theorem gs_iok_cg {S' : gs_S} {i : Nat} (h : gs_iok S i) (e : ∀ k, k < 7 → S'.1 (10 + i) k = S.1 (10 + i) k) : gs_iok S' i := by
  unfold gs_iok at h ⊢
  rw [e 0 (by omega), e 1 (by omega), e 2 (by omega), e 3 (by omega), e 4 (by omega), e 5 (by omega), e 6 (by omega)]
  exact h
theorem gs_wb_mvd (hw : gs_wb B S) {i : Nat} {sg : Int} (hs : sg = 1 ∨ sg = -1) (hi : (i : Int) < S.1 6 1) (hB : B + 6000000 ≤ 1000000000000) : gs_wb (B + 6000000) (gs_mvd S i sg) := by
  have o : ∀ f j, f ≠ 0 → f ≠ 5 → (gs_mvd S i sg).1 f j = S.1 f j := fun f j a c => gs_mvd_ins S i sg j a c
  have ch : ∀ f j, -6000000 ≤ sg * gs_dl S i f j ∧ sg * gs_dl S i f j ≤ 6000000 := fun f j => by
    have := gs_dl_rg (hw.2.2.2 i hi) f j
    rcases hs with rfl | rfl
    · omega
    · omega
  refine ⟨⟨fun j hj => ?_, fun j hj => ?_, fun j hj => ?_⟩, ⟨fun j hj => ?_, fun j hj => ?_, fun j hj => ?_⟩, ⟨?_, ?_, hB⟩, fun k hk => ?_⟩
  · have a := hw.1.1 j hj
    have c := ch 0 j
    show -(B + 6000000) ≤ S.1 0 j + sg * gs_dl S i 0 j ∧ S.1 0 j + sg * gs_dl S i 0 j ≤ B + 6000000
    omega
  · rw [o 1 j (by decide) (by decide)]
    have := hw.1.2.1 j hj
    omega
  · have a := hw.1.2.2 j hj
    have c := ch 5 j
    show -(B + 6000000) ≤ S.1 5 j + sg * gs_dl S i 5 j ∧ S.1 5 j + sg * gs_dl S i 5 j ≤ B + 6000000
    omega
  · rw [o 2 j (by decide) (by decide)]
    exact hw.2.1.1 j hj
  · rw [o 3 j (by decide) (by decide)]
    exact hw.2.1.2.1 j hj
  · rw [o 4 j (by decide) (by decide)]
    exact hw.2.1.2.2 j hj
  · rw [o 6 0 (by decide) (by decide)]
    exact hw.2.2.1.1
  · rw [o 6 1 (by decide) (by decide)]
    exact hw.2.2.1.2.1
  · rw [o 6 1 (by decide) (by decide)] at hk
    exact gs_iok_cg (hw.2.2.2 k hk) fun c _ => o _ c (by omega) (by omega)
theorem gs_wb_st (hw : gs_wb B S) (i : Nat) {st : Int} (h0 : 0 ≤ st) (h1 : st < 4) : gs_wb B (gs_u S (10 + i) 6 st) := by
  have o : ∀ f j, f < 10 → (gs_u S (10 + i) 6 st).1 f j = S.1 f j := fun f j h => gs_u_o S _ _ _ j (by omega)
  refine ⟨⟨fun j hj => ?_, fun j hj => ?_, fun j hj => ?_⟩, ⟨fun j hj => ?_, fun j hj => ?_, fun j hj => ?_⟩, ⟨?_, ?_, hw.2.2.1.2.2⟩, fun k hk => ?_⟩
  · rw [o 0 j (by omega)]; exact hw.1.1 j hj
  · rw [o 1 j (by omega)]; exact hw.1.2.1 j hj
  · rw [o 5 j (by omega)]; exact hw.1.2.2 j hj
  · rw [o 2 j (by omega)]; exact hw.2.1.1 j hj
  · rw [o 3 j (by omega)]; exact hw.2.1.2.1 j hj
  · rw [o 4 j (by omega)]; exact hw.2.1.2.2 j hj
  · rw [o 6 0 (by omega)]; exact hw.2.2.1.1
  · rw [o 6 1 (by omega)]; exact hw.2.2.1.2.1
  · rw [o 6 1 (by omega)] at hk
    have hk' := hw.2.2.2 k hk
    have e : ∀ c, c ≠ 6 → (gs_u S (10 + i) 6 st).1 (10 + k) c = S.1 (10 + k) c := fun c hc => if_neg fun z => hc z.2
    have e6 : (gs_u S (10 + i) 6 st).1 (10 + k) 6 = st ∨ (gs_u S (10 + i) 6 st).1 (10 + k) 6 = S.1 (10 + k) 6 := by
      by_cases z : k = i
      · left
        exact if_pos ⟨by omega, rfl⟩
      · right
        exact if_neg fun y => by omega
    unfold gs_iok at hk' ⊢
    rw [e 0 (by omega), e 1 (by omega), e 2 (by omega), e 3 (by omega), e 4 (by omega), e 5 (by omega)]
    refine ⟨hk'.1, hk'.2.1, hk'.2.2.1, ?_⟩
    have := hk'.2.2.2
    rcases e6 with z | z <;> rw [z] <;> omega
theorem gs_wq_lv (hq : gs_wq S) {k : Nat} (hk : k < S.2.length) (st : Int) : gs_wq (gs_lv S k st) := by
  have hl : (gs_lv S k st).2.length = S.2.length - 1 := List.length_eraseIdx_of_lt hk
  refine ⟨fun j j0 j1 => ?_, by have := hq.2; omega⟩
  have e6 : (gs_lv S k st).1 6 1 = S.1 6 1 := gs_u_o S _ _ _ 1 (by omega)
  rw [e6]
  show (((S.2.eraseIdx k).getD j.toNat 0 : Nat) : Int) < S.1 6 1
  rw [gs_er]
  split
  · have := hq.1 j j0 (by omega)
    exact this
  · have := hq.1 (j + 1) (by omega) (by omega)
    unfold gs_qa at this
    rw [show (j + 1).toNat = j.toNat + 1 by omega] at this
    exact this
theorem gs_wq_mvd (hq : gs_wq S) (i : Nat) (sg : Int) : gs_wq (gs_mvd S i sg) := by
  refine ⟨fun k k0 k1 => ?_, hq.2⟩
  rw [gs_mvd_ins S i sg 1 (by decide) (by decide)]
  exact hq.1 k k0 k1
end WB
section GO
variable {d : gs_D} {S : gs_S} {B : Int}
theorem gs_now13 {i : Nat} (h : i < 40) : gs_now 13 (gs_ii 0 i) = true := by
  have e : gs_ii 0 i = i := by unfold gs_ii; omega
  rw [e]
  exact gs_fr.i13 h
theorem s_Q_leave (hC : gs_Cl 0 d S) (hw : gs_wb B S) (hq : gs_wq S) {k st : Int} (h0 : 0 ≤ k) (h1 : k < S.2.length) : ∃ d', f_Q_leave [gs_r 4 0, gs_i (gs_n k), gs_i (gs_n st)] d = some (none, d') ∧ gs_Cl 0 d' (gs_lv S k.toNat st) ∧ gs_fr d d' ∧ d'.1 2 0 = d.1 2 0 := by
  have hm := hq.1 k h0 h1
  have hc := hw.2.2.1.2.1
  have ha := s_Q_at hC hw hq h0 h1
  have c1 := hC.wS (gs_qa S k) 6 st (by omega)
  have q1 : gs_wq (gs_u S (10 + gs_qa S k) 6 st) := ⟨fun j j0 j1 => by
    rw [gs_u_o S _ _ _ 1 (by omega)]
    exact hq.1 j j0 j1, hq.2⟩
  obtain ⟨d', e, c2, hf⟩ := s_Q_removeAt c1 q1 (p := k) h0 h1
  refine ⟨d', ?_, c2, (gs_fr.I (gs_now13 (by omega))).tr hf.fr, ?_⟩
  · simp (disch := omega) only [e_Q_leave, k_Q_leave_0, k_Q_leave_5, k_Q_leave_14, ha, e, ↓reduceIte, Int.reduceAdd, Int.reduceSub, Int.reduceMul, Int.reduceToNat, gs_00, gs_ofi, gs_k0_m, gs_k1_m, gs_n8, gs_n16, gs_n_add, gs_n_sub, gs_n_mul, gs_n_neg, gs_m_add, gs_m_sub, gs_m_mul, gs_m_neg, gs_n_l, gs_m_n, gs_n_c, gs_eq_t, gs_eq_f1, gs_eq_f2, gs_lt_t, gs_lt_f, gs_le_t, gs_le_f, gs_cmp_lt, gs_cmp_eq, gs_cmp_gt, gs_ix_n, gs_nz_n, gs_nzl_g, gs_n_div, gs_af1, gs_af0, gs_ck0, gs_ck1, gs_ck2t, gs_ck2f, gs_ck3, gs_ck4, gs_zd_t, gs_zd_f, gs_zt_t, gs_zt_f, gs_nar1, gs_nar0, gs_tn, if_true, if_false, not_true_eq_false, not_false_eq_true]
  · rw [hf.2.1 2 0 (by omega) (by omega)]
    funext j
    exact gs_wI_o (by omega)
theorem s_A_mvd (hC : gs_Cl 0 d S) (hw : gs_wb B S) {i : Nat} {sg : Int} (hi : (i : Int) < S.1 6 1) (hs : sg = 1 ∨ sg = -1) : ∃ d', f_A_move [gs_r 3 0, gs_r 13 (gs_ii 0 i), gs_i (gs_n sg)] d = some (none, d') ∧ gs_Cl 0 d' (gs_mvd S i sg) ∧ gs_fr d d' ∧ d'.1 = d.1 := by
  have h := s_A_move hC hw hi hs
  rw [gs_mv_eq S i hs] at h
  exact h
/-- the number of an answer: -1 for none -/
def gs_on (o : Option Nat) : Int := match o with
  | none => -1
  | some k => k
theorem s_G_firstReady (hC : gs_Cl 0 d S) (hw : gs_wb B S) (hq : gs_wq S) : f_G_firstReady [gs_r 0 0] d = some (some (gs_i (gs_n (gs_on (gs_fst S S.2.length 0)))), d) := by
  have hl := hq.2
  have hwt := hC.wt
  have key : ∀ (n k : Nat), k + n = S.2.length → gs_g Y0 P_G_firstReady 2 [some (gs_r 0 0), some (gs_i (gs_n k))] [] d = some (some (gs_i (gs_n (gs_on (gs_fst S n k)))), d) := by
    intro n
    induction n with
    | zero =>
      intro k hk
      simp (disch := omega) only [e_G_firstReady, k_G_firstReady_0, k_G_firstReady_2, k_G_firstReady_16, k_G_firstReady_27, k_G_firstReady_30, k_G_firstReady_48, k_G_firstReady_51, k_G_firstReady_54, k_G_firstReady_56, k_G_firstReady_62, hwt, ↓reduceIte, Int.reduceAdd, Int.reduceSub, Int.reduceMul, Int.reduceToNat, gs_00, gs_ofi, gs_k0_m, gs_k1_m, gs_n8, gs_n16, gs_n_add, gs_n_sub, gs_n_mul, gs_n_neg, gs_m_add, gs_m_sub, gs_m_mul, gs_m_neg, gs_n_l, gs_m_n, gs_n_c, gs_eq_t, gs_eq_f1, gs_eq_f2, gs_lt_t, gs_lt_f, gs_le_t, gs_le_f, gs_cmp_lt, gs_cmp_eq, gs_cmp_gt, gs_ix_n, gs_nz_n, gs_nzl_g, gs_n_div, gs_af1, gs_af0, gs_ck0, gs_ck1, gs_ck2t, gs_ck2f, gs_ck3, gs_ck4, gs_zd_t, gs_zd_f, gs_zt_t, gs_zt_f, gs_nar1, gs_nar0, gs_tn, if_true, if_false, not_true_eq_false, not_false_eq_true]
      rfl
    | succ n ih =>
      intro k hk
      have ha := s_Q_at hC hw hq (k := (k : Int)) (by omega) (by omega)
      have hca := s_Q_countAhead hC hw hq (k := (k : Int)) (by omega) (by omega)
      have hcv := s_A_covers hC hw (hq.1 (k : Int) (by omega) (by omega))
      have cr := gs_cah_rg S k k
      have ek : gs_qa S (k : Int) = S.2.getD k 0 := by unfold gs_qa; rw [gs_tn]
      rw [gs_tn] at hca
      have e := ih (k + 1) (by omega)
      rw [show ((k + 1 : Nat) : Int) = (k : Int) + 1 by omega] at e
      rw [k_G_firstReady_2]
      by_cases c1 : gs_cah S k k = 0
      · rw [c1] at hca
        cases hb : gs_cov S (S.2.getD k 0)
        · have er : gs_rdy S k = false := by unfold gs_rdy; rw [hb, Bool.and_false]
          rw [ek] at hcv ha
          rw [hb] at hcv
          simp (disch := omega) only [e_G_firstReady, k_G_firstReady_0, k_G_firstReady_16, k_G_firstReady_27, k_G_firstReady_30, k_G_firstReady_48, k_G_firstReady_51, k_G_firstReady_54, k_G_firstReady_56, k_G_firstReady_62, hwt, hca, ha, hcv, ↓reduceIte, Int.reduceAdd, Int.reduceSub, Int.reduceMul, Int.reduceToNat, gs_00, gs_ofi, gs_k0_m, gs_k1_m, gs_n8, gs_n16, gs_n_add, gs_n_sub, gs_n_mul, gs_n_neg, gs_m_add, gs_m_sub, gs_m_mul, gs_m_neg, gs_n_l, gs_m_n, gs_n_c, gs_eq_t, gs_eq_f1, gs_eq_f2, gs_lt_t, gs_lt_f, gs_le_t, gs_le_f, gs_cmp_lt, gs_cmp_eq, gs_cmp_gt, gs_ix_n, gs_nz_n, gs_nzl_g, gs_n_div, gs_af1, gs_af0, gs_ck0, gs_ck1, gs_ck2t, gs_ck2f, gs_ck3, gs_ck4, gs_zd_t, gs_zd_f, gs_zt_t, gs_zt_f, gs_nar1, gs_nar0, gs_tn, if_true, if_false, not_true_eq_false, not_false_eq_true]
          simp only [gs_fst, er]
          exact e
        · have er : gs_rdy S k = true := by unfold gs_rdy; rw [hb, Bool.and_true]; exact decide_eq_true c1
          rw [ek] at hcv ha
          rw [hb] at hcv
          simp (disch := omega) only [e_G_firstReady, k_G_firstReady_0, k_G_firstReady_16, k_G_firstReady_27, k_G_firstReady_30, k_G_firstReady_48, k_G_firstReady_51, k_G_firstReady_54, k_G_firstReady_56, k_G_firstReady_62, hwt, hca, ha, hcv, ↓reduceIte, Int.reduceAdd, Int.reduceSub, Int.reduceMul, Int.reduceToNat, gs_00, gs_ofi, gs_k0_m, gs_k1_m, gs_n8, gs_n16, gs_n_add, gs_n_sub, gs_n_mul, gs_n_neg, gs_m_add, gs_m_sub, gs_m_mul, gs_m_neg, gs_n_l, gs_m_n, gs_n_c, gs_eq_t, gs_eq_f1, gs_eq_f2, gs_lt_t, gs_lt_f, gs_le_t, gs_le_f, gs_cmp_lt, gs_cmp_eq, gs_cmp_gt, gs_ix_n, gs_nz_n, gs_nzl_g, gs_n_div, gs_af1, gs_af0, gs_ck0, gs_ck1, gs_ck2t, gs_ck2f, gs_ck3, gs_ck4, gs_zd_t, gs_zd_f, gs_zt_t, gs_zt_f, gs_nar1, gs_nar0, gs_tn, if_true, if_false, not_true_eq_false, not_false_eq_true]
          simp only [gs_fst, er]
          rfl
      · have er : gs_rdy S k = false := by unfold gs_rdy; rw [decide_eq_false c1, Bool.false_and]
        simp (disch := omega) only [e_G_firstReady, k_G_firstReady_0, k_G_firstReady_16, k_G_firstReady_27, k_G_firstReady_30, k_G_firstReady_48, k_G_firstReady_51, k_G_firstReady_54, k_G_firstReady_56, k_G_firstReady_62, hwt, hca, ↓reduceIte, Int.reduceAdd, Int.reduceSub, Int.reduceMul, Int.reduceToNat, gs_00, gs_ofi, gs_k0_m, gs_k1_m, gs_n8, gs_n16, gs_n_add, gs_n_sub, gs_n_mul, gs_n_neg, gs_m_add, gs_m_sub, gs_m_mul, gs_m_neg, gs_n_l, gs_m_n, gs_n_c, gs_eq_t, gs_eq_f1, gs_eq_f2, gs_lt_t, gs_lt_f, gs_le_t, gs_le_f, gs_cmp_lt, gs_cmp_eq, gs_cmp_gt, gs_ix_n, gs_nz_n, gs_nzl_g, gs_n_div, gs_af1, gs_af0, gs_ck0, gs_ck1, gs_ck2t, gs_ck2f, gs_ck3, gs_ck4, gs_zd_t, gs_zd_f, gs_zt_t, gs_zt_f, gs_nar1, gs_nar0, gs_tn, if_true, if_false, not_true_eq_false, not_false_eq_true]
        simp only [gs_fst, er]
        exact e
  have e := key S.2.length 0 (by omega)
  rw [show ((0 : Nat) : Int) = 0 from rfl] at e
  simp (disch := omega) only [e_G_firstReady, k_G_firstReady_0, e, ↓reduceIte, Int.reduceAdd, Int.reduceSub, Int.reduceMul, Int.reduceToNat, gs_00, gs_ofi, gs_k0_m, gs_k1_m, gs_n8, gs_n16, gs_n_add, gs_n_sub, gs_n_mul, gs_n_neg, gs_m_add, gs_m_sub, gs_m_mul, gs_m_neg, gs_n_l, gs_m_n, gs_n_c, gs_eq_t, gs_eq_f1, gs_eq_f2, gs_lt_t, gs_lt_f, gs_le_t, gs_le_f, gs_cmp_lt, gs_cmp_eq, gs_cmp_gt, gs_ix_n, gs_nz_n, gs_nzl_g, gs_n_div, gs_af1, gs_af0, gs_ck0, gs_ck1, gs_ck2t, gs_ck2f, gs_ck3, gs_ck4, gs_zd_t, gs_zd_f, gs_zt_t, gs_zt_f, gs_nar1, gs_nar0, gs_tn, if_true, if_false, not_true_eq_false, not_false_eq_true]
theorem s_G_goThrough (hC : gs_Cl 0 d S) (hw : gs_wb B S) (hq : gs_wq S) (hB : B + 60000000 ≤ 1000000000000) : ∃ d', f_G_goThrough [gs_r 0 0] d = some (some (gs_i (gs_n (gs_thr 10 S).1)), d') ∧ gs_Cl 0 d' (gs_thr 10 S).2 ∧ gs_fr d d' := by
  have key : ∀ (n : Nat) (c : Int) (S : gs_S) (B : Int) (dk : gs_D) (o : Option gs_V), c + n = 10 → 0 ≤ c → B + 6000000 * n ≤ 1000000000000 → gs_Cl 0 dk S → gs_wb B S → gs_wq S → ∃ d', gs_g Y0 P_G_goThrough 2 [some (gs_r 0 0), some (gs_i (gs_n c)), o] [] dk = some (some (gs_i (gs_n (c + (gs_thr n S).1))), d') ∧ gs_Cl 0 d' (gs_thr n S).2 ∧ gs_fr dk d' := by
    intro n
    induction n with
    | zero =>
      intro c S B dk o h1 h2 h3 hC hw hq
      refine ⟨dk, ?_, hC, gs_fr.rf⟩
      have e : c = 10 := by omega
      subst e
      simp (disch := omega) only [e_G_goThrough, k_G_goThrough_0, k_G_goThrough_2, k_G_goThrough_8, k_G_goThrough_12, k_G_goThrough_18, k_G_goThrough_20, k_G_goThrough_38, k_G_goThrough_42, k_G_goThrough_54, k_G_goThrough_60, ↓reduceIte, Int.reduceAdd, Int.reduceSub, Int.reduceMul, Int.reduceToNat, gs_00, gs_ofi, gs_k0_m, gs_k1_m, gs_n8, gs_n16, gs_n_add, gs_n_sub, gs_n_mul, gs_n_neg, gs_m_add, gs_m_sub, gs_m_mul, gs_m_neg, gs_n_l, gs_m_n, gs_n_c, gs_eq_t, gs_eq_f1, gs_eq_f2, gs_lt_t, gs_lt_f, gs_le_t, gs_le_f, gs_cmp_lt, gs_cmp_eq, gs_cmp_gt, gs_ix_n, gs_nz_n, gs_nzl_g, gs_n_div, gs_af1, gs_af0, gs_ck0, gs_ck1, gs_ck2t, gs_ck2f, gs_ck3, gs_ck4, gs_zd_t, gs_zd_f, gs_zt_t, gs_zt_f, gs_nar1, gs_nar0, gs_tn, if_true, if_false, not_true_eq_false, not_false_eq_true]
      rfl
    | succ n ih =>
      intro c S B dk o h1 h2 h3 hC hw hq
      have hfr := s_G_firstReady hC hw hq
      have hl := hq.2
      rw [k_G_goThrough_2]
      cases hf : gs_fst S S.2.length 0 with
      | none =>
        rw [hf] at hfr
        refine ⟨dk, ?_, by simp only [gs_thr, hf]; exact hC, gs_fr.rf⟩
        have hfr' : f_G_firstReady [gs_r 0 0] dk = some (some (gs_i (gs_n (-1))), dk) := hfr
        simp (disch := omega) only [e_G_goThrough, k_G_goThrough_0, k_G_goThrough_8, k_G_goThrough_12, k_G_goThrough_18, k_G_goThrough_20, k_G_goThrough_38, k_G_goThrough_42, k_G_goThrough_54, k_G_goThrough_60, hfr', ↓reduceIte, Int.reduceAdd, Int.reduceSub, Int.reduceMul, Int.reduceToNat, gs_00, gs_ofi, gs_k0_m, gs_k1_m, gs_n8, gs_n16, gs_n_add, gs_n_sub, gs_n_mul, gs_n_neg, gs_m_add, gs_m_sub, gs_m_mul, gs_m_neg, gs_n_l, gs_m_n, gs_n_c, gs_eq_t, gs_eq_f1, gs_eq_f2, gs_lt_t, gs_lt_f, gs_le_t, gs_le_f, gs_cmp_lt, gs_cmp_eq, gs_cmp_gt, gs_ix_n, gs_nz_n, gs_nzl_g, gs_n_div, gs_af1, gs_af0, gs_ck0, gs_ck1, gs_ck2t, gs_ck2f, gs_ck3, gs_ck4, gs_zd_t, gs_zd_f, gs_zt_t, gs_zt_f, gs_nar1, gs_nar0, gs_tn, if_true, if_false, not_true_eq_false, not_false_eq_true]
        simp only [gs_thr, hf, Int.add_zero]
      | some k =>
        have hk := gs_fst_lt hf
        rw [hf] at hfr
        have hfr' : f_G_firstReady [gs_r 0 0] dk = some (some (gs_i (gs_n (k : Int))), dk) := hfr
        have ha := s_Q_at hC hw hq (k := (k : Int)) (by omega) (by omega)
        have hm := hq.1 (k : Int) (by omega) (by omega)
        obtain ⟨d1, e1, c1, f1, -⟩ := s_A_mvd hC hw hm (Or.inl rfl)
        have w1 := gs_wb_mvd hw (Or.inl rfl) hm (by omega)
        have q1 := gs_wq_mvd hq (gs_qa S k) 1
        obtain ⟨d2, e2, c2, f2, -⟩ := s_Q_leave c1 w1 q1 (k := (k : Int)) (st := 1) (by omega) (by show (k : Int) < S.2.length; omega)
        have ek : gs_qa S (k : Int) = S.2.getD k 0 := by unfold gs_qa; rw [gs_tn]
        have es : gs_lv (gs_mvd S (gs_qa S (k : Int)) 1) (k : Int).toNat 1 = gs_stl S k := by rw [ek, gs_tn]; rfl
        rw [es] at c2
        obtain ⟨d3, e3, c3, f3⟩ := ih (c + 1) (gs_stl S k) (B + 6000000) d2 (some (gs_i (gs_n (k : Int)))) (by omega) (by omega) (by omega) c2 (by rw [← es]; exact gs_wb_st w1 _ (by omega) (by omega)) (by rw [← es]; exact gs_wq_lv q1 (by show (k : Int).toNat < S.2.length; omega) 1)
        refine ⟨d3, ?_, by simp only [gs_thr, hf]; exact c3, (f1.tr f2).tr f3⟩
        simp (disch := omega) only [e_G_goThrough, k_G_goThrough_0, k_G_goThrough_8, k_G_goThrough_12, k_G_goThrough_18, k_G_goThrough_20, k_G_goThrough_38, k_G_goThrough_42, k_G_goThrough_54, k_G_goThrough_60, hfr', ha, e1, e2, ↓reduceIte, Int.reduceAdd, Int.reduceSub, Int.reduceMul, Int.reduceToNat, gs_00, gs_ofi, gs_k0_m, gs_k1_m, gs_n8, gs_n16, gs_n_add, gs_n_sub, gs_n_mul, gs_n_neg, gs_m_add, gs_m_sub, gs_m_mul, gs_m_neg, gs_n_l, gs_m_n, gs_n_c, gs_eq_t, gs_eq_f1, gs_eq_f2, gs_lt_t, gs_lt_f, gs_le_t, gs_le_f, gs_cmp_lt, gs_cmp_eq, gs_cmp_gt, gs_ix_n, gs_nz_n, gs_nzl_g, gs_n_div, gs_af1, gs_af0, gs_ck0, gs_ck1, gs_ck2t, gs_ck2f, gs_ck3, gs_ck4, gs_zd_t, gs_zd_f, gs_zt_t, gs_zt_f, gs_nar1, gs_nar0, gs_tn, if_true, if_false, not_true_eq_false, not_false_eq_true]
        rw [e3]
        simp only [gs_thr, hf]
        rw [show c + 1 + (gs_thr n (gs_stl S k)).1 = c + ((gs_thr n (gs_stl S k)).1 + 1) by omega]
  obtain ⟨d', e, c, f⟩ := key 10 0 S B d none (by omega) (by omega) (by omega) hC hw hq
  refine ⟨d', ?_, c, f⟩
  rw [Int.zero_add] at e
  simp (disch := omega) only [e_G_goThrough, k_G_goThrough_0, e, ↓reduceIte, Int.reduceAdd, Int.reduceSub, Int.reduceMul, Int.reduceToNat, gs_00, gs_ofi, gs_k0_m, gs_k1_m, gs_n8, gs_n16, gs_n_add, gs_n_sub, gs_n_mul, gs_n_neg, gs_m_add, gs_m_sub, gs_m_mul, gs_m_neg, gs_n_l, gs_m_n, gs_n_c, gs_eq_t, gs_eq_f1, gs_eq_f2, gs_lt_t, gs_lt_f, gs_le_t, gs_le_f, gs_cmp_lt, gs_cmp_eq, gs_cmp_gt, gs_ix_n, gs_nz_n, gs_nzl_g, gs_n_div, gs_af1, gs_af0, gs_ck0, gs_ck1, gs_ck2t, gs_ck2f, gs_ck3, gs_ck4, gs_zd_t, gs_zd_f, gs_zt_t, gs_zt_f, gs_nar1, gs_nar0, gs_tn, if_true, if_false, not_true_eq_false, not_false_eq_true]
end GO
end
section
/-! The model's row holds S. -/
def gs_ms (S : gs_S) (i c : Nat) : Int := match c with
  | 0 => if 0 < S.1 (10 + i) 4 then S.1 (10 + i) 1 else -1
  | 1 => if 0 < S.1 (10 + i) 4 then S.1 (10 + i) 0 else -1
  | 2 => if 0 < S.1 (10 + i) 3 then S.1 (10 + i) 0 else -1
  | 3 => if 0 < S.1 (10 + i) 3 then S.1 (10 + i) 1 else -1
  | 4 => S.1 (10 + i) 2
  | 5 => S.1 (10 + i) 4
  | 6 => S.1 (10 + i) 3
  | _ => S.1 (10 + i) 5 + 4 * S.1 (10 + i) 6
def gs_mr (S : gs_S) (n : Nat) : Int := if n < 18 then S.1 0 n else if n < 30 then S.1 1 (3 * ((n - 18) / 2) + 1 + (n - 18) % 2) else if n < 32 then S.1 2 (n - 29) else if n < 34 then S.1 3 (n - 31) else if n < 70 then S.1 4 (n - 34) else if n < 106 then S.1 5 (n - 70) else if n = 106 then S.1 6 0 else if n = 107 then S.1 6 1 else gs_ms S ((n - 110) / 8) ((n - 110) % 8)
def gs_Mo (t : Nat) (d : gs_D) (S : gs_S) : Prop := ∀ n : Nat, (n : Int) < 110 + 8 * S.1 6 1 → n ≠ 108 → n ≠ 109 → d.2 t 0 n = gs_m (gs_mr S n)
section MM
variable {d : gs_D} {S : gs_S} {B : Int}
theorem gs_mr_h {n : Nat} (h : n < 18) : gs_mr S n = S.1 0 n := if_pos h
theorem gs_mr_p {n : Nat} (h : 18 ≤ n) (h2 : n < 30) : gs_mr S n = S.1 1 (3 * ((n - 18) / 2) + 1 + (n - 18) % 2) := by
  unfold gs_mr
  rw [if_neg (by omega), if_pos h2]
theorem gs_mr_r {n : Nat} (h : 30 ≤ n) (h2 : n < 32) : gs_mr S n = S.1 2 (n - 29) := by
  unfold gs_mr
  rw [if_neg (by omega), if_neg (by omega), if_pos h2]
theorem gs_mr_c {n : Nat} (h : 32 ≤ n) (h2 : n < 34) : gs_mr S n = S.1 3 (n - 31) := by
  unfold gs_mr
  rw [if_neg (by omega), if_neg (by omega), if_neg (by omega), if_pos h2]
theorem gs_mr_l {n : Nat} (h : 34 ≤ n) (h2 : n < 70) : gs_mr S n = S.1 4 (n - 34) := by
  unfold gs_mr
  rw [if_neg (by omega), if_neg (by omega), if_neg (by omega), if_neg (by omega), if_pos h2]
theorem gs_mr_n {n : Nat} (h : 70 ≤ n) (h2 : n < 106) : gs_mr S n = S.1 5 (n - 70) := by
  unfold gs_mr
  rw [if_neg (by omega), if_neg (by omega), if_neg (by omega), if_neg (by omega), if_neg (by omega), if_pos h2]
theorem gs_mr_d : gs_mr S 106 = S.1 6 0 := by
  unfold gs_mr
  rw [if_neg (by omega), if_neg (by omega), if_neg (by omega), if_neg (by omega), if_neg (by omega), if_neg (by omega), if_pos rfl]
theorem gs_mr_k : gs_mr S 107 = S.1 6 1 := by
  unfold gs_mr
  rw [if_neg (by omega), if_neg (by omega), if_neg (by omega), if_neg (by omega), if_neg (by omega), if_neg (by omega), if_neg (by omega), if_pos rfl]
theorem gs_mr_i {n : Nat} (h : 110 ≤ n) : gs_mr S n = gs_ms S ((n - 110) / 8) ((n - 110) % 8) := by
  unfold gs_mr
  rw [if_neg (by omega), if_neg (by omega), if_neg (by omega), if_neg (by omega), if_neg (by omega), if_neg (by omega), if_neg (by omega), if_neg (by omega)]
theorem gs_Mo.i {t : Nat} (hM : gs_Mo t d S) (i : Nat) (hi : (i : Int) < S.1 6 1) (c : Int) (h0 : 0 ≤ c) (h1 : c < 8) : d.2 t 0 (110 + 8 * (i : Int) + c).toNat = gs_m (gs_ms S i c.toNat) := by
  rw [hM _ (by omega) (by omega) (by omega), gs_mr_i (by omega), show ((110 + 8 * (i : Int) + c).toNat - 110) / 8 = i by omega, show ((110 + 8 * (i : Int) + c).toNat - 110) % 8 = c.toNat by omega]
theorem gs_ms_4 {i : Nat} : gs_ms S i 4 = S.1 (10 + i) 2 := rfl
theorem gs_ms_5 {i : Nat} : gs_ms S i 5 = S.1 (10 + i) 4 := rfl
theorem gs_ms_6 {i : Nat} : gs_ms S i 6 = S.1 (10 + i) 3 := rfl
theorem gs_ms_7 {i : Nat} : gs_ms S i 7 = S.1 (10 + i) 5 + 4 * S.1 (10 + i) 6 := rfl
theorem gs_ms_0t {i : Nat} (h : 0 < S.1 (10 + i) 4) : gs_ms S i 0 = S.1 (10 + i) 1 := if_pos h
theorem gs_ms_0f {i : Nat} (h : S.1 (10 + i) 4 ≤ 0) : gs_ms S i 0 = -1 := if_neg (by omega)
theorem gs_ms_1t {i : Nat} (h : 0 < S.1 (10 + i) 4) : gs_ms S i 1 = S.1 (10 + i) 0 := if_pos h
theorem gs_ms_1f {i : Nat} (h : S.1 (10 + i) 4 ≤ 0) : gs_ms S i 1 = -1 := if_neg (by omega)
theorem gs_ms_2t {i : Nat} (h : 0 < S.1 (10 + i) 3) : gs_ms S i 2 = S.1 (10 + i) 0 := if_pos h
theorem gs_ms_2f {i : Nat} (h : S.1 (10 + i) 3 ≤ 0) : gs_ms S i 2 = -1 := if_neg (by omega)
theorem gs_ms_3t {i : Nat} (h : 0 < S.1 (10 + i) 3) : gs_ms S i 3 = S.1 (10 + i) 1 := if_pos h
theorem gs_ms_3f {i : Nat} (h : S.1 (10 + i) 3 ≤ 0) : gs_ms S i 3 = -1 := if_neg (by omega)
theorem s_M_day (hM : gs_Mo 21 d S) (hw : gs_wb B S) : f_M_day [gs_r 20 0] d = some (some (gs_i (gs_n (S.1 6 0))), d) := by
  have h1 := hM 106 (by have := hw.2.2.1.2.1; omega) (by omega) (by omega)
  rw [gs_mr_d] at h1
  simp (disch := omega) only [e_M_day, k_M_day_0, k_M_day_7, h1, ↓reduceIte, Int.reduceAdd, Int.reduceSub, Int.reduceMul, Int.reduceToNat, gs_00, gs_ofi, gs_k0_m, gs_k1_m, gs_n8, gs_n16, gs_n_add, gs_n_sub, gs_n_mul, gs_n_neg, gs_m_add, gs_m_sub, gs_m_mul, gs_m_neg, gs_n_l, gs_m_n, gs_n_c, gs_eq_t, gs_eq_f1, gs_eq_f2, gs_lt_t, gs_lt_f, gs_le_t, gs_le_f, gs_cmp_lt, gs_cmp_eq, gs_cmp_gt, gs_ix_n, gs_nz_n, gs_nzl_g, gs_n_div, gs_af1, gs_af0, gs_ck0, gs_ck1, gs_ck2t, gs_ck2f, gs_ck3, gs_ck4, gs_zd_t, gs_zd_f, gs_zt_t, gs_zt_f, gs_nar1, gs_nar0, gs_tn, if_true, if_false, not_true_eq_false, not_false_eq_true]
theorem s_M_count (hM : gs_Mo 21 d S) (hw : gs_wb B S) : f_M_count [gs_r 20 0] d = some (some (gs_i (gs_n (S.1 6 1))), d) := by
  have h1 := hM 107 (by have := hw.2.2.1.2.1; omega) (by omega) (by omega)
  rw [gs_mr_k] at h1
  simp (disch := omega) only [e_M_count, k_M_count_0, k_M_count_7, h1, ↓reduceIte, Int.reduceAdd, Int.reduceSub, Int.reduceMul, Int.reduceToNat, gs_00, gs_ofi, gs_k0_m, gs_k1_m, gs_n8, gs_n16, gs_n_add, gs_n_sub, gs_n_mul, gs_n_neg, gs_m_add, gs_m_sub, gs_m_mul, gs_m_neg, gs_n_l, gs_m_n, gs_n_c, gs_eq_t, gs_eq_f1, gs_eq_f2, gs_lt_t, gs_lt_f, gs_le_t, gs_le_f, gs_cmp_lt, gs_cmp_eq, gs_cmp_gt, gs_ix_n, gs_nz_n, gs_nzl_g, gs_n_div, gs_af1, gs_af0, gs_ck0, gs_ck1, gs_ck2t, gs_ck2f, gs_ck3, gs_ck4, gs_zd_t, gs_zd_f, gs_zt_t, gs_zt_f, gs_nar1, gs_nar0, gs_tn, if_true, if_false, not_true_eq_false, not_false_eq_true]
theorem s_M_of (hM : gs_Mo 21 d S) (hw : gs_wb B S) {i : Nat} (hi : (i : Int) < S.1 6 1) {c : Int} (h0 : 0 ≤ c) (h1 : c < 8) : f_M_of [gs_r 20 0, gs_i (gs_n i), gs_i (gs_n c)] d = some (some (gs_i (gs_n (gs_ms S i c.toNat))), d) := by
  have h2 := hM.i i hi c h0 h1
  have h3 := hw.2.2.1.2.1
  simp (disch := omega) only [e_M_of, k_M_of_0, k_M_of_14, h2, ↓reduceIte, Int.reduceAdd, Int.reduceSub, Int.reduceMul, Int.reduceToNat, gs_00, gs_ofi, gs_k0_m, gs_k1_m, gs_n8, gs_n16, gs_n_add, gs_n_sub, gs_n_mul, gs_n_neg, gs_m_add, gs_m_sub, gs_m_mul, gs_m_neg, gs_n_l, gs_m_n, gs_n_c, gs_eq_t, gs_eq_f1, gs_eq_f2, gs_lt_t, gs_lt_f, gs_le_t, gs_le_f, gs_cmp_lt, gs_cmp_eq, gs_cmp_gt, gs_ix_n, gs_nz_n, gs_nzl_g, gs_n_div, gs_af1, gs_af0, gs_ck0, gs_ck1, gs_ck2t, gs_ck2f, gs_ck3, gs_ck4, gs_zd_t, gs_zd_f, gs_zt_t, gs_zt_f, gs_nar1, gs_nar0, gs_tn, if_true, if_false, not_true_eq_false, not_false_eq_true]
theorem s_M_priority (hM : gs_Mo 21 d S) (hw : gs_wb B S) {i : Nat} (hi : (i : Int) < S.1 6 1) : f_M_priority [gs_r 20 0, gs_i (gs_n i)] d = some (some (gs_i (gs_n (S.1 (10 + i) 5))), d) := by
  have h2 := s_M_of hM hw hi (c := 7) (by omega) (by omega)
  have h3 := (hw.2.2.2 i hi).2.2
  have h4 : S.1 (10 + i) 5 + 4 * S.1 (10 + i) 6 - (S.1 (10 + i) 5 + 4 * S.1 (10 + i) 6) / 4 * 4 = S.1 (10 + i) 5 := by omega
  simp (disch := omega) only [e_M_priority, k_M_priority_0, k_M_priority_7, k_M_priority_9, h2, gs_ms_7, h4, ↓reduceIte, Int.reduceAdd, Int.reduceSub, Int.reduceMul, Int.reduceToNat, gs_00, gs_ofi, gs_k0_m, gs_k1_m, gs_n8, gs_n16, gs_n_add, gs_n_sub, gs_n_mul, gs_n_neg, gs_m_add, gs_m_sub, gs_m_mul, gs_m_neg, gs_n_l, gs_m_n, gs_n_c, gs_eq_t, gs_eq_f1, gs_eq_f2, gs_lt_t, gs_lt_f, gs_le_t, gs_le_f, gs_cmp_lt, gs_cmp_eq, gs_cmp_gt, gs_ix_n, gs_nz_n, gs_nzl_g, gs_n_div, gs_af1, gs_af0, gs_ck0, gs_ck1, gs_ck2t, gs_ck2f, gs_ck3, gs_ck4, gs_zd_t, gs_zd_f, gs_zt_t, gs_zt_f, gs_nar1, gs_nar0, gs_tn, if_true, if_false, not_true_eq_false, not_false_eq_true]
theorem s_M_fate (hM : gs_Mo 21 d S) (hw : gs_wb B S) {i : Nat} (hi : (i : Int) < S.1 6 1) : f_M_fate [gs_r 20 0, gs_i (gs_n i)] d = some (some (gs_i (gs_n (S.1 (10 + i) 6))), d) := by
  have h2 := s_M_of hM hw hi (c := 7) (by omega) (by omega)
  have h3 := (hw.2.2.2 i hi).2.2
  have h4 : (S.1 (10 + i) 5 + 4 * S.1 (10 + i) 6) / 4 = S.1 (10 + i) 6 := by omega
  simp (disch := omega) only [e_M_fate, k_M_fate_0, k_M_fate_7, k_M_fate_9, h2, gs_ms_7, h4, ↓reduceIte, Int.reduceAdd, Int.reduceSub, Int.reduceMul, Int.reduceToNat, gs_00, gs_ofi, gs_k0_m, gs_k1_m, gs_n8, gs_n16, gs_n_add, gs_n_sub, gs_n_mul, gs_n_neg, gs_m_add, gs_m_sub, gs_m_mul, gs_m_neg, gs_n_l, gs_m_n, gs_n_c, gs_eq_t, gs_eq_f1, gs_eq_f2, gs_lt_t, gs_lt_f, gs_le_t, gs_le_f, gs_cmp_lt, gs_cmp_eq, gs_cmp_gt, gs_ix_n, gs_nz_n, gs_nzl_g, gs_n_div, gs_af1, gs_af0, gs_ck0, gs_ck1, gs_ck2t, gs_ck2f, gs_ck3, gs_ck4, gs_zd_t, gs_zd_f, gs_zt_t, gs_zt_f, gs_nar1, gs_nar0, gs_tn, if_true, if_false, not_true_eq_false, not_false_eq_true]
theorem s_M_worth (hM : gs_Mo 21 d S) (hw : gs_wb B S) {p s : Int} (h0 : 0 ≤ p) (h1 : p < 6) (h2 : 0 ≤ s) (h3 : s < 2) : f_M_worth [gs_r 20 0, gs_i (gs_n p), gs_i (gs_n s)] d = some (some (gs_l (gs_m (S.1 1 (p * 3 + (s + 1)).toNat * S.1 2 (s + 1).toNat * (100 - S.1 3 (s + 1).toNat) / 100))), d) := by
  have hB := hw.2.2.1.2
  have a1 := gs_prod (hw.1.2.1 (p * 3 + (s + 1)).toNat (by omega)) (hw.2.1.1 (s + 1).toNat (by omega)) (hw.2.1.2.1 (s + 1).toNat (by omega)) hB.2
  have e1 := hM (18 + 2 * p + s).toNat (by omega) (by omega) (by omega)
  have e2 := hM (30 + s).toNat (by omega) (by omega) (by omega)
  have e3 := hM (32 + s).toNat (by omega) (by omega) (by omega)
  rw [gs_mr_p (by omega) (by omega), show 3 * (((18 + 2 * p + s).toNat - 18) / 2) + 1 + ((18 + 2 * p + s).toNat - 18) % 2 = (p * 3 + (s + 1)).toNat by omega] at e1
  rw [gs_mr_r (by omega) (by omega), show (30 + s).toNat - 29 = (s + 1).toNat by omega] at e2
  rw [gs_mr_c (by omega) (by omega), show (32 + s).toNat - 31 = (s + 1).toNat by omega] at e3
  simp (disch := omega) only [e_M_worth, k_M_worth_0, k_M_worth_13, k_M_worth_22, k_M_worth_35, k_M_worth_41, e1, e2, e3, gs_m_div, ↓reduceIte, Int.reduceAdd, Int.reduceSub, Int.reduceMul, Int.reduceToNat, gs_00, gs_ofi, gs_k0_m, gs_k1_m, gs_n8, gs_n16, gs_n_add, gs_n_sub, gs_n_mul, gs_n_neg, gs_m_add, gs_m_sub, gs_m_mul, gs_m_neg, gs_n_l, gs_m_n, gs_n_c, gs_eq_t, gs_eq_f1, gs_eq_f2, gs_lt_t, gs_lt_f, gs_le_t, gs_le_f, gs_cmp_lt, gs_cmp_eq, gs_cmp_gt, gs_ix_n, gs_nz_n, gs_nzl_g, gs_n_div, gs_af1, gs_af0, gs_ck0, gs_ck1, gs_ck2t, gs_ck2f, gs_ck3, gs_ck4, gs_zd_t, gs_zd_f, gs_zt_t, gs_zt_f, gs_nar1, gs_nar0, gs_tn, if_true, if_false, not_true_eq_false, not_false_eq_true]
theorem s_M_lineOf (hM : gs_Mo 21 d S) (hw : gs_wb B S) {p : Int} (h0 : 0 ≤ p) (h1 : p < 6) : f_M_lineOf [gs_r 20 0, gs_i (gs_n p)] d = some (some (gs_l (gs_m (gs_ln S p))), d) := by
  have e0 := s_M_worth hM hw h0 h1 (s := 0) (by omega) (by omega)
  have e1 := s_M_worth hM hw h0 h1 (s := 1) (by omega) (by omega)
  simp (disch := omega) only [e_M_lineOf, k_M_lineOf_0, k_M_lineOf_6, k_M_lineOf_12, e0, e1, ↓reduceIte, Int.reduceAdd, Int.reduceSub, Int.reduceMul, Int.reduceToNat, gs_00, gs_ofi, gs_k0_m, gs_k1_m, gs_n8, gs_n16, gs_n_add, gs_n_sub, gs_n_mul, gs_n_neg, gs_m_add, gs_m_sub, gs_m_mul, gs_m_neg, gs_n_l, gs_m_n, gs_n_c, gs_eq_t, gs_eq_f1, gs_eq_f2, gs_lt_t, gs_lt_f, gs_le_t, gs_le_f, gs_cmp_lt, gs_cmp_eq, gs_cmp_gt, gs_ix_n, gs_nz_n, gs_nzl_g, gs_n_div, gs_af1, gs_af0, gs_ck0, gs_ck1, gs_ck2t, gs_ck2f, gs_ck3, gs_ck4, gs_zd_t, gs_zd_f, gs_zt_t, gs_zt_f, gs_nar1, gs_nar0, gs_tn, if_true, if_false, not_true_eq_false, not_false_eq_true]
  rfl
/-- the model's number of a position, as the component's -/
def gs_cp (x : Int) : Int := if x < 6 then x * 3 else if x < 18 then (x - 6) / 2 * 3 + (1 + (x - 6) % 2) else x
theorem gs_cp_1 {x : Int} (h : x < 6) : gs_cp x = x * 3 := if_pos h
theorem gs_cp_2 {x : Int} (h : 6 ≤ x) (h2 : x < 18) : gs_cp x = (x - 6) / 2 * 3 + (1 + (x - 6) % 2) := by
  unfold gs_cp
  rw [if_neg (by omega), if_pos h2]
theorem gs_cp_3 {x : Int} (h : 18 ≤ x) : gs_cp x = x := by
  unfold gs_cp
  rw [if_neg (by omega), if_neg (by omega)]
theorem s_M_isThere (hM : gs_Mo 21 d S) (hw : gs_wb B S) {x : Int} (h0 : 0 ≤ x) (h1 : x < 54) : f_M_isThere [gs_r 20 0, gs_i (gs_n x)] d = some (some (gs_i (gs_n (gs_z (decide (x < 18 ∨ 0 ≤ S.1 4 (x - 18).toNat))))), d) := by
  have hB := hw.2.2.1.2
  by_cases c : x < 18
  · simp (disch := omega) only [e_M_isThere, k_M_isThere_0, k_M_isThere_6, k_M_isThere_15, k_M_isThere_20, k_M_isThere_24, ↓reduceIte, Int.reduceAdd, Int.reduceSub, Int.reduceMul, Int.reduceToNat, gs_00, gs_ofi, gs_k0_m, gs_k1_m, gs_n8, gs_n16, gs_n_add, gs_n_sub, gs_n_mul, gs_n_neg, gs_m_add, gs_m_sub, gs_m_mul, gs_m_neg, gs_n_l, gs_m_n, gs_n_c, gs_eq_t, gs_eq_f1, gs_eq_f2, gs_lt_t, gs_lt_f, gs_le_t, gs_le_f, gs_cmp_lt, gs_cmp_eq, gs_cmp_gt, gs_ix_n, gs_nz_n, gs_nzl_g, gs_n_div, gs_af1, gs_af0, gs_ck0, gs_ck1, gs_ck2t, gs_ck2f, gs_ck3, gs_ck4, gs_zd_t, gs_zd_f, gs_zt_t, gs_zt_f, gs_nar1, gs_nar0, gs_tn, if_true, if_false, not_true_eq_false, not_false_eq_true]
  · have e1 := hM (16 + x).toNat (by omega) (by omega) (by omega)
    rw [gs_mr_l (by omega) (by omega), show (16 + x).toNat - 34 = (x - 18).toNat by omega] at e1
    have a1 := hw.2.1.2.2 (x - 18).toNat (by omega)
    by_cases c2 : S.1 4 (x - 18).toNat < 0
    · simp (disch := omega) only [e_M_isThere, k_M_isThere_0, k_M_isThere_6, k_M_isThere_15, k_M_isThere_20, k_M_isThere_24, e1, ↓reduceIte, Int.reduceAdd, Int.reduceSub, Int.reduceMul, Int.reduceToNat, gs_00, gs_ofi, gs_k0_m, gs_k1_m, gs_n8, gs_n16, gs_n_add, gs_n_sub, gs_n_mul, gs_n_neg, gs_m_add, gs_m_sub, gs_m_mul, gs_m_neg, gs_n_l, gs_m_n, gs_n_c, gs_eq_t, gs_eq_f1, gs_eq_f2, gs_lt_t, gs_lt_f, gs_le_t, gs_le_f, gs_cmp_lt, gs_cmp_eq, gs_cmp_gt, gs_ix_n, gs_nz_n, gs_nzl_g, gs_n_div, gs_af1, gs_af0, gs_ck0, gs_ck1, gs_ck2t, gs_ck2f, gs_ck3, gs_ck4, gs_zd_t, gs_zd_f, gs_zt_t, gs_zt_f, gs_nar1, gs_nar0, gs_tn, if_true, if_false, not_true_eq_false, not_false_eq_true]
    · by_cases c3 : S.1 4 (x - 18).toNat = 0
      · simp (disch := omega) only [e_M_isThere, k_M_isThere_0, k_M_isThere_6, k_M_isThere_15, k_M_isThere_20, k_M_isThere_24, e1, ↓reduceIte, Int.reduceAdd, Int.reduceSub, Int.reduceMul, Int.reduceToNat, gs_00, gs_ofi, gs_k0_m, gs_k1_m, gs_n8, gs_n16, gs_n_add, gs_n_sub, gs_n_mul, gs_n_neg, gs_m_add, gs_m_sub, gs_m_mul, gs_m_neg, gs_n_l, gs_m_n, gs_n_c, gs_eq_t, gs_eq_f1, gs_eq_f2, gs_lt_t, gs_lt_f, gs_le_t, gs_le_f, gs_cmp_lt, gs_cmp_eq, gs_cmp_gt, gs_ix_n, gs_nz_n, gs_nzl_g, gs_n_div, gs_af1, gs_af0, gs_ck0, gs_ck1, gs_ck2t, gs_ck2f, gs_ck3, gs_ck4, gs_zd_t, gs_zd_f, gs_zt_t, gs_zt_f, gs_nar1, gs_nar0, gs_tn, if_true, if_false, not_true_eq_false, not_false_eq_true]
      · simp (disch := omega) only [e_M_isThere, k_M_isThere_0, k_M_isThere_6, k_M_isThere_15, k_M_isThere_20, k_M_isThere_24, e1, ↓reduceIte, Int.reduceAdd, Int.reduceSub, Int.reduceMul, Int.reduceToNat, gs_00, gs_ofi, gs_k0_m, gs_k1_m, gs_n8, gs_n16, gs_n_add, gs_n_sub, gs_n_mul, gs_n_neg, gs_m_add, gs_m_sub, gs_m_mul, gs_m_neg, gs_n_l, gs_m_n, gs_n_c, gs_eq_t, gs_eq_f1, gs_eq_f2, gs_lt_t, gs_lt_f, gs_le_t, gs_le_f, gs_cmp_lt, gs_cmp_eq, gs_cmp_gt, gs_ix_n, gs_nz_n, gs_nzl_g, gs_n_div, gs_af1, gs_af0, gs_ck0, gs_ck1, gs_ck2t, gs_ck2f, gs_ck3, gs_ck4, gs_zd_t, gs_zd_f, gs_zt_t, gs_zt_f, gs_nar1, gs_nar0, gs_tn, if_true, if_false, not_true_eq_false, not_false_eq_true]
/-- above its floor: what the model reckons -/
def gs_ab (S : gs_S) (x : Int) : Int := if 18 ≤ x then S.1 4 (x - 18).toNat - S.1 5 (x - 18).toNat else gs_rm S (gs_cp x)
theorem s_M_above (hM : gs_Mo 21 d S) (hw : gs_wb B S) {x : Int} (h0 : 0 ≤ x) (h1 : x < 54) : f_M_above [gs_r 20 0, gs_i (gs_n x)] d = some (some (gs_l (gs_m (gs_ab S x))), d) := by
  have hB := hw.2.2.1.2
  by_cases c1 : x < 6
  · have e1 := hM (3 * x).toNat (by omega) (by omega) (by omega)
    rw [gs_mr_h (by omega)] at e1
    have e2 := s_M_lineOf hM hw h0 c1
    have e3 : gs_ab S x = S.1 0 (3 * x).toNat + gs_ln S x := by
      unfold gs_ab gs_rm
      rw [if_neg (by omega), gs_cp_1 c1, if_neg (by omega), if_pos (by omega), show x * 3 / 3 = x by omega, show (x * 3).toNat = (3 * x).toNat by omega]
    simp (disch := omega) only [e_M_above, k_M_above_0, k_M_above_6, k_M_above_14, k_M_above_19, k_M_above_21, k_M_above_27, k_M_above_40, k_M_above_46, k_M_above_48, k_M_above_49, k_M_above_58, k_M_above_67, e1, e2, e3, ↓reduceIte, Int.reduceAdd, Int.reduceSub, Int.reduceMul, Int.reduceToNat, gs_00, gs_ofi, gs_k0_m, gs_k1_m, gs_n8, gs_n16, gs_n_add, gs_n_sub, gs_n_mul, gs_n_neg, gs_m_add, gs_m_sub, gs_m_mul, gs_m_neg, gs_n_l, gs_m_n, gs_n_c, gs_eq_t, gs_eq_f1, gs_eq_f2, gs_lt_t, gs_lt_f, gs_le_t, gs_le_f, gs_cmp_lt, gs_cmp_eq, gs_cmp_gt, gs_ix_n, gs_nz_n, gs_nzl_g, gs_n_div, gs_af1, gs_af0, gs_ck0, gs_ck1, gs_ck2t, gs_ck2f, gs_ck3, gs_ck4, gs_zd_t, gs_zd_f, gs_zt_t, gs_zt_f, gs_nar1, gs_nar0, gs_tn, if_true, if_false, not_true_eq_false, not_false_eq_true]
  · by_cases c2 : x < 18
    · have e1 := hM (3 * ((x - 6) / 2) + 1 + (x - 6 - (x - 6) / 2 * 2)).toNat (by omega) (by omega) (by omega)
      rw [gs_mr_h (by omega)] at e1
      have e3 : gs_ab S x = S.1 0 (3 * ((x - 6) / 2) + 1 + (x - 6 - (x - 6) / 2 * 2)).toNat := by
        unfold gs_ab gs_rm
        rw [if_neg (by omega), gs_cp_2 (by omega) c2, if_neg (by omega), if_neg (by omega), show ((x - 6) / 2 * 3 + (1 + (x - 6) % 2)).toNat = (3 * ((x - 6) / 2) + 1 + (x - 6 - (x - 6) / 2 * 2)).toNat by omega]
      simp (disch := omega) only [e_M_above, k_M_above_0, k_M_above_6, k_M_above_14, k_M_above_19, k_M_above_21, k_M_above_27, k_M_above_40, k_M_above_46, k_M_above_48, k_M_above_49, k_M_above_58, k_M_above_67, e1, e3, ↓reduceIte, Int.reduceAdd, Int.reduceSub, Int.reduceMul, Int.reduceToNat, gs_00, gs_ofi, gs_k0_m, gs_k1_m, gs_n8, gs_n16, gs_n_add, gs_n_sub, gs_n_mul, gs_n_neg, gs_m_add, gs_m_sub, gs_m_mul, gs_m_neg, gs_n_l, gs_m_n, gs_n_c, gs_eq_t, gs_eq_f1, gs_eq_f2, gs_lt_t, gs_lt_f, gs_le_t, gs_le_f, gs_cmp_lt, gs_cmp_eq, gs_cmp_gt, gs_ix_n, gs_nz_n, gs_nzl_g, gs_n_div, gs_af1, gs_af0, gs_ck0, gs_ck1, gs_ck2t, gs_ck2f, gs_ck3, gs_ck4, gs_zd_t, gs_zd_f, gs_zt_t, gs_zt_f, gs_nar1, gs_nar0, gs_tn, if_true, if_false, not_true_eq_false, not_false_eq_true]
    · have e1 := hM (16 + x).toNat (by omega) (by omega) (by omega)
      rw [gs_mr_l (by omega) (by omega), show (16 + x).toNat - 34 = (x - 18).toNat by omega] at e1
      have e2 := hM (52 + x).toNat (by omega) (by omega) (by omega)
      rw [gs_mr_n (by omega) (by omega), show (52 + x).toNat - 70 = (x - 18).toNat by omega] at e2
      have e3 : gs_ab S x = S.1 4 (x - 18).toNat - S.1 5 (x - 18).toNat := if_pos (by omega)
      simp (disch := omega) only [e_M_above, k_M_above_0, k_M_above_6, k_M_above_14, k_M_above_19, k_M_above_21, k_M_above_27, k_M_above_40, k_M_above_46, k_M_above_48, k_M_above_49, k_M_above_58, k_M_above_67, e1, e2, e3, ↓reduceIte, Int.reduceAdd, Int.reduceSub, Int.reduceMul, Int.reduceToNat, gs_00, gs_ofi, gs_k0_m, gs_k1_m, gs_n8, gs_n16, gs_n_add, gs_n_sub, gs_n_mul, gs_n_neg, gs_m_add, gs_m_sub, gs_m_mul, gs_m_neg, gs_n_l, gs_m_n, gs_n_c, gs_eq_t, gs_eq_f1, gs_eq_f2, gs_lt_t, gs_lt_f, gs_le_t, gs_le_f, gs_cmp_lt, gs_cmp_eq, gs_cmp_gt, gs_ix_n, gs_nz_n, gs_nzl_g, gs_n_div, gs_af1, gs_af0, gs_ck0, gs_ck1, gs_ck2t, gs_ck2f, gs_ck3, gs_ck4, gs_zd_t, gs_zd_f, gs_zt_t, gs_zt_f, gs_nar1, gs_nar0, gs_tn, if_true, if_false, not_true_eq_false, not_false_eq_true]
end MM
end
section
-- what an instruction takes, as the model reckons it
def gs_mtk (S : gs_S) (i : Nat) (x : Int) : Int := if x < 6 then (if S.1 (10 + i) 1 = x then S.1 (10 + i) 4 else if S.1 (10 + i) 0 = x then -S.1 (10 + i) 4 else 0) else if x < 18 then (if S.1 (10 + i) 2 = 1 + (x - 6) % 2 then (if S.1 (10 + i) 0 = (x - 6) / 2 then S.1 (10 + i) 3 else if S.1 (10 + i) 1 = (x - 6) / 2 then -S.1 (10 + i) 3 else 0) else 0) else if S.1 4 (x - 18).toNat < 0 then 0 else if S.1 (10 + i) 1 = (x - 18) / 6 ∧ S.1 (10 + i) 0 = (x - 18) % 6 then S.1 (10 + i) 4 else if S.1 (10 + i) 1 = (x - 18) % 6 ∧ S.1 (10 + i) 0 = (x - 18) / 6 then -S.1 (10 + i) 4 else 0
theorem gs_cg {a b : Int} {d : gs_D} (h : a = b) : some (some (gs_l (gs_m a)), d) = some (some (gs_l (gs_m b)), d) := by rw [h]
section MN
variable {d : gs_D} {S : gs_S} {B : Int}
theorem gs_mtk_rg (hw : gs_wb B S) {i : Nat} (hi : (i : Int) < S.1 6 1) {x : Int} : -1000000 ≤ gs_mtk S i x ∧ gs_mtk S i x ≤ 1000000 := by
  obtain ⟨a0, a1, a2, a3, a4⟩ := (hw.2.2.2 i hi).r
  unfold gs_mtk
  repeat' split
  all_goals omega
set_option maxHeartbeats 2000000 in
theorem s_M_takes (hM : gs_Mo 21 d S) (hw : gs_wb B S) {i : Nat} (hi : (i : Int) < S.1 6 1) {x : Int} (h0 : 0 ≤ x) (h1 : x < 54) : f_M_takes [gs_r 20 0, gs_i (gs_n i), gs_i (gs_n x)] d = some (some (gs_l (gs_m (gs_mtk S i x))), d) := by
  obtain ⟨a0, a1, a2, a3, a4⟩ := (hw.2.2.2 i hi).r
  have o0 := s_M_of hM hw hi (c := 0) (by omega) (by omega)
  have o1 := s_M_of hM hw hi (c := 1) (by omega) (by omega)
  have o2 := s_M_of hM hw hi (c := 2) (by omega) (by omega)
  have o3 := s_M_of hM hw hi (c := 3) (by omega) (by omega)
  have o4 := s_M_of hM hw hi (c := 4) (by omega) (by omega)
  have o5 := s_M_of hM hw hi (c := 5) (by omega) (by omega)
  have o6 := s_M_of hM hw hi (c := 6) (by omega) (by omega)
  simp only [Int.reduceToNat, gs_ms_4, gs_ms_5, gs_ms_6] at o0 o1 o2 o3 o4 o5 o6
  have th := s_M_isThere hM hw h0 h1
  by_cases c1 : x < 6
  · have e : gs_mtk S i x = if S.1 (10 + i) 1 = x then S.1 (10 + i) 4 else if S.1 (10 + i) 0 = x then -S.1 (10 + i) 4 else 0 := if_pos c1
    rw [e]
    by_cases m : 0 < S.1 (10 + i) 4
    · rw [gs_ms_0t m] at o0
      rw [gs_ms_1t m] at o1
      by_cases c2 : S.1 (10 + i) 1 = x
      · rw [if_pos c2]
        simp (disch := omega) only [e_M_takes, k_M_takes_0, k_M_takes_6, k_M_takes_15, k_M_takes_24, k_M_takes_32, k_M_takes_40, k_M_takes_46, k_M_takes_50, k_M_takes_56, k_M_takes_61, k_M_takes_63, k_M_takes_69, k_M_takes_75, k_M_takes_83, k_M_takes_90, k_M_takes_94, k_M_takes_98, k_M_takes_106, k_M_takes_110, k_M_takes_116, k_M_takes_121, k_M_takes_126, k_M_takes_132, k_M_takes_137, k_M_takes_143, k_M_takes_145, k_M_takes_152, k_M_takes_161, k_M_takes_168, k_M_takes_171, k_M_takes_175, k_M_takes_182, k_M_takes_189, k_M_takes_193, k_M_takes_200, k_M_takes_207, k_M_takes_212, o0, o1, o5, o6, ↓reduceIte, Int.reduceAdd, Int.reduceSub, Int.reduceMul, Int.reduceToNat, gs_00, gs_ofi, gs_k0_m, gs_k1_m, gs_n8, gs_n16, gs_n_add, gs_n_sub, gs_n_mul, gs_n_neg, gs_m_add, gs_m_sub, gs_m_mul, gs_m_neg, gs_n_l, gs_m_n, gs_n_c, gs_eq_t, gs_eq_f1, gs_eq_f2, gs_lt_t, gs_lt_f, gs_le_t, gs_le_f, gs_cmp_lt, gs_cmp_eq, gs_cmp_gt, gs_ix_n, gs_nz_n, gs_nzl_g, gs_n_div, gs_af1, gs_af0, gs_ck0, gs_ck1, gs_ck2t, gs_ck2f, gs_ck3, gs_ck4, gs_zd_t, gs_zd_f, gs_zt_t, gs_zt_f, gs_nar1, gs_nar0, gs_tn, if_true, if_false, not_true_eq_false, not_false_eq_true]
      · rw [if_neg c2]
        by_cases c3 : S.1 (10 + i) 0 = x
        · rw [if_pos c3]
          by_cases c4 : S.1 (10 + i) 1 < x
          · simp (disch := omega) only [e_M_takes, k_M_takes_0, k_M_takes_6, k_M_takes_15, k_M_takes_24, k_M_takes_32, k_M_takes_40, k_M_takes_46, k_M_takes_50, k_M_takes_56, k_M_takes_61, k_M_takes_63, k_M_takes_69, k_M_takes_75, k_M_takes_83, k_M_takes_90, k_M_takes_94, k_M_takes_98, k_M_takes_106, k_M_takes_110, k_M_takes_116, k_M_takes_121, k_M_takes_126, k_M_takes_132, k_M_takes_137, k_M_takes_143, k_M_takes_145, k_M_takes_152, k_M_takes_161, k_M_takes_168, k_M_takes_171, k_M_takes_175, k_M_takes_182, k_M_takes_189, k_M_takes_193, k_M_takes_200, k_M_takes_207, k_M_takes_212, o0, o1, o5, o6, ↓reduceIte, Int.reduceAdd, Int.reduceSub, Int.reduceMul, Int.reduceToNat, gs_00, gs_ofi, gs_k0_m, gs_k1_m, gs_n8, gs_n16, gs_n_add, gs_n_sub, gs_n_mul, gs_n_neg, gs_m_add, gs_m_sub, gs_m_mul, gs_m_neg, gs_n_l, gs_m_n, gs_n_c, gs_eq_t, gs_eq_f1, gs_eq_f2, gs_lt_t, gs_lt_f, gs_le_t, gs_le_f, gs_cmp_lt, gs_cmp_eq, gs_cmp_gt, gs_ix_n, gs_nz_n, gs_nzl_g, gs_n_div, gs_af1, gs_af0, gs_ck0, gs_ck1, gs_ck2t, gs_ck2f, gs_ck3, gs_ck4, gs_zd_t, gs_zd_f, gs_zt_t, gs_zt_f, gs_nar1, gs_nar0, gs_tn, if_true, if_false, not_true_eq_false, not_false_eq_true]
          · simp (disch := omega) only [e_M_takes, k_M_takes_0, k_M_takes_6, k_M_takes_15, k_M_takes_24, k_M_takes_32, k_M_takes_40, k_M_takes_46, k_M_takes_50, k_M_takes_56, k_M_takes_61, k_M_takes_63, k_M_takes_69, k_M_takes_75, k_M_takes_83, k_M_takes_90, k_M_takes_94, k_M_takes_98, k_M_takes_106, k_M_takes_110, k_M_takes_116, k_M_takes_121, k_M_takes_126, k_M_takes_132, k_M_takes_137, k_M_takes_143, k_M_takes_145, k_M_takes_152, k_M_takes_161, k_M_takes_168, k_M_takes_171, k_M_takes_175, k_M_takes_182, k_M_takes_189, k_M_takes_193, k_M_takes_200, k_M_takes_207, k_M_takes_212, o0, o1, o5, o6, ↓reduceIte, Int.reduceAdd, Int.reduceSub, Int.reduceMul, Int.reduceToNat, gs_00, gs_ofi, gs_k0_m, gs_k1_m, gs_n8, gs_n16, gs_n_add, gs_n_sub, gs_n_mul, gs_n_neg, gs_m_add, gs_m_sub, gs_m_mul, gs_m_neg, gs_n_l, gs_m_n, gs_n_c, gs_eq_t, gs_eq_f1, gs_eq_f2, gs_lt_t, gs_lt_f, gs_le_t, gs_le_f, gs_cmp_lt, gs_cmp_eq, gs_cmp_gt, gs_ix_n, gs_nz_n, gs_nzl_g, gs_n_div, gs_af1, gs_af0, gs_ck0, gs_ck1, gs_ck2t, gs_ck2f, gs_ck3, gs_ck4, gs_zd_t, gs_zd_f, gs_zt_t, gs_zt_f, gs_nar1, gs_nar0, gs_tn, if_true, if_false, not_true_eq_false, not_false_eq_true]
        · rw [if_neg c3]
          by_cases c4 : S.1 (10 + i) 1 < x <;> by_cases c5 : S.1 (10 + i) 0 < x <;> simp (disch := omega) only [e_M_takes, k_M_takes_0, k_M_takes_6, k_M_takes_15, k_M_takes_24, k_M_takes_32, k_M_takes_40, k_M_takes_46, k_M_takes_50, k_M_takes_56, k_M_takes_61, k_M_takes_63, k_M_takes_69, k_M_takes_75, k_M_takes_83, k_M_takes_90, k_M_takes_94, k_M_takes_98, k_M_takes_106, k_M_takes_110, k_M_takes_116, k_M_takes_121, k_M_takes_126, k_M_takes_132, k_M_takes_137, k_M_takes_143, k_M_takes_145, k_M_takes_152, k_M_takes_161, k_M_takes_168, k_M_takes_171, k_M_takes_175, k_M_takes_182, k_M_takes_189, k_M_takes_193, k_M_takes_200, k_M_takes_207, k_M_takes_212, o0, o1, o5, o6, ↓reduceIte, Int.reduceAdd, Int.reduceSub, Int.reduceMul, Int.reduceToNat, gs_00, gs_ofi, gs_k0_m, gs_k1_m, gs_n8, gs_n16, gs_n_add, gs_n_sub, gs_n_mul, gs_n_neg, gs_m_add, gs_m_sub, gs_m_mul, gs_m_neg, gs_n_l, gs_m_n, gs_n_c, gs_eq_t, gs_eq_f1, gs_eq_f2, gs_lt_t, gs_lt_f, gs_le_t, gs_le_f, gs_cmp_lt, gs_cmp_eq, gs_cmp_gt, gs_ix_n, gs_nz_n, gs_nzl_g, gs_n_div, gs_af1, gs_af0, gs_ck0, gs_ck1, gs_ck2t, gs_ck2f, gs_ck3, gs_ck4, gs_zd_t, gs_zd_f, gs_zt_t, gs_zt_f, gs_nar1, gs_nar0, gs_tn, if_true, if_false, not_true_eq_false, not_false_eq_true]
    · rw [gs_ms_0f (by omega)] at o0
      rw [gs_ms_1f (by omega)] at o1
      simp (disch := omega) only [e_M_takes, k_M_takes_0, k_M_takes_6, k_M_takes_15, k_M_takes_24, k_M_takes_32, k_M_takes_40, k_M_takes_46, k_M_takes_50, k_M_takes_56, k_M_takes_61, k_M_takes_63, k_M_takes_69, k_M_takes_75, k_M_takes_83, k_M_takes_90, k_M_takes_94, k_M_takes_98, k_M_takes_106, k_M_takes_110, k_M_takes_116, k_M_takes_121, k_M_takes_126, k_M_takes_132, k_M_takes_137, k_M_takes_143, k_M_takes_145, k_M_takes_152, k_M_takes_161, k_M_takes_168, k_M_takes_171, k_M_takes_175, k_M_takes_182, k_M_takes_189, k_M_takes_193, k_M_takes_200, k_M_takes_207, k_M_takes_212, o0, o1, o5, o6, ↓reduceIte, Int.reduceAdd, Int.reduceSub, Int.reduceMul, Int.reduceToNat, gs_00, gs_ofi, gs_k0_m, gs_k1_m, gs_n8, gs_n16, gs_n_add, gs_n_sub, gs_n_mul, gs_n_neg, gs_m_add, gs_m_sub, gs_m_mul, gs_m_neg, gs_n_l, gs_m_n, gs_n_c, gs_eq_t, gs_eq_f1, gs_eq_f2, gs_lt_t, gs_lt_f, gs_le_t, gs_le_f, gs_cmp_lt, gs_cmp_eq, gs_cmp_gt, gs_ix_n, gs_nz_n, gs_nzl_g, gs_n_div, gs_af1, gs_af0, gs_ck0, gs_ck1, gs_ck2t, gs_ck2f, gs_ck3, gs_ck4, gs_zd_t, gs_zd_f, gs_zt_t, gs_zt_f, gs_nar1, gs_nar0, gs_tn, if_true, if_false, not_true_eq_false, not_false_eq_true]
      repeat' split
      all_goals first | (exfalso; omega) | exact gs_cg (by omega)
  · by_cases c2 : x < 18
    · have e : gs_mtk S i x = if S.1 (10 + i) 2 = 1 + (x - 6) % 2 then (if S.1 (10 + i) 0 = (x - 6) / 2 then S.1 (10 + i) 3 else if S.1 (10 + i) 1 = (x - 6) / 2 then -S.1 (10 + i) 3 else 0) else 0 := by
        unfold gs_mtk
        rw [if_neg c1, if_pos c2]
      have q0 : -1 ≤ gs_ms S i 0 ∧ gs_ms S i 0 < 6 := by
        by_cases m : 0 < S.1 (10 + i) 4
        · rw [gs_ms_0t m]; omega
        · rw [gs_ms_0f (by omega)]; omega
      have q1 : -1 ≤ gs_ms S i 1 ∧ gs_ms S i 1 < 6 := by
        by_cases m : 0 < S.1 (10 + i) 4
        · rw [gs_ms_1t m]; omega
        · rw [gs_ms_1f (by omega)]; omega
      rw [e]
      by_cases m : 0 < S.1 (10 + i) 3
      · rw [gs_ms_2t m] at o2
        rw [gs_ms_3t m] at o3
        simp (disch := omega) only [e_M_takes, k_M_takes_0, k_M_takes_6, k_M_takes_15, k_M_takes_24, k_M_takes_32, k_M_takes_40, k_M_takes_46, k_M_takes_50, k_M_takes_56, k_M_takes_61, k_M_takes_63, k_M_takes_69, k_M_takes_75, k_M_takes_83, k_M_takes_90, k_M_takes_94, k_M_takes_98, k_M_takes_106, k_M_takes_110, k_M_takes_116, k_M_takes_121, k_M_takes_126, k_M_takes_132, k_M_takes_137, k_M_takes_143, k_M_takes_145, k_M_takes_152, k_M_takes_161, k_M_takes_168, k_M_takes_171, k_M_takes_175, k_M_takes_182, k_M_takes_189, k_M_takes_193, k_M_takes_200, k_M_takes_207, k_M_takes_212, o0, o1, o2, o3, o4, o5, o6, gs_00, gs_ofi, gs_k0_m, gs_k1_m, gs_n8, gs_n16, gs_n_add, gs_n_sub, gs_n_mul, gs_n_neg, gs_m_add, gs_m_sub, gs_m_mul, gs_m_neg, gs_n_l, gs_m_n, gs_n_c, gs_eq_iff, gs_lt_iff, gs_le_iff, gs_cge, gs_clt, gs_cle, gs_cgt, gs_ceq, gs_ix_n, gs_nz_n, gs_nzl_g, gs_n_div, gs_af1, gs_af0, gs_ck_ite, gs_ck0, gs_ck1, gs_ck2t, gs_ck2f, gs_ck3, gs_ck4, gs_nar1, gs_nar0, gs_tn, if_true, if_false, not_true_eq_false, not_false_eq_true]
        repeat' split
        all_goals first | (exfalso; omega) | exact gs_cg (by omega)
      · rw [gs_ms_2f (by omega)] at o2
        rw [gs_ms_3f (by omega)] at o3
        simp (disch := omega) only [e_M_takes, k_M_takes_0, k_M_takes_6, k_M_takes_15, k_M_takes_24, k_M_takes_32, k_M_takes_40, k_M_takes_46, k_M_takes_50, k_M_takes_56, k_M_takes_61, k_M_takes_63, k_M_takes_69, k_M_takes_75, k_M_takes_83, k_M_takes_90, k_M_takes_94, k_M_takes_98, k_M_takes_106, k_M_takes_110, k_M_takes_116, k_M_takes_121, k_M_takes_126, k_M_takes_132, k_M_takes_137, k_M_takes_143, k_M_takes_145, k_M_takes_152, k_M_takes_161, k_M_takes_168, k_M_takes_171, k_M_takes_175, k_M_takes_182, k_M_takes_189, k_M_takes_193, k_M_takes_200, k_M_takes_207, k_M_takes_212, o0, o1, o2, o3, o4, o5, o6, gs_00, gs_ofi, gs_k0_m, gs_k1_m, gs_n8, gs_n16, gs_n_add, gs_n_sub, gs_n_mul, gs_n_neg, gs_m_add, gs_m_sub, gs_m_mul, gs_m_neg, gs_n_l, gs_m_n, gs_n_c, gs_eq_iff, gs_lt_iff, gs_le_iff, gs_cge, gs_clt, gs_cle, gs_cgt, gs_ceq, gs_ix_n, gs_nz_n, gs_nzl_g, gs_n_div, gs_af1, gs_af0, gs_ck_ite, gs_ck0, gs_ck1, gs_ck2t, gs_ck2f, gs_ck3, gs_ck4, gs_nar1, gs_nar0, gs_tn, if_true, if_false, not_true_eq_false, not_false_eq_true]
        repeat' split
        all_goals first | (exfalso; omega) | exact gs_cg (by omega)
    · have e : gs_mtk S i x = if S.1 4 (x - 18).toNat < 0 then 0 else if S.1 (10 + i) 1 = (x - 18) / 6 ∧ S.1 (10 + i) 0 = (x - 18) % 6 then S.1 (10 + i) 4 else if S.1 (10 + i) 1 = (x - 18) % 6 ∧ S.1 (10 + i) 0 = (x - 18) / 6 then -S.1 (10 + i) 4 else 0 := by
        unfold gs_mtk
        rw [if_neg c1, if_neg c2]
      rw [e]
      by_cases t : S.1 4 (x - 18).toNat < 0
      · rw [if_pos t]
        have q0 : -1 ≤ gs_ms S i 0 ∧ gs_ms S i 0 < 6 := by
          by_cases m : 0 < S.1 (10 + i) 4
          · rw [gs_ms_0t m]; omega
          · rw [gs_ms_0f (by omega)]; omega
        have q1 : -1 ≤ gs_ms S i 1 ∧ gs_ms S i 1 < 6 := by
          by_cases m : 0 < S.1 (10 + i) 4
          · rw [gs_ms_1t m]; omega
          · rw [gs_ms_1f (by omega)]; omega
        simp (disch := omega) only [e_M_takes, k_M_takes_0, k_M_takes_6, k_M_takes_15, k_M_takes_24, k_M_takes_32, k_M_takes_40, k_M_takes_46, k_M_takes_50, k_M_takes_56, k_M_takes_61, k_M_takes_63, k_M_takes_69, k_M_takes_75, k_M_takes_83, k_M_takes_90, k_M_takes_94, k_M_takes_98, k_M_takes_106, k_M_takes_110, k_M_takes_116, k_M_takes_121, k_M_takes_126, k_M_takes_132, k_M_takes_137, k_M_takes_143, k_M_takes_145, k_M_takes_152, k_M_takes_161, k_M_takes_168, k_M_takes_171, k_M_takes_175, k_M_takes_182, k_M_takes_189, k_M_takes_193, k_M_takes_200, k_M_takes_207, k_M_takes_212, th, o0, o1, o2, o3, o4, o5, o6, ↓reduceIte, Int.reduceAdd, Int.reduceSub, Int.reduceMul, Int.reduceToNat, gs_00, gs_ofi, gs_k0_m, gs_k1_m, gs_n8, gs_n16, gs_n_add, gs_n_sub, gs_n_mul, gs_n_neg, gs_m_add, gs_m_sub, gs_m_mul, gs_m_neg, gs_n_l, gs_m_n, gs_n_c, gs_eq_t, gs_eq_f1, gs_eq_f2, gs_lt_t, gs_lt_f, gs_le_t, gs_le_f, gs_cmp_lt, gs_cmp_eq, gs_cmp_gt, gs_ix_n, gs_nz_n, gs_nzl_g, gs_n_div, gs_af1, gs_af0, gs_ck0, gs_ck1, gs_ck2t, gs_ck2f, gs_ck3, gs_ck4, gs_zd_t, gs_zd_f, gs_zt_t, gs_zt_f, gs_nar1, gs_nar0, gs_tn, if_true, if_false, not_true_eq_false, not_false_eq_true]
      · rw [if_neg t]
        rw [gs_zd_t (by omega)] at th
        by_cases m : 0 < S.1 (10 + i) 4
        · rw [gs_ms_0t m] at o0
          rw [gs_ms_1t m] at o1
          simp (disch := omega) only [e_M_takes, k_M_takes_0, k_M_takes_6, k_M_takes_15, k_M_takes_24, k_M_takes_32, k_M_takes_40, k_M_takes_46, k_M_takes_50, k_M_takes_56, k_M_takes_61, k_M_takes_63, k_M_takes_69, k_M_takes_75, k_M_takes_83, k_M_takes_90, k_M_takes_94, k_M_takes_98, k_M_takes_106, k_M_takes_110, k_M_takes_116, k_M_takes_121, k_M_takes_126, k_M_takes_132, k_M_takes_137, k_M_takes_143, k_M_takes_145, k_M_takes_152, k_M_takes_161, k_M_takes_168, k_M_takes_171, k_M_takes_175, k_M_takes_182, k_M_takes_189, k_M_takes_193, k_M_takes_200, k_M_takes_207, k_M_takes_212, th, o0, o1, o5, o6, gs_00, gs_ofi, gs_k0_m, gs_k1_m, gs_n8, gs_n16, gs_n_add, gs_n_sub, gs_n_mul, gs_n_neg, gs_m_add, gs_m_sub, gs_m_mul, gs_m_neg, gs_n_l, gs_m_n, gs_n_c, gs_eq_iff, gs_lt_iff, gs_le_iff, gs_cge, gs_clt, gs_cle, gs_cgt, gs_ceq, gs_ix_n, gs_nz_n, gs_nzl_g, gs_n_div, gs_af1, gs_af0, gs_ck_ite, gs_ck0, gs_ck1, gs_ck2t, gs_ck2f, gs_ck3, gs_ck4, gs_nar1, gs_nar0, gs_tn, if_true, if_false, not_true_eq_false, not_false_eq_true]
          repeat' split
          all_goals first | (exfalso; omega) | exact gs_cg (by omega)
        · rw [gs_ms_0f (by omega)] at o0
          rw [gs_ms_1f (by omega)] at o1
          simp (disch := omega) only [e_M_takes, k_M_takes_0, k_M_takes_6, k_M_takes_15, k_M_takes_24, k_M_takes_32, k_M_takes_40, k_M_takes_46, k_M_takes_50, k_M_takes_56, k_M_takes_61, k_M_takes_63, k_M_takes_69, k_M_takes_75, k_M_takes_83, k_M_takes_90, k_M_takes_94, k_M_takes_98, k_M_takes_106, k_M_takes_110, k_M_takes_116, k_M_takes_121, k_M_takes_126, k_M_takes_132, k_M_takes_137, k_M_takes_143, k_M_takes_145, k_M_takes_152, k_M_takes_161, k_M_takes_168, k_M_takes_171, k_M_takes_175, k_M_takes_182, k_M_takes_189, k_M_takes_193, k_M_takes_200, k_M_takes_207, k_M_takes_212, th, o0, o1, o5, o6, gs_00, gs_ofi, gs_k0_m, gs_k1_m, gs_n8, gs_n16, gs_n_add, gs_n_sub, gs_n_mul, gs_n_neg, gs_m_add, gs_m_sub, gs_m_mul, gs_m_neg, gs_n_l, gs_m_n, gs_n_c, gs_eq_iff, gs_lt_iff, gs_le_iff, gs_cge, gs_clt, gs_cle, gs_cgt, gs_ceq, gs_ix_n, gs_nz_n, gs_nzl_g, gs_n_div, gs_af1, gs_af0, gs_ck_ite, gs_ck0, gs_ck1, gs_ck2t, gs_ck2f, gs_ck3, gs_ck4, gs_nar1, gs_nar0, gs_tn, if_true, if_false, not_true_eq_false, not_false_eq_true]
          repeat' split
          all_goals first | (exfalso; omega) | exact gs_cg (by omega)
/-- one position that both take from -/
theorem gs_mt_iff (hw : gs_wb B S) {i j : Nat} (hi : (i : Int) < S.1 6 1) (hj : (j : Int) < S.1 6 1) : gs_mt S i j = true ↔ ∃ x : Int, 0 ≤ x ∧ x < 54 ∧ 0 < gs_mtk S i x ∧ 0 < gs_mtk S j x := by
  obtain ⟨a0, a1, a2, a3, a4⟩ := (hw.2.2.2 i hi).r
  obtain ⟨b0, b1, b2, b3, b4⟩ := (hw.2.2.2 j hj).r
  have ai := (hw.2.2.2 i hi).2.1.2.2.2
  have aj := (hw.2.2.2 j hj).2.1.2.2.2
  unfold gs_mt
  rw [decide_eq_true_iff]
  constructor
  · rintro (h | h)
    · refine ⟨S.1 (10 + i) 1, by omega, by omega, ?_, ?_⟩
      · unfold gs_mtk
        rw [if_pos (by omega), if_pos rfl]
        omega
      · unfold gs_mtk
        rw [if_pos (by omega), if_pos (by omega)]
        omega
    · refine ⟨6 + S.1 (10 + i) 0 * 2 + (S.1 (10 + i) 2 - 1), by omega, by omega, ?_, ?_⟩
      · unfold gs_mtk
        rw [if_neg (by omega), if_pos (by omega), if_pos (by omega), if_pos (by omega)]
        omega
      · unfold gs_mtk
        rw [if_neg (by omega), if_pos (by omega), if_pos (by omega), if_pos (by omega)]
        omega
  · rintro ⟨x, x0, x1, h1, h2⟩
    unfold gs_mtk at h1 h2
    by_cases c1 : x < 6
    · rw [if_pos c1] at h1 h2
      left
      repeat' split at h1
      all_goals repeat' split at h2
      all_goals omega
    · by_cases c2 : x < 18
      · rw [if_neg c1, if_pos c2] at h1 h2
        right
        repeat' split at h1
        all_goals repeat' split at h2
        all_goals omega
      · rw [if_neg c1, if_neg c2] at h1 h2
        left
        repeat' split at h1
        all_goals repeat' split at h2
        all_goals omega
theorem s_M_same (hM : gs_Mo 21 d S) (hw : gs_wb B S) {i j : Nat} (hi : (i : Int) < S.1 6 1) (hj : (j : Int) < S.1 6 1) : f_M_same [gs_r 20 0, gs_i (gs_n i), gs_i (gs_n j)] d = some (some (gs_i (gs_n (gs_z (gs_mt S i j)))), d) := by
  have key : ∀ (n : Nat) (x : Int) (a : Bool), 0 ≤ x → x + n = 54 → (a = true ↔ ∃ y : Int, 0 ≤ y ∧ y < x ∧ 0 < gs_mtk S i y ∧ 0 < gs_mtk S j y) → gs_g Y0 P_M_same 5 [some (gs_r 20 0), some (gs_i (gs_n i)), some (gs_i (gs_n j)), some (gs_i (gs_n (gs_z a))), some (gs_i (gs_n x))] [] d = some (some (gs_i (gs_n (gs_z (gs_mt S i j)))), d) := by
    intro n
    induction n with
    | zero =>
      intro x a h0 h1 ha
      have e : a = gs_mt S i j := by
        have x54 : x = 54 := by omega
        subst x54
        rw [Bool.eq_iff_iff, ha, gs_mt_iff hw hi hj]
      subst e
      simp (disch := omega) only [e_M_same, k_M_same_0, k_M_same_5, k_M_same_12, k_M_same_16, k_M_same_23, k_M_same_28, k_M_same_35, k_M_same_40, k_M_same_44, k_M_same_52, ↓reduceIte, Int.reduceAdd, Int.reduceSub, Int.reduceMul, Int.reduceToNat, gs_00, gs_ofi, gs_k0_m, gs_k1_m, gs_n8, gs_n16, gs_n_add, gs_n_sub, gs_n_mul, gs_n_neg, gs_m_add, gs_m_sub, gs_m_mul, gs_m_neg, gs_n_l, gs_m_n, gs_n_c, gs_eq_t, gs_eq_f1, gs_eq_f2, gs_lt_t, gs_lt_f, gs_le_t, gs_le_f, gs_cmp_lt, gs_cmp_eq, gs_cmp_gt, gs_ix_n, gs_nz_n, gs_nzl_g, gs_n_div, gs_af1, gs_af0, gs_ck0, gs_ck1, gs_ck2t, gs_ck2f, gs_ck3, gs_ck4, gs_zd_t, gs_zd_f, gs_zt_t, gs_zt_f, gs_nar1, gs_nar0, gs_tn, if_true, if_false, not_true_eq_false, not_false_eq_true]
    | succ n ih =>
      intro x a h0 h1 ha
      have t1 := s_M_takes hM hw hi h0 (x := x) (by omega)
      have t2 := s_M_takes hM hw hj h0 (x := x) (by omega)
      have r1 := gs_mtk_rg hw hi (x := x)
      have r2 := gs_mtk_rg hw hj (x := x)
      have go : ∀ a' : Bool, (a' = true ↔ (a = true ∨ (0 < gs_mtk S i x ∧ 0 < gs_mtk S j x))) → (a' = true ↔ ∃ y : Int, 0 ≤ y ∧ y < x + 1 ∧ 0 < gs_mtk S i y ∧ 0 < gs_mtk S j y) := by
        intro a' h
        rw [h, ha]
        constructor
        · rintro (⟨y, y0, y1, y2⟩ | z)
          · exact ⟨y, y0, by omega, y2⟩
          · exact ⟨x, h0, by omega, z⟩
        · rintro ⟨y, y0, y1, y2⟩
          by_cases c : y = x
          · subst c
            exact Or.inr y2
          · exact Or.inl ⟨y, y0, by omega, y2⟩
      rw [k_M_same_5]
      cases a with
      | true =>
        have e := ih (x + 1) true (by omega) (by omega) (go true (by simp))
        simp (disch := omega) only [e_M_same, k_M_same_0, k_M_same_12, k_M_same_16, k_M_same_23, k_M_same_28, k_M_same_35, k_M_same_40, k_M_same_44, k_M_same_52, ↓reduceIte, Int.reduceAdd, Int.reduceSub, Int.reduceMul, Int.reduceToNat, gs_00, gs_ofi, gs_k0_m, gs_k1_m, gs_n8, gs_n16, gs_n_add, gs_n_sub, gs_n_mul, gs_n_neg, gs_m_add, gs_m_sub, gs_m_mul, gs_m_neg, gs_n_l, gs_m_n, gs_n_c, gs_eq_t, gs_eq_f1, gs_eq_f2, gs_lt_t, gs_lt_f, gs_le_t, gs_le_f, gs_cmp_lt, gs_cmp_eq, gs_cmp_gt, gs_ix_n, gs_nz_n, gs_nzl_g, gs_n_div, gs_af1, gs_af0, gs_ck0, gs_ck1, gs_ck2t, gs_ck2f, gs_ck3, gs_ck4, gs_zd_t, gs_zd_f, gs_zt_t, gs_zt_f, gs_nar1, gs_nar0, gs_tn, if_true, if_false, not_true_eq_false, not_false_eq_true] at e ⊢
        exact e
      | false =>
        by_cases c1 : 0 < gs_mtk S i x
        · by_cases c2 : 0 < gs_mtk S j x
          · have e := ih (x + 1) true (by omega) (by omega) (go true (by simp [c1, c2]))
            simp (disch := omega) only [e_M_same, k_M_same_0, k_M_same_12, k_M_same_16, k_M_same_23, k_M_same_28, k_M_same_35, k_M_same_40, k_M_same_44, k_M_same_52, t1, t2, ↓reduceIte, Int.reduceAdd, Int.reduceSub, Int.reduceMul, Int.reduceToNat, gs_00, gs_ofi, gs_k0_m, gs_k1_m, gs_n8, gs_n16, gs_n_add, gs_n_sub, gs_n_mul, gs_n_neg, gs_m_add, gs_m_sub, gs_m_mul, gs_m_neg, gs_n_l, gs_m_n, gs_n_c, gs_eq_t, gs_eq_f1, gs_eq_f2, gs_lt_t, gs_lt_f, gs_le_t, gs_le_f, gs_cmp_lt, gs_cmp_eq, gs_cmp_gt, gs_ix_n, gs_nz_n, gs_nzl_g, gs_n_div, gs_af1, gs_af0, gs_ck0, gs_ck1, gs_ck2t, gs_ck2f, gs_ck3, gs_ck4, gs_zd_t, gs_zd_f, gs_zt_t, gs_zt_f, gs_nar1, gs_nar0, gs_tn, if_true, if_false, not_true_eq_false, not_false_eq_true] at e ⊢
            exact e
          · have e := ih (x + 1) false (by omega) (by omega) (go false (by simp [c2]))
            by_cases c3 : gs_mtk S j x = 0 <;> simp (disch := omega) only [e_M_same, k_M_same_0, k_M_same_12, k_M_same_16, k_M_same_23, k_M_same_28, k_M_same_35, k_M_same_40, k_M_same_44, k_M_same_52, t1, t2, ↓reduceIte, Int.reduceAdd, Int.reduceSub, Int.reduceMul, Int.reduceToNat, gs_00, gs_ofi, gs_k0_m, gs_k1_m, gs_n8, gs_n16, gs_n_add, gs_n_sub, gs_n_mul, gs_n_neg, gs_m_add, gs_m_sub, gs_m_mul, gs_m_neg, gs_n_l, gs_m_n, gs_n_c, gs_eq_t, gs_eq_f1, gs_eq_f2, gs_lt_t, gs_lt_f, gs_le_t, gs_le_f, gs_cmp_lt, gs_cmp_eq, gs_cmp_gt, gs_ix_n, gs_nz_n, gs_nzl_g, gs_n_div, gs_af1, gs_af0, gs_ck0, gs_ck1, gs_ck2t, gs_ck2f, gs_ck3, gs_ck4, gs_zd_t, gs_zd_f, gs_zt_t, gs_zt_f, gs_nar1, gs_nar0, gs_tn, if_true, if_false, not_true_eq_false, not_false_eq_true] at e ⊢ <;> exact e
        · have e := ih (x + 1) false (by omega) (by omega) (go false (by simp [c1]))
          by_cases c3 : gs_mtk S i x = 0 <;> simp (disch := omega) only [e_M_same, k_M_same_0, k_M_same_12, k_M_same_16, k_M_same_23, k_M_same_28, k_M_same_35, k_M_same_40, k_M_same_44, k_M_same_52, t1, t2, ↓reduceIte, Int.reduceAdd, Int.reduceSub, Int.reduceMul, Int.reduceToNat, gs_00, gs_ofi, gs_k0_m, gs_k1_m, gs_n8, gs_n16, gs_n_add, gs_n_sub, gs_n_mul, gs_n_neg, gs_m_add, gs_m_sub, gs_m_mul, gs_m_neg, gs_n_l, gs_m_n, gs_n_c, gs_eq_t, gs_eq_f1, gs_eq_f2, gs_lt_t, gs_lt_f, gs_le_t, gs_le_f, gs_cmp_lt, gs_cmp_eq, gs_cmp_gt, gs_ix_n, gs_nz_n, gs_nzl_g, gs_n_div, gs_af1, gs_af0, gs_ck0, gs_ck1, gs_ck2t, gs_ck2f, gs_ck3, gs_ck4, gs_zd_t, gs_zd_f, gs_zt_t, gs_zt_f, gs_nar1, gs_nar0, gs_tn, if_true, if_false, not_true_eq_false, not_false_eq_true] at e ⊢ <;> exact e
  have e := key 54 0 false (by omega) (by omega) (by
    constructor
    · intro z; cases z
    · rintro ⟨y, y0, y1, -⟩; omega)
  simp (disch := omega) only [e_M_same, k_M_same_0, ↓reduceIte, Int.reduceAdd, Int.reduceSub, Int.reduceMul, Int.reduceToNat, gs_00, gs_ofi, gs_k0_m, gs_k1_m, gs_n8, gs_n16, gs_n_add, gs_n_sub, gs_n_mul, gs_n_neg, gs_m_add, gs_m_sub, gs_m_mul, gs_m_neg, gs_n_l, gs_m_n, gs_n_c, gs_eq_t, gs_eq_f1, gs_eq_f2, gs_lt_t, gs_lt_f, gs_le_t, gs_le_f, gs_cmp_lt, gs_cmp_eq, gs_cmp_gt, gs_ix_n, gs_nz_n, gs_nzl_g, gs_n_div, gs_af1, gs_af0, gs_ck0, gs_ck1, gs_ck2t, gs_ck2f, gs_ck3, gs_ck4, gs_zd_t, gs_zd_f, gs_zt_t, gs_zt_f, gs_nar1, gs_nar0, gs_tn, if_true, if_false, not_true_eq_false, not_false_eq_true] at e ⊢
  rw [e]
  exact gs_ck2
end MN
end
section
-- the model's queue
def gs_Qu (d : gs_D) (l : List Nat) : Prop := d.1 20 0 3 = gs_n l.length ∧ ∀ k : Int, 0 ≤ k → k < l.length → d.1 23 0 k.toNat = gs_n (l.getD k.toNat 0 : Nat)
/-- only the model's queue is changed -/
def gs_qf (d d' : gs_D) : Prop := d'.2 = d.2 ∧ ∀ t, t ≠ 20 → t ≠ 23 → d'.1 t = d.1 t
theorem gs_qf.rf {d : gs_D} : gs_qf d d := ⟨rfl, fun _ _ _ => rfl⟩
theorem gs_qf.tr {d d' d'' : gs_D} (h : gs_qf d d') (h2 : gs_qf d' d'') : gs_qf d d'' := ⟨h2.1.trans h.1, fun t a b => (h2.2 t a b).trans (h.2 t a b)⟩
theorem gs_qf.w {d d' : gs_D} {t i j : Nat} {x : Int32} (h : gs_qf d d') (ht : t = 20 ∨ t = 23) : gs_qf d (gs_wI d' t i j x) := ⟨h.1, fun s a b => by
  rw [← h.2 s a b]
  funext p q
  exact gs_wI_o (by omega)⟩
theorem gs_qf.Mo {d d' : gs_D} {t : Nat} {S : gs_S} (h : gs_qf d d') (hM : gs_Mo t d S) : gs_Mo t d' S := fun n a b c => by rw [h.1]; exact hM n a b c
theorem gs_wp_s (S : gs_S) (c : Nat) (pr : Int) : gs_wp S (c + 1) pr = gs_wp S c pr ++ if S.1 (10 + c) 6 = 0 ∧ S.1 (10 + c) 5 = pr then [c] else [] := by
  unfold gs_wp
  rw [List.range_succ, List.filter_append]
  congr 1
  by_cases h : S.1 (10 + c) 6 = 0 ∧ S.1 (10 + c) 5 = pr
  · rw [if_pos h]
    simp [h]
  · rw [if_neg h]
    simp [h]
theorem gs_Qu.push {d : gs_D} {l : List Nat} {i : Nat} (h : gs_Qu d l) : gs_Qu (gs_wI (gs_wI d 23 0 l.length (gs_n i)) 20 0 3 (gs_n (l.length + 1))) (l ++ [i]) := by
  refine ⟨?_, fun k k0 k1 => ?_⟩
  · rw [List.length_append]
    exact gs_wI_s
  · rw [List.length_append] at k1
    have e : (gs_wI (gs_wI d 23 0 l.length (gs_n i)) 20 0 3 (gs_n (l.length + 1))).1 23 0 k.toNat = (gs_wI d 23 0 l.length (gs_n i)).1 23 0 k.toNat := gs_wI_o (by omega)
    rw [e, List.getD_eq_getElem?_getD, List.getElem?_append]
    by_cases c : k.toNat < l.length
    · rw [if_pos c, show (gs_wI d 23 0 l.length (gs_n i)).1 23 0 k.toNat = d.1 23 0 k.toNat from gs_wI_o (by omega), h.2 k k0 (by omega), List.getD_eq_getElem?_getD]
    · have : k.toNat = l.length := by
        have : [i].length = 1 := rfl
        omega
      rw [if_neg c, this, Nat.sub_self]
      exact gs_wI_s
section MO
variable {d : gs_D} {S : gs_S} {B : Int}
theorem s_M_order_in (hM : gs_Mo 21 d S) (hw : gs_wb B S) {pr : Int} (p0 : 0 ≤ pr) (p1 : pr < 3) {l0 : List Nat} (hl : (l0 ++ gs_wp S (S.1 6 1).toNat pr).length ≤ 10) : ∀ (n : Nat) (i : Nat) (dk : gs_D), (i : Int) + n = S.1 6 1 → gs_Qu dk (l0 ++ gs_wp S i pr) → gs_qf d dk →
    ∃ d', gs_g Y0 P_M_order 14 [some (gs_r 20 0), some (gs_i (gs_n pr)), some (gs_i (gs_n i))] [] dk = gs_g Y0 P_M_order 7 [some (gs_r 20 0), some (gs_i (gs_n (pr + 1))), some (gs_i (gs_n (S.1 6 1)))] [] d' ∧ gs_Qu d' (l0 ++ gs_wp S (S.1 6 1).toNat pr) ∧ gs_qf d d' := by
  have hc := hw.2.2.1.2.1
  intro n
  induction n with
  | zero =>
    intro i dk hi hq hf
    have hct := s_M_count (hf.Mo hM) hw
    have e : (i : Int) = S.1 6 1 := by omega
    refine ⟨dk, ?_, by rw [← e, gs_tn]; exact hq, hf⟩
    rw [k_M_order_14]
    simp (disch := omega) only [e_M_order, k_M_order_0, k_M_order_12, k_M_order_19, k_M_order_22, k_M_order_27, k_M_order_30, k_M_order_35, k_M_order_39, k_M_order_49, k_M_order_59, k_M_order_65, k_M_order_71, hct, ↓reduceIte, Int.reduceAdd, Int.reduceSub, Int.reduceMul, Int.reduceToNat, gs_00, gs_ofi, gs_k0_m, gs_k1_m, gs_n8, gs_n16, gs_n_add, gs_n_sub, gs_n_mul, gs_n_neg, gs_m_add, gs_m_sub, gs_m_mul, gs_m_neg, gs_n_l, gs_m_n, gs_n_c, gs_eq_t, gs_eq_f1, gs_eq_f2, gs_lt_t, gs_lt_f, gs_le_t, gs_le_f, gs_cmp_lt, gs_cmp_eq, gs_cmp_gt, gs_ix_n, gs_nz_n, gs_nzl_g, gs_n_div, gs_af1, gs_af0, gs_ck0, gs_ck1, gs_ck2t, gs_ck2f, gs_ck3, gs_ck4, gs_zd_t, gs_zd_f, gs_zt_t, gs_zt_f, gs_nar1, gs_nar0, gs_tn, if_true, if_false, not_true_eq_false, not_false_eq_true]
    rw [e]
  | succ n ih =>
    intro i dk hi hq hf
    have hct := s_M_count (hf.Mo hM) hw
    have hii : (i : Int) < S.1 6 1 := by omega
    have hfa := s_M_fate (hf.Mo hM) hw hii
    have hpr := s_M_priority (hf.Mo hM) hw hii
    have hok := (hw.2.2.2 i hii).2.2
    have hs := gs_wp_s S i pr
    have hw0 := hq.1
    have ci : ((i + 1 : Nat) : Int) = (i : Int) + 1 := by omega
    rw [k_M_order_14]
    by_cases c : S.1 (10 + i) 6 = 0 ∧ S.1 (10 + i) 5 = pr
    · rw [if_pos c] at hs
      have hlen : (l0 ++ gs_wp S i pr).length < 10 := by
        have : (gs_wp S (i + 1) pr).Sublist (gs_wp S (S.1 6 1).toNat pr) := by
          unfold gs_wp
          refine List.Sublist.filter _ ?_
          exact List.range_sublist.mpr (by omega)
        have := this.length_le
        rw [hs, List.length_append] at this
        rw [List.length_append] at hl ⊢
        have : [i].length = 1 := rfl
        omega
      obtain ⟨d', e, r⟩ := ih (i + 1) (gs_wI (gs_wI dk 23 0 (l0 ++ gs_wp S i pr).length (gs_n i)) 20 0 3 (gs_n ((l0 ++ gs_wp S i pr).length + 1))) (by omega) (by rw [hs, ← List.append_assoc]; exact hq.push) ((hf.w (Or.inr rfl)).w (Or.inl rfl))
      refine ⟨d', ?_, r⟩
      rw [ci] at e
      have hx : (gs_wI dk 23 0 (l0 ++ gs_wp S i pr).length (gs_n i)).1 20 0 3 = gs_n (l0 ++ gs_wp S i pr).length := by
        rw [← hw0]
        exact gs_wI_o (by omega)
      simp (disch := omega) only [e_M_order, k_M_order_0, k_M_order_12, k_M_order_19, k_M_order_22, k_M_order_27, k_M_order_30, k_M_order_35, k_M_order_39, k_M_order_49, k_M_order_59, k_M_order_65, k_M_order_71, hct, hfa, hpr, hw0, hx, ↓reduceIte, Int.reduceAdd, Int.reduceSub, Int.reduceMul, Int.reduceToNat, gs_00, gs_ofi, gs_k0_m, gs_k1_m, gs_n8, gs_n16, gs_n_add, gs_n_sub, gs_n_mul, gs_n_neg, gs_m_add, gs_m_sub, gs_m_mul, gs_m_neg, gs_n_l, gs_m_n, gs_n_c, gs_eq_t, gs_eq_f1, gs_eq_f2, gs_lt_t, gs_lt_f, gs_le_t, gs_le_f, gs_cmp_lt, gs_cmp_eq, gs_cmp_gt, gs_ix_n, gs_nz_n, gs_nzl_g, gs_n_div, gs_af1, gs_af0, gs_ck0, gs_ck1, gs_ck2t, gs_ck2f, gs_ck3, gs_ck4, gs_zd_t, gs_zd_f, gs_zt_t, gs_zt_f, gs_nar1, gs_nar0, gs_tn, if_true, if_false, not_true_eq_false, not_false_eq_true]
      exact e
    · rw [if_neg c, List.append_nil] at hs
      obtain ⟨d', e, r⟩ := ih (i + 1) dk (by omega) (by rw [hs]; exact hq) hf
      refine ⟨d', ?_, r⟩
      rw [ci] at e
      by_cases c1 : S.1 (10 + i) 6 = 0
      · by_cases c2 : S.1 (10 + i) 5 < pr
        · simp (disch := omega) only [e_M_order, k_M_order_0, k_M_order_12, k_M_order_19, k_M_order_22, k_M_order_27, k_M_order_30, k_M_order_35, k_M_order_39, k_M_order_49, k_M_order_59, k_M_order_65, k_M_order_71, hct, hfa, hpr, ↓reduceIte, Int.reduceAdd, Int.reduceSub, Int.reduceMul, Int.reduceToNat, gs_00, gs_ofi, gs_k0_m, gs_k1_m, gs_n8, gs_n16, gs_n_add, gs_n_sub, gs_n_mul, gs_n_neg, gs_m_add, gs_m_sub, gs_m_mul, gs_m_neg, gs_n_l, gs_m_n, gs_n_c, gs_eq_t, gs_eq_f1, gs_eq_f2, gs_lt_t, gs_lt_f, gs_le_t, gs_le_f, gs_cmp_lt, gs_cmp_eq, gs_cmp_gt, gs_ix_n, gs_nz_n, gs_nzl_g, gs_n_div, gs_af1, gs_af0, gs_ck0, gs_ck1, gs_ck2t, gs_ck2f, gs_ck3, gs_ck4, gs_zd_t, gs_zd_f, gs_zt_t, gs_zt_f, gs_nar1, gs_nar0, gs_tn, if_true, if_false, not_true_eq_false, not_false_eq_true]
          exact e
        · simp (disch := omega) only [e_M_order, k_M_order_0, k_M_order_12, k_M_order_19, k_M_order_22, k_M_order_27, k_M_order_30, k_M_order_35, k_M_order_39, k_M_order_49, k_M_order_59, k_M_order_65, k_M_order_71, hct, hfa, hpr, ↓reduceIte, Int.reduceAdd, Int.reduceSub, Int.reduceMul, Int.reduceToNat, gs_00, gs_ofi, gs_k0_m, gs_k1_m, gs_n8, gs_n16, gs_n_add, gs_n_sub, gs_n_mul, gs_n_neg, gs_m_add, gs_m_sub, gs_m_mul, gs_m_neg, gs_n_l, gs_m_n, gs_n_c, gs_eq_t, gs_eq_f1, gs_eq_f2, gs_lt_t, gs_lt_f, gs_le_t, gs_le_f, gs_cmp_lt, gs_cmp_eq, gs_cmp_gt, gs_ix_n, gs_nz_n, gs_nzl_g, gs_n_div, gs_af1, gs_af0, gs_ck0, gs_ck1, gs_ck2t, gs_ck2f, gs_ck3, gs_ck4, gs_zd_t, gs_zd_f, gs_zt_t, gs_zt_f, gs_nar1, gs_nar0, gs_tn, if_true, if_false, not_true_eq_false, not_false_eq_true]
          exact e
      · simp (disch := omega) only [e_M_order, k_M_order_0, k_M_order_12, k_M_order_19, k_M_order_22, k_M_order_27, k_M_order_30, k_M_order_35, k_M_order_39, k_M_order_49, k_M_order_59, k_M_order_65, k_M_order_71, hct, hfa, hpr, ↓reduceIte, Int.reduceAdd, Int.reduceSub, Int.reduceMul, Int.reduceToNat, gs_00, gs_ofi, gs_k0_m, gs_k1_m, gs_n8, gs_n16, gs_n_add, gs_n_sub, gs_n_mul, gs_n_neg, gs_m_add, gs_m_sub, gs_m_mul, gs_m_neg, gs_n_l, gs_m_n, gs_n_c, gs_eq_t, gs_eq_f1, gs_eq_f2, gs_lt_t, gs_lt_f, gs_le_t, gs_le_f, gs_cmp_lt, gs_cmp_eq, gs_cmp_gt, gs_ix_n, gs_nz_n, gs_nzl_g, gs_n_div, gs_af1, gs_af0, gs_ck0, gs_ck1, gs_ck2t, gs_ck2f, gs_ck3, gs_ck4, gs_zd_t, gs_zd_f, gs_zt_t, gs_zt_f, gs_nar1, gs_nar0, gs_tn, if_true, if_false, not_true_eq_false, not_false_eq_true]
        exact e
theorem s_M_order (hM : gs_Mo 21 d S) (hw : gs_wb B S) (hl : (gs_wl S).length ≤ 10) : ∃ d', f_M_order [gs_r 20 0] d = some (none, d') ∧ gs_Qu d' (gs_wl S) ∧ gs_qf d d' := by
  unfold gs_wl at hl
  rw [List.length_append, List.length_append] at hl
  have q0 : gs_Qu (gs_wI d 20 0 3 (gs_n 0)) ([] ++ gs_wp S 0 0) := ⟨gs_wI_s, fun k k0 k1 => by
    have : ([] ++ gs_wp S 0 0).length = 0 := rfl
    omega⟩
  have hc := hw.2.2.1.2.1
  obtain ⟨d1, e1, r1, f1⟩ := s_M_order_in hM hw (pr := 0) (l0 := []) (by omega) (by omega) (by rw [List.nil_append]; omega) (S.1 6 1).toNat 0 _ (by omega) q0 (gs_qf.rf.w (Or.inl rfl))
  rw [List.nil_append] at r1
  obtain ⟨d2, e2, r2, f2⟩ := s_M_order_in hM hw (pr := 1) (l0 := gs_wp S (S.1 6 1).toNat 0) (by omega) (by omega) (by rw [List.length_append]; omega) (S.1 6 1).toNat 0 d1 (by omega) (by rw [show gs_wp S 0 1 = [] from rfl, List.append_nil]; exact r1) f1
  obtain ⟨d3, e3, r3, f3⟩ := s_M_order_in hM hw (pr := 2) (l0 := gs_wp S (S.1 6 1).toNat 0 ++ gs_wp S (S.1 6 1).toNat 1) (by omega) (by omega) (by rw [List.length_append, List.length_append]; omega) (S.1 6 1).toNat 0 d2 (by omega) (by rw [show gs_wp S 0 2 = [] from rfl, List.append_nil]; exact r2) f2
  refine ⟨d3, ?_, by rw [List.append_assoc] at r3; exact r3, f3⟩
  have z0 : ((0 : Nat) : Int) = 0 := rfl
  rw [z0] at e1 e2 e3
  rw [e_M_order, k_M_order_0, k_M_order_7]
  simp (disch := omega) only [k_M_order_12, ↓reduceIte, Int.reduceAdd, Int.reduceSub, Int.reduceMul, Int.reduceToNat, gs_00, gs_ofi, gs_k0_m, gs_k1_m, gs_n8, gs_n16, gs_n_add, gs_n_sub, gs_n_mul, gs_n_neg, gs_m_add, gs_m_sub, gs_m_mul, gs_m_neg, gs_n_l, gs_m_n, gs_n_c, gs_eq_t, gs_eq_f1, gs_eq_f2, gs_lt_t, gs_lt_f, gs_le_t, gs_le_f, gs_cmp_lt, gs_cmp_eq, gs_cmp_gt, gs_ix_n, gs_nz_n, gs_nzl_g, gs_n_div, gs_af1, gs_af0, gs_ck0, gs_ck1, gs_ck2t, gs_ck2f, gs_ck3, gs_ck4, gs_zd_t, gs_zd_f, gs_zt_t, gs_zt_f, gs_nar1, gs_nar0, gs_tn, if_true, if_false, not_true_eq_false, not_false_eq_true]
  rw [e1, k_M_order_7]
  simp (disch := omega) only [k_M_order_12, ↓reduceIte, Int.reduceAdd, Int.reduceSub, Int.reduceMul, Int.reduceToNat, gs_00, gs_ofi, gs_k0_m, gs_k1_m, gs_n8, gs_n16, gs_n_add, gs_n_sub, gs_n_mul, gs_n_neg, gs_m_add, gs_m_sub, gs_m_mul, gs_m_neg, gs_n_l, gs_m_n, gs_n_c, gs_eq_t, gs_eq_f1, gs_eq_f2, gs_lt_t, gs_lt_f, gs_le_t, gs_le_f, gs_cmp_lt, gs_cmp_eq, gs_cmp_gt, gs_ix_n, gs_nz_n, gs_nzl_g, gs_n_div, gs_af1, gs_af0, gs_ck0, gs_ck1, gs_ck2t, gs_ck2f, gs_ck3, gs_ck4, gs_zd_t, gs_zd_f, gs_zt_t, gs_zt_f, gs_nar1, gs_nar0, gs_tn, if_true, if_false, not_true_eq_false, not_false_eq_true]
  rw [e2, k_M_order_7]
  simp (disch := omega) only [k_M_order_12, ↓reduceIte, Int.reduceAdd, Int.reduceSub, Int.reduceMul, Int.reduceToNat, gs_00, gs_ofi, gs_k0_m, gs_k1_m, gs_n8, gs_n16, gs_n_add, gs_n_sub, gs_n_mul, gs_n_neg, gs_m_add, gs_m_sub, gs_m_mul, gs_m_neg, gs_n_l, gs_m_n, gs_n_c, gs_eq_t, gs_eq_f1, gs_eq_f2, gs_lt_t, gs_lt_f, gs_le_t, gs_le_f, gs_cmp_lt, gs_cmp_eq, gs_cmp_gt, gs_ix_n, gs_nz_n, gs_nzl_g, gs_n_div, gs_af1, gs_af0, gs_ck0, gs_ck1, gs_ck2t, gs_ck2f, gs_ck3, gs_ck4, gs_zd_t, gs_zd_f, gs_zt_t, gs_zt_f, gs_nar1, gs_nar0, gs_tn, if_true, if_false, not_true_eq_false, not_false_eq_true]
  rw [e3, k_M_order_7]
  simp (disch := omega) only [k_M_order_71, ↓reduceIte, Int.reduceAdd, Int.reduceSub, Int.reduceMul, Int.reduceToNat, gs_00, gs_ofi, gs_k0_m, gs_k1_m, gs_n8, gs_n16, gs_n_add, gs_n_sub, gs_n_mul, gs_n_neg, gs_m_add, gs_m_sub, gs_m_mul, gs_m_neg, gs_n_l, gs_m_n, gs_n_c, gs_eq_t, gs_eq_f1, gs_eq_f2, gs_lt_t, gs_lt_f, gs_le_t, gs_le_f, gs_cmp_lt, gs_cmp_eq, gs_cmp_gt, gs_ix_n, gs_nz_n, gs_nzl_g, gs_n_div, gs_af1, gs_af0, gs_ck0, gs_ck1, gs_ck2t, gs_ck2f, gs_ck3, gs_ck4, gs_zd_t, gs_zd_f, gs_zt_t, gs_zt_f, gs_nar1, gs_nar0, gs_tn, if_true, if_false, not_true_eq_false, not_false_eq_true]
theorem gs_mt_sym (S : gs_S) (i j : Nat) : gs_mt S i j = gs_mt S j i := by
  unfold gs_mt
  rw [decide_eq_decide]
  omega
theorem gs_Qu.at (hq : gs_Qu d S.2) {k : Int} (h0 : 0 ≤ k) (h1 : k < S.2.length) : d.1 23 0 k.toNat = gs_n (gs_qa S k : Nat) := hq.2 k h0 h1
theorem s_M_isBehind (hM : gs_Mo 21 d S) (hw : gs_wb B S) (hq : gs_Qu d S.2) (hv : gs_wq S) {k j : Int} (k0 : 0 ≤ k) (k1 : k < S.2.length) (j0 : 0 ≤ j) (j1 : j < k) : f_M_isBehind [gs_r 20 0, gs_i (gs_n k), gs_i (gs_n j)] d = some (some (gs_i (gs_n (gs_z (gs_mt S (gs_qa S k) (gs_qa S j))))), d) := by
  have h1 := hq.at j0 (by omega)
  have h2 := hq.at k0 k1
  have h3 := s_M_same hM hw (hv.1 j j0 (by omega)) (hv.1 k k0 k1)
  have hl := hv.2
  rw [gs_mt_sym] at h3
  cases hb : gs_mt S (gs_qa S k) (gs_qa S j)
  · rw [hb] at h3
    simp (disch := omega) only [e_M_isBehind, k_M_isBehind_0, k_M_isBehind_5, k_M_isBehind_12, k_M_isBehind_18, k_M_isBehind_21, k_M_isBehind_24, k_M_isBehind_28, h1, h2, h3, ↓reduceIte, Int.reduceAdd, Int.reduceSub, Int.reduceMul, Int.reduceToNat, gs_00, gs_ofi, gs_k0_m, gs_k1_m, gs_n8, gs_n16, gs_n_add, gs_n_sub, gs_n_mul, gs_n_neg, gs_m_add, gs_m_sub, gs_m_mul, gs_m_neg, gs_n_l, gs_m_n, gs_n_c, gs_eq_t, gs_eq_f1, gs_eq_f2, gs_lt_t, gs_lt_f, gs_le_t, gs_le_f, gs_cmp_lt, gs_cmp_eq, gs_cmp_gt, gs_ix_n, gs_nz_n, gs_nzl_g, gs_n_div, gs_af1, gs_af0, gs_ck0, gs_ck1, gs_ck2t, gs_ck2f, gs_ck3, gs_ck4, gs_zd_t, gs_zd_f, gs_zt_t, gs_zt_f, gs_nar1, gs_nar0, gs_tn, if_true, if_false, not_true_eq_false, not_false_eq_true]
  · rw [hb] at h3
    simp (disch := omega) only [e_M_isBehind, k_M_isBehind_0, k_M_isBehind_5, k_M_isBehind_12, k_M_isBehind_18, k_M_isBehind_21, k_M_isBehind_24, k_M_isBehind_28, h1, h2, h3, ↓reduceIte, Int.reduceAdd, Int.reduceSub, Int.reduceMul, Int.reduceToNat, gs_00, gs_ofi, gs_k0_m, gs_k1_m, gs_n8, gs_n16, gs_n_add, gs_n_sub, gs_n_mul, gs_n_neg, gs_m_add, gs_m_sub, gs_m_mul, gs_m_neg, gs_n_l, gs_m_n, gs_n_c, gs_eq_t, gs_eq_f1, gs_eq_f2, gs_lt_t, gs_lt_f, gs_le_t, gs_le_f, gs_cmp_lt, gs_cmp_eq, gs_cmp_gt, gs_ix_n, gs_nz_n, gs_nzl_g, gs_n_div, gs_af1, gs_af0, gs_ck0, gs_ck1, gs_ck2t, gs_ck2f, gs_ck3, gs_ck4, gs_zd_t, gs_zd_f, gs_zt_t, gs_zt_f, gs_nar1, gs_nar0, gs_tn, if_true, if_false, not_true_eq_false, not_false_eq_true]
theorem s_M_behindCount (hM : gs_Mo 21 d S) (hw : gs_wb B S) (hq : gs_Qu d S.2) (hv : gs_wq S) {k : Int} (k0 : 0 ≤ k) (k1 : k < S.2.length) : f_M_behindCount [gs_r 20 0, gs_i (gs_n k)] d = some (some (gs_i (gs_n (gs_cah S k k.toNat))), d) := by
  have hl := hv.2
  have key : ∀ (n : Nat) (j : Int), 0 ≤ j → j + n = k → gs_g Y0 P_M_behindCount 4 [some (gs_r 20 0), some (gs_i (gs_n k)), some (gs_i (gs_n (gs_cah S k j.toNat))), some (gs_i (gs_n j))] [] d = some (some (gs_i (gs_n (gs_cah S k k.toNat))), d) := by
    intro n
    induction n with
    | zero =>
      intro j j0 j1
      have e : j = k := by omega
      subst e
      simp (disch := omega) only [e_M_behindCount, k_M_behindCount_0, k_M_behindCount_4, k_M_behindCount_9, k_M_behindCount_15, k_M_behindCount_18, k_M_behindCount_24, k_M_behindCount_32, ↓reduceIte, Int.reduceAdd, Int.reduceSub, Int.reduceMul, Int.reduceToNat, gs_00, gs_ofi, gs_k0_m, gs_k1_m, gs_n8, gs_n16, gs_n_add, gs_n_sub, gs_n_mul, gs_n_neg, gs_m_add, gs_m_sub, gs_m_mul, gs_m_neg, gs_n_l, gs_m_n, gs_n_c, gs_eq_t, gs_eq_f1, gs_eq_f2, gs_lt_t, gs_lt_f, gs_le_t, gs_le_f, gs_cmp_lt, gs_cmp_eq, gs_cmp_gt, gs_ix_n, gs_nz_n, gs_nzl_g, gs_n_div, gs_af1, gs_af0, gs_ck0, gs_ck1, gs_ck2t, gs_ck2f, gs_ck3, gs_ck4, gs_zd_t, gs_zd_f, gs_zt_t, gs_zt_f, gs_nar1, gs_nar0, gs_tn, if_true, if_false, not_true_eq_false, not_false_eq_true]
    | succ n ih =>
      intro j j0 j1
      have hb := s_M_isBehind hM hw hq hv k0 k1 j0 (by omega)
      have e := ih (j + 1) (by omega) (by omega)
      have cr := gs_cah_rg S k j.toNat
      have es : gs_cah S k (j + 1).toNat = gs_cah S k j.toNat + gs_z (gs_mt S (gs_qa S k) (gs_qa S j)) := by
        have : (j + 1).toNat = j.toNat + 1 := by omega
        rw [this]
        have : ((j.toNat : Nat) : Int) = j := by omega
        simp only [gs_cah, this]
      rw [es] at e
      rw [k_M_behindCount_4]
      cases hm : gs_mt S (gs_qa S k) (gs_qa S j)
      · rw [hm] at hb e
        simp (disch := omega) only [e_M_behindCount, k_M_behindCount_0, k_M_behindCount_9, k_M_behindCount_15, k_M_behindCount_18, k_M_behindCount_24, k_M_behindCount_32, hb, ↓reduceIte, Int.reduceAdd, Int.reduceSub, Int.reduceMul, Int.reduceToNat, gs_00, gs_ofi, gs_k0_m, gs_k1_m, gs_n8, gs_n16, gs_n_add, gs_n_sub, gs_n_mul, gs_n_neg, gs_m_add, gs_m_sub, gs_m_mul, gs_m_neg, gs_n_l, gs_m_n, gs_n_c, gs_eq_t, gs_eq_f1, gs_eq_f2, gs_lt_t, gs_lt_f, gs_le_t, gs_le_f, gs_cmp_lt, gs_cmp_eq, gs_cmp_gt, gs_ix_n, gs_nz_n, gs_nzl_g, gs_n_div, gs_af1, gs_af0, gs_ck0, gs_ck1, gs_ck2t, gs_ck2f, gs_ck3, gs_ck4, gs_zd_t, gs_zd_f, gs_zt_t, gs_zt_f, gs_nar1, gs_nar0, gs_tn, if_true, if_false, not_true_eq_false, not_false_eq_true]
        simpa only [gs_zt_f, Int.add_zero] using e
      · rw [hm] at hb e
        simp (disch := omega) only [e_M_behindCount, k_M_behindCount_0, k_M_behindCount_9, k_M_behindCount_15, k_M_behindCount_18, k_M_behindCount_24, k_M_behindCount_32, hb, ↓reduceIte, Int.reduceAdd, Int.reduceSub, Int.reduceMul, Int.reduceToNat, gs_00, gs_ofi, gs_k0_m, gs_k1_m, gs_n8, gs_n16, gs_n_add, gs_n_sub, gs_n_mul, gs_n_neg, gs_m_add, gs_m_sub, gs_m_mul, gs_m_neg, gs_n_l, gs_m_n, gs_n_c, gs_eq_t, gs_eq_f1, gs_eq_f2, gs_lt_t, gs_lt_f, gs_le_t, gs_le_f, gs_cmp_lt, gs_cmp_eq, gs_cmp_gt, gs_ix_n, gs_nz_n, gs_nzl_g, gs_n_div, gs_af1, gs_af0, gs_ck0, gs_ck1, gs_ck2t, gs_ck2f, gs_ck3, gs_ck4, gs_zd_t, gs_zd_f, gs_zt_t, gs_zt_f, gs_nar1, gs_nar0, gs_tn, if_true, if_false, not_true_eq_false, not_false_eq_true]
        simpa only [gs_zt_t] using e
  have e := key k.toNat 0 (by omega) (by omega)
  simp (disch := omega) only [e_M_behindCount, k_M_behindCount_0, ↓reduceIte, Int.reduceAdd, Int.reduceSub, Int.reduceMul, Int.reduceToNat, gs_00, gs_ofi, gs_k0_m, gs_k1_m, gs_n8, gs_n16, gs_n_add, gs_n_sub, gs_n_mul, gs_n_neg, gs_m_add, gs_m_sub, gs_m_mul, gs_m_neg, gs_n_l, gs_m_n, gs_n_c, gs_eq_t, gs_eq_f1, gs_eq_f2, gs_lt_t, gs_lt_f, gs_le_t, gs_le_f, gs_cmp_lt, gs_cmp_eq, gs_cmp_gt, gs_ix_n, gs_nz_n, gs_nzl_g, gs_n_div, gs_af1, gs_af0, gs_ck0, gs_ck1, gs_ck2t, gs_ck2f, gs_ck3, gs_ck4, gs_zd_t, gs_zd_f, gs_zt_t, gs_zt_f, gs_nar1, gs_nar0, gs_tn, if_true, if_false, not_true_eq_false, not_false_eq_true]
  have e0 : gs_cah S k (0 : Int).toNat = 0 := rfl
  rw [e0] at e
  rw [e]
  rfl
theorem gs_cov_iff (hw : gs_wb B S) {i : Nat} (hi : (i : Int) < S.1 6 1) : gs_cov S i = true ↔ ∀ x : Int, 0 ≤ x → x < 54 → gs_mtk S i x ≤ 0 ∨ gs_mtk S i x ≤ gs_ab S x := by
  obtain ⟨a0, a1, a2, a3, a4⟩ := (hw.2.2.2 i hi).r
  have ai := (hw.2.2.2 i hi).2.1.2.2.2
  unfold gs_cov
  rw [decide_eq_true_iff]
  have b1 : gs_ab S (S.1 (10 + i) 1) = gs_rm S (S.1 (10 + i) 1 * 3 + 0) := by
    unfold gs_ab
    rw [if_neg (by omega), gs_cp_1 (by omega), Int.add_zero]
  constructor
  · intro h x x0 x1
    by_cases c1 : x < 6
    · by_cases c2 : S.1 (10 + i) 1 = x
      · subst c2
        rw [b1]
        unfold gs_mtk
        rw [if_pos c1, if_pos rfl]
        omega
      · left
        unfold gs_mtk
        rw [if_pos c1, if_neg c2]
        split <;> omega
    · by_cases c2 : x < 18
      · by_cases c3 : S.1 (10 + i) 2 = 1 + (x - 6) % 2 ∧ S.1 (10 + i) 0 = (x - 6) / 2
        · have e : gs_ab S x = gs_rm S (S.1 (10 + i) 0 * 3 + S.1 (10 + i) 2) := by
            unfold gs_ab
            rw [if_neg (by omega), gs_cp_2 (by omega) c2]
            congr 1
            omega
          rw [e]
          unfold gs_mtk
          rw [if_neg c1, if_pos c2, if_pos c3.1, if_pos c3.2]
          omega
        · left
          unfold gs_mtk
          rw [if_neg c1, if_pos c2]
          repeat' split
          all_goals omega
      · by_cases c3 : ¬ S.1 4 (x - 18).toNat < 0 ∧ S.1 (10 + i) 1 = (x - 18) / 6 ∧ S.1 (10 + i) 0 = (x - 18) % 6
        · have e : gs_ab S x = gs_rm S (18 + (S.1 (10 + i) 1 * 6 + S.1 (10 + i) 0)) := by
            have ex : 18 + (S.1 (10 + i) 1 * 6 + S.1 (10 + i) 0) = x := by omega
            rw [ex]
            unfold gs_ab gs_rm
            rw [if_pos (by omega), if_pos (by omega), if_neg (by omega)]
          rw [e]
          unfold gs_mtk
          rw [if_neg c1, if_neg c2, if_neg c3.1, if_pos c3.2]
          omega
        · left
          unfold gs_mtk
          rw [if_neg c1, if_neg c2]
          repeat' split
          all_goals omega
  · intro h
    constructor
    · by_cases c : S.1 (10 + i) 3 ≤ 0
      · exact Or.inl c
      · right
        have hx := h (6 + S.1 (10 + i) 0 * 2 + (S.1 (10 + i) 2 - 1)) (by omega) (by omega)
        have e : gs_ab S (6 + S.1 (10 + i) 0 * 2 + (S.1 (10 + i) 2 - 1)) = gs_rm S (S.1 (10 + i) 0 * 3 + S.1 (10 + i) 2) := by
          unfold gs_ab
          rw [if_neg (by omega), gs_cp_2 (by omega) (by omega)]
          congr 1
          omega
        have em : gs_mtk S i (6 + S.1 (10 + i) 0 * 2 + (S.1 (10 + i) 2 - 1)) = S.1 (10 + i) 3 := by
          unfold gs_mtk
          rw [if_neg (by omega), if_pos (by omega), if_pos (by omega), if_pos (by omega)]
        rw [e, em] at hx
        omega
    · by_cases c : S.1 (10 + i) 4 = 0
      · exact Or.inl c
      · right
        have hx := h (S.1 (10 + i) 1) (by omega) (by omega)
        have em : gs_mtk S i (S.1 (10 + i) 1) = S.1 (10 + i) 4 := by
          unfold gs_mtk
          rw [if_pos (by omega), if_pos rfl]
        rw [b1, em] at hx
        refine ⟨by omega, ?_⟩
        have hl := hw.2.1.2.2 (18 + (S.1 (10 + i) 1 * 6 + S.1 (10 + i) 0) - 18).toNat (by omega)
        by_cases c2 : S.1 4 (18 + (S.1 (10 + i) 1 * 6 + S.1 (10 + i) 0) - 18).toNat = -1
        · unfold gs_rm
          rw [if_pos (by omega), if_pos c2]
          omega
        · have hy := h (18 + (S.1 (10 + i) 1 * 6 + S.1 (10 + i) 0)) (by omega) (by omega)
          have e : gs_ab S (18 + (S.1 (10 + i) 1 * 6 + S.1 (10 + i) 0)) = gs_rm S (18 + (S.1 (10 + i) 1 * 6 + S.1 (10 + i) 0)) := by
            unfold gs_ab gs_rm
            rw [if_pos (by omega), if_pos (by omega), if_neg c2]
          have em2 : gs_mtk S i (18 + (S.1 (10 + i) 1 * 6 + S.1 (10 + i) 0)) = S.1 (10 + i) 4 := by
            unfold gs_mtk
            rw [if_neg (by omega), if_neg (by omega), if_neg (by omega), if_pos (by omega)]
          rw [e, em2] at hy
          omega
theorem gs_ab_rg (hw : gs_wb B S) {x : Int} (h0 : 0 ≤ x) (h1 : x < 54) : -4611686018427387904 ≤ gs_ab S x ∧ gs_ab S x ≤ 4611686018427387904 := by
  have hB := hw.2.2.1.2.2
  unfold gs_ab
  split
  · have a1 := hw.2.1.2.2 (x - 18).toNat (by omega)
    have a2 := hw.1.2.2 (x - 18).toNat (by omega)
    omega
  · refine gs_rm_rg hw ?_ ?_
    · unfold gs_cp
      repeat' split
      all_goals omega
    · unfold gs_cp
      repeat' split
      all_goals omega
theorem s_M_enough (hM : gs_Mo 21 d S) (hw : gs_wb B S) {i : Nat} (hi : (i : Int) < S.1 6 1) : f_M_enough [gs_r 20 0, gs_i (gs_n i)] d = some (some (gs_i (gs_n (gs_z (gs_cov S i)))), d) := by
  have key : ∀ (n : Nat) (x : Int) (a : Bool) (o : Option gs_V), 0 ≤ x → x + n = 54 → (a = true ↔ ∀ y : Int, 0 ≤ y → y < x → gs_mtk S i y ≤ 0 ∨ gs_mtk S i y ≤ gs_ab S y) → gs_g Y0 P_M_enough 4 [some (gs_r 20 0), some (gs_i (gs_n i)), some (gs_i (gs_n (gs_z a))), some (gs_i (gs_n x)), o, none] [] d = some (some (gs_i (gs_n (gs_z (gs_cov S i)))), d) := by
    intro n
    induction n with
    | zero =>
      intro x a o h0 h1 ha
      have e : a = gs_cov S i := by
        have x54 : x = 54 := by omega
        subst x54
        rw [Bool.eq_iff_iff, ha, gs_cov_iff hw hi]
      subst e
      simp (disch := omega) only [e_M_enough, k_M_enough_0, k_M_enough_4, k_M_enough_10, k_M_enough_16, k_M_enough_22, k_M_enough_29, k_M_enough_34, k_M_enough_40, k_M_enough_44, k_M_enough_52, ↓reduceIte, Int.reduceAdd, Int.reduceSub, Int.reduceMul, Int.reduceToNat, gs_00, gs_ofi, gs_k0_m, gs_k1_m, gs_n8, gs_n16, gs_n_add, gs_n_sub, gs_n_mul, gs_n_neg, gs_m_add, gs_m_sub, gs_m_mul, gs_m_neg, gs_n_l, gs_m_n, gs_n_c, gs_eq_t, gs_eq_f1, gs_eq_f2, gs_lt_t, gs_lt_f, gs_le_t, gs_le_f, gs_cmp_lt, gs_cmp_eq, gs_cmp_gt, gs_ix_n, gs_nz_n, gs_nzl_g, gs_n_div, gs_af1, gs_af0, gs_ck0, gs_ck1, gs_ck2t, gs_ck2f, gs_ck3, gs_ck4, gs_zd_t, gs_zd_f, gs_zt_t, gs_zt_f, gs_nar1, gs_nar0, gs_tn, if_true, if_false, not_true_eq_false, not_false_eq_true]
    | succ n ih =>
      intro x a o h0 h1 ha
      have t1 := s_M_takes hM hw hi h0 (x := x) (by omega)
      have t2 := s_M_above hM hw h0 (x := x) (by omega)
      have r1 := gs_mtk_rg hw hi (x := x)
      have r2 := gs_ab_rg hw h0 (x := x) (by omega)
      have go : ∀ a' : Bool, (a' = true ↔ (a = true ∧ (gs_mtk S i x ≤ 0 ∨ gs_mtk S i x ≤ gs_ab S x))) → (a' = true ↔ ∀ y : Int, 0 ≤ y → y < x + 1 → gs_mtk S i y ≤ 0 ∨ gs_mtk S i y ≤ gs_ab S y) := by
        intro a' h
        rw [h, ha]
        constructor
        · intro z y y0 y1
          by_cases c : y = x
          · rw [c]; exact z.2
          · exact z.1 y y0 (by omega)
        · intro z
          exact ⟨fun y y0 y1 => z y y0 (by omega), z x h0 (by omega)⟩
      rw [k_M_enough_4]
      cases a with
      | false =>
        have e := ih (x + 1) false (some (gs_l (gs_m (gs_mtk S i x)))) (by omega) (by omega) (go false (by simp))
        simp (disch := omega) only [e_M_enough, k_M_enough_0, k_M_enough_10, k_M_enough_16, k_M_enough_22, k_M_enough_29, k_M_enough_34, k_M_enough_40, k_M_enough_44, k_M_enough_52, t1, ↓reduceIte, Int.reduceAdd, Int.reduceSub, Int.reduceMul, Int.reduceToNat, gs_00, gs_ofi, gs_k0_m, gs_k1_m, gs_n8, gs_n16, gs_n_add, gs_n_sub, gs_n_mul, gs_n_neg, gs_m_add, gs_m_sub, gs_m_mul, gs_m_neg, gs_n_l, gs_m_n, gs_n_c, gs_eq_t, gs_eq_f1, gs_eq_f2, gs_lt_t, gs_lt_f, gs_le_t, gs_le_f, gs_cmp_lt, gs_cmp_eq, gs_cmp_gt, gs_ix_n, gs_nz_n, gs_nzl_g, gs_n_div, gs_af1, gs_af0, gs_ck0, gs_ck1, gs_ck2t, gs_ck2f, gs_ck3, gs_ck4, gs_zd_t, gs_zd_f, gs_zt_t, gs_zt_f, gs_nar1, gs_nar0, gs_tn, if_true, if_false, not_true_eq_false, not_false_eq_true] at e ⊢
        exact e
      | true =>
        by_cases c1 : gs_mtk S i x ≤ 0
        · have e := ih (x + 1) true (some (gs_l (gs_m (gs_mtk S i x)))) (by omega) (by omega) (go true (by simp [c1]))
          by_cases c3 : gs_mtk S i x = 0 <;> simp (disch := omega) only [e_M_enough, k_M_enough_0, k_M_enough_10, k_M_enough_16, k_M_enough_22, k_M_enough_29, k_M_enough_34, k_M_enough_40, k_M_enough_44, k_M_enough_52, t1, t2, ↓reduceIte, Int.reduceAdd, Int.reduceSub, Int.reduceMul, Int.reduceToNat, gs_00, gs_ofi, gs_k0_m, gs_k1_m, gs_n8, gs_n16, gs_n_add, gs_n_sub, gs_n_mul, gs_n_neg, gs_m_add, gs_m_sub, gs_m_mul, gs_m_neg, gs_n_l, gs_m_n, gs_n_c, gs_eq_t, gs_eq_f1, gs_eq_f2, gs_lt_t, gs_lt_f, gs_le_t, gs_le_f, gs_cmp_lt, gs_cmp_eq, gs_cmp_gt, gs_ix_n, gs_nz_n, gs_nzl_g, gs_n_div, gs_af1, gs_af0, gs_ck0, gs_ck1, gs_ck2t, gs_ck2f, gs_ck3, gs_ck4, gs_zd_t, gs_zd_f, gs_zt_t, gs_zt_f, gs_nar1, gs_nar0, gs_tn, if_true, if_false, not_true_eq_false, not_false_eq_true] at e ⊢ <;> exact e
        · by_cases c2 : gs_mtk S i x ≤ gs_ab S x
          · have e := ih (x + 1) true (some (gs_l (gs_m (gs_mtk S i x)))) (by omega) (by omega) (go true (by simp [c2]))
            by_cases c3 : gs_mtk S i x = gs_ab S x <;> simp (disch := omega) only [e_M_enough, k_M_enough_0, k_M_enough_10, k_M_enough_16, k_M_enough_22, k_M_enough_29, k_M_enough_34, k_M_enough_40, k_M_enough_44, k_M_enough_52, t1, t2, ↓reduceIte, Int.reduceAdd, Int.reduceSub, Int.reduceMul, Int.reduceToNat, gs_00, gs_ofi, gs_k0_m, gs_k1_m, gs_n8, gs_n16, gs_n_add, gs_n_sub, gs_n_mul, gs_n_neg, gs_m_add, gs_m_sub, gs_m_mul, gs_m_neg, gs_n_l, gs_m_n, gs_n_c, gs_eq_t, gs_eq_f1, gs_eq_f2, gs_lt_t, gs_lt_f, gs_le_t, gs_le_f, gs_cmp_lt, gs_cmp_eq, gs_cmp_gt, gs_ix_n, gs_nz_n, gs_nzl_g, gs_n_div, gs_af1, gs_af0, gs_ck0, gs_ck1, gs_ck2t, gs_ck2f, gs_ck3, gs_ck4, gs_zd_t, gs_zd_f, gs_zt_t, gs_zt_f, gs_nar1, gs_nar0, gs_tn, if_true, if_false, not_true_eq_false, not_false_eq_true] at e ⊢ <;> exact e
          · have e := ih (x + 1) false (some (gs_l (gs_m (gs_mtk S i x)))) (by omega) (by omega) (go false (by simp [c1, c2]))
            simp (disch := omega) only [e_M_enough, k_M_enough_0, k_M_enough_10, k_M_enough_16, k_M_enough_22, k_M_enough_29, k_M_enough_34, k_M_enough_40, k_M_enough_44, k_M_enough_52, t1, t2, ↓reduceIte, Int.reduceAdd, Int.reduceSub, Int.reduceMul, Int.reduceToNat, gs_00, gs_ofi, gs_k0_m, gs_k1_m, gs_n8, gs_n16, gs_n_add, gs_n_sub, gs_n_mul, gs_n_neg, gs_m_add, gs_m_sub, gs_m_mul, gs_m_neg, gs_n_l, gs_m_n, gs_n_c, gs_eq_t, gs_eq_f1, gs_eq_f2, gs_lt_t, gs_lt_f, gs_le_t, gs_le_f, gs_cmp_lt, gs_cmp_eq, gs_cmp_gt, gs_ix_n, gs_nz_n, gs_nzl_g, gs_n_div, gs_af1, gs_af0, gs_ck0, gs_ck1, gs_ck2t, gs_ck2f, gs_ck3, gs_ck4, gs_zd_t, gs_zd_f, gs_zt_t, gs_zt_f, gs_nar1, gs_nar0, gs_tn, if_true, if_false, not_true_eq_false, not_false_eq_true] at e ⊢
            exact e
  have e := key 54 0 true none (by omega) (by omega) (by
    constructor
    · intro _ y y0 y1; omega
    · intro _; rfl)
  simp (disch := omega) only [e_M_enough, k_M_enough_0, ↓reduceIte, Int.reduceAdd, Int.reduceSub, Int.reduceMul, Int.reduceToNat, gs_00, gs_ofi, gs_k0_m, gs_k1_m, gs_n8, gs_n16, gs_n_add, gs_n_sub, gs_n_mul, gs_n_neg, gs_m_add, gs_m_sub, gs_m_mul, gs_m_neg, gs_n_l, gs_m_n, gs_n_c, gs_eq_t, gs_eq_f1, gs_eq_f2, gs_lt_t, gs_lt_f, gs_le_t, gs_le_f, gs_cmp_lt, gs_cmp_eq, gs_cmp_gt, gs_ix_n, gs_nz_n, gs_nzl_g, gs_n_div, gs_af1, gs_af0, gs_ck0, gs_ck1, gs_ck2t, gs_ck2f, gs_ck3, gs_ck4, gs_zd_t, gs_zd_f, gs_zt_t, gs_zt_f, gs_nar1, gs_nar0, gs_tn, if_true, if_false, not_true_eq_false, not_false_eq_true] at e ⊢
  rw [e]
  exact gs_ck2
end MO
end
section
-- the model settles
/-- only the model's row is changed -/
def gs_rf (d d' : gs_D) : Prop := d'.1 = d.1 ∧ ∀ t, t ≠ 21 → d'.2 t = d.2 t
theorem gs_rf.rf {d : gs_D} : gs_rf d d := ⟨rfl, fun _ _ => rfl⟩
theorem gs_rf.tr {d d' d'' : gs_D} (h : gs_rf d d') (h2 : gs_rf d' d'') : gs_rf d d'' := ⟨h2.1.trans h.1, fun t a => (h2.2 t a).trans (h.2 t a)⟩
theorem gs_rf.w {d d' : gs_D} {j : Nat} {x : Int64} (h : gs_rf d d') : gs_rf d (gs_wL d' 21 0 j x) := ⟨h.1, fun s a => by
  rw [← h.2 s a]
  funext p q
  exact if_neg fun z => a z.1⟩
section MS
variable {d : gs_D} {S : gs_S} {B : Int}
theorem gs_ms_u (S : gs_S) {f : Nat} (hf : f < 10) (j : Nat) (x : Int) (i c : Nat) : gs_ms (gs_u S f j x) i c = gs_ms S i c := by
  have e : ∀ k, (gs_u S f j x).1 (10 + i) k = S.1 (10 + i) k := fun k => gs_u_o S f j x k (by omega)
  unfold gs_ms
  simp only [e]
theorem gs_mr_u0 (S : gs_S) {j : Nat} (hj : j < 18) (x : Int) (n : Nat) : gs_mr (gs_u S 0 j x) n = if n = j then x else gs_mr S n := by
  have o : ∀ a c, a ≠ 0 → (gs_u S 0 j x).1 a c = S.1 a c := fun a c h => gs_u_o S 0 j x c h
  unfold gs_mr
  by_cases c : n < 18
  · rw [if_pos c, if_pos c]
    show (if 0 = 0 ∧ n = j then x else S.1 0 n) = _
    simp only [true_and]
  · rw [if_neg c, if_neg c, if_neg (show ¬ n = j by omega)]
    simp only [o 1 _ (by decide), o 2 _ (by decide), o 3 _ (by decide), o 4 _ (by decide), o 5 _ (by decide), o 6 _ (by decide), gs_ms_u S (show 0 < 10 by omega)]
theorem gs_mr_u5 (S : gs_S) {j : Nat} (hj : j < 36) (x : Int) (n : Nat) : gs_mr (gs_u S 5 j x) n = if n = 70 + j then x else gs_mr S n := by
  have o : ∀ a c, a ≠ 5 → (gs_u S 5 j x).1 a c = S.1 a c := fun a c h => gs_u_o S 5 j x c h
  by_cases c : 70 ≤ n ∧ n < 106
  · rw [gs_mr_n c.1 c.2, gs_mr_n c.1 c.2]
    show (if 5 = 5 ∧ n - 70 = j then x else S.1 5 (n - 70)) = _
    by_cases z : n = 70 + j
    · rw [if_pos ⟨rfl, by omega⟩, if_pos z]
    · rw [if_neg (by omega), if_neg z]
  · rw [if_neg (show ¬ n = 70 + j by omega)]
    unfold gs_mr
    simp only [o 0 _ (by decide), o 1 _ (by decide), o 2 _ (by decide), o 3 _ (by decide), o 4 _ (by decide), o 6 _ (by decide), gs_ms_u S (show 5 < 10 by omega)]
    repeat' split
    all_goals first | rfl | (exfalso; omega)
theorem gs_mr_u6 (S : gs_S) (i : Nat) (st : Int) (n : Nat) : gs_mr (gs_u S (10 + i) 6 st) n = (if n = 117 + 8 * i then S.1 (10 + i) 5 + 4 * st else gs_mr S n) ∨ n = 108 ∨ n = 109 := by
  have o : ∀ a c, a < 10 → (gs_u S (10 + i) 6 st).1 a c = S.1 a c := fun a c h => gs_u_o S (10 + i) 6 st c (by omega)
  by_cases c : n < 110
  · by_cases c8 : n = 108 ∨ n = 109
    · exact Or.inr c8
    · left
      rw [if_neg (show ¬ n = 117 + 8 * i by omega)]
      unfold gs_mr
      simp only [o 0 _ (by omega), o 1 _ (by omega), o 2 _ (by omega), o 3 _ (by omega), o 4 _ (by omega), o 5 _ (by omega), o 6 _ (by omega)]
      repeat' split
      all_goals first | rfl | (exfalso; omega)
  · left
    rw [gs_mr_i (by omega), gs_mr_i (by omega)]
    by_cases z : (n - 110) / 8 = i
    · have e : ∀ k, k ≠ 6 → (gs_u S (10 + i) 6 st).1 (10 + i) k = S.1 (10 + i) k := fun k hk => if_neg fun y => hk y.2
      have e6 : (gs_u S (10 + i) 6 st).1 (10 + i) 6 = st := if_pos ⟨rfl, rfl⟩
      rw [z]
      by_cases y : (n - 110) % 8 = 7
      · rw [if_pos (by omega), y]
        show (gs_u S (10 + i) 6 st).1 (10 + i) 5 + 4 * (gs_u S (10 + i) 6 st).1 (10 + i) 6 = _
        rw [e 5 (by omega), e6]
      · rw [if_neg (by omega)]
        have h8 : (n - 110) % 8 < 7 := by omega
        generalize (n - 110) % 8 = m at h8
        rcases m with _ | _ | _ | _ | _ | _ | _ | m
        · show (if 0 < (gs_u S (10 + i) 6 st).1 (10 + i) 4 then (gs_u S (10 + i) 6 st).1 (10 + i) 1 else -1) = _
          rw [e 4 (by omega), e 1 (by omega)]; rfl
        · show (if 0 < (gs_u S (10 + i) 6 st).1 (10 + i) 4 then (gs_u S (10 + i) 6 st).1 (10 + i) 0 else -1) = _
          rw [e 4 (by omega), e 0 (by omega)]; rfl
        · show (if 0 < (gs_u S (10 + i) 6 st).1 (10 + i) 3 then (gs_u S (10 + i) 6 st).1 (10 + i) 0 else -1) = _
          rw [e 3 (by omega), e 0 (by omega)]; rfl
        · show (if 0 < (gs_u S (10 + i) 6 st).1 (10 + i) 3 then (gs_u S (10 + i) 6 st).1 (10 + i) 1 else -1) = _
          rw [e 3 (by omega), e 1 (by omega)]; rfl
        · exact e 2 (by omega)
        · exact e 4 (by omega)
        · exact e 3 (by omega)
        · omega
    · rw [if_neg (by omega)]
      have e : ∀ k, (gs_u S (10 + i) 6 st).1 (10 + (n - 110) / 8) k = S.1 (10 + (n - 110) / 8) k := fun k => if_neg fun y => by omega
      unfold gs_ms
      simp only [e]
theorem gs_Mo.w {t n0 : Nat} {x : Int} {S' : gs_S} (hM : gs_Mo t d S) (hc : S'.1 6 1 = S.1 6 1) (h : ∀ n, gs_mr S' n = (if n = n0 then x else gs_mr S n) ∨ n = 108 ∨ n = 109) : gs_Mo t (gs_wL d t 0 n0 (gs_m x)) S' := by
  intro n h1 h2 h3
  rcases h n with e | e | e
  · rw [e]
    by_cases c : n = n0
    · rw [if_pos c, c]
      exact if_pos ⟨rfl, rfl, rfl⟩
    · rw [if_neg c, ← hM n (by rw [← hc]; exact h1) h2 h3]
      exact if_neg fun z => c z.2.2
  · exact absurd e h2
  · exact absurd e h3
theorem gs_Mo.aH {t : Nat} (hM : gs_Mo t d S) {j : Nat} (hj : j < 18) (x : Int) : gs_Mo t (gs_wL d t 0 j (gs_m (S.1 0 j + x))) (gs_ad S 0 j x) := hM.w (gs_u_o S 0 j _ 1 (by decide)) fun n => Or.inl (gs_mr_u0 S hj _ n)
theorem gs_Mo.sH {t : Nat} (hM : gs_Mo t d S) {j : Nat} (hj : j < 18) (x : Int) : gs_Mo t (gs_wL d t 0 j (gs_m (S.1 0 j - x))) (gs_sb S 0 j x) := hM.w (gs_u_o S 0 j _ 1 (by decide)) fun n => Or.inl (gs_mr_u0 S hj _ n)
theorem gs_Mo.aN {t : Nat} (hM : gs_Mo t d S) {j : Nat} (hj : j < 36) (x : Int) : gs_Mo t (gs_wL d t 0 (70 + j) (gs_m (S.1 5 j + x))) (gs_ad S 5 j x) := hM.w (gs_u_o S 5 j _ 1 (by decide)) fun n => Or.inl (gs_mr_u5 S hj _ n)
theorem gs_Mo.sN {t : Nat} (hM : gs_Mo t d S) {j : Nat} (hj : j < 36) (x : Int) : gs_Mo t (gs_wL d t 0 (70 + j) (gs_m (S.1 5 j - x))) (gs_sb S 5 j x) := hM.w (gs_u_o S 5 j _ 1 (by decide)) fun n => Or.inl (gs_mr_u5 S hj _ n)
theorem gs_Mo.st {t : Nat} (hM : gs_Mo t d S) (i : Nat) (st : Int) : gs_Mo t (gs_wL d t 0 (117 + 8 * i) (gs_m (S.1 (10 + i) 5 + 4 * st))) (gs_u S (10 + i) 6 st) := hM.w (gs_u_o S (10 + i) 6 _ 1 (by omega)) fun n => gs_mr_u6 S i st n
theorem s_M_setFate (hM : gs_Mo 21 d S) (hw : gs_wb B S) {i : Nat} (hi : (i : Int) < S.1 6 1) {st : Int} (h0 : 0 ≤ st) (h1 : st < 4) : f_M_setFate [gs_r 20 0, gs_i (gs_n i), gs_i (gs_n st)] d = some (none, gs_wL d 21 0 (117 + 8 * i) (gs_m (S.1 (10 + i) 5 + 4 * st))) := by
  have hp := s_M_priority hM hw hi
  have hc := hw.2.2.1.2.1
  have h3 := (hw.2.2.2 i hi).2.2
  have e : (117 + 8 * (i : Int)).toNat = 117 + 8 * i := by omega
  simp (disch := omega) only [e_M_setFate, k_M_setFate_0, k_M_setFate_16, k_M_setFate_22, hp, e, ↓reduceIte, Int.reduceAdd, Int.reduceSub, Int.reduceMul, Int.reduceToNat, gs_00, gs_ofi, gs_k0_m, gs_k1_m, gs_n8, gs_n16, gs_n_add, gs_n_sub, gs_n_mul, gs_n_neg, gs_m_add, gs_m_sub, gs_m_mul, gs_m_neg, gs_n_l, gs_m_n, gs_n_c, gs_eq_t, gs_eq_f1, gs_eq_f2, gs_lt_t, gs_lt_f, gs_le_t, gs_le_f, gs_cmp_lt, gs_cmp_eq, gs_cmp_gt, gs_ix_n, gs_nz_n, gs_nzl_g, gs_n_div, gs_af1, gs_af0, gs_ck0, gs_ck1, gs_ck2t, gs_ck2f, gs_ck3, gs_ck4, gs_zd_t, gs_zd_f, gs_zt_t, gs_zt_f, gs_nar1, gs_nar0, gs_tn, if_true, if_false, not_true_eq_false, not_false_eq_true]
end MS
end
section
-- the list of those that wait is kept
theorem gs_mem_er {key : Nat → Int} {l : List Nat} (hs : gs_srt key l) {k : Nat} (hk : k < l.length) (x : Nat) : x ∈ l.eraseIdx k ↔ x ∈ l ∧ ¬ x = l.getD k 0 := by
  rw [List.mem_eraseIdx_iff_getElem?]
  constructor
  · rintro ⟨i, hi, e⟩
    obtain ⟨h1, h2⟩ := List.getElem?_eq_some_iff.mp e
    refine ⟨List.mem_of_getElem? e, fun z => hi (gs_srt_nd hs h1 hk ?_)⟩
    rw [gs_getD h1, h2, z]
  · rintro ⟨h1, h2⟩
    obtain ⟨i, e⟩ := List.getElem?_of_mem h1
    obtain ⟨h3, h4⟩ := List.getElem?_eq_some_iff.mp e
    refine ⟨i, fun z => h2 ?_, e⟩
    rw [← z, gs_getD h3, h4]
def gs_wv (S : gs_S) : Prop := S.2 = gs_wl S ∧ S.2.length ≤ 10
section WL
variable {S : gs_S} {B : Int}
theorem gs_wb.pr (hw : gs_wb B S) : ∀ i : Nat, (i : Int) < S.1 6 1 → 0 ≤ S.1 (10 + i) 5 ∧ S.1 (10 + i) 5 < 3 := fun i hi => (hw.2.2.2 i hi).2.2.1
theorem gs_wv.mem (hw : gs_wb B S) (h : gs_wv S) (i : Nat) : i ∈ S.2 ↔ (i : Int) < S.1 6 1 ∧ S.1 (10 + i) 6 = 0 := by
  rw [h.1]
  exact gs_wl_mem hw.pr
theorem gs_wv.srt (hw : gs_wb B S) (h : gs_wv S) : gs_srt (gs_key S) S.2 := by
  rw [h.1]
  exact gs_wl_srt hw.2.2.1.2.1.2
theorem gs_wv.q (hw : gs_wb B S) (h : gs_wv S) : gs_wq S := by
  refine ⟨fun k k0 k1 => ?_, h.2⟩
  have hk : k.toNat < S.2.length := by omega
  have : gs_qa S k ∈ S.2 := by
    unfold gs_qa
    rw [gs_getD hk]
    exact List.getElem_mem hk
  exact ((h.mem hw _).mp this).1
theorem gs_wv.lv (hw : gs_wb B S) (h : gs_wv S) {k : Nat} (hk : k < S.2.length) {st : Int} (h0 : 0 < st) (h1 : st < 4) : gs_wv (gs_lv S k st) := by
  have hs := h.srt hw
  have o : ∀ a c, ¬ (a = 10 + S.2.getD k 0 ∧ c = 6) → (gs_lv S k st).1 a c = S.1 a c := fun a c z => if_neg z
  have o6 : (gs_lv S k st).1 6 1 = S.1 6 1 := o 6 1 (by omega)
  have ok : ∀ i, (gs_lv S k st).1 (10 + i) 5 = S.1 (10 + i) 5 := fun i => o _ 5 (by omega)
  refine ⟨gs_wl_uq ?_ ?_ ?_ ?_, ?_⟩
  · rw [o6]; exact hw.2.2.1.2.1.2
  · intro i hi
    rw [o6] at hi
    rw [ok]
    exact hw.pr i hi
  · refine gs_srt_congr (fun x _ => ?_) (gs_srt_sub (List.eraseIdx_sublist _ _) hs)
    unfold gs_key
    rw [ok]
  · intro i
    show i ∈ S.2.eraseIdx k ↔ _
    rw [gs_mem_er hs hk, h.mem hw, o6]
    by_cases z : i = S.2.getD k 0
    · have e : (gs_lv S k st).1 (10 + i) 6 = st := if_pos ⟨by rw [z], rfl⟩
      rw [e]
      constructor
      · intro y; exact absurd z y.2
      · intro y; omega
    · rw [o (10 + i) 6 (by omega)]
      constructor
      · intro y; exact y.1
      · intro y; exact ⟨y, z⟩
  · have : (gs_lv S k st).2.length = S.2.length - 1 := List.length_eraseIdx_of_lt hk
    have := h.2
    omega
theorem gs_wv.mvd (h : gs_wv S) (i : Nat) (sg : Int) : gs_wv (gs_mvd S i sg) := by
  have o : ∀ f j, f ≠ 0 → f ≠ 5 → (gs_mvd S i sg).1 f j = S.1 f j := fun f j a c => gs_mvd_ins S i sg j a c
  have e : gs_wl (gs_mvd S i sg) = gs_wl S := by
    have ep : ∀ c pr, gs_wp (gs_mvd S i sg) c pr = gs_wp S c pr := by
      intro c pr
      unfold gs_wp
      congr 1
      funext x
      rw [o (10 + x) 6 (by omega) (by omega), o (10 + x) 5 (by omega) (by omega)]
    unfold gs_wl
    rw [o 6 1 (by decide) (by decide), ep, ep, ep]
  exact ⟨by rw [e]; exact h.1, h.2⟩
theorem gs_wv.stl (hw : gs_wb B S) (h : gs_wv S) {k : Nat} (hk : k < S.2.length) (hB : B + 6000000 ≤ 1000000000000) : gs_wv (gs_stl S k) := by
  have hm := (h.q hw).1 (k : Int) (by omega) (by omega)
  have e : gs_qa S (k : Int) = S.2.getD k 0 := by unfold gs_qa; rw [gs_tn]
  rw [e] at hm
  exact (h.mvd _ 1).lv (gs_wb_mvd hw (Or.inl rfl) hm hB) hk (by omega) (by omega)
end WL
-- rooms and settling
/-- what settling i does to the room of position x -/
def gs_el (S : gs_S) (i : Nat) (x : Int) : Int := if 18 ≤ x then (if S.1 4 (x - 18).toNat = -1 then 0 else -gs_dl S i 5 (x - 18).toNat) else gs_dl S i 0 x.toNat
theorem gs_ln_mvd (S : gs_S) (i : Nat) (sg p : Int) : gs_ln (gs_mvd S i sg) p = gs_ln S p := by
  have o : ∀ f j, f ≠ 0 → f ≠ 5 → (gs_mvd S i sg).1 f j = S.1 f j := fun f j a c => gs_mvd_ins S i sg j a c
  unfold gs_ln
  rw [o 1 _ (by decide) (by decide), o 1 _ (by decide) (by decide), o 2 _ (by decide) (by decide), o 2 _ (by decide) (by decide), o 3 _ (by decide) (by decide), o 3 _ (by decide) (by decide)]
theorem gs_rm_mvd (S : gs_S) (i : Nat) {sg : Int} (x : Int) : gs_rm (gs_mvd S i sg) x = gs_rm S x + sg * gs_el S i x := by
  have o : ∀ f j, f ≠ 0 → f ≠ 5 → (gs_mvd S i sg).1 f j = S.1 f j := fun f j a c => gs_mvd_ins S i sg j a c
  unfold gs_rm gs_el
  rw [o 4 _ (by decide) (by decide), gs_ln_mvd]
  by_cases c1 : 18 ≤ x
  · rw [if_pos c1, if_pos c1, if_pos c1]
    by_cases c2 : S.1 4 (x - 18).toNat = -1
    · rw [if_pos c2, if_pos c2, if_pos c2, Int.mul_zero, Int.add_zero]
    · rw [if_neg c2, if_neg c2, if_neg c2]
      show S.1 4 (x - 18).toNat - (S.1 5 (x - 18).toNat + sg * gs_dl S i 5 (x - 18).toNat) = _
      rw [Int.mul_neg]
      omega
  · rw [if_neg c1, if_neg c1, if_neg c1]
    by_cases c2 : x % 3 = 0
    · rw [if_pos c2, if_pos c2]
      show S.1 0 x.toNat + sg * gs_dl S i 0 x.toNat + gs_ln S (x / 3) = _
      omega
    · rw [if_neg c2, if_neg c2]
      rfl
/-- only what it debits gets less -/
theorem gs_el_db {S : gs_S} {i : Nat} (h : gs_iok S i) {x : Int} (x0 : 0 ≤ x) (x1 : x < 54) (hx : gs_el S i x < 0) : gs_db S i x = true := by
  obtain ⟨a0, a1, a2, a3, a4⟩ := h.r
  have hg := h.1.2.2
  have hs := h.2.1.2.2.2
  unfold gs_db
  rw [decide_eq_true_iff]
  unfold gs_el at hx
  by_cases c1 : 18 ≤ x
  · rw [if_pos c1] at hx
    by_cases c2 : S.1 4 (x - 18).toNat = -1
    · rw [if_pos c2] at hx
      omega
    · rw [if_neg c2] at hx
      unfold gs_dl at hx
      rw [if_neg (by omega), if_neg (by omega), if_neg (by omega), if_neg (by omega)] at hx
      by_cases z1 : 5 = 5 ∧ (x - 18).toNat = (S.1 (10 + i) 1 * 6 + S.1 (10 + i) 0).toNat
      · right
        rw [if_pos z1, if_neg (by omega)] at hx
        omega
      · rw [if_neg z1] at hx
        split at hx <;> omega
  · rw [if_neg c1] at hx
    unfold gs_dl at hx
    rw [if_neg (show ¬ (0 = 5 ∧ x.toNat = (S.1 (10 + i) 1 * 6 + S.1 (10 + i) 0).toNat) by omega), if_neg (show ¬ (0 = 5 ∧ x.toNat = (S.1 (10 + i) 0 * 6 + S.1 (10 + i) 1).toNat) by omega)] at hx
    by_cases z1 : x.toNat = (S.1 (10 + i) 0 * 3 + S.1 (10 + i) 2).toNat
    · by_cases z2 : x.toNat = (S.1 (10 + i) 1 * 3 + 0).toNat
      · omega
      · rw [if_pos ⟨rfl, z1⟩, if_neg (by omega), if_neg (by omega)] at hx
        split at hx <;> omega
    · rw [if_neg (by omega)] at hx
      by_cases z2 : x.toNat = (S.1 (10 + i) 1 * 3 + 0).toNat
      · right
        rw [if_pos (show 0 = 0 ∧ x.toNat = (S.1 (10 + i) 1 * 3 + 0).toNat from ⟨rfl, z2⟩), if_neg (show ¬ (0 = 0 ∧ x.toNat = (S.1 (10 + i) 0 * 3 + 0).toNat) by omega)] at hx
        split at hx <;> omega
      · rw [if_neg (show ¬ (0 = 0 ∧ x.toNat = (S.1 (10 + i) 1 * 3 + 0).toNat) by omega)] at hx
        split at hx <;> split at hx <;> omega
/-- it takes no more than its amounts -/
theorem gs_el_lo {S : gs_S} {i : Nat} (h : gs_iok S i) {x : Int} (x0 : 0 ≤ x) (x1 : x < 54) (hl : -1 ≤ S.1 4 (x - 18).toNat) : 0 ≤ gs_el S i x ∨ (x = S.1 (10 + i) 0 * 3 + S.1 (10 + i) 2 ∧ gs_el S i x = -S.1 (10 + i) 3) ∨ (x = S.1 (10 + i) 1 * 3 + 0 ∧ gs_el S i x = -S.1 (10 + i) 4) ∨ (x = 18 + (S.1 (10 + i) 1 * 6 + S.1 (10 + i) 0) ∧ gs_el S i x = -S.1 (10 + i) 4) := by
  obtain ⟨a0, a1, a2, a3, a4⟩ := h.r
  have hg := h.1.2.2
  have hs := h.2.1.2.2.2
  unfold gs_el
  by_cases c1 : 18 ≤ x
  · rw [if_pos c1]
    by_cases c2 : S.1 4 (x - 18).toNat = -1
    · rw [if_pos c2]
      omega
    · rw [if_neg c2]
      unfold gs_dl
      rw [if_neg (by omega), if_neg (by omega), if_neg (by omega), if_neg (by omega)]
      by_cases z1 : 5 = 5 ∧ (x - 18).toNat = (S.1 (10 + i) 1 * 6 + S.1 (10 + i) 0).toNat
      · rw [if_pos z1, if_neg (by omega)]
        omega
      · rw [if_neg z1]
        split <;> omega
  · rw [if_neg c1]
    unfold gs_dl
    rw [if_neg (show ¬ (0 = 5 ∧ x.toNat = (S.1 (10 + i) 1 * 6 + S.1 (10 + i) 0).toNat) by omega), if_neg (show ¬ (0 = 5 ∧ x.toNat = (S.1 (10 + i) 0 * 6 + S.1 (10 + i) 1).toNat) by omega)]
    by_cases z1 : x.toNat = (S.1 (10 + i) 0 * 3 + S.1 (10 + i) 2).toNat
    · rw [if_pos ⟨rfl, z1⟩, if_neg (show ¬ (0 = 0 ∧ x.toNat = (S.1 (10 + i) 1 * 3 + S.1 (10 + i) 2).toNat) by omega)]
      by_cases z2 : x.toNat = (S.1 (10 + i) 1 * 3 + 0).toNat
      · omega
      · rw [if_neg (by omega)]
        split <;> omega
    · rw [if_neg (by omega)]
      by_cases z2 : x.toNat = (S.1 (10 + i) 1 * 3 + 0).toNat
      · rw [if_pos (show 0 = 0 ∧ x.toNat = (S.1 (10 + i) 1 * 3 + 0).toNat from ⟨rfl, z2⟩), if_neg (show ¬ (0 = 0 ∧ x.toNat = (S.1 (10 + i) 0 * 3 + 0).toNat) by omega)]
        split <;> omega
      · rw [if_neg (show ¬ (0 = 0 ∧ x.toNat = (S.1 (10 + i) 1 * 3 + 0).toNat) by omega)]
        split <;> split <;> omega
/-- all positions at or above their floors -/
def gs_wg (S : gs_S) : Prop := ∀ x : Int, 0 ≤ x → x < 54 → 0 ≤ gs_rm S x
theorem gs_wg_mvd {S : gs_S} {B : Int} (hw : gs_wb B S) (hg : gs_wg S) {i : Nat} (hi : (i : Int) < S.1 6 1) (hc : gs_cov S i = true) : gs_wg (gs_mvd S i 1) := by
  intro x x0 x1
  rw [gs_rm_mvd, Int.one_mul]
  have h := hw.2.2.2 i hi
  obtain ⟨a0, a1, a2, a3, a4⟩ := h.r
  have r := hg x x0 x1
  unfold gs_cov at hc
  rw [decide_eq_true_iff] at hc
  have hl : -1 ≤ S.1 4 (x - 18).toNat := (hw.2.1.2.2 (x - 18).toNat (by omega)).1
  rcases gs_el_lo h x0 x1 hl with z | ⟨z, y⟩ | ⟨z, y⟩ | ⟨z, y⟩
  · omega
  · rw [y]
    rw [← z] at hc
    omega
  · rw [y]
    rw [← z] at hc
    omega
  · rw [y]
    rw [← z] at hc
    omega
end
section
-- the model settles one
section MT
variable {d : gs_D} {S : gs_S} {B : Int}
theorem gs_Mo.cg {t : Nat} {S' : gs_S} (hM : gs_Mo t d S) (e : ∀ f j, S'.1 f j = S.1 f j) : gs_Mo t d S' := by
  have : S'.1 = S.1 := by
    funext f j
    exact e f j
  intro n h1 h2 h3
  rw [this] at h1
  rw [hM n h1 h2 h3]
  unfold gs_mr gs_ms
  rw [this]
theorem gs_Mo.h {t : Nat} (hM : gs_Mo t d S) (hc : 0 ≤ S.1 6 1) {n : Nat} (h : n < 18) : d.2 t 0 n = gs_m (S.1 0 n) := by
  rw [hM n (by omega) (by omega) (by omega), gs_mr_h h]
theorem gs_Mo.n {t : Nat} (hM : gs_Mo t d S) (hc : 0 ≤ S.1 6 1) {j : Nat} (h : j < 36) : d.2 t 0 (70 + j) = gs_m (S.1 5 j) := by
  rw [hM (70 + j) (by omega) (by omega) (by omega), gs_mr_n (by omega) (by omega), show 70 + j - 70 = j by omega]
theorem gs_ad_6 (S : gs_S) {f : Nat} (j : Nat) (x : Int) (h : f ≠ 6) : (gs_ad S f j x).1 6 1 = S.1 6 1 := gs_u_o S f j _ 1 (fun z => h z.symm)
theorem gs_sb_6 (S : gs_S) {f : Nat} (j : Nat) (x : Int) (h : f ≠ 6) : (gs_sb S f j x).1 6 1 = S.1 6 1 := gs_u_o S f j _ 1 (fun z => h z.symm)
theorem gs_wL_i {j c : Nat} {x : Int64} (h : j < 110) (h2 : 110 ≤ c) : (gs_wL d 21 0 j x).2 21 0 c = d.2 21 0 c := gs_wL_o (by omega)
set_option maxHeartbeats 1000000 in
theorem s_M_settle (hM : gs_Mo 21 d S) (hw : gs_wb B S) {i : Nat} (hi : (i : Int) < S.1 6 1) (hB : B + 6000000 ≤ 1000000000000) : ∃ d', f_M_settle [gs_r 20 0, gs_i (gs_n i)] d = some (none, d') ∧ gs_Mo 21 d' (gs_u (gs_mvd S i 1) (10 + i) 6 1) ∧ gs_rf d d' := by
  have hk := hw.2.2.2 i hi
  obtain ⟨a0, a1, a2, a3, a4⟩ := hk.r
  have hne := hk.1.2.2
  have hsec := hk.2.1.2.2.2
  have hc := hw.2.2.1.2.1
  have w1 := gs_wb_mvd hw (i := i) (Or.inl rfl) hi hB
  have hi1 : (i : Int) < (gs_mvd S i 1).1 6 1 := by rw [gs_mvd_ins S i 1 1 (by decide) (by decide)]; exact hi
  have o0 := hM.i i hi 0 (by omega) (by omega)
  have o1 := hM.i i hi 1 (by omega) (by omega)
  have o2 := hM.i i hi 2 (by omega) (by omega)
  have o3 := hM.i i hi 3 (by omega) (by omega)
  have o4 := hM.i i hi 4 (by omega) (by omega)
  have o5 := hM.i i hi 5 (by omega) (by omega)
  have o6 := hM.i i hi 6 (by omega) (by omega)
  simp only [Int.reduceToNat, gs_ms_4, gs_ms_5, gs_ms_6] at o0 o1 o2 o3 o4 o5 o6
  have i1 : (3 * S.1 (10 + i) 1).toNat = (S.1 (10 + i) 1 * 3 + 0).toNat := by omega
  have i2 : (3 * S.1 (10 + i) 0).toNat = (S.1 (10 + i) 0 * 3 + 0).toNat := by omega
  have i3 : (70 + 6 * S.1 (10 + i) 1 + S.1 (10 + i) 0).toNat = 70 + (S.1 (10 + i) 1 * 6 + S.1 (10 + i) 0).toNat := by omega
  have i4 : (70 + 6 * S.1 (10 + i) 0 + S.1 (10 + i) 1).toNat = 70 + (S.1 (10 + i) 0 * 6 + S.1 (10 + i) 1).toNat := by omega
  have i5 : (3 * S.1 (10 + i) 0 + S.1 (10 + i) 2).toNat = (S.1 (10 + i) 0 * 3 + S.1 (10 + i) 2).toNat := by omega
  have i6 : (3 * S.1 (10 + i) 1 + S.1 (10 + i) 2).toNat = (S.1 (10 + i) 1 * 3 + S.1 (10 + i) 2).toNat := by omega
  by_cases m : 0 < S.1 (10 + i) 4
  · rw [gs_ms_0t m] at o0
    rw [gs_ms_1t m] at o1
    have c1 := hM.sH (j := (S.1 (10 + i) 1 * 3 + 0).toNat) (by omega) (S.1 (10 + i) 4)
    have k1 := gs_sb_6 S (f := 0) (S.1 (10 + i) 1 * 3 + 0).toNat (S.1 (10 + i) 4) (by decide)
    have c2 := c1.aH (j := (S.1 (10 + i) 0 * 3 + 0).toNat) (by omega) (S.1 (10 + i) 4)
    have k2 := (gs_ad_6 (gs_sb S 0 (S.1 (10 + i) 1 * 3 + 0).toNat (S.1 (10 + i) 4)) (f := 0) (S.1 (10 + i) 0 * 3 + 0).toNat (S.1 (10 + i) 4) (by decide)).trans k1
    have c3 := c2.aN (j := (S.1 (10 + i) 1 * 6 + S.1 (10 + i) 0).toNat) (by omega) (S.1 (10 + i) 4)
    have k3 := (gs_ad_6 (gs_ad (gs_sb S 0 (S.1 (10 + i) 1 * 3 + 0).toNat (S.1 (10 + i) 4)) 0 (S.1 (10 + i) 0 * 3 + 0).toNat (S.1 (10 + i) 4)) (f := 5) (S.1 (10 + i) 1 * 6 + S.1 (10 + i) 0).toNat (S.1 (10 + i) 4) (by decide)).trans k2
    have c4 := c3.sN (j := (S.1 (10 + i) 0 * 6 + S.1 (10 + i) 1).toNat) (by omega) (S.1 (10 + i) 4)
    have r0 := hM.h (n := (S.1 (10 + i) 1 * 3 + 0).toNat) (by omega) (by omega)
    have r1 := c1.h (n := (S.1 (10 + i) 0 * 3 + 0).toNat) (by omega) (by omega)
    have r2 := c2.n (j := (S.1 (10 + i) 1 * 6 + S.1 (10 + i) 0).toNat) (by omega) (by omega)
    have r3 := c3.n (j := (S.1 (10 + i) 0 * 6 + S.1 (10 + i) 1).toNat) (by omega) (by omega)
    by_cases a : 0 < S.1 (10 + i) 3
    · rw [gs_ms_2t a] at o2
      rw [gs_ms_3t a] at o3
      have k4 := (gs_sb_6 (gs_ad (gs_ad (gs_sb S 0 (S.1 (10 + i) 1 * 3 + 0).toNat (S.1 (10 + i) 4)) 0 (S.1 (10 + i) 0 * 3 + 0).toNat (S.1 (10 + i) 4)) 5 (S.1 (10 + i) 1 * 6 + S.1 (10 + i) 0).toNat (S.1 (10 + i) 4)) (f := 5) (S.1 (10 + i) 0 * 6 + S.1 (10 + i) 1).toNat (S.1 (10 + i) 4) (by decide)).trans k3
      have c5 := c4.sH (j := (S.1 (10 + i) 0 * 3 + S.1 (10 + i) 2).toNat) (by omega) (S.1 (10 + i) 3)
      have k5 := (gs_sb_6 (gs_sb (gs_ad (gs_ad (gs_sb S 0 (S.1 (10 + i) 1 * 3 + 0).toNat (S.1 (10 + i) 4)) 0 (S.1 (10 + i) 0 * 3 + 0).toNat (S.1 (10 + i) 4)) 5 (S.1 (10 + i) 1 * 6 + S.1 (10 + i) 0).toNat (S.1 (10 + i) 4)) 5 (S.1 (10 + i) 0 * 6 + S.1 (10 + i) 1).toNat (S.1 (10 + i) 4)) (f := 0) (S.1 (10 + i) 0 * 3 + S.1 (10 + i) 2).toNat (S.1 (10 + i) 3) (by decide)).trans k4
      have c6 := c5.aH (j := (S.1 (10 + i) 1 * 3 + S.1 (10 + i) 2).toNat) (by omega) (S.1 (10 + i) 3)
      have r4 := c4.h (n := (S.1 (10 + i) 0 * 3 + S.1 (10 + i) 2).toNat) (by omega) (by omega)
      have r5 := c5.h (n := (S.1 (10 + i) 1 * 3 + S.1 (10 + i) 2).toNat) (by omega) (by omega)
      have c7 := c6.cg (S' := gs_mvd S i 1) (fun f j => by
        rw [gs_ad_at, gs_sb_at, gs_sb_at, gs_ad_at, gs_ad_at, gs_sb_at]
        show S.1 f j + 1 * gs_dl S i f j = _
        unfold gs_dl
        omega)
      have sf := s_M_setFate c7 w1 hi1 (st := 1) (by omega) (by omega)
      refine ⟨_, ?_, c7.st i 1, gs_rf.rf.w.w.w.w.w.w.w⟩
      simp (disch := omega) only [e_M_settle, k_M_settle_0, k_M_settle_6, k_M_settle_13, k_M_settle_20, k_M_settle_27, k_M_settle_36, k_M_settle_40, k_M_settle_49, k_M_settle_53, k_M_settle_68, k_M_settle_72, k_M_settle_87, k_M_settle_91, k_M_settle_97, k_M_settle_100, k_M_settle_106, k_M_settle_119, k_M_settle_125, k_M_settle_132, k_M_settle_135, k_M_settle_146, k_M_settle_152, k_M_settle_159, k_M_settle_162, k_M_settle_168, e_M_of, k_M_of_0, k_M_of_14, o0, o1, o2, o3, o4, o5, o6, gs_wL_i, i1, i2, i3, i4, i5, i6, r0, r1, r2, r3, r4, r5, sf, ↓reduceIte, Int.reduceAdd, Int.reduceSub, Int.reduceMul, Int.reduceToNat, gs_00, gs_ofi, gs_k0_m, gs_k1_m, gs_n8, gs_n16, gs_n_add, gs_n_sub, gs_n_mul, gs_n_neg, gs_m_add, gs_m_sub, gs_m_mul, gs_m_neg, gs_n_l, gs_m_n, gs_n_c, gs_eq_t, gs_eq_f1, gs_eq_f2, gs_lt_t, gs_lt_f, gs_le_t, gs_le_f, gs_cmp_lt, gs_cmp_eq, gs_cmp_gt, gs_ix_n, gs_nz_n, gs_nzl_g, gs_n_div, gs_af1, gs_af0, gs_ck0, gs_ck1, gs_ck2t, gs_ck2f, gs_ck3, gs_ck4, gs_zd_t, gs_zd_f, gs_zt_t, gs_zt_f, gs_nar1, gs_nar0, gs_tn, if_true, if_false, not_true_eq_false, not_false_eq_true]
    · rw [gs_ms_2f (by omega)] at o2
      have c7 := c4.cg (S' := gs_mvd S i 1) (fun f j => by
        rw [gs_sb_at, gs_ad_at, gs_ad_at, gs_sb_at]
        show S.1 f j + 1 * gs_dl S i f j = _
        unfold gs_dl
        have z : S.1 (10 + i) 3 = 0 := by omega
        rw [z]
        simp only [Int.neg_zero, ite_self]
        omega)
      have sf := s_M_setFate c7 w1 hi1 (st := 1) (by omega) (by omega)
      refine ⟨_, ?_, c7.st i 1, gs_rf.rf.w.w.w.w.w⟩
      simp (disch := omega) only [e_M_settle, k_M_settle_0, k_M_settle_6, k_M_settle_13, k_M_settle_20, k_M_settle_27, k_M_settle_36, k_M_settle_40, k_M_settle_49, k_M_settle_53, k_M_settle_68, k_M_settle_72, k_M_settle_87, k_M_settle_91, k_M_settle_97, k_M_settle_100, k_M_settle_106, k_M_settle_119, k_M_settle_125, k_M_settle_132, k_M_settle_135, k_M_settle_146, k_M_settle_152, k_M_settle_159, k_M_settle_162, k_M_settle_168, e_M_of, k_M_of_0, k_M_of_14, o0, o1, o2, o5, gs_wL_i, i1, i2, i3, i4, r0, r1, r2, r3, sf, ↓reduceIte, Int.reduceAdd, Int.reduceSub, Int.reduceMul, Int.reduceToNat, gs_00, gs_ofi, gs_k0_m, gs_k1_m, gs_n8, gs_n16, gs_n_add, gs_n_sub, gs_n_mul, gs_n_neg, gs_m_add, gs_m_sub, gs_m_mul, gs_m_neg, gs_n_l, gs_m_n, gs_n_c, gs_eq_t, gs_eq_f1, gs_eq_f2, gs_lt_t, gs_lt_f, gs_le_t, gs_le_f, gs_cmp_lt, gs_cmp_eq, gs_cmp_gt, gs_ix_n, gs_nz_n, gs_nzl_g, gs_n_div, gs_af1, gs_af0, gs_ck0, gs_ck1, gs_ck2t, gs_ck2f, gs_ck3, gs_ck4, gs_zd_t, gs_zd_f, gs_zt_t, gs_zt_f, gs_nar1, gs_nar0, gs_tn, if_true, if_false, not_true_eq_false, not_false_eq_true]
  · rw [gs_ms_0f (by omega)] at o0
    have q1 : -1 ≤ gs_ms S i 1 ∧ gs_ms S i 1 < 6 := by
      rw [gs_ms_1f (by omega)]; omega
    by_cases a : 0 < S.1 (10 + i) 3
    · rw [gs_ms_2t a] at o2
      rw [gs_ms_3t a] at o3
      have c5 := hM.sH (j := (S.1 (10 + i) 0 * 3 + S.1 (10 + i) 2).toNat) (by omega) (S.1 (10 + i) 3)
      have k5 := gs_sb_6 S (f := 0) (S.1 (10 + i) 0 * 3 + S.1 (10 + i) 2).toNat (S.1 (10 + i) 3) (by decide)
      have c6 := c5.aH (j := (S.1 (10 + i) 1 * 3 + S.1 (10 + i) 2).toNat) (by omega) (S.1 (10 + i) 3)
      have r4 := hM.h (n := (S.1 (10 + i) 0 * 3 + S.1 (10 + i) 2).toNat) (by omega) (by omega)
      have r5 := c5.h (n := (S.1 (10 + i) 1 * 3 + S.1 (10 + i) 2).toNat) (by omega) (by omega)
      have c7 := c6.cg (S' := gs_mvd S i 1) (fun f j => by
        rw [gs_ad_at, gs_sb_at]
        show S.1 f j + 1 * gs_dl S i f j = _
        unfold gs_dl
        have z : S.1 (10 + i) 4 = 0 := by omega
        rw [z]
        simp only [Int.neg_zero, ite_self]
        omega)
      have sf := s_M_setFate c7 w1 hi1 (st := 1) (by omega) (by omega)
      refine ⟨_, ?_, c7.st i 1, gs_rf.rf.w.w.w⟩
      simp (disch := omega) only [e_M_settle, k_M_settle_0, k_M_settle_6, k_M_settle_13, k_M_settle_20, k_M_settle_27, k_M_settle_36, k_M_settle_40, k_M_settle_49, k_M_settle_53, k_M_settle_68, k_M_settle_72, k_M_settle_87, k_M_settle_91, k_M_settle_97, k_M_settle_100, k_M_settle_106, k_M_settle_119, k_M_settle_125, k_M_settle_132, k_M_settle_135, k_M_settle_146, k_M_settle_152, k_M_settle_159, k_M_settle_162, k_M_settle_168, e_M_of, k_M_of_0, k_M_of_14, o0, o1, o2, o3, o4, o5, o6, gs_wL_i, i5, i6, r4, r5, sf, ↓reduceIte, Int.reduceAdd, Int.reduceSub, Int.reduceMul, Int.reduceToNat, gs_00, gs_ofi, gs_k0_m, gs_k1_m, gs_n8, gs_n16, gs_n_add, gs_n_sub, gs_n_mul, gs_n_neg, gs_m_add, gs_m_sub, gs_m_mul, gs_m_neg, gs_n_l, gs_m_n, gs_n_c, gs_eq_t, gs_eq_f1, gs_eq_f2, gs_lt_t, gs_lt_f, gs_le_t, gs_le_f, gs_cmp_lt, gs_cmp_eq, gs_cmp_gt, gs_ix_n, gs_nz_n, gs_nzl_g, gs_n_div, gs_af1, gs_af0, gs_ck0, gs_ck1, gs_ck2t, gs_ck2f, gs_ck3, gs_ck4, gs_zd_t, gs_zd_f, gs_zt_t, gs_zt_f, gs_nar1, gs_nar0, gs_tn, if_true, if_false, not_true_eq_false, not_false_eq_true]
    · rw [gs_ms_2f (by omega)] at o2
      have c7 := hM.cg (S' := gs_mvd S i 1) (fun f j => by
        show S.1 f j + 1 * gs_dl S i f j = _
        unfold gs_dl
        have z : S.1 (10 + i) 4 = 0 := by omega
        have z2 : S.1 (10 + i) 3 = 0 := by omega
        rw [z, z2]
        simp only [Int.neg_zero, ite_self]
        omega)
      have sf := s_M_setFate c7 w1 hi1 (st := 1) (by omega) (by omega)
      refine ⟨_, ?_, c7.st i 1, gs_rf.rf.w⟩
      simp (disch := omega) only [e_M_settle, k_M_settle_0, k_M_settle_6, k_M_settle_13, k_M_settle_20, k_M_settle_27, k_M_settle_36, k_M_settle_40, k_M_settle_49, k_M_settle_53, k_M_settle_68, k_M_settle_72, k_M_settle_87, k_M_settle_91, k_M_settle_97, k_M_settle_100, k_M_settle_106, k_M_settle_119, k_M_settle_125, k_M_settle_132, k_M_settle_135, k_M_settle_146, k_M_settle_152, k_M_settle_159, k_M_settle_162, k_M_settle_168, e_M_of, k_M_of_0, k_M_of_14, o0, o1, o2, o5, sf, ↓reduceIte, Int.reduceAdd, Int.reduceSub, Int.reduceMul, Int.reduceToNat, gs_00, gs_ofi, gs_k0_m, gs_k1_m, gs_n8, gs_n16, gs_n_add, gs_n_sub, gs_n_mul, gs_n_neg, gs_m_add, gs_m_sub, gs_m_mul, gs_m_neg, gs_n_l, gs_m_n, gs_n_c, gs_eq_t, gs_eq_f1, gs_eq_f2, gs_lt_t, gs_lt_f, gs_le_t, gs_le_f, gs_cmp_lt, gs_cmp_eq, gs_cmp_gt, gs_ix_n, gs_nz_n, gs_nzl_g, gs_n_div, gs_af1, gs_af0, gs_ck0, gs_ck1, gs_ck2t, gs_ck2f, gs_ck3, gs_ck4, gs_zd_t, gs_zd_f, gs_zt_t, gs_zt_f, gs_nar1, gs_nar0, gs_tn, if_true, if_false, not_true_eq_false, not_false_eq_true]
end MT
end
section
-- the model goes through
def gs_mf (d d' : gs_D) : Prop := (∀ t, t ≠ 20 → t ≠ 23 → t ≠ 25 → d'.1 t = d.1 t) ∧ (∀ t, t ≠ 21 → t ≠ 24 → d'.2 t = d.2 t)
theorem gs_mf.rf {d : gs_D} : gs_mf d d := ⟨fun _ _ _ _ => rfl, fun _ _ _ => rfl⟩
theorem gs_mf.tr {d d' d'' : gs_D} (h : gs_mf d d') (h2 : gs_mf d' d'') : gs_mf d d'' := ⟨fun t a b c => (h2.1 t a b c).trans (h.1 t a b c), fun t a b => (h2.2 t a b).trans (h.2 t a b)⟩
theorem gs_rf.mf {d d' : gs_D} (h : gs_rf d d') : gs_mf d d' := ⟨fun t _ _ _ => by rw [h.1], fun t a _ => h.2 t a⟩
theorem gs_qf.mf {d d' : gs_D} (h : gs_qf d d') : gs_mf d d' := ⟨fun t a b _ => h.2 t a b, fun t _ _ => by rw [h.1]⟩
theorem gs_rf.Qu {d d' : gs_D} {l : List Nat} (h : gs_rf d d') (hq : gs_Qu d l) : gs_Qu d' l := by
  unfold gs_Qu
  rw [h.1]
  exact hq
section MG
variable {d : gs_D} {S : gs_S} {B : Int}
theorem s_M_goThrough_in (hM : gs_Mo 21 d S) (hw : gs_wb B S) (hv : gs_wv S) (hq : gs_Qu d S.2) (hB : B + 6000000 ≤ 1000000000000) {c : Int} (c0 : 0 ≤ c) (c1 : c < 1000) : ∀ (m k : Nat), k + m = S.2.length →
    (gs_fst S m k = none → gs_g Y0 P_M_goThrough 16 [some (gs_r 20 0), some (gs_i (gs_n c)), some (gs_i (gs_n 0)), some (gs_i (gs_n k))] [] d = gs_g Y0 P_M_goThrough 4 [some (gs_r 20 0), some (gs_i (gs_n c)), some (gs_i (gs_n 0)), some (gs_i (gs_n S.2.length))] [] d)
    ∧ (∀ p, gs_fst S m k = some p → ∃ d', gs_g Y0 P_M_goThrough 16 [some (gs_r 20 0), some (gs_i (gs_n c)), some (gs_i (gs_n 0)), some (gs_i (gs_n k))] [] d = gs_g Y0 P_M_goThrough 4 [some (gs_r 20 0), some (gs_i (gs_n (c + 1))), some (gs_i (gs_n 1)), some (gs_i (gs_n ((p : Int) + 1)))] [] d' ∧ gs_Mo 21 d' (gs_stl S p) ∧ gs_rf d d') := by
  have hl := hv.2
  have hQ := hv.q hw
  have hw0 := hq.1
  intro m
  induction m with
  | zero =>
    intro k hk
    refine ⟨fun _ => ?_, fun p h => by cases h⟩
    have e : k = S.2.length := by omega
    subst e
    rw [k_M_goThrough_16]
    simp (disch := omega) only [k_M_goThrough_70, hw0, ↓reduceIte, Int.reduceAdd, Int.reduceSub, Int.reduceMul, Int.reduceToNat, gs_00, gs_ofi, gs_k0_m, gs_k1_m, gs_n8, gs_n16, gs_n_add, gs_n_sub, gs_n_mul, gs_n_neg, gs_m_add, gs_m_sub, gs_m_mul, gs_m_neg, gs_n_l, gs_m_n, gs_n_c, gs_eq_t, gs_eq_f1, gs_eq_f2, gs_lt_t, gs_lt_f, gs_le_t, gs_le_f, gs_cmp_lt, gs_cmp_eq, gs_cmp_gt, gs_ix_n, gs_nz_n, gs_nzl_g, gs_n_div, gs_af1, gs_af0, gs_ck0, gs_ck1, gs_ck2t, gs_ck2f, gs_ck3, gs_ck4, gs_zd_t, gs_zd_f, gs_zt_t, gs_zt_f, gs_nar1, gs_nar0, gs_tn, if_true, if_false, not_true_eq_false, not_false_eq_true]
  | succ m ih =>
    intro k hk
    obtain ⟨i1, i2⟩ := ih (k + 1) (by omega)
    rw [show ((k + 1 : Nat) : Int) = (k : Int) + 1 by omega] at i1 i2
    have hb := s_M_behindCount hM hw hq hQ (k := (k : Int)) (by omega) (by omega)
    have hm := hQ.1 (k : Int) (by omega) (by omega)
    have he := s_M_enough hM hw hm
    have ha := hq.at (k := (k : Int)) (by omega) (by omega)
    have cr := gs_cah_rg S k k
    have hc := hw.2.2.1.2.1
    have ek : gs_qa S (k : Int) = S.2.getD k 0 := by unfold gs_qa; rw [gs_tn]
    rw [gs_tn] at hb ha
    by_cases c1 : gs_cah S k k = 0
    · rw [c1] at hb
      cases hcv : gs_cov S (S.2.getD k 0)
      · have er : gs_rdy S k = false := by unfold gs_rdy; rw [hcv, Bool.and_false]
        rw [ek] at he
        rw [ek] at ha
        rw [hcv] at he
        have st : gs_g Y0 P_M_goThrough 16 [some (gs_r 20 0), some (gs_i (gs_n c)), some (gs_i (gs_n 0)), some (gs_i (gs_n k))] [] d = gs_g Y0 P_M_goThrough 16 [some (gs_r 20 0), some (gs_i (gs_n c)), some (gs_i (gs_n 0)), some (gs_i (gs_n ((k : Int) + 1)))] [] d := by
          rw [k_M_goThrough_16]
          simp (disch := omega) only [e_M_goThrough, k_M_goThrough_0, k_M_goThrough_8, k_M_goThrough_14, k_M_goThrough_24, k_M_goThrough_28, k_M_goThrough_33, k_M_goThrough_36, k_M_goThrough_43, k_M_goThrough_46, k_M_goThrough_49, k_M_goThrough_56, k_M_goThrough_59, k_M_goThrough_64, k_M_goThrough_70, k_M_goThrough_73, hw0, hb, ha, he, ↓reduceIte, Int.reduceAdd, Int.reduceSub, Int.reduceMul, Int.reduceToNat, gs_00, gs_ofi, gs_k0_m, gs_k1_m, gs_n8, gs_n16, gs_n_add, gs_n_sub, gs_n_mul, gs_n_neg, gs_m_add, gs_m_sub, gs_m_mul, gs_m_neg, gs_n_l, gs_m_n, gs_n_c, gs_eq_t, gs_eq_f1, gs_eq_f2, gs_lt_t, gs_lt_f, gs_le_t, gs_le_f, gs_cmp_lt, gs_cmp_eq, gs_cmp_gt, gs_ix_n, gs_nz_n, gs_nzl_g, gs_n_div, gs_af1, gs_af0, gs_ck0, gs_ck1, gs_ck2t, gs_ck2f, gs_ck3, gs_ck4, gs_zd_t, gs_zd_f, gs_zt_t, gs_zt_f, gs_nar1, gs_nar0, gs_tn, if_true, if_false, not_true_eq_false, not_false_eq_true]
        have ef : gs_fst S (m + 1) k = gs_fst S m (k + 1) := by simp only [gs_fst, er]
        rw [st, ef]
        exact ⟨i1, i2⟩
      · have er : gs_rdy S k = true := by unfold gs_rdy; rw [hcv, Bool.and_true]; exact decide_eq_true c1
        have ef : gs_fst S (m + 1) k = some k := by simp only [gs_fst, er]
        refine ⟨fun h => (by rw [ef] at h; cases h), fun p h => ?_⟩
        rw [ef] at h
        cases h
        obtain ⟨d', e', c', r'⟩ := s_M_settle hM hw hm hB
        rw [ek] at he ha e' c'
        rw [hcv] at he
        refine ⟨d', ?_, c', r'⟩
        have hw1 : d'.1 20 0 3 = gs_n S.2.length := by rw [r'.1]; exact hw0
        rw [k_M_goThrough_16]
        simp (disch := omega) only [e_M_goThrough, k_M_goThrough_0, k_M_goThrough_8, k_M_goThrough_14, k_M_goThrough_24, k_M_goThrough_28, k_M_goThrough_33, k_M_goThrough_36, k_M_goThrough_43, k_M_goThrough_46, k_M_goThrough_49, k_M_goThrough_56, k_M_goThrough_59, k_M_goThrough_64, k_M_goThrough_70, k_M_goThrough_73, hw0, hb, ha, he, e', ↓reduceIte, Int.reduceAdd, Int.reduceSub, Int.reduceMul, Int.reduceToNat, gs_00, gs_ofi, gs_k0_m, gs_k1_m, gs_n8, gs_n16, gs_n_add, gs_n_sub, gs_n_mul, gs_n_neg, gs_m_add, gs_m_sub, gs_m_mul, gs_m_neg, gs_n_l, gs_m_n, gs_n_c, gs_eq_t, gs_eq_f1, gs_eq_f2, gs_lt_t, gs_lt_f, gs_le_t, gs_le_f, gs_cmp_lt, gs_cmp_eq, gs_cmp_gt, gs_ix_n, gs_nz_n, gs_nzl_g, gs_n_div, gs_af1, gs_af0, gs_ck0, gs_ck1, gs_ck2t, gs_ck2f, gs_ck3, gs_ck4, gs_zd_t, gs_zd_f, gs_zt_t, gs_zt_f, gs_nar1, gs_nar0, gs_tn, if_true, if_false, not_true_eq_false, not_false_eq_true]
        rw [k_M_goThrough_16]
        by_cases c9 : (S.2.length : Int) ≤ (k : Int) + 1
        · simp (disch := omega) only [k_M_goThrough_70, k_M_goThrough_24, hw1, ↓reduceIte, Int.reduceAdd, Int.reduceSub, Int.reduceMul, Int.reduceToNat, gs_00, gs_ofi, gs_k0_m, gs_k1_m, gs_n8, gs_n16, gs_n_add, gs_n_sub, gs_n_mul, gs_n_neg, gs_m_add, gs_m_sub, gs_m_mul, gs_m_neg, gs_n_l, gs_m_n, gs_n_c, gs_eq_t, gs_eq_f1, gs_eq_f2, gs_lt_t, gs_lt_f, gs_le_t, gs_le_f, gs_cmp_lt, gs_cmp_eq, gs_cmp_gt, gs_ix_n, gs_nz_n, gs_nzl_g, gs_n_div, gs_af1, gs_af0, gs_ck0, gs_ck1, gs_ck2t, gs_ck2f, gs_ck3, gs_ck4, gs_zd_t, gs_zd_f, gs_zt_t, gs_zt_f, gs_nar1, gs_nar0, gs_tn, if_true, if_false, not_true_eq_false, not_false_eq_true]
        · simp (disch := omega) only [k_M_goThrough_70, k_M_goThrough_24, hw1, ↓reduceIte, Int.reduceAdd, Int.reduceSub, Int.reduceMul, Int.reduceToNat, gs_00, gs_ofi, gs_k0_m, gs_k1_m, gs_n8, gs_n16, gs_n_add, gs_n_sub, gs_n_mul, gs_n_neg, gs_m_add, gs_m_sub, gs_m_mul, gs_m_neg, gs_n_l, gs_m_n, gs_n_c, gs_eq_t, gs_eq_f1, gs_eq_f2, gs_lt_t, gs_lt_f, gs_le_t, gs_le_f, gs_cmp_lt, gs_cmp_eq, gs_cmp_gt, gs_ix_n, gs_nz_n, gs_nzl_g, gs_n_div, gs_af1, gs_af0, gs_ck0, gs_ck1, gs_ck2t, gs_ck2f, gs_ck3, gs_ck4, gs_zd_t, gs_zd_f, gs_zt_t, gs_zt_f, gs_nar1, gs_nar0, gs_tn, if_true, if_false, not_true_eq_false, not_false_eq_true]
    · have er : gs_rdy S k = false := by unfold gs_rdy; rw [decide_eq_false c1, Bool.false_and]
      have st : gs_g Y0 P_M_goThrough 16 [some (gs_r 20 0), some (gs_i (gs_n c)), some (gs_i (gs_n 0)), some (gs_i (gs_n k))] [] d = gs_g Y0 P_M_goThrough 16 [some (gs_r 20 0), some (gs_i (gs_n c)), some (gs_i (gs_n 0)), some (gs_i (gs_n ((k : Int) + 1)))] [] d := by
        rw [k_M_goThrough_16]
        simp (disch := omega) only [e_M_goThrough, k_M_goThrough_0, k_M_goThrough_8, k_M_goThrough_14, k_M_goThrough_24, k_M_goThrough_28, k_M_goThrough_33, k_M_goThrough_36, k_M_goThrough_43, k_M_goThrough_46, k_M_goThrough_49, k_M_goThrough_56, k_M_goThrough_59, k_M_goThrough_64, k_M_goThrough_70, k_M_goThrough_73, hw0, hb, ↓reduceIte, Int.reduceAdd, Int.reduceSub, Int.reduceMul, Int.reduceToNat, gs_00, gs_ofi, gs_k0_m, gs_k1_m, gs_n8, gs_n16, gs_n_add, gs_n_sub, gs_n_mul, gs_n_neg, gs_m_add, gs_m_sub, gs_m_mul, gs_m_neg, gs_n_l, gs_m_n, gs_n_c, gs_eq_t, gs_eq_f1, gs_eq_f2, gs_lt_t, gs_lt_f, gs_le_t, gs_le_f, gs_cmp_lt, gs_cmp_eq, gs_cmp_gt, gs_ix_n, gs_nz_n, gs_nzl_g, gs_n_div, gs_af1, gs_af0, gs_ck0, gs_ck1, gs_ck2t, gs_ck2f, gs_ck3, gs_ck4, gs_zd_t, gs_zd_f, gs_zt_t, gs_zt_f, gs_nar1, gs_nar0, gs_tn, if_true, if_false, not_true_eq_false, not_false_eq_true]
      have ef : gs_fst S (m + 1) k = gs_fst S m (k + 1) := by simp only [gs_fst, er]
      rw [st, ef]
      exact ⟨i1, i2⟩
theorem s_M_goThrough (hM : gs_Mo 21 d S) (hw : gs_wb B S) (hv : gs_wv S) (hB : B + 70000000 ≤ 1000000000000) : ∃ d', f_M_goThrough [gs_r 20 0] d = some (some (gs_i (gs_n (gs_thr 10 S).1)), d') ∧ gs_Mo 21 d' (gs_thr 10 S).2 ∧ gs_mf d d' := by
  have key : ∀ (n : Nat) (c : Int) (S : gs_S) (B : Int) (dk : gs_D) (o : Option gs_V), c + n = 10 → 0 ≤ c → S.2.length ≤ n → B + 6000000 * (n + 1) ≤ 1000000000000 → gs_Mo 21 dk S → gs_wb B S → gs_wv S → ∃ d', gs_g Y0 P_M_goThrough 4 [some (gs_r 20 0), some (gs_i (gs_n c)), some (gs_i (gs_n 1)), o] [] dk = some (some (gs_i (gs_n (c + (gs_thr n S).1))), d') ∧ gs_Mo 21 d' (gs_thr n S).2 ∧ gs_mf dk d' := by
    have one : ∀ (c : Int) (S : gs_S) (B : Int) (dk : gs_D) (o : Option gs_V), 0 ≤ c → c ≤ 10 → gs_Mo 21 dk S → gs_wb B S → gs_wv S → ∃ d1, gs_g Y0 P_M_goThrough 4 [some (gs_r 20 0), some (gs_i (gs_n c)), some (gs_i (gs_n 1)), o] [] dk = gs_g Y0 P_M_goThrough 16 [some (gs_r 20 0), some (gs_i (gs_n c)), some (gs_i (gs_n 0)), some (gs_i (gs_n (0 : Nat)))] [] d1 ∧ gs_qf dk d1 ∧ gs_Qu d1 S.2 := by
      intro c S B dk o c0 c1 hM hw hv
      obtain ⟨d1, e1, q1, f1⟩ := s_M_order hM hw (by rw [← hv.1]; exact hv.2)
      rw [← hv.1] at q1
      refine ⟨d1, ?_, f1, q1⟩
      rw [k_M_goThrough_4]
      simp (disch := omega) only [k_M_goThrough_8, k_M_goThrough_14, e1, ↓reduceIte, Int.reduceAdd, Int.reduceSub, Int.reduceMul, Int.reduceToNat, gs_00, gs_ofi, gs_k0_m, gs_k1_m, gs_n8, gs_n16, gs_n_add, gs_n_sub, gs_n_mul, gs_n_neg, gs_m_add, gs_m_sub, gs_m_mul, gs_m_neg, gs_n_l, gs_m_n, gs_n_c, gs_eq_t, gs_eq_f1, gs_eq_f2, gs_lt_t, gs_lt_f, gs_le_t, gs_le_f, gs_cmp_lt, gs_cmp_eq, gs_cmp_gt, gs_ix_n, gs_nz_n, gs_nzl_g, gs_n_div, gs_af1, gs_af0, gs_ck0, gs_ck1, gs_ck2t, gs_ck2f, gs_ck3, gs_ck4, gs_zd_t, gs_zd_f, gs_zt_t, gs_zt_f, gs_nar1, gs_nar0, gs_tn, if_true, if_false, not_true_eq_false, not_false_eq_true]
      rfl
    have fin : ∀ (c : Int) (o : Option gs_V) (dk : gs_D), 0 ≤ c → c ≤ 10 → gs_g Y0 P_M_goThrough 4 [some (gs_r 20 0), some (gs_i (gs_n c)), some (gs_i (gs_n 0)), o] [] dk = some (some (gs_i (gs_n c)), dk) := by
      intro c o dk c0 c1
      rw [k_M_goThrough_4]
      simp (disch := omega) only [k_M_goThrough_73, ↓reduceIte, Int.reduceAdd, Int.reduceSub, Int.reduceMul, Int.reduceToNat, gs_00, gs_ofi, gs_k0_m, gs_k1_m, gs_n8, gs_n16, gs_n_add, gs_n_sub, gs_n_mul, gs_n_neg, gs_m_add, gs_m_sub, gs_m_mul, gs_m_neg, gs_n_l, gs_m_n, gs_n_c, gs_eq_t, gs_eq_f1, gs_eq_f2, gs_lt_t, gs_lt_f, gs_le_t, gs_le_f, gs_cmp_lt, gs_cmp_eq, gs_cmp_gt, gs_ix_n, gs_nz_n, gs_nzl_g, gs_n_div, gs_af1, gs_af0, gs_ck0, gs_ck1, gs_ck2t, gs_ck2f, gs_ck3, gs_ck4, gs_zd_t, gs_zd_f, gs_zt_t, gs_zt_f, gs_nar1, gs_nar0, gs_tn, if_true, if_false, not_true_eq_false, not_false_eq_true]
    intro n
    induction n with
    | zero =>
      intro c S B dk o h1 h2 hln h3 hM hw hv
      obtain ⟨d1, e1, f1, q1⟩ := one c S B dk o h2 (by omega) hM hw hv
      have hi := (s_M_goThrough_in (f1.Mo hM) hw hv q1 (by omega) h2 (by omega) S.2.length 0 (by omega)).1 (by rw [show S.2.length = 0 by omega]; rfl)
      refine ⟨d1, ?_, f1.Mo hM, f1.mf⟩
      rw [e1, hi, fin c _ d1 h2 (by omega)]
      simp only [gs_thr, Int.add_zero]
    | succ n ih =>
      intro c S B dk o h1 h2 hln h3 hM hw hv
      obtain ⟨d1, e1, f1, q1⟩ := one c S B dk o h2 (by omega) hM hw hv
      have hin := s_M_goThrough_in (f1.Mo hM) hw hv q1 (by omega) h2 (by omega) S.2.length 0 (by omega)
      cases hf : gs_fst S S.2.length 0 with
      | none =>
        refine ⟨d1, ?_, by simp only [gs_thr, hf]; exact f1.Mo hM, f1.mf⟩
        rw [e1, hin.1 hf, fin c _ d1 h2 (by omega)]
        simp only [gs_thr, hf, Int.add_zero]
      | some k =>
        have hk := gs_fst_lt hf
        have hm := (hv.q hw).1 (k : Int) (by omega) (by omega)
        have ek : gs_qa S (k : Int) = S.2.getD k 0 := by unfold gs_qa; rw [gs_tn]
        rw [ek] at hm
        obtain ⟨d2, e2, c2, r2⟩ := hin.2 k hf
        have hl := gs_stl_len (S := S) (k := k) (by omega)
        obtain ⟨d3, e3, c3, f3⟩ := ih (c + 1) (gs_stl S k) (B + 6000000) d2 (some (gs_i (gs_n ((k : Int) + 1)))) (by omega) (by omega) (by omega) (by omega) c2 (gs_wb_st (gs_wb_mvd hw (Or.inl rfl) hm (by omega)) _ (by omega) (by omega)) (hv.stl hw (by omega) (by omega))
        refine ⟨d3, ?_, by simp only [gs_thr, hf]; exact c3, (f1.mf.tr r2.mf).tr f3⟩
        rw [e1, e2, e3]
        simp only [gs_thr, hf]
        rw [show c + 1 + (gs_thr n (gs_stl S k)).1 = c + ((gs_thr n (gs_stl S k)).1 + 1) by omega]
  obtain ⟨d', e, c, f⟩ := key 10 0 S B d none (by omega) (by omega) hv.2 (by omega) hM hw hv
  refine ⟨d', ?_, c, f⟩
  rw [Int.zero_add] at e
  simp (disch := omega) only [e_M_goThrough, k_M_goThrough_0, e, ↓reduceIte, Int.reduceAdd, Int.reduceSub, Int.reduceMul, Int.reduceToNat, gs_00, gs_ofi, gs_k0_m, gs_k1_m, gs_n8, gs_n16, gs_n_add, gs_n_sub, gs_n_mul, gs_n_neg, gs_m_add, gs_m_sub, gs_m_mul, gs_m_neg, gs_n_l, gs_m_n, gs_n_c, gs_eq_t, gs_eq_f1, gs_eq_f2, gs_lt_t, gs_lt_f, gs_le_t, gs_le_f, gs_cmp_lt, gs_cmp_eq, gs_cmp_gt, gs_ix_n, gs_nz_n, gs_nzl_g, gs_n_div, gs_af1, gs_af0, gs_ck0, gs_ck1, gs_ck2t, gs_ck2f, gs_ck3, gs_ck4, gs_zd_t, gs_zd_f, gs_zt_t, gs_zt_f, gs_nar1, gs_nar0, gs_tn, if_true, if_false, not_true_eq_false, not_false_eq_true]
end MG
end
section
-- entering the list
theorem gs_wI_comm {d : gs_D} {t i j t' i' j' : Nat} {x y : Int32} (h : ¬ (t = t' ∧ i = i' ∧ j = j')) : gs_wI (gs_wI d t i j x) t' i' j' y = gs_wI (gs_wI d t' i' j' y) t i j x := by
  refine Prod.ext ?_ rfl
  funext a b c
  show (if a = t' ∧ b = i' ∧ c = j' then y else if a = t ∧ b = i ∧ c = j then x else d.1 a b c) = (if a = t ∧ b = i ∧ c = j then x else if a = t' ∧ b = i' ∧ c = j' then y else d.1 a b c)
  by_cases c1 : a = t' ∧ b = i' ∧ c = j'
  · rw [if_pos c1, if_neg (by omega), if_pos c1]
  · rw [if_neg c1]
    by_cases c2 : a = t ∧ b = i ∧ c = j
    · rw [if_pos c2, if_pos c2]
    · rw [if_neg c2, if_neg c2, if_neg c1]
theorem gs_u_s (S : gs_S) (f j : Nat) (x : Int) : (gs_u S f j x).1 f j = x := if_pos ⟨rfl, rfl⟩
theorem gs_u_j (S : gs_S) {f j a c : Nat} (x : Int) (h : ¬ (a = f ∧ c = j)) : (gs_u S f j x).1 a c = S.1 a c := if_neg h
theorem gs_key_inj {S : gs_S} {a b : Nat} (ha : a < 64) (hb : b < 64) (h : gs_key S a = gs_key S b) : a = b := by
  unfold gs_key at h
  omega
/-- a new one goes in at its place -/
theorem gs_ins_wl {S : gs_S} {B : Int} (hw : gs_wb B S) {l : List Nat} {i : Nat} {p : Int} (hs : gs_srt (gs_key S) l) (hm : ∀ x : Nat, x ∈ l ↔ ((x : Int) < S.1 6 1 ∧ S.1 (10 + x) 6 = 0) ∧ x ≠ i) (hi : (i : Int) < S.1 6 1) (hi0 : S.1 (10 + i) 6 = 0) (p0 : 0 ≤ p) (p1 : p ≤ l.length) (h2 : ∀ k : Int, p ≤ k → k < l.length → gs_key S i < gs_key S (l.getD k.toNat 0)) (h3 : p = 0 ∨ ¬ gs_key S i < gs_key S (l.getD (p - 1).toNat 0)) : l.take p.toNat ++ i :: l.drop p.toNat = gs_wl S := by
  have hc := hw.2.2.1.2.1
  have mem : ∀ k, k < l.length → l.getD k 0 ∈ l := fun k hk => by
    rw [gs_getD hk]
    exact List.getElem_mem hk
  have lt1 : ∀ k, k < p.toNat → gs_key S (l.getD k 0) < gs_key S i := by
    intro k hk
    rcases h3 with z | z
    · omega
    · have hq : (p - 1).toNat < l.length := by omega
      have m1 := (hm _).mp (mem _ hq)
      have ne : gs_key S (l.getD (p - 1).toNat 0) ≠ gs_key S i := fun e => m1.2 (gs_key_inj (by omega) (by omega) e)
      have a : gs_key S (l.getD (p - 1).toNat 0) < gs_key S i := by omega
      by_cases c : k = (p - 1).toNat
      · rw [c]; exact a
      · have := List.pairwise_iff_getElem.mp hs k (p - 1).toNat (by omega) hq (by omega)
        rw [← gs_getD (a := 0) (by omega : k < l.length), ← gs_getD (a := 0) hq] at this
        omega
  refine gs_wl_uq hc.2 hw.pr (gs_srt_ins hs (by omega) lt1 (fun k k0 k1 => ?_)) (fun x => ?_)
  · have := h2 (k : Int) (by omega) (by omega)
    rw [gs_tn] at this
    exact this
  · have e : x ∈ l.take p.toNat ++ i :: l.drop p.toNat ↔ x = i ∨ x ∈ l := by
      rw [List.mem_append, List.mem_cons]
      have := List.take_append_drop p.toNat l
      constructor
      · rintro (z | z | z)
        · exact Or.inr (List.mem_of_mem_take z)
        · exact Or.inl z
        · exact Or.inr (List.mem_of_mem_drop z)
      · rintro (z | z)
        · exact Or.inr (Or.inl z)
        · rw [← this, List.mem_append] at z
          rcases z with z | z
          · exact Or.inl z
          · exact Or.inr (Or.inr z)
    rw [e, hm x]
    constructor
    · rintro (z | z)
      · rw [z]; exact ⟨hi, hi0⟩
      · exact z.1
    · intro z
      by_cases c : x = i
      · exact Or.inl c
      · exact Or.inr ⟨z, c⟩
def gs_cl2 (S : gs_S) : gs_S := (S.1, gs_wl S)
section AP
variable {b : Nat} {d : gs_D} {S : gs_S} {B : Int}
theorem gs_Cl.cg {S' : gs_S} (h : gs_Cl b d S) (e : ∀ f j, S'.1 f j = S.1 f j) (e2 : S'.2 = S.2) : gs_Cl b d S' := by
  have : S' = S := Prod.ext (by funext f j; exact e f j) e2
  rw [this]
  exact h
theorem gs_Cl.wC (h : gs_Cl b d S) {c : Nat} (hc : (c : Int) = S.1 6 1) (hn : ∀ k, k < 7 → d.1 13 (gs_ii b c) k = gs_n (S.1 (10 + c) k)) : gs_Cl b (gs_wI d 4 b 1 (gs_n ((c : Int) + 1))) (gs_u S 6 1 ((c : Int) + 1)) := by
  have eg : ∀ a k : Nat, a ≠ 6 → (gs_u S 6 1 ((c : Int) + 1)).1 a k = S.1 a k := fun a k ha => gs_u_o S 6 1 _ k ha
  have e60 : (gs_u S 6 1 ((c : Int) + 1)).1 6 0 = S.1 6 0 := by
    show (if 6 = 6 ∧ 0 = 1 then ((c : Int) + 1) else S.1 6 0) = _
    rw [if_neg (by decide)]
  have e61 : (gs_u S 6 1 ((c : Int) + 1)).1 6 1 = (c : Int) + 1 := by
    show (if 6 = 6 ∧ 1 = 1 then ((c : Int) + 1) else S.1 6 1) = _
    rw [if_pos (by decide)]
  refine ⟨⟨fun k hk => ?_, fun k hk => ?_⟩, ⟨fun k hk => ?_, fun k hk => ?_⟩, ⟨fun k hk => ?_, fun k hk => ?_⟩, ⟨?_, ?_, ?_⟩, fun i k hi hk => ?_, fun k hk => ?_⟩
  · rw [eg 0 k (by omega), gs_rIL, h.h k hk]
  · rw [eg 1 k (by omega), gs_rIL, h.p k hk]
  · rw [eg 2 k (by omega), gs_wI_o (by omega), h.pr k hk]
  · rw [eg 3 k (by omega), gs_wI_o (by omega), h.hc k hk]
  · rw [eg 4 k (by omega), gs_wI_o (by omega), h.li k hk]
  · rw [eg 5 k (by omega), gs_rIL, h.nt k hk]
  · rw [e60, gs_wI_o (by omega), h.dy]
  · rw [e61, gs_wI_s]
  · rw [gs_wI_o (by omega), h.wt]
    rfl
  · rw [eg (10 + i) k (by omega), gs_wI_o (by omega)]
    rw [e61] at hi
    by_cases z : i = c
    · rw [z]; exact hn k hk
    · exact h.is i k (by omega) hk
  · rw [gs_wI_o (by omega)]
    exact h.od k hk
end AP
/-- the seven fields of instruction i -/
def gs_w7 (S : gs_S) (i : Nat) (g t s am mo pr st : Int) : gs_S := gs_u (gs_u (gs_u (gs_u (gs_u (gs_u (gs_u S (10 + i) 0 g) (10 + i) 1 t) (10 + i) 2 s) (10 + i) 3 am) (10 + i) 4 mo) (10 + i) 5 pr) (10 + i) 6 st
/-- a new instruction, not yet in the list -/
def gs_nw (S : gs_S) (g t s am mo pr : Int) : gs_S := gs_u (gs_w7 S (S.1 6 1).toNat g t s am mo pr 0) 6 1 (S.1 6 1 + 1)
theorem gs_w7_o (S : gs_S) (i : Nat) (g t s am mo pr st : Int) {a : Nat} (c : Nat) (h : a ≠ 10 + i) : (gs_w7 S i g t s am mo pr st).1 a c = S.1 a c := by
  unfold gs_w7
  rw [gs_u_o _ _ _ _ c h, gs_u_o _ _ _ _ c h, gs_u_o _ _ _ _ c h, gs_u_o _ _ _ _ c h, gs_u_o _ _ _ _ c h, gs_u_o _ _ _ _ c h, gs_u_o _ _ _ _ c h]
theorem gs_w7_s (S : gs_S) (i : Nat) (g t s am mo pr st : Int) : (gs_w7 S i g t s am mo pr st).1 (10 + i) 0 = g ∧ (gs_w7 S i g t s am mo pr st).1 (10 + i) 1 = t ∧ (gs_w7 S i g t s am mo pr st).1 (10 + i) 2 = s ∧ (gs_w7 S i g t s am mo pr st).1 (10 + i) 3 = am ∧ (gs_w7 S i g t s am mo pr st).1 (10 + i) 4 = mo ∧ (gs_w7 S i g t s am mo pr st).1 (10 + i) 5 = pr ∧ (gs_w7 S i g t s am mo pr st).1 (10 + i) 6 = st := by
  refine ⟨?_, ?_, ?_, ?_, ?_, ?_, ?_⟩ <;> simp [gs_w7, gs_u]
end
section
-- a new instruction in the component's queue
section AQ
variable {d : gs_D} {S : gs_S} {B : Int}
def gs_okn (g t s am mo pr : Int) : Prop := ((0 ≤ g ∧ g < 6) ∧ (0 ≤ t ∧ t < 6) ∧ ¬ g = t) ∧ ((0 ≤ s ∧ s < 3) ∧ (0 ≤ am ∧ am ≤ 1000000) ∧ (0 ≤ mo ∧ mo ≤ 1000000) ∧ (0 < am → 1 ≤ s)) ∧ (0 ≤ pr ∧ pr < 3)
theorem gs_nw_o (g t s am mo pr : Int) {a : Nat} (k : Nat) (h : a ≠ 10 + (S.1 6 1).toNat) (h6 : a ≠ 6) : (gs_nw S g t s am mo pr).1 a k = S.1 a k := by
  unfold gs_nw
  rw [gs_u_o _ _ _ _ k h6, gs_w7_o _ _ _ _ _ _ _ _ _ k h]
theorem gs_nw_i (g t s am mo pr : Int) (k : Nat) : (gs_nw S g t s am mo pr).1 (10 + (S.1 6 1).toNat) k = (gs_w7 S (S.1 6 1).toNat g t s am mo pr 0).1 (10 + (S.1 6 1).toNat) k := gs_u_o _ _ _ _ k (by omega)
theorem gs_nw_60 (g t s am mo pr : Int) : (gs_nw S g t s am mo pr).1 6 0 = S.1 6 0 := by
  unfold gs_nw
  rw [gs_u_j _ _ (by omega), gs_w7_o _ _ _ _ _ _ _ _ _ 0 (by omega)]
theorem gs_nw_61 (g t s am mo pr : Int) : (gs_nw S g t s am mo pr).1 6 1 = S.1 6 1 + 1 := by
  unfold gs_nw
  rw [gs_u_s]
theorem gs_wb_nw (hw : gs_wb B S) {g t s am mo pr : Int} (ho : gs_okn g t s am mo pr) (hc : S.1 6 1 < 40) : gs_wb B (gs_nw S g t s am mo pr) := by
  have h6 := hw.2.2.1.2.1
  have o : ∀ a k, a < 10 → a ≠ 6 → (gs_nw S g t s am mo pr).1 a k = S.1 a k := fun a k h z => gs_nw_o g t s am mo pr k (by omega) z
  refine ⟨⟨fun j hj => ?_, fun j hj => ?_, fun j hj => ?_⟩, ⟨fun j hj => ?_, fun j hj => ?_, fun j hj => ?_⟩, ⟨?_, ?_, hw.2.2.1.2.2⟩, fun k hk => ?_⟩
  · rw [o 0 j (by omega) (by omega)]; exact hw.1.1 j hj
  · rw [o 1 j (by omega) (by omega)]; exact hw.1.2.1 j hj
  · rw [o 5 j (by omega) (by omega)]; exact hw.1.2.2 j hj
  · rw [o 2 j (by omega) (by omega)]; exact hw.2.1.1 j hj
  · rw [o 3 j (by omega) (by omega)]; exact hw.2.1.2.1 j hj
  · rw [o 4 j (by omega) (by omega)]; exact hw.2.1.2.2 j hj
  · rw [gs_nw_60]; exact hw.2.2.1.1
  · rw [gs_nw_61]; omega
  · rw [gs_nw_61] at hk
    by_cases z : k = (S.1 6 1).toNat
    · subst z
      obtain ⟨e0, e1, e2, e3, e4, e5, e6⟩ := gs_w7_s S (S.1 6 1).toNat g t s am mo pr 0
      unfold gs_iok
      rw [gs_nw_i, gs_nw_i, gs_nw_i, gs_nw_i, gs_nw_i, gs_nw_i, gs_nw_i, e0, e1, e2, e3, e4, e5, e6]
      exact ⟨ho.1, ho.2.1, ho.2.2, by omega⟩
    · exact gs_iok_cg (hw.2.2.2 k (by omega)) fun c _ => gs_nw_o g t s am mo pr c (by omega) (by omega)
theorem gs_wv_nw (hw : gs_wb B S) (hv : gs_wv S) (g t s am mo pr : Int) : gs_srt (gs_key (gs_nw S g t s am mo pr)) S.2 ∧ (∀ x : Nat, x ∈ S.2 ↔ ((x : Int) < (gs_nw S g t s am mo pr).1 6 1 ∧ (gs_nw S g t s am mo pr).1 (10 + x) 6 = 0) ∧ x ≠ (S.1 6 1).toNat) := by
  have h6 := hw.2.2.1.2.1
  have lt : ∀ x, x ∈ S.2 → x ≠ (S.1 6 1).toNat := fun x hx => by
    have := ((hv.mem hw x).mp hx).1
    omega
  refine ⟨gs_srt_congr (fun x hx => ?_) (hv.srt hw), fun x => ?_⟩
  · unfold gs_key
    rw [gs_nw_o g t s am mo pr 5 (by have := lt x hx; omega) (by omega)]
  · rw [gs_nw_61]
    constructor
    · intro hx
      have h1 := lt x hx
      have h2 := (hv.mem hw x).mp hx
      refine ⟨⟨by omega, ?_⟩, h1⟩
      rw [gs_nw_o g t s am mo pr 6 (by omega) (by omega)]
      exact h2.2
    · rintro ⟨⟨h1, h2⟩, h3⟩
      rw [gs_nw_o g t s am mo pr 6 (by omega) (by omega)] at h2
      exact (hv.mem hw x).mpr ⟨by omega, h2⟩
theorem gs_ins_len {l : List Nat} {p i : Nat} : (l.take p ++ i :: l.drop p).length = l.length + 1 := by
  rw [List.length_append, List.length_cons, List.length_take, List.length_drop]
  omega
theorem s_Q_append (hC : gs_Cl 0 d S) (hw : gs_wb B S) (hv : gs_wv S) {g t s am mo pr : Int} (ho : gs_okn g t s am mo pr) (hc : S.1 6 1 < 40) (hL : S.2.length < 10) : ∃ d', f_Q_append [gs_r 4 0, gs_i (gs_n g), gs_i (gs_n t), gs_i (gs_n s), gs_i (gs_n am), gs_i (gs_n mo), gs_i (gs_n pr)] d = some (some (gs_i (gs_n (S.1 6 1))), d') ∧ gs_Cl 0 d' (gs_cl2 (gs_nw S g t s am mo pr)) ∧ gs_fr d d' ∧ gs_wv (gs_cl2 (gs_nw S g t s am mo pr)) := by
  have h6 := hw.2.2.1.2.1
  have hct := hC.ct
  have hcn : ((S.1 6 1).toNat : Int) = S.1 6 1 := by omega
  have c7 : gs_Cl 0 _ (gs_w7 S (S.1 6 1).toNat g t s am mo pr 0) := ((((((hC.wS (S.1 6 1).toNat 0 g (by omega)).wS (S.1 6 1).toNat 1 t (by omega)).wS (S.1 6 1).toNat 2 s (by omega)).wS (S.1 6 1).toNat 3 am (by omega)).wS (S.1 6 1).toNat 4 mo (by omega)).wS (S.1 6 1).toNat 5 pr (by omega)).wS (S.1 6 1).toNat 6 0 (by omega)
  obtain ⟨e0, e1, e2, e3, e4, e5, e6⟩ := gs_w7_s S (S.1 6 1).toNat g t s am mo pr 0
  have c8 := c7.wC (c := (S.1 6 1).toNat) (by rw [gs_w7_o _ _ _ _ _ _ _ _ _ 1 (by omega)]; exact hcn) (fun k hk => by
    have : k = 0 ∨ k = 1 ∨ k = 2 ∨ k = 3 ∨ k = 4 ∨ k = 5 ∨ k = 6 := by omega
    rcases this with z | z | z | z | z | z | z <;> subst z
    · rw [e0, gs_wI_o (by omega), gs_wI_o (by omega), gs_wI_o (by omega), gs_wI_o (by omega), gs_wI_o (by omega), gs_wI_o (by omega), gs_wI_s]
    · rw [e1, gs_wI_o (by omega), gs_wI_o (by omega), gs_wI_o (by omega), gs_wI_o (by omega), gs_wI_o (by omega), gs_wI_s]
    · rw [e2, gs_wI_o (by omega), gs_wI_o (by omega), gs_wI_o (by omega), gs_wI_o (by omega), gs_wI_s]
    · rw [e3, gs_wI_o (by omega), gs_wI_o (by omega), gs_wI_o (by omega), gs_wI_s]
    · rw [e4, gs_wI_o (by omega), gs_wI_o (by omega), gs_wI_s]
    · rw [e5, gs_wI_o (by omega), gs_wI_s]
    · rw [e6, gs_wI_s])
  rw [hcn] at c8
  have cm : ∀ (X : gs_D) (k : Nat) (x y : Int32), gs_wI (gs_wI X 4 0 1 x) 13 (gs_ii 0 (S.1 6 1).toNat) k y = gs_wI (gs_wI X 13 (gs_ii 0 (S.1 6 1).toNat) k y) 4 0 1 x := fun X k x y => gs_wI_comm (by omega)
  rw [← cm, ← cm, ← cm, ← cm, ← cm, ← cm, ← cm] at c8
  have c8 : gs_Cl 0 _ (gs_nw S g t s am mo pr) := c8
  have w8 := gs_wb_nw hw ho hc
  obtain ⟨hs, hm⟩ := gs_wv_nw hw hv g t s am mo pr
  have q8 : gs_wq (gs_nw S g t s am mo pr) := by
    refine ⟨fun k k0 k1 => ?_, hv.2⟩
    have hk : k.toNat < S.2.length := by
      have : (gs_nw S g t s am mo pr).2 = S.2 := rfl
      rw [this] at k1
      omega
    have : S.2.getD k.toNat 0 ∈ S.2 := by
      rw [gs_getD hk]
      exact List.getElem_mem hk
    exact ((hm _).mp this).1.1
  obtain ⟨d', p, r1, r2, r3, e, c9, hf⟩ := s_Q_enter (i := (S.1 6 1).toNat) c8 w8 q8 (by rw [gs_nw_61]; omega) hL
  have hl := gs_ins_wl w8 (l := S.2) (i := (S.1 6 1).toNat) (p := p) hs hm (by rw [gs_nw_61]; omega) (by rw [gs_nw_i]; exact e6) r1.1 r1.2 r2 r3
  have el : gs_ql (gs_nw S g t s am mo pr) ((gs_nw S g t s am mo pr).2.take p.toNat ++ (S.1 6 1).toNat :: (gs_nw S g t s am mo pr).2.drop p.toNat) = gs_cl2 (gs_nw S g t s am mo pr) := by
    show ((gs_nw S g t s am mo pr).1, S.2.take p.toNat ++ (S.1 6 1).toNat :: S.2.drop p.toNat) = _
    rw [hl]
    rfl
  rw [el] at c9
  refine ⟨d', ?_, c9, ?_, ⟨rfl, ?_⟩⟩
  · rw [hcn] at e
    simp (disch := omega) only [e_Q_append, k_Q_append_0, k_Q_append_23, k_Q_append_76, hct, e, ↓reduceIte, Int.reduceAdd, Int.reduceSub, Int.reduceMul, Int.reduceToNat, gs_00, gs_ofi, gs_k0_m, gs_k1_m, gs_n8, gs_n16, gs_n_add, gs_n_sub, gs_n_mul, gs_n_neg, gs_m_add, gs_m_sub, gs_m_mul, gs_m_neg, gs_n_l, gs_m_n, gs_n_c, gs_eq_t, gs_eq_f1, gs_eq_f2, gs_lt_t, gs_lt_f, gs_le_t, gs_le_f, gs_cmp_lt, gs_cmp_eq, gs_cmp_gt, gs_ix_n, gs_nz_n, gs_nzl_g, gs_n_div, gs_af1, gs_af0, gs_ck0, gs_ck1, gs_ck2t, gs_ck2f, gs_ck3, gs_ck4, gs_zd_t, gs_zd_f, gs_zt_t, gs_zt_f, gs_nar1, gs_nar0, gs_tn, if_true, if_false, not_true_eq_false, not_false_eq_true]
  · have n13 : gs_now 13 (gs_ii 0 (S.1 6 1).toNat) = true := gs_now13 (by omega)
    exact ((((((((gs_fr.I rfl).tr (gs_fr.I n13)).tr (gs_fr.I n13)).tr (gs_fr.I n13)).tr (gs_fr.I n13)).tr (gs_fr.I n13)).tr (gs_fr.I n13)).tr (gs_fr.I n13)).tr hf.fr
  · show (gs_wl (gs_nw S g t s am mo pr)).length ≤ 10
    rw [← hl, gs_ins_len]
    omega
/-- another priority -/
def gs_rp (S : gs_S) (i : Nat) (pr : Int) : gs_S := gs_cl2 (gs_u S (10 + i) 5 pr)
theorem gs_wb_pr (hw : gs_wb B S) (i : Nat) {pr : Int} (h0 : 0 ≤ pr) (h1 : pr < 3) : gs_wb B (gs_u S (10 + i) 5 pr) := by
  have o : ∀ f j, f < 10 → (gs_u S (10 + i) 5 pr).1 f j = S.1 f j := fun f j h => gs_u_o S _ _ _ j (by omega)
  refine ⟨⟨fun j hj => ?_, fun j hj => ?_, fun j hj => ?_⟩, ⟨fun j hj => ?_, fun j hj => ?_, fun j hj => ?_⟩, ⟨?_, ?_, hw.2.2.1.2.2⟩, fun k hk => ?_⟩
  · rw [o 0 j (by omega)]; exact hw.1.1 j hj
  · rw [o 1 j (by omega)]; exact hw.1.2.1 j hj
  · rw [o 5 j (by omega)]; exact hw.1.2.2 j hj
  · rw [o 2 j (by omega)]; exact hw.2.1.1 j hj
  · rw [o 3 j (by omega)]; exact hw.2.1.2.1 j hj
  · rw [o 4 j (by omega)]; exact hw.2.1.2.2 j hj
  · rw [o 6 0 (by omega)]; exact hw.2.2.1.1
  · rw [o 6 1 (by omega)]; exact hw.2.2.1.2.1
  · rw [o 6 1 (by omega)] at hk
    have hk' := hw.2.2.2 k hk
    have e : ∀ c, c ≠ 5 → (gs_u S (10 + i) 5 pr).1 (10 + k) c = S.1 (10 + k) c := fun c hc => if_neg fun z => hc z.2
    have e5 : (gs_u S (10 + i) 5 pr).1 (10 + k) 5 = pr ∨ (gs_u S (10 + i) 5 pr).1 (10 + k) 5 = S.1 (10 + k) 5 := by
      by_cases z : k = i
      · left
        exact if_pos ⟨by omega, rfl⟩
      · right
        exact if_neg fun y => by omega
    unfold gs_iok at hk' ⊢
    rw [e 0 (by omega), e 1 (by omega), e 2 (by omega), e 3 (by omega), e 4 (by omega), e 6 (by omega)]
    refine ⟨hk'.1, hk'.2.1, ?_, hk'.2.2.2⟩
    have := hk'.2.2.1
    rcases e5 with z | z <;> rw [z] <;> omega
theorem s_Q_reorder (hC : gs_Cl 0 d S) (hw : gs_wb B S) (hv : gs_wv S) {k pr : Int} (k0 : 0 ≤ k) (k1 : k < S.2.length) (h0 : 0 ≤ pr) (h1 : pr < 3) : ∃ d', f_Q_reorder [gs_r 4 0, gs_i (gs_n k), gs_i (gs_n pr)] d = some (none, d') ∧ gs_Cl 0 d' (gs_rp S (gs_qa S k) pr) ∧ gs_fr d d' ∧ gs_wv (gs_rp S (gs_qa S k) pr) := by
  have hq := hv.q hw
  have hm := hq.1 k k0 k1
  have h6 := hw.2.2.1.2.1
  have hl := hv.2
  have ha := hC.oi k k0 k1
  have hs := hv.srt hw
  have hk : k.toNat < S.2.length := by omega
  obtain ⟨d1, e1, c1, f1⟩ := s_Q_removeAt hC hq k0 k1
  have c2 := c1.wS (gs_qa S k) 5 pr (by omega)
  have w2 := gs_wb_pr hw (gs_qa S k) h0 h1
  have el1 : (S.2.eraseIdx k.toNat).length = S.2.length - 1 := List.length_eraseIdx_of_lt hk
  have m1 : ∀ x, x ∈ S.2.eraseIdx k.toNat ↔ x ∈ S.2 ∧ ¬ x = gs_qa S k := fun x => gs_mem_er hs hk x
  have o6 : (gs_u S (10 + gs_qa S k) 5 pr).1 6 1 = S.1 6 1 := gs_u_o S _ _ _ 1 (by omega)
  have os : ∀ x, (gs_u S (10 + gs_qa S k) 5 pr).1 (10 + x) 6 = S.1 (10 + x) 6 := fun x => if_neg fun z => by omega
  have q2 : gs_wq (gs_u (gs_ql S (S.2.eraseIdx k.toNat)) (10 + gs_qa S k) 5 pr) := by
    refine ⟨fun j j0 j1 => ?_, ?_⟩
    · have hj : j.toNat < (S.2.eraseIdx k.toNat).length := by
        have : (gs_u (gs_ql S (S.2.eraseIdx k.toNat)) (10 + gs_qa S k) 5 pr).2 = S.2.eraseIdx k.toNat := rfl
        rw [this] at j1
        omega
      have mm : (S.2.eraseIdx k.toNat).getD j.toNat 0 ∈ S.2.eraseIdx k.toNat := by
        rw [gs_getD hj]
        exact List.getElem_mem hj
      have := ((hv.mem hw _).mp ((m1 _).mp mm).1).1
      rw [← o6] at this
      exact this
    · show (S.2.eraseIdx k.toNat).length ≤ 10
      omega
  obtain ⟨d', p, r1, r2, r3, e, c9, hf⟩ := s_Q_enter (i := gs_qa S k) c2 w2 q2 (by rw [show (gs_u (gs_ql S (S.2.eraseIdx k.toNat)) (10 + gs_qa S k) 5 pr).1 6 1 = S.1 6 1 from o6]; exact hm) (by show (S.2.eraseIdx k.toNat).length < 10; omega)
  have st0 := ((hv.mem hw (gs_qa S k)).mp (by unfold gs_qa; rw [gs_getD hk]; exact List.getElem_mem hk)).2
  have hl2 := gs_ins_wl w2 (l := S.2.eraseIdx k.toNat) (i := gs_qa S k) (p := p) (gs_srt_congr (fun x hx => by
      have hne := ((m1 x).mp hx).2
      unfold gs_key
      rw [show (gs_u S (10 + gs_qa S k) 5 pr).1 (10 + x) 5 = S.1 (10 + x) 5 from gs_u_o S _ _ _ 5 (by omega)]) (gs_srt_sub (List.eraseIdx_sublist _ _) hs)) (fun x => by
      rw [m1 x, hv.mem hw x, o6, os x]) (by rw [o6]; exact hm) (by rw [os]; exact st0) r1.1 r1.2 r2 r3
  have el : gs_ql (gs_u (gs_ql S (S.2.eraseIdx k.toNat)) (10 + gs_qa S k) 5 pr) ((S.2.eraseIdx k.toNat).take p.toNat ++ gs_qa S k :: (S.2.eraseIdx k.toNat).drop p.toNat) = gs_rp S (gs_qa S k) pr := by
    rw [hl2]
    rfl
  have c9 : gs_Cl 0 d' (gs_ql (gs_u (gs_ql S (S.2.eraseIdx k.toNat)) (10 + gs_qa S k) 5 pr) ((S.2.eraseIdx k.toNat).take p.toNat ++ gs_qa S k :: (S.2.eraseIdx k.toNat).drop p.toNat)) := c9
  rw [el] at c9
  refine ⟨d', ?_, c9, (f1.fr.tr (gs_fr.I (gs_now13 (by omega)))).tr hf.fr, ⟨rfl, ?_⟩⟩
  · simp (disch := omega) only [e_Q_reorder, k_Q_reorder_0, k_Q_reorder_6, k_Q_reorder_12, k_Q_reorder_18, k_Q_reorder_27, ha, e1, e, ↓reduceIte, Int.reduceAdd, Int.reduceSub, Int.reduceMul, Int.reduceToNat, gs_00, gs_ofi, gs_k0_m, gs_k1_m, gs_n8, gs_n16, gs_n_add, gs_n_sub, gs_n_mul, gs_n_neg, gs_m_add, gs_m_sub, gs_m_mul, gs_m_neg, gs_n_l, gs_m_n, gs_n_c, gs_eq_t, gs_eq_f1, gs_eq_f2, gs_lt_t, gs_lt_f, gs_le_t, gs_le_f, gs_cmp_lt, gs_cmp_eq, gs_cmp_gt, gs_ix_n, gs_nz_n, gs_nzl_g, gs_n_div, gs_af1, gs_af0, gs_ck0, gs_ck1, gs_ck2t, gs_ck2f, gs_ck3, gs_ck4, gs_zd_t, gs_zd_f, gs_zt_t, gs_zt_f, gs_nar1, gs_nar0, gs_tn, if_true, if_false, not_true_eq_false, not_false_eq_true]
  · show (gs_wl (gs_u S (10 + gs_qa S k) 5 pr)).length ≤ 10
    rw [← hl2, gs_ins_len]
    omega
end AQ
end
section
-- the day, nets and those that are returned
def gs_clk (S : gs_S) (k : Int) : gs_S := (fun f j => if f = 5 ∧ (j : Int) < k then 0 else S.1 f j, S.2)
def gs_rtk (S : gs_S) (k : Nat) : gs_S := (fun f j => if j = 6 ∧ f ∈ (S.2.take k).map (10 + ·) then 3 else S.1 f j, S.2)
/-- all that wait are returned -/
def gs_rta (S : gs_S) : gs_S := (fun f j => if j = 6 ∧ 10 ≤ f ∧ (f : Int) - 10 < S.1 6 1 ∧ S.1 f 6 = 0 then 3 else S.1 f j, [])
theorem gs_clk_o (S : gs_S) {k : Int} {a c : Nat} (h : ¬ (a = 5 ∧ (c : Int) < k)) : (gs_clk S k).1 a c = S.1 a c := if_neg h
theorem gs_rta_o (S : gs_S) {a c : Nat} (h : c ≠ 6) : (gs_rta S).1 a c = S.1 a c := if_neg fun z => h z.1
section AD
variable {d : gs_D} {S : gs_S} {B : Int}
theorem s_A_clearNets (hC : gs_Cl 0 d S) : ∃ d', f_A_clearNets [gs_r 3 0] d = some (none, d') ∧ gs_Cl 0 d' (gs_clk S 36) ∧ gs_fr d d' := by
  have key : ∀ (n : Nat) (k : Int) (dk : gs_D), 0 ≤ k → k + n = 36 → gs_Cl 0 dk (gs_clk S k) → gs_fr d dk → ∃ d', gs_g Y0 P_A_clearNets 2 [some (gs_r 3 0), some (gs_i (gs_n k))] [] dk = some (none, d') ∧ gs_Cl 0 d' (gs_clk S 36) ∧ gs_fr d d' := by
    intro n
    induction n with
    | zero =>
      intro k dk k0 k1 hc hf
      have e : k = 36 := by omega
      subst e
      refine ⟨dk, ?_, hc, hf⟩
      simp (disch := omega) only [e_A_clearNets, k_A_clearNets_0, k_A_clearNets_2, k_A_clearNets_8, k_A_clearNets_15, k_A_clearNets_21, ↓reduceIte, Int.reduceAdd, Int.reduceSub, Int.reduceMul, Int.reduceToNat, gs_00, gs_ofi, gs_k0_m, gs_k1_m, gs_n8, gs_n16, gs_n_add, gs_n_sub, gs_n_mul, gs_n_neg, gs_m_add, gs_m_sub, gs_m_mul, gs_m_neg, gs_n_l, gs_m_n, gs_n_c, gs_eq_t, gs_eq_f1, gs_eq_f2, gs_lt_t, gs_lt_f, gs_le_t, gs_le_f, gs_cmp_lt, gs_cmp_eq, gs_cmp_gt, gs_ix_n, gs_nz_n, gs_nzl_g, gs_n_div, gs_af1, gs_af0, gs_ck0, gs_ck1, gs_ck2t, gs_ck2f, gs_ck3, gs_ck4, gs_zd_t, gs_zd_f, gs_zt_t, gs_zt_f, gs_nar1, gs_nar0, gs_tn, if_true, if_false, not_true_eq_false, not_false_eq_true]
    | succ n ih =>
      intro k dk k0 k1 hc hf
      obtain ⟨d', e, r⟩ := ih (k + 1) (gs_wL dk 10 0 k.toNat (gs_m 0)) (by omega) (by omega) ((hc.wN k.toNat 0).cg (fun f j => by
          show (if f = 5 ∧ (j : Int) < k + 1 then 0 else S.1 f j) = (if f = 5 ∧ j = k.toNat then 0 else if f = 5 ∧ (j : Int) < k then 0 else S.1 f j)
          by_cases c1 : f = 5 ∧ j = k.toNat
          · rw [if_pos c1, if_pos (by omega)]
          · rw [if_neg c1]
            by_cases c2 : f = 5 ∧ (j : Int) < k
            · rw [if_pos c2, if_pos (by omega)]
            · rw [if_neg c2, if_neg (by omega)]) rfl) (hf.tr (gs_fr.L rfl))
      refine ⟨d', ?_, r⟩
      rw [k_A_clearNets_2]
      simp (disch := omega) only [e_A_clearNets, k_A_clearNets_0, k_A_clearNets_8, k_A_clearNets_15, k_A_clearNets_21, ↓reduceIte, Int.reduceAdd, Int.reduceSub, Int.reduceMul, Int.reduceToNat, gs_00, gs_ofi, gs_k0_m, gs_k1_m, gs_n8, gs_n16, gs_n_add, gs_n_sub, gs_n_mul, gs_n_neg, gs_m_add, gs_m_sub, gs_m_mul, gs_m_neg, gs_n_l, gs_m_n, gs_n_c, gs_eq_t, gs_eq_f1, gs_eq_f2, gs_lt_t, gs_lt_f, gs_le_t, gs_le_f, gs_cmp_lt, gs_cmp_eq, gs_cmp_gt, gs_ix_n, gs_nz_n, gs_nzl_g, gs_n_div, gs_af1, gs_af0, gs_ck0, gs_ck1, gs_ck2t, gs_ck2f, gs_ck3, gs_ck4, gs_zd_t, gs_zd_f, gs_zt_t, gs_zt_f, gs_nar1, gs_nar0, gs_tn, if_true, if_false, not_true_eq_false, not_false_eq_true]
      exact e
  obtain ⟨d', e, r⟩ := key 36 0 d (by omega) (by omega) (hC.cg (fun f j => if_neg (by omega)) rfl) gs_fr.rf
  refine ⟨d', ?_, r⟩
  simp (disch := omega) only [e_A_clearNets, k_A_clearNets_0, e, ↓reduceIte, Int.reduceAdd, Int.reduceSub, Int.reduceMul, Int.reduceToNat, gs_00, gs_ofi, gs_k0_m, gs_k1_m, gs_n8, gs_n16, gs_n_add, gs_n_sub, gs_n_mul, gs_n_neg, gs_m_add, gs_m_sub, gs_m_mul, gs_m_neg, gs_n_l, gs_m_n, gs_n_c, gs_eq_t, gs_eq_f1, gs_eq_f2, gs_lt_t, gs_lt_f, gs_le_t, gs_le_f, gs_cmp_lt, gs_cmp_eq, gs_cmp_gt, gs_ix_n, gs_nz_n, gs_nzl_g, gs_n_div, gs_af1, gs_af0, gs_ck0, gs_ck1, gs_ck2t, gs_ck2f, gs_ck3, gs_ck4, gs_zd_t, gs_zd_f, gs_zt_t, gs_zt_f, gs_nar1, gs_nar0, gs_tn, if_true, if_false, not_true_eq_false, not_false_eq_true]
theorem s_Q_returnAll (hC : gs_Cl 0 d S) (hw : gs_wb B S) (hv : gs_wv S) : ∃ d', f_Q_returnAll [gs_r 4 0] d = some (none, d') ∧ gs_Cl 0 d' (gs_rta S) ∧ gs_fr d d' := by
  have hq := hv.q hw
  have hl := hv.2
  have h6 := hw.2.2.1.2.1
  have mq : ∀ k : Nat, k < S.2.length → (S.2.getD k 0 : Int) < S.1 6 1 := fun k hk => by
    have := hq.1 (k : Int) (by omega) (by omega)
    unfold gs_qa at this
    rw [gs_tn] at this
    exact this
  have key : ∀ (n k : Nat) (dk : gs_D), k + n = S.2.length → gs_Cl 0 dk (gs_rtk S k) → gs_fr d dk → ∃ d', gs_g Y0 P_Q_returnAll 2 [some (gs_r 4 0), some (gs_i (gs_n k))] [] dk = some (none, d') ∧ gs_Cl 0 d' (gs_rta S) ∧ gs_fr d d' := by
    intro n
    induction n with
    | zero =>
      intro k dk hk hc hf
      have hwt := hc.wt
      have hwt : dk.1 4 0 3 = gs_n S.2.length := hwt
      have fin : gs_Cl 0 (gs_wI dk 4 0 3 (gs_n 0)) ((gs_rtk S k).1, ([] : List Nat)) := hc.ls rfl (fun t i _ z => by
          funext j
          exact gs_wI_o (fun y => z ⟨y.1, y.2.1⟩)) (gs_wI_o (by omega)) gs_wI_s (fun j hj => by cases hj)
      refine ⟨gs_wI dk 4 0 3 (gs_n 0), ?_, fin.cg (fun f j => ?_) rfl, hf.tr (gs_fr.I rfl)⟩
      · rw [k_Q_returnAll_2]
        simp (disch := omega) only [k_Q_returnAll_25, hwt, ↓reduceIte, Int.reduceAdd, Int.reduceSub, Int.reduceMul, Int.reduceToNat, gs_00, gs_ofi, gs_k0_m, gs_k1_m, gs_n8, gs_n16, gs_n_add, gs_n_sub, gs_n_mul, gs_n_neg, gs_m_add, gs_m_sub, gs_m_mul, gs_m_neg, gs_n_l, gs_m_n, gs_n_c, gs_eq_t, gs_eq_f1, gs_eq_f2, gs_lt_t, gs_lt_f, gs_le_t, gs_le_f, gs_cmp_lt, gs_cmp_eq, gs_cmp_gt, gs_ix_n, gs_nz_n, gs_nzl_g, gs_n_div, gs_af1, gs_af0, gs_ck0, gs_ck1, gs_ck2t, gs_ck2f, gs_ck3, gs_ck4, gs_zd_t, gs_zd_f, gs_zt_t, gs_zt_f, gs_nar1, gs_nar0, gs_tn, if_true, if_false, not_true_eq_false, not_false_eq_true]
      · have e : S.2.take k = S.2 := List.take_of_length_le (by omega)
        show (if j = 6 ∧ 10 ≤ f ∧ (f : Int) - 10 < S.1 6 1 ∧ S.1 f 6 = 0 then 3 else S.1 f j) = (if j = 6 ∧ f ∈ (S.2.take k).map (10 + ·) then 3 else S.1 f j)
        rw [e]
        have hm : f ∈ S.2.map (10 + ·) ↔ 10 ≤ f ∧ (f : Int) - 10 < S.1 6 1 ∧ S.1 f 6 = 0 := by
          rw [List.mem_map]
          constructor
          · rintro ⟨x, hx, rfl⟩
            have := (hv.mem hw x).mp hx
            exact ⟨by omega, by omega, this.2⟩
          · rintro ⟨h1, h2, h3⟩
            refine ⟨f - 10, (hv.mem hw _).mpr ⟨by omega, ?_⟩, by omega⟩
            rw [show 10 + (f - 10) = f by omega]
            exact h3
        by_cases c : j = 6 ∧ f ∈ S.2.map (10 + ·)
        · rw [if_pos c, if_pos ⟨c.1, hm.mp c.2⟩]
        · rw [if_neg c, if_neg fun z => c ⟨z.1, hm.mpr z.2⟩]
    | succ n ih =>
      intro k dk hk hc hf
      have hwt := hc.wt
      have hwt : dk.1 4 0 3 = gs_n S.2.length := hwt
      have hkm := mq k (by omega)
      have ha : f_Q_at [gs_r 4 0, gs_i (gs_n k)] dk = some (some (gs_r 13 (gs_ii 0 (S.2.getD k 0))), dk) := by
        have h2 := hc.oi (k : Int) (by omega) (by show (k : Int) < S.2.length; omega)
        have h2 : dk.1 12 0 (k : Int).toNat = gs_n (S.2.getD (k : Int).toNat 0 : Nat) := h2
        rw [gs_tn] at h2
        simp (disch := omega) only [e_Q_at, k_Q_at_0, k_Q_at_10, k_Q_at_11, h2, ↓reduceIte, Int.reduceAdd, Int.reduceSub, Int.reduceMul, Int.reduceToNat, gs_00, gs_ofi, gs_k0_m, gs_k1_m, gs_n8, gs_n16, gs_n_add, gs_n_sub, gs_n_mul, gs_n_neg, gs_m_add, gs_m_sub, gs_m_mul, gs_m_neg, gs_n_l, gs_m_n, gs_n_c, gs_eq_t, gs_eq_f1, gs_eq_f2, gs_lt_t, gs_lt_f, gs_le_t, gs_le_f, gs_cmp_lt, gs_cmp_eq, gs_cmp_gt, gs_ix_n, gs_nz_n, gs_nzl_g, gs_n_div, gs_af1, gs_af0, gs_ck0, gs_ck1, gs_ck2t, gs_ck2f, gs_ck3, gs_ck4, gs_zd_t, gs_zd_f, gs_zt_t, gs_zt_f, gs_nar1, gs_nar0, gs_tn, if_true, if_false, not_true_eq_false, not_false_eq_true]
      obtain ⟨d', e, r⟩ := ih (k + 1) (gs_wI dk 13 (gs_ii 0 (S.2.getD k 0)) 6 (gs_n 3)) (by omega) ((hc.wS (S.2.getD k 0) 6 3 (by omega)).cg (fun f j => by
          have et : S.2.take (k + 1) = S.2.take k ++ [S.2.getD k 0] := by
            rw [gs_getD (by omega), List.take_append_getElem (by omega)]
          show (if j = 6 ∧ f ∈ (S.2.take (k + 1)).map (10 + ·) then 3 else S.1 f j) = (if f = 10 + S.2.getD k 0 ∧ j = 6 then 3 else if j = 6 ∧ f ∈ (S.2.take k).map (10 + ·) then 3 else S.1 f j)
          have em : f ∈ (S.2.take (k + 1)).map (10 + ·) ↔ f ∈ (S.2.take k).map (10 + ·) ∨ f = 10 + S.2.getD k 0 := by
            rw [et, List.map_append, List.mem_append]
            simp
          by_cases c1 : f = 10 + S.2.getD k 0 ∧ j = 6
          · rw [if_pos c1, if_pos ⟨c1.2, em.mpr (Or.inr c1.1)⟩]
          · rw [if_neg c1]
            by_cases c2 : j = 6 ∧ f ∈ (S.2.take k).map (10 + ·)
            · rw [if_pos c2, if_pos ⟨c2.1, em.mpr (Or.inl c2.2)⟩]
            · rw [if_neg c2, if_neg fun z => (em.mp z.2).elim (fun y => c2 ⟨z.1, y⟩) (fun y => c1 ⟨y, z.1⟩)]) rfl) (hf.tr (gs_fr.I (gs_now13 (by omega))))
      refine ⟨d', ?_, r⟩
      rw [show ((k + 1 : Nat) : Int) = (k : Int) + 1 by omega] at e
      rw [k_Q_returnAll_2]
      simp (disch := omega) only [e_Q_returnAll, k_Q_returnAll_0, k_Q_returnAll_10, k_Q_returnAll_15, k_Q_returnAll_25, hwt, ha, ↓reduceIte, Int.reduceAdd, Int.reduceSub, Int.reduceMul, Int.reduceToNat, gs_00, gs_ofi, gs_k0_m, gs_k1_m, gs_n8, gs_n16, gs_n_add, gs_n_sub, gs_n_mul, gs_n_neg, gs_m_add, gs_m_sub, gs_m_mul, gs_m_neg, gs_n_l, gs_m_n, gs_n_c, gs_eq_t, gs_eq_f1, gs_eq_f2, gs_lt_t, gs_lt_f, gs_le_t, gs_le_f, gs_cmp_lt, gs_cmp_eq, gs_cmp_gt, gs_ix_n, gs_nz_n, gs_nzl_g, gs_n_div, gs_af1, gs_af0, gs_ck0, gs_ck1, gs_ck2t, gs_ck2f, gs_ck3, gs_ck4, gs_zd_t, gs_zd_f, gs_zt_t, gs_zt_f, gs_nar1, gs_nar0, gs_tn, if_true, if_false, not_true_eq_false, not_false_eq_true]
      exact e
  obtain ⟨d', e, r⟩ := key S.2.length 0 d (by omega) (hC.cg (fun f j => if_neg (by
    rintro ⟨-, z⟩
    simp at z)) rfl) gs_fr.rf
  refine ⟨d', ?_, r⟩
  rw [show ((0 : Nat) : Int) = 0 from rfl] at e
  simp (disch := omega) only [e_Q_returnAll, k_Q_returnAll_0, e, ↓reduceIte, Int.reduceAdd, Int.reduceSub, Int.reduceMul, Int.reduceToNat, gs_00, gs_ofi, gs_k0_m, gs_k1_m, gs_n8, gs_n16, gs_n_add, gs_n_sub, gs_n_mul, gs_n_neg, gs_m_add, gs_m_sub, gs_m_mul, gs_m_neg, gs_n_l, gs_m_n, gs_n_c, gs_eq_t, gs_eq_f1, gs_eq_f2, gs_lt_t, gs_lt_f, gs_le_t, gs_le_f, gs_cmp_lt, gs_cmp_eq, gs_cmp_gt, gs_ix_n, gs_nz_n, gs_nzl_g, gs_n_div, gs_af1, gs_af0, gs_ck0, gs_ck1, gs_ck2t, gs_ck2f, gs_ck3, gs_ck4, gs_zd_t, gs_zd_f, gs_zt_t, gs_zt_f, gs_nar1, gs_nar0, gs_tn, if_true, if_false, not_true_eq_false, not_false_eq_true]
/-- the next day -/
def o_advance (S : gs_S) : Int × gs_S := if S.1 6 0 = 2 then (0, gs_clk (gs_rta (gs_u S 6 0 0)) 36) else (S.1 6 0 + 1, gs_u S 6 0 (S.1 6 0 + 1))
theorem gs_wb_dy (hw : gs_wb B S) {x : Int} (h0 : 0 ≤ x) (h1 : x < 3) : gs_wb B (gs_u S 6 0 x) := by
  have o : ∀ f j, f ≠ 6 → (gs_u S 6 0 x).1 f j = S.1 f j := fun f j h => gs_u_o S _ _ _ j h
  have e0 : (gs_u S 6 0 x).1 6 0 = x := by
    show (if 6 = 6 ∧ 0 = 0 then x else S.1 6 0) = _
    rw [if_pos (by decide)]
  have e1 : (gs_u S 6 0 x).1 6 1 = S.1 6 1 := by
    show (if 6 = 6 ∧ 1 = 0 then x else S.1 6 1) = _
    rw [if_neg (by decide)]
  refine ⟨⟨fun j hj => ?_, fun j hj => ?_, fun j hj => ?_⟩, ⟨fun j hj => ?_, fun j hj => ?_, fun j hj => ?_⟩, ⟨?_, ?_, hw.2.2.1.2.2⟩, fun k hk => ?_⟩
  · rw [o 0 j (by omega)]; exact hw.1.1 j hj
  · rw [o 1 j (by omega)]; exact hw.1.2.1 j hj
  · rw [o 5 j (by omega)]; exact hw.1.2.2 j hj
  · rw [o 2 j (by omega)]; exact hw.2.1.1 j hj
  · rw [o 3 j (by omega)]; exact hw.2.1.2.1 j hj
  · rw [o 4 j (by omega)]; exact hw.2.1.2.2 j hj
  · rw [e0]; exact ⟨h0, h1⟩
  · rw [e1]; exact hw.2.2.1.2.1
  · rw [e1] at hk
    exact gs_iok_cg (hw.2.2.2 k hk) fun c _ => o _ c (by omega)
theorem gs_wv_dy (hv : gs_wv S) (x : Int) : gs_wv (gs_u S 6 0 x) := by
  have e1 : (gs_u S 6 0 x).1 6 1 = S.1 6 1 := by
    show (if 6 = 6 ∧ 1 = 0 then x else S.1 6 1) = _
    rw [if_neg (by decide)]
  have ep : ∀ c pr, gs_wp (gs_u S 6 0 x) c pr = gs_wp S c pr := by
    intro c pr
    unfold gs_wp
    congr 1
    funext y
    rw [gs_u_o S 6 0 x 6 (by omega), gs_u_o S 6 0 x 5 (by omega)]
  have e : gs_wl (gs_u S 6 0 x) = gs_wl S := by
    unfold gs_wl
    rw [e1, ep, ep, ep]
  exact ⟨by rw [e]; exact hv.1, hv.2⟩
theorem s_G_advance (hC : gs_Cl 0 d S) (hw : gs_wb B S) (hv : gs_wv S) : ∃ d', f_G_advance [gs_r 0 0] d = some (some (gs_i (gs_n (o_advance S).1)), d') ∧ gs_Cl 0 d' (o_advance S).2 ∧ gs_fr d d' := by
  have hd := hC.dy
  have h6 := hw.2.2.1.1
  unfold o_advance
  by_cases c : S.1 6 0 = 2
  · rw [if_pos c]
    have c1 := hC.wD 0
    obtain ⟨d2, e2, c2, f2⟩ := s_Q_returnAll c1 (gs_wb_dy hw (by omega) (by omega)) (gs_wv_dy hv 0)
    obtain ⟨d3, e3, c3, f3⟩ := s_A_clearNets c2
    have hd3 := c3.dy
    have hd3 : d3.1 1 0 0 = gs_n ((gs_clk (gs_rta (gs_u S 6 0 0)) 36).1 6 0) := hd3
    have ez : (gs_clk (gs_rta (gs_u S 6 0 0)) 36).1 6 0 = 0 := by
      rw [gs_clk_o _ (by omega), gs_rta_o _ (by omega), gs_u_s]
    rw [ez] at hd3
    have hs : (gs_wI d 1 0 0 (gs_n 0)).1 1 0 0 = gs_n 0 := gs_wI_s
    refine ⟨d3, ?_, c3, ((gs_fr.I rfl).tr f2).tr f3⟩
    simp (disch := omega) only [e_G_advance, k_G_advance_0, k_G_advance_15, k_G_advance_19, k_G_advance_41, k_G_advance_51, k_G_advance_61, hd, hs, e2, e3, hd3, ↓reduceIte, Int.reduceAdd, Int.reduceSub, Int.reduceMul, Int.reduceToNat, gs_00, gs_ofi, gs_k0_m, gs_k1_m, gs_n8, gs_n16, gs_n_add, gs_n_sub, gs_n_mul, gs_n_neg, gs_m_add, gs_m_sub, gs_m_mul, gs_m_neg, gs_n_l, gs_m_n, gs_n_c, gs_eq_t, gs_eq_f1, gs_eq_f2, gs_lt_t, gs_lt_f, gs_le_t, gs_le_f, gs_cmp_lt, gs_cmp_eq, gs_cmp_gt, gs_ix_n, gs_nz_n, gs_nzl_g, gs_n_div, gs_af1, gs_af0, gs_ck0, gs_ck1, gs_ck2t, gs_ck2f, gs_ck3, gs_ck4, gs_zd_t, gs_zd_f, gs_zt_t, gs_zt_f, gs_nar1, gs_nar0, gs_tn, if_true, if_false, not_true_eq_false, not_false_eq_true]
  · rw [if_neg c]
    have c1 := hC.wD (S.1 6 0 + 1)
    have hs : (gs_wI d 1 0 0 (gs_n (S.1 6 0 + 1))).1 1 0 0 = gs_n (S.1 6 0 + 1) := gs_wI_s
    refine ⟨_, ?_, c1, gs_fr.I rfl⟩
    simp (disch := omega) only [e_G_advance, k_G_advance_0, k_G_advance_15, k_G_advance_19, k_G_advance_41, k_G_advance_51, k_G_advance_61, hd, hs, ↓reduceIte, Int.reduceAdd, Int.reduceSub, Int.reduceMul, Int.reduceToNat, gs_00, gs_ofi, gs_k0_m, gs_k1_m, gs_n8, gs_n16, gs_n_add, gs_n_sub, gs_n_mul, gs_n_neg, gs_m_add, gs_m_sub, gs_m_mul, gs_m_neg, gs_n_l, gs_m_n, gs_n_c, gs_eq_t, gs_eq_f1, gs_eq_f2, gs_lt_t, gs_lt_f, gs_le_t, gs_le_f, gs_cmp_lt, gs_cmp_eq, gs_cmp_gt, gs_ix_n, gs_nz_n, gs_nzl_g, gs_n_div, gs_af1, gs_af0, gs_ck0, gs_ck1, gs_ck2t, gs_ck2f, gs_ck3, gs_ck4, gs_zd_t, gs_zd_f, gs_zt_t, gs_zt_f, gs_nar1, gs_nar0, gs_tn, if_true, if_false, not_true_eq_false, not_false_eq_true]
end AD
end
section
-- the calls of the component, one by one
section WC
variable {S : gs_S} {B : Int}
/-- bounds, where held and pledged of one place change -/
theorem gs_wb_hp (hw : gs_wb B S) {j : Nat} {x y : Int} (hx : -1000000 ≤ x) (hx2 : x ≤ 1000000) (hy : -1000000 ≤ y) (hy2 : y ≤ 1000000) (hp : 0 ≤ S.1 1 j + y) (hB : B + 1000000 ≤ 1000000000000) : gs_wb (B + 1000000) (gs_ad (gs_sb S 0 j x) 1 j y) := by
  have e : ∀ a c, (gs_ad (gs_sb S 0 j x) 1 j y).1 a c = S.1 a c + (if a = 0 ∧ c = j then -x else 0) + if a = 1 ∧ c = j then y else 0 := fun a c => by rw [gs_ad_at, gs_sb_at]
  have o : ∀ a c, a ≠ 0 → a ≠ 1 → (gs_ad (gs_sb S 0 j x) 1 j y).1 a c = S.1 a c := fun a c h0 h1 => by
    rw [e, if_neg (fun z => h0 z.1), if_neg (fun z => h1 z.1)]
    omega
  refine ⟨⟨fun k hk => ?_, fun k hk => ?_, fun k hk => ?_⟩, ⟨fun k hk => ?_, fun k hk => ?_, fun k hk => ?_⟩, ⟨?_, ?_, hB⟩, fun k hk => ?_⟩
  · have := hw.1.1 k hk
    rw [e, if_neg (show ¬ (0 = 1 ∧ k = j) by omega)]
    split <;> omega
  · have := hw.1.2.1 k hk
    rw [e, if_neg (show ¬ (1 = 0 ∧ k = j) by omega)]
    split
    · rename_i z
      rw [← z.2] at hp
      omega
    · omega
  · rw [o 5 k (by omega) (by omega)]
    have := hw.1.2.2 k hk
    omega
  · rw [o 2 k (by omega) (by omega)]; exact hw.2.1.1 k hk
  · rw [o 3 k (by omega) (by omega)]; exact hw.2.1.2.1 k hk
  · rw [o 4 k (by omega) (by omega)]; exact hw.2.1.2.2 k hk
  · rw [o 6 0 (by omega) (by omega)]; exact hw.2.2.1.1
  · rw [o 6 1 (by omega) (by omega)]; exact hw.2.2.1.2.1
  · rw [o 6 1 (by omega) (by omega)] at hk
    exact gs_iok_cg (hw.2.2.2 k hk) fun c _ => o _ c (by omega) (by omega)
theorem gs_wb_li (hw : gs_wb B S) (j : Nat) {x : Int} (hx : -1 ≤ x) (hx2 : x ≤ 1000000) : gs_wb B (gs_u S 4 j x) := by
  have o : ∀ a c, a ≠ 4 → (gs_u S 4 j x).1 a c = S.1 a c := fun a c h => gs_u_o S 4 j x c h
  refine ⟨⟨fun k hk => ?_, fun k hk => ?_, fun k hk => ?_⟩, ⟨fun k hk => ?_, fun k hk => ?_, fun k hk => ?_⟩, ⟨?_, ?_, hw.2.2.1.2.2⟩, fun k hk => ?_⟩
  · rw [o 0 k (by omega)]; exact hw.1.1 k hk
  · rw [o 1 k (by omega)]; exact hw.1.2.1 k hk
  · rw [o 5 k (by omega)]; exact hw.1.2.2 k hk
  · rw [o 2 k (by omega)]; exact hw.2.1.1 k hk
  · rw [o 3 k (by omega)]; exact hw.2.1.2.1 k hk
  · by_cases z : k = j
    · rw [z, gs_u_s]; exact ⟨hx, hx2⟩
    · rw [gs_u_j _ _ (by omega)]; exact hw.2.1.2.2 k hk
  · rw [o 6 0 (by omega)]; exact hw.2.2.1.1
  · rw [o 6 1 (by omega)]; exact hw.2.2.1.2.1
  · rw [o 6 1 (by omega)] at hk
    exact gs_iok_cg (hw.2.2.2 k hk) fun c _ => o _ c (by omega)
/-- the list, where count and instructions stay -/
theorem gs_wv.cg {S' : gs_S} (hv : gs_wv S) (e : ∀ a c, a = 6 ∨ 10 ≤ a → S'.1 a c = S.1 a c) (e2 : S'.2 = S.2) : gs_wv S' := by
  have ep : ∀ c pr, gs_wp S' c pr = gs_wp S c pr := by
    intro c pr
    unfold gs_wp
    congr 1
    funext y
    rw [e (10 + y) 6 (by omega), e (10 + y) 5 (by omega)]
  have el : gs_wl S' = gs_wl S := by
    unfold gs_wl
    rw [e 6 1 (by omega), ep, ep, ep]
  exact ⟨by rw [el, e2]; exact hv.1, by rw [e2]; exact hv.2⟩
theorem gs_wv_hp (hv : gs_wv S) (j : Nat) (x y : Int) : gs_wv (gs_ad (gs_sb S 0 j x) 1 j y) := hv.cg (fun a c h => by rw [gs_ad_at, gs_sb_at, if_neg (by omega), if_neg (by omega)]; omega) rfl
theorem gs_wv_li (hv : gs_wv S) (j : Nat) (x : Int) : gs_wv (gs_u S 4 j x) := hv.cg (fun a c h => gs_u_o S 4 j x c (by omega)) rfl
end WC
def gs_am (x : Int) : Prop := 1 ≤ x ∧ x ≤ 1000000
def o_issue (S : gs_S) (p a x : Int) : Int × gs_S := if ((0 ≤ p ∧ p < 6) ∧ (0 ≤ a ∧ a < 3) ∧ (1 ≤ x ∧ x ≤ 1000000)) ∧ S.1 6 0 = 0 then (1, gs_ad S 0 (p * 3 + a).toNat x) else (0, S)
def o_pledge (S : gs_S) (p s x : Int) : Int × gs_S := if (0 ≤ p ∧ p < 6) ∧ (1 ≤ s ∧ s < 3) ∧ (1 ≤ x ∧ x ≤ 1000000) then (if S.1 0 (p * 3 + s).toNat < x then (-4, S) else gs_thr 10 (gs_ad (gs_sb S 0 (p * 3 + s).toNat x) 1 (p * 3 + s).toNat x)) else (-1, S)
def o_release (S : gs_S) (p s x : Int) : Int × gs_S := if (0 ≤ p ∧ p < 6) ∧ (1 ≤ s ∧ s < 3) ∧ (1 ≤ x ∧ x ≤ 1000000) then (if S.1 1 (p * 3 + s).toNat < x then (-4, S) else if gs_rm (gs_ad (gs_sb S 0 (p * 3 + s).toNat (-x)) 1 (p * 3 + s).toNat (-x)) (p * 3 + 0) < 0 then (-4, S) else gs_thr 10 (gs_ad (gs_sb S 0 (p * 3 + s).toNat (-x)) 1 (p * 3 + s).toNat (-x))) else (-1, S)
def o_limit (S : gs_S) (p q x : Int) : Int × gs_S := if ((0 ≤ p ∧ p < 6) ∧ (0 ≤ q ∧ q < 6) ∧ ¬ p = q) ∧ (-1 ≤ x ∧ x ≤ 1000000) then (if ¬ x = -1 ∧ x < S.1 5 (p * 6 + q).toNat then (-4, S) else gs_thr 10 (gs_u S 4 (p * 6 + q).toNat x)) else (-1, S)
section OC
variable {d : gs_D} {S : gs_S} {B : Int}
theorem gs_Cl.aP {b : Nat} (h : gs_Cl b d S) (j : Nat) (x : Int) : gs_Cl b (gs_wL d 6 b j (gs_m (S.1 1 j + x))) (gs_ad S 1 j x) := h.wP _ _
theorem s_G_issue (hC : gs_Cl 0 d S) (hw : gs_wb B S) {p a x : Int} (p1 : -2147483648 ≤ p) (p2 : p < 2147483648) (a1 : -2147483648 ≤ a) (a2 : a < 2147483648) (x1 : -2147483648 ≤ x) (x2 : x < 2147483648) : ∃ d', f_G_issue [gs_r 0 0, gs_i (gs_n p), gs_i (gs_n a), gs_i (gs_n x)] d = some (some (gs_i (gs_n (o_issue S p a x).1)), d') ∧ gs_Cl 0 d' (o_issue S p a x).2 ∧ gs_fr d d' := by
  have hd := hC.dy
  have h6 := hw.2.2.1.1
  unfold o_issue
  by_cases c : ((0 ≤ p ∧ p < 6) ∧ (0 ≤ a ∧ a < 3) ∧ (1 ≤ x ∧ x ≤ 1000000)) ∧ S.1 6 0 = 0
  · rw [if_pos c]
    have hh := hC.h
    refine ⟨_, ?_, hC.aH (p * 3 + a).toNat x, gs_fr.L rfl⟩
    simp (disch := omega) only [e_G_issue, k_G_issue_0, k_G_issue_4, k_G_issue_7, k_G_issue_11, k_G_issue_14, k_G_issue_18, k_G_issue_21, k_G_issue_31, k_G_issue_33, k_G_issue_48, k_G_issue_50, k_G_issue_54, s_G_isParticipant, s_G_isAsset, s_G_isAmount, s_G_holding, hd, hh, ↓reduceIte, Int.reduceAdd, Int.reduceSub, Int.reduceMul, Int.reduceToNat, gs_00, gs_ofi, gs_k0_m, gs_k1_m, gs_n8, gs_n16, gs_n_add, gs_n_sub, gs_n_mul, gs_n_neg, gs_m_add, gs_m_sub, gs_m_mul, gs_m_neg, gs_n_l, gs_m_n, gs_n_c, gs_eq_t, gs_eq_f1, gs_eq_f2, gs_lt_t, gs_lt_f, gs_le_t, gs_le_f, gs_cmp_lt, gs_cmp_eq, gs_cmp_gt, gs_ix_n, gs_nz_n, gs_nzl_g, gs_n_div, gs_af1, gs_af0, gs_ck0, gs_ck1, gs_ck2t, gs_ck2f, gs_ck3, gs_ck4, gs_zd_t, gs_zd_f, gs_zt_t, gs_zt_f, gs_nar1, gs_nar0, gs_tn, if_true, if_false, not_true_eq_false, not_false_eq_true]
  · rw [if_neg c]
    refine ⟨d, ?_, hC, gs_fr.rf⟩
    simp (disch := omega) only [e_G_issue, k_G_issue_0, k_G_issue_4, k_G_issue_7, k_G_issue_11, k_G_issue_14, k_G_issue_18, k_G_issue_21, k_G_issue_31, k_G_issue_33, k_G_issue_48, k_G_issue_50, k_G_issue_54, s_G_isParticipant, s_G_isAsset, s_G_isAmount, s_G_holding, hd, gs_zd0, gs_00, gs_ofi, gs_k0_m, gs_k1_m, gs_n8, gs_n16, gs_n_add, gs_n_sub, gs_n_mul, gs_n_neg, gs_m_add, gs_m_sub, gs_m_mul, gs_m_neg, gs_n_l, gs_m_n, gs_n_c, gs_eq_iff, gs_lt_iff, gs_le_iff, gs_cge, gs_clt, gs_cle, gs_cgt, gs_ceq, gs_ix_n, gs_nz_n, gs_nzl_g, gs_n_div, gs_af1, gs_af0, gs_ck_ite, gs_ck0, gs_ck1, gs_ck2t, gs_ck2f, gs_ck3, gs_ck4, gs_nar1, gs_nar0, gs_tn, if_true, if_false, not_true_eq_false, not_false_eq_true]
    repeat' split
    all_goals first | rfl | (exfalso; omega)
theorem s_A_movePledge (hC : gs_Cl 0 d S) {p s x : Int} (p0 : 0 ≤ p) (p1 : p < 6) (s0 : 0 ≤ s) (s1 : s < 3) (x1 : -1000000 ≤ x) (x2 : x ≤ 1000000) : ∃ d', f_A_movePledge [gs_r 3 0, gs_i (gs_n p), gs_i (gs_n s), gs_i (gs_n x)] d = some (none, d') ∧ gs_Cl 0 d' (gs_ad (gs_sb S 0 (p * 3 + s).toNat x) 1 (p * 3 + s).toNat x) ∧ gs_fr d d' := by
  have c1 := hC.sH (p * 3 + s).toNat x
  have c2 := c1.aP (p * 3 + s).toNat x
  have hh := hC.h
  have hp := c1.p
  refine ⟨_, ?_, c2, (gs_fr.L rfl).tr (gs_fr.L rfl)⟩
  simp (disch := omega) only [e_A_movePledge, k_A_movePledge_0, k_A_movePledge_9, k_A_movePledge_11, k_A_movePledge_15, k_A_movePledge_24, k_A_movePledge_26, k_A_movePledge_30, s_G_holding, hh, hp, ↓reduceIte, Int.reduceAdd, Int.reduceSub, Int.reduceMul, Int.reduceToNat, gs_00, gs_ofi, gs_k0_m, gs_k1_m, gs_n8, gs_n16, gs_n_add, gs_n_sub, gs_n_mul, gs_n_neg, gs_m_add, gs_m_sub, gs_m_mul, gs_m_neg, gs_n_l, gs_m_n, gs_n_c, gs_eq_t, gs_eq_f1, gs_eq_f2, gs_lt_t, gs_lt_f, gs_le_t, gs_le_f, gs_cmp_lt, gs_cmp_eq, gs_cmp_gt, gs_ix_n, gs_nz_n, gs_nzl_g, gs_n_div, gs_af1, gs_af0, gs_ck0, gs_ck1, gs_ck2t, gs_ck2f, gs_ck3, gs_ck4, gs_zd_t, gs_zd_f, gs_zt_t, gs_zt_f, gs_nar1, gs_nar0, gs_tn, if_true, if_false, not_true_eq_false, not_false_eq_true]
theorem s_G_pledge (hC : gs_Cl 0 d S) (hw : gs_wb B S) (hv : gs_wv S) (hB : B + 70000000 ≤ 1000000000000) {p s x : Int} (p1 : -2147483648 ≤ p) (p2 : p < 2147483648) (s1 : -2147483648 ≤ s) (s2 : s < 2147483648) (x1 : -2147483648 ≤ x) (x2 : x < 2147483648) : ∃ d', f_G_pledge [gs_r 0 0, gs_i (gs_n p), gs_i (gs_n s), gs_i (gs_n x)] d = some (some (gs_i (gs_n (o_pledge S p s x).1)), d') ∧ gs_Cl 0 d' (o_pledge S p s x).2 ∧ gs_fr d d' := by
  unfold o_pledge
  by_cases c : (0 ≤ p ∧ p < 6) ∧ (1 ≤ s ∧ s < 3) ∧ (1 ≤ x ∧ x ≤ 1000000)
  · rw [if_pos c]
    have hh := hC.h
    have hr := hw.1.1 (p * 3 + s).toNat (by omega)
    have hr2 := hw.1.2.1 (p * 3 + s).toNat (by omega)
    by_cases c2 : S.1 0 (p * 3 + s).toNat < x
    · rw [if_pos c2]
      refine ⟨d, ?_, hC, gs_fr.rf⟩
      simp (disch := omega) only [e_G_pledge, k_G_pledge_0, k_G_pledge_4, k_G_pledge_7, k_G_pledge_11, k_G_pledge_14, k_G_pledge_18, k_G_pledge_21, k_G_pledge_23, k_G_pledge_38, k_G_pledge_39, k_G_pledge_45, k_G_pledge_48, k_G_pledge_61, k_G_pledge_65, s_G_isParticipant, s_G_isSecurity, s_G_isAmount, s_G_holding, hh, ↓reduceIte, Int.reduceAdd, Int.reduceSub, Int.reduceMul, Int.reduceToNat, gs_00, gs_ofi, gs_k0_m, gs_k1_m, gs_n8, gs_n16, gs_n_add, gs_n_sub, gs_n_mul, gs_n_neg, gs_m_add, gs_m_sub, gs_m_mul, gs_m_neg, gs_n_l, gs_m_n, gs_n_c, gs_eq_t, gs_eq_f1, gs_eq_f2, gs_lt_t, gs_lt_f, gs_le_t, gs_le_f, gs_cmp_lt, gs_cmp_eq, gs_cmp_gt, gs_ix_n, gs_nz_n, gs_nzl_g, gs_n_div, gs_af1, gs_af0, gs_ck0, gs_ck1, gs_ck2t, gs_ck2f, gs_ck3, gs_ck4, gs_zd_t, gs_zd_f, gs_zt_t, gs_zt_f, gs_nar1, gs_nar0, gs_tn, if_true, if_false, not_true_eq_false, not_false_eq_true]
    · rw [if_neg c2]
      obtain ⟨d1, e1, c1, f1⟩ := s_A_movePledge hC (p := p) (s := s) (x := x) (by omega) (by omega) (by omega) (by omega) (by omega) (by omega)
      have w1 := gs_wb_hp hw (j := (p * 3 + s).toNat) (x := x) (y := x) (by omega) (by omega) (by omega) (by omega) (by omega) (by omega)
      obtain ⟨d2, e2, c3, f2⟩ := s_G_goThrough c1 w1 ((gs_wv_hp hv _ _ _).q w1) (by omega)
      refine ⟨d2, ?_, c3, f1.tr f2⟩
      by_cases c9 : S.1 0 (p * 3 + s).toNat = x
      · simp (disch := omega) only [e_G_pledge, k_G_pledge_0, k_G_pledge_4, k_G_pledge_7, k_G_pledge_11, k_G_pledge_14, k_G_pledge_18, k_G_pledge_21, k_G_pledge_23, k_G_pledge_38, k_G_pledge_39, k_G_pledge_45, k_G_pledge_48, k_G_pledge_61, k_G_pledge_65, s_G_isParticipant, s_G_isSecurity, s_G_isAmount, s_G_holding, hh, e1, e2, ↓reduceIte, Int.reduceAdd, Int.reduceSub, Int.reduceMul, Int.reduceToNat, gs_00, gs_ofi, gs_k0_m, gs_k1_m, gs_n8, gs_n16, gs_n_add, gs_n_sub, gs_n_mul, gs_n_neg, gs_m_add, gs_m_sub, gs_m_mul, gs_m_neg, gs_n_l, gs_m_n, gs_n_c, gs_eq_t, gs_eq_f1, gs_eq_f2, gs_lt_t, gs_lt_f, gs_le_t, gs_le_f, gs_cmp_lt, gs_cmp_eq, gs_cmp_gt, gs_ix_n, gs_nz_n, gs_nzl_g, gs_n_div, gs_af1, gs_af0, gs_ck0, gs_ck1, gs_ck2t, gs_ck2f, gs_ck3, gs_ck4, gs_zd_t, gs_zd_f, gs_zt_t, gs_zt_f, gs_nar1, gs_nar0, gs_tn, if_true, if_false, not_true_eq_false, not_false_eq_true]
      · simp (disch := omega) only [e_G_pledge, k_G_pledge_0, k_G_pledge_4, k_G_pledge_7, k_G_pledge_11, k_G_pledge_14, k_G_pledge_18, k_G_pledge_21, k_G_pledge_23, k_G_pledge_38, k_G_pledge_39, k_G_pledge_45, k_G_pledge_48, k_G_pledge_61, k_G_pledge_65, s_G_isParticipant, s_G_isSecurity, s_G_isAmount, s_G_holding, hh, e1, e2, ↓reduceIte, Int.reduceAdd, Int.reduceSub, Int.reduceMul, Int.reduceToNat, gs_00, gs_ofi, gs_k0_m, gs_k1_m, gs_n8, gs_n16, gs_n_add, gs_n_sub, gs_n_mul, gs_n_neg, gs_m_add, gs_m_sub, gs_m_mul, gs_m_neg, gs_n_l, gs_m_n, gs_n_c, gs_eq_t, gs_eq_f1, gs_eq_f2, gs_lt_t, gs_lt_f, gs_le_t, gs_le_f, gs_cmp_lt, gs_cmp_eq, gs_cmp_gt, gs_ix_n, gs_nz_n, gs_nzl_g, gs_n_div, gs_af1, gs_af0, gs_ck0, gs_ck1, gs_ck2t, gs_ck2f, gs_ck3, gs_ck4, gs_zd_t, gs_zd_f, gs_zt_t, gs_zt_f, gs_nar1, gs_nar0, gs_tn, if_true, if_false, not_true_eq_false, not_false_eq_true]
  · rw [if_neg c]
    refine ⟨d, ?_, hC, gs_fr.rf⟩
    simp (disch := omega) only [e_G_pledge, k_G_pledge_0, k_G_pledge_4, k_G_pledge_7, k_G_pledge_11, k_G_pledge_14, k_G_pledge_18, k_G_pledge_21, k_G_pledge_23, k_G_pledge_38, k_G_pledge_39, k_G_pledge_45, k_G_pledge_48, k_G_pledge_61, k_G_pledge_65, s_G_isParticipant, s_G_isSecurity, s_G_isAmount, s_G_holding, gs_zd0, gs_00, gs_ofi, gs_k0_m, gs_k1_m, gs_n8, gs_n16, gs_n_add, gs_n_sub, gs_n_mul, gs_n_neg, gs_m_add, gs_m_sub, gs_m_mul, gs_m_neg, gs_n_l, gs_m_n, gs_n_c, gs_eq_iff, gs_lt_iff, gs_le_iff, gs_cge, gs_clt, gs_cle, gs_cgt, gs_ceq, gs_ix_n, gs_nz_n, gs_nzl_g, gs_n_div, gs_af1, gs_af0, gs_ck_ite, gs_ck0, gs_ck1, gs_ck2t, gs_ck2f, gs_ck3, gs_ck4, gs_nar1, gs_nar0, gs_tn, if_true, if_false, not_true_eq_false, not_false_eq_true]
    repeat' split
    all_goals first | rfl | (exfalso; omega)
theorem s_G_release (hC : gs_Cl 0 d S) (hw : gs_wb B S) (hv : gs_wv S) (hB : B + 70000000 ≤ 1000000000000) {p s x : Int} (p1 : -2147483648 ≤ p) (p2 : p < 2147483648) (s1 : -2147483648 ≤ s) (s2 : s < 2147483648) (x1 : -2147483648 ≤ x) (x2 : x < 2147483648) : ∃ d', f_G_release [gs_r 0 0, gs_i (gs_n p), gs_i (gs_n s), gs_i (gs_n x)] d = some (some (gs_i (gs_n (o_release S p s x).1)), d') ∧ gs_Cl 0 d' (o_release S p s x).2 ∧ gs_fr d d' := by
  unfold o_release
  by_cases c : (0 ≤ p ∧ p < 6) ∧ (1 ≤ s ∧ s < 3) ∧ (1 ≤ x ∧ x ≤ 1000000)
  · rw [if_pos c]
    have hp := hC.p
    have hr2 := hw.1.2.1 (p * 3 + s).toNat (by omega)
    by_cases c2 : S.1 1 (p * 3 + s).toNat < x
    · rw [if_pos c2]
      refine ⟨d, ?_, hC, gs_fr.rf⟩
      simp (disch := omega) only [e_G_release, k_G_release_0, k_G_release_4, k_G_release_7, k_G_release_11, k_G_release_14, k_G_release_18, k_G_release_21, k_G_release_23, k_G_release_36, k_G_release_39, k_G_release_43, k_G_release_46, e_A_unpledge, k_A_unpledge_0, k_A_unpledge_9, k_A_unpledge_10, k_A_unpledge_16, k_A_unpledge_18, k_A_unpledge_26, k_A_unpledge_32, k_A_unpledge_35, k_A_unpledge_40, k_A_unpledge_42, k_A_unpledge_49, s_G_isParticipant, s_G_isSecurity, s_G_isAmount, s_G_holding, hp, ↓reduceIte, Int.reduceAdd, Int.reduceSub, Int.reduceMul, Int.reduceToNat, gs_00, gs_ofi, gs_k0_m, gs_k1_m, gs_n8, gs_n16, gs_n_add, gs_n_sub, gs_n_mul, gs_n_neg, gs_m_add, gs_m_sub, gs_m_mul, gs_m_neg, gs_n_l, gs_m_n, gs_n_c, gs_eq_t, gs_eq_f1, gs_eq_f2, gs_lt_t, gs_lt_f, gs_le_t, gs_le_f, gs_cmp_lt, gs_cmp_eq, gs_cmp_gt, gs_ix_n, gs_nz_n, gs_nzl_g, gs_n_div, gs_af1, gs_af0, gs_ck0, gs_ck1, gs_ck2t, gs_ck2f, gs_ck3, gs_ck4, gs_zd_t, gs_zd_f, gs_zt_t, gs_zt_f, gs_nar1, gs_nar0, gs_tn, if_true, if_false, not_true_eq_false, not_false_eq_true]
    · rw [if_neg c2]
      obtain ⟨d1, e1, c1, f1⟩ := s_A_movePledge hC (p := p) (s := s) (x := -x) (by omega) (by omega) (by omega) (by omega) (by omega) (by omega)
      have w1 := gs_wb_hp hw (j := (p * 3 + s).toNat) (x := -x) (y := -x) (by omega) (by omega) (by omega) (by omega) (by omega) (by omega)
      have rm := s_A_room c1 w1 (x := p * 3 + 0) (by omega) (by omega)
      have rg := gs_rm_rg w1 (x := p * 3 + 0) (by omega) (by omega)
      by_cases c3 : gs_rm (gs_ad (gs_sb S 0 (p * 3 + s).toNat (-x)) 1 (p * 3 + s).toNat (-x)) (p * 3 + 0) < 0
      · rw [if_pos c3]
        obtain ⟨d2, e2, c4, f2⟩ := s_A_movePledge c1 (p := p) (s := s) (x := x) (by omega) (by omega) (by omega) (by omega) (by omega) (by omega)
        refine ⟨d2, ?_, c4.cg (fun f j => ?_) rfl, f1.tr f2⟩
        · by_cases c9 : S.1 1 (p * 3 + s).toNat = x
          · simp (disch := omega) only [e_G_release, k_G_release_0, k_G_release_4, k_G_release_7, k_G_release_11, k_G_release_14, k_G_release_18, k_G_release_21, k_G_release_23, k_G_release_36, k_G_release_39, k_G_release_43, k_G_release_46, e_A_unpledge, k_A_unpledge_0, k_A_unpledge_9, k_A_unpledge_10, k_A_unpledge_16, k_A_unpledge_18, k_A_unpledge_26, k_A_unpledge_32, k_A_unpledge_35, k_A_unpledge_40, k_A_unpledge_42, k_A_unpledge_49, s_G_isParticipant, s_G_isSecurity, s_G_isAmount, s_G_holding, hp, e1, rm, e2, ↓reduceIte, Int.reduceAdd, Int.reduceSub, Int.reduceMul, Int.reduceToNat, gs_00, gs_ofi, gs_k0_m, gs_k1_m, gs_n8, gs_n16, gs_n_add, gs_n_sub, gs_n_mul, gs_n_neg, gs_m_add, gs_m_sub, gs_m_mul, gs_m_neg, gs_n_l, gs_m_n, gs_n_c, gs_eq_t, gs_eq_f1, gs_eq_f2, gs_lt_t, gs_lt_f, gs_le_t, gs_le_f, gs_cmp_lt, gs_cmp_eq, gs_cmp_gt, gs_ix_n, gs_nz_n, gs_nzl_g, gs_n_div, gs_af1, gs_af0, gs_ck0, gs_ck1, gs_ck2t, gs_ck2f, gs_ck3, gs_ck4, gs_zd_t, gs_zd_f, gs_zt_t, gs_zt_f, gs_nar1, gs_nar0, gs_tn, if_true, if_false, not_true_eq_false, not_false_eq_true]
          · simp (disch := omega) only [e_G_release, k_G_release_0, k_G_release_4, k_G_release_7, k_G_release_11, k_G_release_14, k_G_release_18, k_G_release_21, k_G_release_23, k_G_release_36, k_G_release_39, k_G_release_43, k_G_release_46, e_A_unpledge, k_A_unpledge_0, k_A_unpledge_9, k_A_unpledge_10, k_A_unpledge_16, k_A_unpledge_18, k_A_unpledge_26, k_A_unpledge_32, k_A_unpledge_35, k_A_unpledge_40, k_A_unpledge_42, k_A_unpledge_49, s_G_isParticipant, s_G_isSecurity, s_G_isAmount, s_G_holding, hp, e1, rm, e2, ↓reduceIte, Int.reduceAdd, Int.reduceSub, Int.reduceMul, Int.reduceToNat, gs_00, gs_ofi, gs_k0_m, gs_k1_m, gs_n8, gs_n16, gs_n_add, gs_n_sub, gs_n_mul, gs_n_neg, gs_m_add, gs_m_sub, gs_m_mul, gs_m_neg, gs_n_l, gs_m_n, gs_n_c, gs_eq_t, gs_eq_f1, gs_eq_f2, gs_lt_t, gs_lt_f, gs_le_t, gs_le_f, gs_cmp_lt, gs_cmp_eq, gs_cmp_gt, gs_ix_n, gs_nz_n, gs_nzl_g, gs_n_div, gs_af1, gs_af0, gs_ck0, gs_ck1, gs_ck2t, gs_ck2f, gs_ck3, gs_ck4, gs_zd_t, gs_zd_f, gs_zt_t, gs_zt_f, gs_nar1, gs_nar0, gs_tn, if_true, if_false, not_true_eq_false, not_false_eq_true]
        · show S.1 f j = _
          rw [gs_ad_at, gs_sb_at, gs_ad_at, gs_sb_at]
          by_cases z1 : f = 0 ∧ j = (p * 3 + s).toNat
          · rw [if_pos z1, if_pos z1, if_neg (by omega), if_neg (by omega)]
            omega
          · rw [if_neg z1, if_neg z1]
            by_cases z2 : f = 1 ∧ j = (p * 3 + s).toNat
            · rw [if_pos z2, if_pos z2]
              omega
            · rw [if_neg z2, if_neg z2]
              omega
      · rw [if_neg c3]
        obtain ⟨d2, e2, c4, f2⟩ := s_G_goThrough c1 w1 ((gs_wv_hp hv _ _ _).q w1) (by omega)
        refine ⟨d2, ?_, c4, f1.tr f2⟩
        by_cases c9 : S.1 1 (p * 3 + s).toNat = x
        · by_cases c8 : gs_rm (gs_ad (gs_sb S 0 (p * 3 + s).toNat (-x)) 1 (p * 3 + s).toNat (-x)) (p * 3 + 0) = 0
          · simp (disch := omega) only [e_G_release, k_G_release_0, k_G_release_4, k_G_release_7, k_G_release_11, k_G_release_14, k_G_release_18, k_G_release_21, k_G_release_23, k_G_release_36, k_G_release_39, k_G_release_43, k_G_release_46, e_A_unpledge, k_A_unpledge_0, k_A_unpledge_9, k_A_unpledge_10, k_A_unpledge_16, k_A_unpledge_18, k_A_unpledge_26, k_A_unpledge_32, k_A_unpledge_35, k_A_unpledge_40, k_A_unpledge_42, k_A_unpledge_49, s_G_isParticipant, s_G_isSecurity, s_G_isAmount, s_G_holding, hp, e1, rm, e2, ↓reduceIte, Int.reduceAdd, Int.reduceSub, Int.reduceMul, Int.reduceToNat, gs_00, gs_ofi, gs_k0_m, gs_k1_m, gs_n8, gs_n16, gs_n_add, gs_n_sub, gs_n_mul, gs_n_neg, gs_m_add, gs_m_sub, gs_m_mul, gs_m_neg, gs_n_l, gs_m_n, gs_n_c, gs_eq_t, gs_eq_f1, gs_eq_f2, gs_lt_t, gs_lt_f, gs_le_t, gs_le_f, gs_cmp_lt, gs_cmp_eq, gs_cmp_gt, gs_ix_n, gs_nz_n, gs_nzl_g, gs_n_div, gs_af1, gs_af0, gs_ck0, gs_ck1, gs_ck2t, gs_ck2f, gs_ck3, gs_ck4, gs_zd_t, gs_zd_f, gs_zt_t, gs_zt_f, gs_nar1, gs_nar0, gs_tn, if_true, if_false, not_true_eq_false, not_false_eq_true]
          · simp (disch := omega) only [e_G_release, k_G_release_0, k_G_release_4, k_G_release_7, k_G_release_11, k_G_release_14, k_G_release_18, k_G_release_21, k_G_release_23, k_G_release_36, k_G_release_39, k_G_release_43, k_G_release_46, e_A_unpledge, k_A_unpledge_0, k_A_unpledge_9, k_A_unpledge_10, k_A_unpledge_16, k_A_unpledge_18, k_A_unpledge_26, k_A_unpledge_32, k_A_unpledge_35, k_A_unpledge_40, k_A_unpledge_42, k_A_unpledge_49, s_G_isParticipant, s_G_isSecurity, s_G_isAmount, s_G_holding, hp, e1, rm, e2, ↓reduceIte, Int.reduceAdd, Int.reduceSub, Int.reduceMul, Int.reduceToNat, gs_00, gs_ofi, gs_k0_m, gs_k1_m, gs_n8, gs_n16, gs_n_add, gs_n_sub, gs_n_mul, gs_n_neg, gs_m_add, gs_m_sub, gs_m_mul, gs_m_neg, gs_n_l, gs_m_n, gs_n_c, gs_eq_t, gs_eq_f1, gs_eq_f2, gs_lt_t, gs_lt_f, gs_le_t, gs_le_f, gs_cmp_lt, gs_cmp_eq, gs_cmp_gt, gs_ix_n, gs_nz_n, gs_nzl_g, gs_n_div, gs_af1, gs_af0, gs_ck0, gs_ck1, gs_ck2t, gs_ck2f, gs_ck3, gs_ck4, gs_zd_t, gs_zd_f, gs_zt_t, gs_zt_f, gs_nar1, gs_nar0, gs_tn, if_true, if_false, not_true_eq_false, not_false_eq_true]
        · by_cases c8 : gs_rm (gs_ad (gs_sb S 0 (p * 3 + s).toNat (-x)) 1 (p * 3 + s).toNat (-x)) (p * 3 + 0) = 0
          · simp (disch := omega) only [e_G_release, k_G_release_0, k_G_release_4, k_G_release_7, k_G_release_11, k_G_release_14, k_G_release_18, k_G_release_21, k_G_release_23, k_G_release_36, k_G_release_39, k_G_release_43, k_G_release_46, e_A_unpledge, k_A_unpledge_0, k_A_unpledge_9, k_A_unpledge_10, k_A_unpledge_16, k_A_unpledge_18, k_A_unpledge_26, k_A_unpledge_32, k_A_unpledge_35, k_A_unpledge_40, k_A_unpledge_42, k_A_unpledge_49, s_G_isParticipant, s_G_isSecurity, s_G_isAmount, s_G_holding, hp, e1, rm, e2, ↓reduceIte, Int.reduceAdd, Int.reduceSub, Int.reduceMul, Int.reduceToNat, gs_00, gs_ofi, gs_k0_m, gs_k1_m, gs_n8, gs_n16, gs_n_add, gs_n_sub, gs_n_mul, gs_n_neg, gs_m_add, gs_m_sub, gs_m_mul, gs_m_neg, gs_n_l, gs_m_n, gs_n_c, gs_eq_t, gs_eq_f1, gs_eq_f2, gs_lt_t, gs_lt_f, gs_le_t, gs_le_f, gs_cmp_lt, gs_cmp_eq, gs_cmp_gt, gs_ix_n, gs_nz_n, gs_nzl_g, gs_n_div, gs_af1, gs_af0, gs_ck0, gs_ck1, gs_ck2t, gs_ck2f, gs_ck3, gs_ck4, gs_zd_t, gs_zd_f, gs_zt_t, gs_zt_f, gs_nar1, gs_nar0, gs_tn, if_true, if_false, not_true_eq_false, not_false_eq_true]
          · simp (disch := omega) only [e_G_release, k_G_release_0, k_G_release_4, k_G_release_7, k_G_release_11, k_G_release_14, k_G_release_18, k_G_release_21, k_G_release_23, k_G_release_36, k_G_release_39, k_G_release_43, k_G_release_46, e_A_unpledge, k_A_unpledge_0, k_A_unpledge_9, k_A_unpledge_10, k_A_unpledge_16, k_A_unpledge_18, k_A_unpledge_26, k_A_unpledge_32, k_A_unpledge_35, k_A_unpledge_40, k_A_unpledge_42, k_A_unpledge_49, s_G_isParticipant, s_G_isSecurity, s_G_isAmount, s_G_holding, hp, e1, rm, e2, ↓reduceIte, Int.reduceAdd, Int.reduceSub, Int.reduceMul, Int.reduceToNat, gs_00, gs_ofi, gs_k0_m, gs_k1_m, gs_n8, gs_n16, gs_n_add, gs_n_sub, gs_n_mul, gs_n_neg, gs_m_add, gs_m_sub, gs_m_mul, gs_m_neg, gs_n_l, gs_m_n, gs_n_c, gs_eq_t, gs_eq_f1, gs_eq_f2, gs_lt_t, gs_lt_f, gs_le_t, gs_le_f, gs_cmp_lt, gs_cmp_eq, gs_cmp_gt, gs_ix_n, gs_nz_n, gs_nzl_g, gs_n_div, gs_af1, gs_af0, gs_ck0, gs_ck1, gs_ck2t, gs_ck2f, gs_ck3, gs_ck4, gs_zd_t, gs_zd_f, gs_zt_t, gs_zt_f, gs_nar1, gs_nar0, gs_tn, if_true, if_false, not_true_eq_false, not_false_eq_true]
  · rw [if_neg c]
    refine ⟨d, ?_, hC, gs_fr.rf⟩
    simp (disch := omega) only [e_G_release, k_G_release_0, k_G_release_4, k_G_release_7, k_G_release_11, k_G_release_14, k_G_release_18, k_G_release_21, k_G_release_23, k_G_release_36, k_G_release_39, k_G_release_43, k_G_release_46, s_G_isParticipant, s_G_isSecurity, s_G_isAmount, gs_zd0, gs_00, gs_ofi, gs_k0_m, gs_k1_m, gs_n8, gs_n16, gs_n_add, gs_n_sub, gs_n_mul, gs_n_neg, gs_m_add, gs_m_sub, gs_m_mul, gs_m_neg, gs_n_l, gs_m_n, gs_n_c, gs_eq_iff, gs_lt_iff, gs_le_iff, gs_cge, gs_clt, gs_cle, gs_cgt, gs_ceq, gs_ix_n, gs_nz_n, gs_nzl_g, gs_n_div, gs_af1, gs_af0, gs_ck_ite, gs_ck0, gs_ck1, gs_ck2t, gs_ck2f, gs_ck3, gs_ck4, gs_nar1, gs_nar0, gs_tn, if_true, if_false, not_true_eq_false, not_false_eq_true]
    repeat' split
    all_goals first | rfl | (exfalso; omega)
theorem s_G_limit (hC : gs_Cl 0 d S) (hw : gs_wb B S) (hv : gs_wv S) (hB : B + 70000000 ≤ 1000000000000) {p q x : Int} (p1 : -2147483648 ≤ p) (p2 : p < 2147483648) (q1 : -2147483648 ≤ q) (q2 : q < 2147483648) (x1 : -2147483648 ≤ x) (x2 : x < 2147483648) : ∃ d', f_G_limit [gs_r 0 0, gs_i (gs_n p), gs_i (gs_n q), gs_i (gs_n x)] d = some (some (gs_i (gs_n (o_limit S p q x).1)), d') ∧ gs_Cl 0 d' (o_limit S p q x).2 ∧ gs_fr d d' := by
  unfold o_limit
  by_cases c : ((0 ≤ p ∧ p < 6) ∧ (0 ≤ q ∧ q < 6) ∧ ¬ p = q) ∧ (-1 ≤ x ∧ x ≤ 1000000)
  · rw [if_pos c]
    have hn := hC.nt
    have hr := hw.1.2.2 (p * 6 + q).toNat (by omega)
    have hbb := hw.2.2.1.2.2
    by_cases c2 : ¬ x = -1 ∧ x < S.1 5 (p * 6 + q).toNat
    · rw [if_pos c2]
      refine ⟨d, ?_, hC, gs_fr.rf⟩
      simp (disch := omega) only [e_G_limit, k_G_limit_0, k_G_limit_5, k_G_limit_8, k_G_limit_13, k_G_limit_19, k_G_limit_21, k_G_limit_26, k_G_limit_41, k_G_limit_42, k_G_limit_48, k_G_limit_51, k_G_limit_66, k_G_limit_68, k_G_limit_72, s_G_areTwo, s_G_pair, hn, ↓reduceIte, Int.reduceAdd, Int.reduceSub, Int.reduceMul, Int.reduceToNat, gs_00, gs_ofi, gs_k0_m, gs_k1_m, gs_n8, gs_n16, gs_n_add, gs_n_sub, gs_n_mul, gs_n_neg, gs_m_add, gs_m_sub, gs_m_mul, gs_m_neg, gs_n_l, gs_m_n, gs_n_c, gs_eq_t, gs_eq_f1, gs_eq_f2, gs_lt_t, gs_lt_f, gs_le_t, gs_le_f, gs_cmp_lt, gs_cmp_eq, gs_cmp_gt, gs_ix_n, gs_nz_n, gs_nzl_g, gs_n_div, gs_af1, gs_af0, gs_ck0, gs_ck1, gs_ck2t, gs_ck2f, gs_ck3, gs_ck4, gs_zd_t, gs_zd_f, gs_zt_t, gs_zt_f, gs_nar1, gs_nar0, gs_tn, if_true, if_false, not_true_eq_false, not_false_eq_true]
    · rw [if_neg c2]
      have c1 := hC.wI (t := 9) (f := 4) (by omega) (p * 6 + q).toNat x
      have w1 := gs_wb_li hw (p * 6 + q).toNat (x := x) (by omega) (by omega)
      obtain ⟨d2, e2, c3, f2⟩ := s_G_goThrough c1 w1 ((gs_wv_li hv _ _).q w1) (by omega)
      refine ⟨d2, ?_, c3, (gs_fr.I rfl).tr f2⟩
      by_cases c9 : x = -1
      · subst c9
        simp (disch := omega) only [e_G_limit, k_G_limit_0, k_G_limit_5, k_G_limit_8, k_G_limit_13, k_G_limit_19, k_G_limit_21, k_G_limit_26, k_G_limit_41, k_G_limit_42, k_G_limit_48, k_G_limit_51, k_G_limit_66, k_G_limit_68, k_G_limit_72, s_G_areTwo, s_G_pair, hn, e2, ↓reduceIte, Int.reduceAdd, Int.reduceSub, Int.reduceMul, Int.reduceToNat, gs_00, gs_ofi, gs_k0_m, gs_k1_m, gs_n8, gs_n16, gs_n_add, gs_n_sub, gs_n_mul, gs_n_neg, gs_m_add, gs_m_sub, gs_m_mul, gs_m_neg, gs_n_l, gs_m_n, gs_n_c, gs_eq_t, gs_eq_f1, gs_eq_f2, gs_lt_t, gs_lt_f, gs_le_t, gs_le_f, gs_cmp_lt, gs_cmp_eq, gs_cmp_gt, gs_ix_n, gs_nz_n, gs_nzl_g, gs_n_div, gs_af1, gs_af0, gs_ck0, gs_ck1, gs_ck2t, gs_ck2f, gs_ck3, gs_ck4, gs_zd_t, gs_zd_f, gs_zt_t, gs_zt_f, gs_nar1, gs_nar0, gs_tn, if_true, if_false, not_true_eq_false, not_false_eq_true]
      · by_cases c8 : S.1 5 (p * 6 + q).toNat = x
        · simp (disch := omega) only [e_G_limit, k_G_limit_0, k_G_limit_5, k_G_limit_8, k_G_limit_13, k_G_limit_19, k_G_limit_21, k_G_limit_26, k_G_limit_41, k_G_limit_42, k_G_limit_48, k_G_limit_51, k_G_limit_66, k_G_limit_68, k_G_limit_72, s_G_areTwo, s_G_pair, hn, e2, ↓reduceIte, Int.reduceAdd, Int.reduceSub, Int.reduceMul, Int.reduceToNat, gs_00, gs_ofi, gs_k0_m, gs_k1_m, gs_n8, gs_n16, gs_n_add, gs_n_sub, gs_n_mul, gs_n_neg, gs_m_add, gs_m_sub, gs_m_mul, gs_m_neg, gs_n_l, gs_m_n, gs_n_c, gs_eq_t, gs_eq_f1, gs_eq_f2, gs_lt_t, gs_lt_f, gs_le_t, gs_le_f, gs_cmp_lt, gs_cmp_eq, gs_cmp_gt, gs_ix_n, gs_nz_n, gs_nzl_g, gs_n_div, gs_af1, gs_af0, gs_ck0, gs_ck1, gs_ck2t, gs_ck2f, gs_ck3, gs_ck4, gs_zd_t, gs_zd_f, gs_zt_t, gs_zt_f, gs_nar1, gs_nar0, gs_tn, if_true, if_false, not_true_eq_false, not_false_eq_true]
        · simp (disch := omega) only [e_G_limit, k_G_limit_0, k_G_limit_5, k_G_limit_8, k_G_limit_13, k_G_limit_19, k_G_limit_21, k_G_limit_26, k_G_limit_41, k_G_limit_42, k_G_limit_48, k_G_limit_51, k_G_limit_66, k_G_limit_68, k_G_limit_72, s_G_areTwo, s_G_pair, hn, e2, ↓reduceIte, Int.reduceAdd, Int.reduceSub, Int.reduceMul, Int.reduceToNat, gs_00, gs_ofi, gs_k0_m, gs_k1_m, gs_n8, gs_n16, gs_n_add, gs_n_sub, gs_n_mul, gs_n_neg, gs_m_add, gs_m_sub, gs_m_mul, gs_m_neg, gs_n_l, gs_m_n, gs_n_c, gs_eq_t, gs_eq_f1, gs_eq_f2, gs_lt_t, gs_lt_f, gs_le_t, gs_le_f, gs_cmp_lt, gs_cmp_eq, gs_cmp_gt, gs_ix_n, gs_nz_n, gs_nzl_g, gs_n_div, gs_af1, gs_af0, gs_ck0, gs_ck1, gs_ck2t, gs_ck2f, gs_ck3, gs_ck4, gs_zd_t, gs_zd_f, gs_zt_t, gs_zt_f, gs_nar1, gs_nar0, gs_tn, if_true, if_false, not_true_eq_false, not_false_eq_true]
  · rw [if_neg c]
    refine ⟨d, ?_, hC, gs_fr.rf⟩
    simp (disch := omega) only [e_G_limit, k_G_limit_0, k_G_limit_5, k_G_limit_8, k_G_limit_13, k_G_limit_19, k_G_limit_21, k_G_limit_26, k_G_limit_41, k_G_limit_42, k_G_limit_48, k_G_limit_51, k_G_limit_66, k_G_limit_68, k_G_limit_72, s_G_areTwo, s_G_pair, gs_zd0, gs_00, gs_ofi, gs_k0_m, gs_k1_m, gs_n8, gs_n16, gs_n_add, gs_n_sub, gs_n_mul, gs_n_neg, gs_m_add, gs_m_sub, gs_m_mul, gs_m_neg, gs_n_l, gs_m_n, gs_n_c, gs_eq_iff, gs_lt_iff, gs_le_iff, gs_cge, gs_clt, gs_cle, gs_cgt, gs_ceq, gs_ix_n, gs_nz_n, gs_nzl_g, gs_n_div, gs_af1, gs_af0, gs_ck_ite, gs_ck0, gs_ck1, gs_ck2t, gs_ck2f, gs_ck3, gs_ck4, gs_nar1, gs_nar0, gs_tn, if_true, if_false, not_true_eq_false, not_false_eq_true]
    repeat' split
    all_goals first | rfl | (exfalso; omega)
end OC
end
section
-- more calls of the component
def o_accept (S : gs_S) (g t s am mo pr : Int) : Int × gs_S := if ¬ S.1 6 0 = 1 then (-2, S) else if 10 ≤ S.2.length ∨ 40 ≤ S.1 6 1 then (-3, S) else (S.1 6 1, (gs_thr 10 (gs_cl2 (gs_nw S g t s am mo pr))).2)
def o_pay (S : gs_S) (p q x pr : Int) : Int × gs_S := if ((0 ≤ p ∧ p < 6) ∧ (0 ≤ q ∧ q < 6) ∧ ¬ p = q) ∧ (1 ≤ x ∧ x ≤ 1000000) ∧ (0 ≤ pr ∧ pr < 3) then o_accept S q p 0 0 x pr else (-1, S)
def o_deliver (S : gs_S) (p q s x : Int) : Int × gs_S := if ((0 ≤ p ∧ p < 6) ∧ (0 ≤ q ∧ q < 6) ∧ ¬ p = q) ∧ (1 ≤ s ∧ s < 3) ∧ (1 ≤ x ∧ x ≤ 1000000) then o_accept S p q s x 0 1 else (-1, S)
def o_exchange (S : gs_S) (p q s x m : Int) : Int × gs_S := if ((0 ≤ p ∧ p < 6) ∧ (0 ≤ q ∧ q < 6) ∧ ¬ p = q) ∧ (1 ≤ s ∧ s < 3) ∧ (1 ≤ x ∧ x ≤ 1000000) ∧ (1 ≤ m ∧ m ≤ 1000000) then o_accept S p q s x m 1 else (-1, S)
def o_cancel (S : gs_S) (i : Int) : Int × gs_S := if (0 ≤ i ∧ i < S.1 6 1) ∧ S.1 (10 + i.toNat) 6 = 0 then gs_thr 10 (gs_cl2 (gs_u S (10 + i.toNat) 6 2)) else (-1, S)
def o_prefer (S : gs_S) (i pr : Int) : Int × gs_S := if ((0 ≤ i ∧ i < S.1 6 1) ∧ S.1 (10 + i.toNat) 6 = 0) ∧ (0 ≤ pr ∧ pr < 3) then gs_thr 10 (gs_rp S i.toNat pr) else (-1, S)
def gs_flo (S : gs_S) : Bool := (List.range 54).all fun x => decide (0 ≤ gs_rm S (x : Nat))
theorem gs_flo_iff (S : gs_S) : gs_flo S = true ↔ gs_wg S := by
  unfold gs_flo gs_wg
  rw [List.all_eq_true]
  constructor
  · intro h x x0 x1
    have := of_decide_eq_true (h x.toNat (List.mem_range.mpr (by omega)))
    rw [show ((x.toNat : Nat) : Int) = x by omega] at this
    exact this
  · intro h x hx
    have := List.mem_range.mp hx
    exact decide_eq_true (h (x : Int) (by omega) (by omega))
def gs_tm (S : gs_S) (s pr hc : Int) : gs_S := gs_u (gs_u S 2 s.toNat pr) 3 s.toNat hc
def o_terms (S : gs_S) (s pr hc : Int) : Int × gs_S := if ((1 ≤ s ∧ s < 3) ∧ (0 ≤ pr ∧ pr ≤ 1000) ∧ (0 ≤ hc ∧ hc ≤ 100)) ∧ S.1 6 0 = 0 then (if gs_flo (gs_tm S s pr hc) = true then (1, gs_tm S s pr hc) else (0, S)) else (0, S)
def o_position (S : gs_S) (p a w : Int) : Int := if (0 ≤ p ∧ p < 6) ∧ (0 ≤ a ∧ a < 3) ∧ (0 ≤ w ∧ w < 2) then (if w = 0 then S.1 0 (p * 3 + a).toNat else S.1 1 (p * 3 + a).toNat) else -1
def o_line (S : gs_S) (p : Int) : Int := if 0 ≤ p ∧ p < 6 then gs_ln S p else -1
def o_net (S : gs_S) (p q : Int) : Int := if (0 ≤ p ∧ p < 6) ∧ (0 ≤ q ∧ q < 6) ∧ ¬ p = q then S.1 5 (p * 6 + q).toNat else 0
def o_status (S : gs_S) (i : Int) : Int := if 0 ≤ i ∧ i < S.1 6 1 then S.1 (10 + i.toNat) 6 else -1
def o_waiting (S : gs_S) (k : Int) : Int := if 0 ≤ k ∧ k < S.2.length then (gs_qa S k : Nat) else -1
def o_behind (S : gs_S) (k : Int) : Int := if 0 ≤ k ∧ k < S.2.length then gs_cah S k k.toNat else -1
section OD
variable {d : gs_D} {S : gs_S} {B : Int}
theorem s_G_accept (hC : gs_Cl 0 d S) (hw : gs_wb B S) (hv : gs_wv S) (hB : B + 70000000 ≤ 1000000000000) {g t s am mo pr : Int} (ho : gs_okn g t s am mo pr) : ∃ d', f_G_accept [gs_r 0 0, gs_i (gs_n g), gs_i (gs_n t), gs_i (gs_n s), gs_i (gs_n am), gs_i (gs_n mo), gs_i (gs_n pr)] d = some (some (gs_i (gs_n (o_accept S g t s am mo pr).1)), d') ∧ gs_Cl 0 d' (o_accept S g t s am mo pr).2 ∧ gs_fr d d' := by
  have hd := hC.dy
  have h6 := hw.2.2.1.1
  have hq := hv.q hw
  have hf := s_Q_isFull hC hw hq
  unfold o_accept
  by_cases c : ¬ S.1 6 0 = 1
  · rw [if_pos c]
    refine ⟨d, ?_, hC, gs_fr.rf⟩
    by_cases c2 : S.1 6 0 < 1
    · simp (disch := omega) only [e_G_accept, k_G_accept_0, k_G_accept_11, k_G_accept_14, k_G_accept_24, k_G_accept_27, k_G_accept_30, k_G_accept_49, k_G_accept_55, hd, ↓reduceIte, Int.reduceAdd, Int.reduceSub, Int.reduceMul, Int.reduceToNat, gs_00, gs_ofi, gs_k0_m, gs_k1_m, gs_n8, gs_n16, gs_n_add, gs_n_sub, gs_n_mul, gs_n_neg, gs_m_add, gs_m_sub, gs_m_mul, gs_m_neg, gs_n_l, gs_m_n, gs_n_c, gs_eq_t, gs_eq_f1, gs_eq_f2, gs_lt_t, gs_lt_f, gs_le_t, gs_le_f, gs_cmp_lt, gs_cmp_eq, gs_cmp_gt, gs_ix_n, gs_nz_n, gs_nzl_g, gs_n_div, gs_af1, gs_af0, gs_ck0, gs_ck1, gs_ck2t, gs_ck2f, gs_ck3, gs_ck4, gs_zd_t, gs_zd_f, gs_zt_t, gs_zt_f, gs_nar1, gs_nar0, gs_tn, if_true, if_false, not_true_eq_false, not_false_eq_true]
    · simp (disch := omega) only [e_G_accept, k_G_accept_0, k_G_accept_11, k_G_accept_14, k_G_accept_24, k_G_accept_27, k_G_accept_30, k_G_accept_49, k_G_accept_55, hd, ↓reduceIte, Int.reduceAdd, Int.reduceSub, Int.reduceMul, Int.reduceToNat, gs_00, gs_ofi, gs_k0_m, gs_k1_m, gs_n8, gs_n16, gs_n_add, gs_n_sub, gs_n_mul, gs_n_neg, gs_m_add, gs_m_sub, gs_m_mul, gs_m_neg, gs_n_l, gs_m_n, gs_n_c, gs_eq_t, gs_eq_f1, gs_eq_f2, gs_lt_t, gs_lt_f, gs_le_t, gs_le_f, gs_cmp_lt, gs_cmp_eq, gs_cmp_gt, gs_ix_n, gs_nz_n, gs_nzl_g, gs_n_div, gs_af1, gs_af0, gs_ck0, gs_ck1, gs_ck2t, gs_ck2f, gs_ck3, gs_ck4, gs_zd_t, gs_zd_f, gs_zt_t, gs_zt_f, gs_nar1, gs_nar0, gs_tn, if_true, if_false, not_true_eq_false, not_false_eq_true]
  · rw [if_neg c]
    by_cases c2 : 10 ≤ S.2.length ∨ 40 ≤ S.1 6 1
    · rw [if_pos c2]
      rw [gs_zd_t c2] at hf
      refine ⟨d, ?_, hC, gs_fr.rf⟩
      simp (disch := omega) only [e_G_accept, k_G_accept_0, k_G_accept_11, k_G_accept_14, k_G_accept_24, k_G_accept_27, k_G_accept_30, k_G_accept_49, k_G_accept_55, hd, hf, ↓reduceIte, Int.reduceAdd, Int.reduceSub, Int.reduceMul, Int.reduceToNat, gs_00, gs_ofi, gs_k0_m, gs_k1_m, gs_n8, gs_n16, gs_n_add, gs_n_sub, gs_n_mul, gs_n_neg, gs_m_add, gs_m_sub, gs_m_mul, gs_m_neg, gs_n_l, gs_m_n, gs_n_c, gs_eq_t, gs_eq_f1, gs_eq_f2, gs_lt_t, gs_lt_f, gs_le_t, gs_le_f, gs_cmp_lt, gs_cmp_eq, gs_cmp_gt, gs_ix_n, gs_nz_n, gs_nzl_g, gs_n_div, gs_af1, gs_af0, gs_ck0, gs_ck1, gs_ck2t, gs_ck2f, gs_ck3, gs_ck4, gs_zd_t, gs_zd_f, gs_zt_t, gs_zt_f, gs_nar1, gs_nar0, gs_tn, if_true, if_false, not_true_eq_false, not_false_eq_true]
    · rw [if_neg c2]
      rw [gs_zd_f c2] at hf
      obtain ⟨d1, e1, c1, f1, v1⟩ := s_Q_append hC hw hv ho (by omega) (by omega)
      have w1 : gs_wb B (gs_cl2 (gs_nw S g t s am mo pr)) := gs_wb_nw hw ho (by omega)
      obtain ⟨d2, e2, c3, f2⟩ := s_G_goThrough c1 w1 (v1.q w1) (by omega)
      refine ⟨d2, ?_, c3, f1.tr f2⟩
      simp (disch := omega) only [e_G_accept, k_G_accept_0, k_G_accept_11, k_G_accept_14, k_G_accept_24, k_G_accept_27, k_G_accept_30, k_G_accept_49, k_G_accept_55, hd, hf, e1, e2, ↓reduceIte, Int.reduceAdd, Int.reduceSub, Int.reduceMul, Int.reduceToNat, gs_00, gs_ofi, gs_k0_m, gs_k1_m, gs_n8, gs_n16, gs_n_add, gs_n_sub, gs_n_mul, gs_n_neg, gs_m_add, gs_m_sub, gs_m_mul, gs_m_neg, gs_n_l, gs_m_n, gs_n_c, gs_eq_t, gs_eq_f1, gs_eq_f2, gs_lt_t, gs_lt_f, gs_le_t, gs_le_f, gs_cmp_lt, gs_cmp_eq, gs_cmp_gt, gs_ix_n, gs_nz_n, gs_nzl_g, gs_n_div, gs_af1, gs_af0, gs_ck0, gs_ck1, gs_ck2t, gs_ck2f, gs_ck3, gs_ck4, gs_zd_t, gs_zd_f, gs_zt_t, gs_zt_f, gs_nar1, gs_nar0, gs_tn, if_true, if_false, not_true_eq_false, not_false_eq_true]
theorem s_G_pay (hC : gs_Cl 0 d S) (hw : gs_wb B S) (hv : gs_wv S) (hB : B + 70000000 ≤ 1000000000000) {p q x pr : Int} (p1 : -2147483648 ≤ p) (p2 : p < 2147483648) (q1 : -2147483648 ≤ q) (q2 : q < 2147483648) (x1 : -2147483648 ≤ x) (x2 : x < 2147483648) (r1 : -2147483648 ≤ pr) (r2 : pr < 2147483648) : ∃ d', f_G_pay [gs_r 0 0, gs_i (gs_n p), gs_i (gs_n q), gs_i (gs_n x), gs_i (gs_n pr)] d = some (some (gs_i (gs_n (o_pay S p q x pr).1)), d') ∧ gs_Cl 0 d' (o_pay S p q x pr).2 ∧ gs_fr d d' := by
  unfold o_pay
  by_cases c : ((0 ≤ p ∧ p < 6) ∧ (0 ≤ q ∧ q < 6) ∧ ¬ p = q) ∧ (1 ≤ x ∧ x ≤ 1000000) ∧ (0 ≤ pr ∧ pr < 3)
  · rw [if_pos c]
    obtain ⟨d', e, r⟩ := s_G_accept hC hw hv hB (g := q) (t := p) (s := 0) (am := 0) (mo := x) (pr := pr) (by unfold gs_okn; omega)
    refine ⟨d', ?_, r⟩
    simp (disch := omega) only [e_G_pay, k_G_pay_0, k_G_pay_5, k_G_pay_8, k_G_pay_12, k_G_pay_15, k_G_pay_20, k_G_pay_23, k_G_pay_25, k_G_pay_36, s_G_areTwo, s_G_isAmount, s_G_isPriority, e, ↓reduceIte, Int.reduceAdd, Int.reduceSub, Int.reduceMul, Int.reduceToNat, gs_00, gs_ofi, gs_k0_m, gs_k1_m, gs_n8, gs_n16, gs_n_add, gs_n_sub, gs_n_mul, gs_n_neg, gs_m_add, gs_m_sub, gs_m_mul, gs_m_neg, gs_n_l, gs_m_n, gs_n_c, gs_eq_t, gs_eq_f1, gs_eq_f2, gs_lt_t, gs_lt_f, gs_le_t, gs_le_f, gs_cmp_lt, gs_cmp_eq, gs_cmp_gt, gs_ix_n, gs_nz_n, gs_nzl_g, gs_n_div, gs_af1, gs_af0, gs_ck0, gs_ck1, gs_ck2t, gs_ck2f, gs_ck3, gs_ck4, gs_zd_t, gs_zd_f, gs_zt_t, gs_zt_f, gs_nar1, gs_nar0, gs_tn, if_true, if_false, not_true_eq_false, not_false_eq_true]
  · rw [if_neg c]
    refine ⟨d, ?_, hC, gs_fr.rf⟩
    simp (disch := omega) only [e_G_pay, k_G_pay_0, k_G_pay_5, k_G_pay_8, k_G_pay_12, k_G_pay_15, k_G_pay_20, k_G_pay_23, k_G_pay_25, k_G_pay_36, s_G_areTwo, s_G_isAmount, s_G_isPriority, gs_zd0, gs_00, gs_ofi, gs_k0_m, gs_k1_m, gs_n8, gs_n16, gs_n_add, gs_n_sub, gs_n_mul, gs_n_neg, gs_m_add, gs_m_sub, gs_m_mul, gs_m_neg, gs_n_l, gs_m_n, gs_n_c, gs_eq_iff, gs_lt_iff, gs_le_iff, gs_cge, gs_clt, gs_cle, gs_cgt, gs_ceq, gs_ix_n, gs_nz_n, gs_nzl_g, gs_n_div, gs_af1, gs_af0, gs_ck_ite, gs_ck0, gs_ck1, gs_ck2t, gs_ck2f, gs_ck3, gs_ck4, gs_nar1, gs_nar0, gs_tn, if_true, if_false, not_true_eq_false, not_false_eq_true]
    repeat' split
    all_goals first | rfl | (exfalso; omega)
theorem s_G_deliver (hC : gs_Cl 0 d S) (hw : gs_wb B S) (hv : gs_wv S) (hB : B + 70000000 ≤ 1000000000000) {p q s x : Int} (p1 : -2147483648 ≤ p) (p2 : p < 2147483648) (q1 : -2147483648 ≤ q) (q2 : q < 2147483648) (s1 : -2147483648 ≤ s) (s2 : s < 2147483648) (x1 : -2147483648 ≤ x) (x2 : x < 2147483648) : ∃ d', f_G_deliver [gs_r 0 0, gs_i (gs_n p), gs_i (gs_n q), gs_i (gs_n s), gs_i (gs_n x)] d = some (some (gs_i (gs_n (o_deliver S p q s x).1)), d') ∧ gs_Cl 0 d' (o_deliver S p q s x).2 ∧ gs_fr d d' := by
  unfold o_deliver
  by_cases c : ((0 ≤ p ∧ p < 6) ∧ (0 ≤ q ∧ q < 6) ∧ ¬ p = q) ∧ (1 ≤ s ∧ s < 3) ∧ (1 ≤ x ∧ x ≤ 1000000)
  · rw [if_pos c]
    obtain ⟨d', e, r⟩ := s_G_accept hC hw hv hB (g := p) (t := q) (s := s) (am := x) (mo := 0) (pr := 1) (by unfold gs_okn; omega)
    refine ⟨d', ?_, r⟩
    simp (disch := omega) only [e_G_deliver, k_G_deliver_0, k_G_deliver_5, k_G_deliver_8, k_G_deliver_12, k_G_deliver_15, k_G_deliver_20, k_G_deliver_23, k_G_deliver_25, k_G_deliver_36, s_G_areTwo, s_G_isAmount, s_G_isSecurity, e, ↓reduceIte, Int.reduceAdd, Int.reduceSub, Int.reduceMul, Int.reduceToNat, gs_00, gs_ofi, gs_k0_m, gs_k1_m, gs_n8, gs_n16, gs_n_add, gs_n_sub, gs_n_mul, gs_n_neg, gs_m_add, gs_m_sub, gs_m_mul, gs_m_neg, gs_n_l, gs_m_n, gs_n_c, gs_eq_t, gs_eq_f1, gs_eq_f2, gs_lt_t, gs_lt_f, gs_le_t, gs_le_f, gs_cmp_lt, gs_cmp_eq, gs_cmp_gt, gs_ix_n, gs_nz_n, gs_nzl_g, gs_n_div, gs_af1, gs_af0, gs_ck0, gs_ck1, gs_ck2t, gs_ck2f, gs_ck3, gs_ck4, gs_zd_t, gs_zd_f, gs_zt_t, gs_zt_f, gs_nar1, gs_nar0, gs_tn, if_true, if_false, not_true_eq_false, not_false_eq_true]
  · rw [if_neg c]
    refine ⟨d, ?_, hC, gs_fr.rf⟩
    simp (disch := omega) only [e_G_deliver, k_G_deliver_0, k_G_deliver_5, k_G_deliver_8, k_G_deliver_12, k_G_deliver_15, k_G_deliver_20, k_G_deliver_23, k_G_deliver_25, k_G_deliver_36, s_G_areTwo, s_G_isAmount, s_G_isSecurity, gs_zd0, gs_00, gs_ofi, gs_k0_m, gs_k1_m, gs_n8, gs_n16, gs_n_add, gs_n_sub, gs_n_mul, gs_n_neg, gs_m_add, gs_m_sub, gs_m_mul, gs_m_neg, gs_n_l, gs_m_n, gs_n_c, gs_eq_iff, gs_lt_iff, gs_le_iff, gs_cge, gs_clt, gs_cle, gs_cgt, gs_ceq, gs_ix_n, gs_nz_n, gs_nzl_g, gs_n_div, gs_af1, gs_af0, gs_ck_ite, gs_ck0, gs_ck1, gs_ck2t, gs_ck2f, gs_ck3, gs_ck4, gs_nar1, gs_nar0, gs_tn, if_true, if_false, not_true_eq_false, not_false_eq_true]
    repeat' split
    all_goals first | rfl | (exfalso; omega)
theorem s_G_exchange (hC : gs_Cl 0 d S) (hw : gs_wb B S) (hv : gs_wv S) (hB : B + 70000000 ≤ 1000000000000) {p q s x m : Int} (p1 : -2147483648 ≤ p) (p2 : p < 2147483648) (q1 : -2147483648 ≤ q) (q2 : q < 2147483648) (s1 : -2147483648 ≤ s) (s2 : s < 2147483648) (x1 : -2147483648 ≤ x) (x2 : x < 2147483648) (m1 : -2147483648 ≤ m) (m2 : m < 2147483648) : ∃ d', f_G_exchange [gs_r 0 0, gs_i (gs_n p), gs_i (gs_n q), gs_i (gs_n s), gs_i (gs_n x), gs_i (gs_n m)] d = some (some (gs_i (gs_n (o_exchange S p q s x m).1)), d') ∧ gs_Cl 0 d' (o_exchange S p q s x m).2 ∧ gs_fr d d' := by
  unfold o_exchange
  by_cases c : ((0 ≤ p ∧ p < 6) ∧ (0 ≤ q ∧ q < 6) ∧ ¬ p = q) ∧ (1 ≤ s ∧ s < 3) ∧ (1 ≤ x ∧ x ≤ 1000000) ∧ (1 ≤ m ∧ m ≤ 1000000)
  · rw [if_pos c]
    obtain ⟨d', e, r⟩ := s_G_accept hC hw hv hB (g := p) (t := q) (s := s) (am := x) (mo := m) (pr := 1) (by unfold gs_okn; omega)
    refine ⟨d', ?_, r⟩
    simp (disch := omega) only [e_G_exchange, k_G_exchange_0, k_G_exchange_5, k_G_exchange_8, k_G_exchange_12, k_G_exchange_15, k_G_exchange_20, k_G_exchange_23, k_G_exchange_28, k_G_exchange_31, k_G_exchange_33, k_G_exchange_45, s_G_areTwo, s_G_isAmount, s_G_isSecurity, e, ↓reduceIte, Int.reduceAdd, Int.reduceSub, Int.reduceMul, Int.reduceToNat, gs_00, gs_ofi, gs_k0_m, gs_k1_m, gs_n8, gs_n16, gs_n_add, gs_n_sub, gs_n_mul, gs_n_neg, gs_m_add, gs_m_sub, gs_m_mul, gs_m_neg, gs_n_l, gs_m_n, gs_n_c, gs_eq_t, gs_eq_f1, gs_eq_f2, gs_lt_t, gs_lt_f, gs_le_t, gs_le_f, gs_cmp_lt, gs_cmp_eq, gs_cmp_gt, gs_ix_n, gs_nz_n, gs_nzl_g, gs_n_div, gs_af1, gs_af0, gs_ck0, gs_ck1, gs_ck2t, gs_ck2f, gs_ck3, gs_ck4, gs_zd_t, gs_zd_f, gs_zt_t, gs_zt_f, gs_nar1, gs_nar0, gs_tn, if_true, if_false, not_true_eq_false, not_false_eq_true]
  · rw [if_neg c]
    refine ⟨d, ?_, hC, gs_fr.rf⟩
    simp (disch := omega) only [e_G_exchange, k_G_exchange_0, k_G_exchange_5, k_G_exchange_8, k_G_exchange_12, k_G_exchange_15, k_G_exchange_20, k_G_exchange_23, k_G_exchange_28, k_G_exchange_31, k_G_exchange_33, k_G_exchange_45, s_G_areTwo, s_G_isAmount, s_G_isSecurity, gs_zd0, gs_00, gs_ofi, gs_k0_m, gs_k1_m, gs_n8, gs_n16, gs_n_add, gs_n_sub, gs_n_mul, gs_n_neg, gs_m_add, gs_m_sub, gs_m_mul, gs_m_neg, gs_n_l, gs_m_n, gs_n_c, gs_eq_iff, gs_lt_iff, gs_le_iff, gs_cge, gs_clt, gs_cle, gs_cgt, gs_ceq, gs_ix_n, gs_nz_n, gs_nzl_g, gs_n_div, gs_af1, gs_af0, gs_ck_ite, gs_ck0, gs_ck1, gs_ck2t, gs_ck2f, gs_ck3, gs_ck4, gs_nar1, gs_nar0, gs_tn, if_true, if_false, not_true_eq_false, not_false_eq_true]
    repeat' split
    all_goals first | rfl | (exfalso; omega)
/-- the place of one that waits -/
theorem gs_place (hw : gs_wb B S) (hv : gs_wv S) {i k : Int} (h : (k = -1 ∧ ∀ j : Int, 0 ≤ j → j < S.2.length → ¬ (gs_qa S j : Int) = i) ∨ (0 ≤ k ∧ k < S.2.length ∧ (gs_qa S k : Int) = i)) : (k = -1 ∧ ¬ ((0 ≤ i ∧ i < S.1 6 1) ∧ S.1 (10 + i.toNat) 6 = 0)) ∨ ((0 ≤ k ∧ k < S.2.length) ∧ ((0 ≤ i ∧ i < S.1 6 1) ∧ S.1 (10 + i.toNat) 6 = 0) ∧ gs_qa S k = i.toNat) := by
  rcases h with ⟨h1, h2⟩ | ⟨h1, h2, h3⟩
  · left
    refine ⟨h1, fun z => ?_⟩
    have hm := (hv.mem hw i.toNat).mpr ⟨by omega, z.2⟩
    obtain ⟨j, hj, e⟩ := List.getElem_of_mem hm
    refine h2 (j : Int) (by omega) (by omega) ?_
    unfold gs_qa
    rw [gs_tn, gs_getD hj, e]
    omega
  · right
    have hk : k.toNat < S.2.length := by omega
    have hm : gs_qa S k ∈ S.2 := by
      unfold gs_qa
      rw [gs_getD hk]
      exact List.getElem_mem hk
    have := (hv.mem hw _).mp hm
    have e : gs_qa S k = i.toNat := by omega
    rw [e] at this
    exact ⟨⟨h1, h2⟩, ⟨⟨by omega, by omega⟩, this.2⟩, e⟩
theorem s_G_cancel (hC : gs_Cl 0 d S) (hw : gs_wb B S) (hv : gs_wv S) (hB : B + 70000000 ≤ 1000000000000) {i : Int} (i1 : -2147483648 ≤ i) (i2 : i < 2147483648) : ∃ d', f_G_cancel [gs_r 0 0, gs_i (gs_n i)] d = some (some (gs_i (gs_n (o_cancel S i).1)), d') ∧ gs_Cl 0 d' (o_cancel S i).2 ∧ gs_fr d d' := by
  have hq := hv.q hw
  have hl := hv.2
  obtain ⟨k, hk, e⟩ := s_Q_placeOf hC hw hq i1 i2
  unfold o_cancel
  rcases gs_place hw hv hk with ⟨z1, z2⟩ | ⟨z1, z2, z3⟩
  · rw [if_neg z2]
    subst z1
    refine ⟨d, ?_, hC, gs_fr.rf⟩
    simp (disch := omega) only [e_G_cancel, k_G_cancel_0, k_G_cancel_11, k_G_cancel_17, k_G_cancel_19, k_G_cancel_31, k_G_cancel_35, e, ↓reduceIte, Int.reduceAdd, Int.reduceSub, Int.reduceMul, Int.reduceToNat, gs_00, gs_ofi, gs_k0_m, gs_k1_m, gs_n8, gs_n16, gs_n_add, gs_n_sub, gs_n_mul, gs_n_neg, gs_m_add, gs_m_sub, gs_m_mul, gs_m_neg, gs_n_l, gs_m_n, gs_n_c, gs_eq_t, gs_eq_f1, gs_eq_f2, gs_lt_t, gs_lt_f, gs_le_t, gs_le_f, gs_cmp_lt, gs_cmp_eq, gs_cmp_gt, gs_ix_n, gs_nz_n, gs_nzl_g, gs_n_div, gs_af1, gs_af0, gs_ck0, gs_ck1, gs_ck2t, gs_ck2f, gs_ck3, gs_ck4, gs_zd_t, gs_zd_f, gs_zt_t, gs_zt_f, gs_nar1, gs_nar0, gs_tn, if_true, if_false, not_true_eq_false, not_false_eq_true]
  · rw [if_pos z2]
    obtain ⟨d1, e1, c1, f1, -⟩ := s_Q_leave hC hw hq (k := k) (st := 2) z1.1 z1.2
    have v1 := hv.lv hw (k := k.toNat) (by omega) (st := 2) (by omega) (by omega)
    have es : gs_lv S k.toNat 2 = gs_cl2 (gs_u S (10 + i.toNat) 6 2) := by
      have e1 : (gs_lv S k.toNat 2).1 = (gs_u S (10 + i.toNat) 6 2).1 := by
        show (gs_u S (10 + gs_qa S k) 6 2).1 = _
        rw [z3]
      have e2 := v1.1
      refine Prod.ext e1 ?_
      rw [e2]
      show gs_wl _ = gs_wl _
      unfold gs_wl gs_wp
      rw [e1]
    rw [es] at c1 v1
    have w1 : gs_wb B (gs_cl2 (gs_u S (10 + i.toNat) 6 2)) := gs_wb_st hw i.toNat (by omega) (by omega)
    obtain ⟨d2, e2, c3, f2⟩ := s_G_goThrough c1 w1 (v1.q w1) (by omega)
    refine ⟨d2, ?_, c3, f1.tr f2⟩
    simp (disch := omega) only [e_G_cancel, k_G_cancel_0, k_G_cancel_11, k_G_cancel_17, k_G_cancel_19, k_G_cancel_31, k_G_cancel_35, e, e1, e2, ↓reduceIte, Int.reduceAdd, Int.reduceSub, Int.reduceMul, Int.reduceToNat, gs_00, gs_ofi, gs_k0_m, gs_k1_m, gs_n8, gs_n16, gs_n_add, gs_n_sub, gs_n_mul, gs_n_neg, gs_m_add, gs_m_sub, gs_m_mul, gs_m_neg, gs_n_l, gs_m_n, gs_n_c, gs_eq_t, gs_eq_f1, gs_eq_f2, gs_lt_t, gs_lt_f, gs_le_t, gs_le_f, gs_cmp_lt, gs_cmp_eq, gs_cmp_gt, gs_ix_n, gs_nz_n, gs_nzl_g, gs_n_div, gs_af1, gs_af0, gs_ck0, gs_ck1, gs_ck2t, gs_ck2f, gs_ck3, gs_ck4, gs_zd_t, gs_zd_f, gs_zt_t, gs_zt_f, gs_nar1, gs_nar0, gs_tn, if_true, if_false, not_true_eq_false, not_false_eq_true]
theorem s_G_prefer (hC : gs_Cl 0 d S) (hw : gs_wb B S) (hv : gs_wv S) (hB : B + 70000000 ≤ 1000000000000) {i pr : Int} (i1 : -2147483648 ≤ i) (i2 : i < 2147483648) (r1 : -2147483648 ≤ pr) (r2 : pr < 2147483648) : ∃ d', f_G_prefer [gs_r 0 0, gs_i (gs_n i), gs_i (gs_n pr)] d = some (some (gs_i (gs_n (o_prefer S i pr).1)), d') ∧ gs_Cl 0 d' (o_prefer S i pr).2 ∧ gs_fr d d' := by
  have hq := hv.q hw
  have hl := hv.2
  obtain ⟨k, hk, e⟩ := s_Q_placeOf hC hw hq i1 i2
  unfold o_prefer
  rcases gs_place hw hv hk with ⟨z1, z2⟩ | ⟨z1, z2, z3⟩
  · rw [if_neg (fun z => z2 z.1)]
    subst z1
    refine ⟨d, ?_, hC, gs_fr.rf⟩
    simp (disch := omega) only [e_G_prefer, k_G_prefer_0, k_G_prefer_11, k_G_prefer_17, k_G_prefer_21, k_G_prefer_24, k_G_prefer_26, k_G_prefer_38, k_G_prefer_42, e, ↓reduceIte, Int.reduceAdd, Int.reduceSub, Int.reduceMul, Int.reduceToNat, gs_00, gs_ofi, gs_k0_m, gs_k1_m, gs_n8, gs_n16, gs_n_add, gs_n_sub, gs_n_mul, gs_n_neg, gs_m_add, gs_m_sub, gs_m_mul, gs_m_neg, gs_n_l, gs_m_n, gs_n_c, gs_eq_t, gs_eq_f1, gs_eq_f2, gs_lt_t, gs_lt_f, gs_le_t, gs_le_f, gs_cmp_lt, gs_cmp_eq, gs_cmp_gt, gs_ix_n, gs_nz_n, gs_nzl_g, gs_n_div, gs_af1, gs_af0, gs_ck0, gs_ck1, gs_ck2t, gs_ck2f, gs_ck3, gs_ck4, gs_zd_t, gs_zd_f, gs_zt_t, gs_zt_f, gs_nar1, gs_nar0, gs_tn, if_true, if_false, not_true_eq_false, not_false_eq_true]
  · by_cases c : 0 ≤ pr ∧ pr < 3
    · rw [if_pos ⟨z2, c⟩]
      obtain ⟨d1, e1, c1, f1, v1⟩ := s_Q_reorder hC hw hv (k := k) (pr := pr) z1.1 z1.2 c.1 c.2
      rw [z3] at c1 v1
      have w1 : gs_wb B (gs_rp S i.toNat pr) := gs_wb_pr hw i.toNat c.1 c.2
      obtain ⟨d2, e2, c3, f2⟩ := s_G_goThrough c1 w1 (v1.q w1) (by omega)
      refine ⟨d2, ?_, c3, f1.tr f2⟩
      simp (disch := omega) only [e_G_prefer, k_G_prefer_0, k_G_prefer_11, k_G_prefer_17, k_G_prefer_21, k_G_prefer_24, k_G_prefer_26, k_G_prefer_38, k_G_prefer_42, s_G_isPriority, e, e1, e2, ↓reduceIte, Int.reduceAdd, Int.reduceSub, Int.reduceMul, Int.reduceToNat, gs_00, gs_ofi, gs_k0_m, gs_k1_m, gs_n8, gs_n16, gs_n_add, gs_n_sub, gs_n_mul, gs_n_neg, gs_m_add, gs_m_sub, gs_m_mul, gs_m_neg, gs_n_l, gs_m_n, gs_n_c, gs_eq_t, gs_eq_f1, gs_eq_f2, gs_lt_t, gs_lt_f, gs_le_t, gs_le_f, gs_cmp_lt, gs_cmp_eq, gs_cmp_gt, gs_ix_n, gs_nz_n, gs_nzl_g, gs_n_div, gs_af1, gs_af0, gs_ck0, gs_ck1, gs_ck2t, gs_ck2f, gs_ck3, gs_ck4, gs_zd_t, gs_zd_f, gs_zt_t, gs_zt_f, gs_nar1, gs_nar0, gs_tn, if_true, if_false, not_true_eq_false, not_false_eq_true]
    · rw [if_neg (fun z => c z.2)]
      refine ⟨d, ?_, hC, gs_fr.rf⟩
      simp (disch := omega) only [e_G_prefer, k_G_prefer_0, k_G_prefer_11, k_G_prefer_17, k_G_prefer_21, k_G_prefer_24, k_G_prefer_26, k_G_prefer_38, k_G_prefer_42, s_G_isPriority, e, ↓reduceIte, Int.reduceAdd, Int.reduceSub, Int.reduceMul, Int.reduceToNat, gs_00, gs_ofi, gs_k0_m, gs_k1_m, gs_n8, gs_n16, gs_n_add, gs_n_sub, gs_n_mul, gs_n_neg, gs_m_add, gs_m_sub, gs_m_mul, gs_m_neg, gs_n_l, gs_m_n, gs_n_c, gs_eq_t, gs_eq_f1, gs_eq_f2, gs_lt_t, gs_lt_f, gs_le_t, gs_le_f, gs_cmp_lt, gs_cmp_eq, gs_cmp_gt, gs_ix_n, gs_nz_n, gs_nzl_g, gs_n_div, gs_af1, gs_af0, gs_ck0, gs_ck1, gs_ck2t, gs_ck2f, gs_ck3, gs_ck4, gs_zd_t, gs_zd_f, gs_zt_t, gs_zt_f, gs_nar1, gs_nar0, gs_tn, if_true, if_false, not_true_eq_false, not_false_eq_true]
theorem gs_wb_tm (hw : gs_wb B S) {s pr hc : Int} (h1 : 0 ≤ pr) (h2 : pr ≤ 1000) (h3 : 0 ≤ hc) (h4 : hc ≤ 100) : gs_wb B (gs_tm S s pr hc) := by
  have o : ∀ a c, a ≠ 2 → a ≠ 3 → (gs_tm S s pr hc).1 a c = S.1 a c := fun a c h h' => by
    unfold gs_tm
    rw [gs_u_o _ _ _ _ c h', gs_u_o _ _ _ _ c h]
  refine ⟨⟨fun k hk => ?_, fun k hk => ?_, fun k hk => ?_⟩, ⟨fun k hk => ?_, fun k hk => ?_, fun k hk => ?_⟩, ⟨?_, ?_, hw.2.2.1.2.2⟩, fun k hk => ?_⟩
  · rw [o 0 k (by omega) (by omega)]; exact hw.1.1 k hk
  · rw [o 1 k (by omega) (by omega)]; exact hw.1.2.1 k hk
  · rw [o 5 k (by omega) (by omega)]; exact hw.1.2.2 k hk
  · unfold gs_tm
    rw [gs_u_o _ _ _ _ k (by decide)]
    by_cases z : k = s.toNat
    · rw [z, gs_u_s]; exact ⟨h1, h2⟩
    · rw [gs_u_j _ _ (by omega)]; exact hw.2.1.1 k hk
  · unfold gs_tm
    by_cases z : k = s.toNat
    · rw [z, gs_u_s]; exact ⟨h3, h4⟩
    · rw [gs_u_j _ _ (by omega), gs_u_o _ _ _ _ k (by decide)]; exact hw.2.1.2.1 k hk
  · rw [o 4 k (by omega) (by omega)]; exact hw.2.1.2.2 k hk
  · rw [o 6 0 (by omega) (by omega)]; exact hw.2.2.1.1
  · rw [o 6 1 (by omega) (by omega)]; exact hw.2.2.1.2.1
  · rw [o 6 1 (by omega) (by omega)] at hk
    exact gs_iok_cg (hw.2.2.2 k hk) fun c _ => o _ c (by omega) (by omega)
theorem s_A_reprice (hC : gs_Cl 0 d S) (hw : gs_wb B S) {s pr hc : Int} (s1 : 1 ≤ s) (s2 : s < 3) (h1 : 0 ≤ pr) (h2 : pr ≤ 1000) (h3 : 0 ≤ hc) (h4 : hc ≤ 100) : ∃ d', f_A_reprice [gs_r 3 0, gs_i (gs_n s), gs_i (gs_n pr), gs_i (gs_n hc)] d = some (some (gs_i (gs_n (gs_z (gs_flo (gs_tm S s pr hc))))), d') ∧ gs_Cl 0 d' (if gs_flo (gs_tm S s pr hc) = true then gs_tm S s pr hc else S) ∧ gs_fr d d' := by
  have c1 := hC.wI (t := 7) (f := 2) (by omega) s.toNat pr
  have c2 := c1.wI (t := 8) (f := 3) (by omega) s.toNat hc
  have hp := hC.pr s.toNat (by omega)
  have hh := hC.hc s.toNat (by omega)
  obtain ⟨x, hx, e⟩ := s_A_firstBelowFloor c2 (gs_wb_tm hw h1 h2 h3 h4)
  rcases hx with ⟨z1, z2⟩ | ⟨z1, z2, z3⟩
  · subst z1
    have hf : gs_flo (gs_tm S s pr hc) = true := (gs_flo_iff _).mpr z2
    rw [hf, if_pos rfl]
    refine ⟨_, ?_, c2, (gs_fr.I rfl).tr (gs_fr.I rfl)⟩
    simp (disch := omega) only [e_A_reprice, k_A_reprice_0, k_A_reprice_6, k_A_reprice_14, k_A_reprice_23, k_A_reprice_30, k_A_reprice_34, k_A_reprice_38, k_A_reprice_40, k_A_reprice_48, k_A_reprice_56, hp, hh, e, ↓reduceIte, Int.reduceAdd, Int.reduceSub, Int.reduceMul, Int.reduceToNat, gs_00, gs_ofi, gs_k0_m, gs_k1_m, gs_n8, gs_n16, gs_n_add, gs_n_sub, gs_n_mul, gs_n_neg, gs_m_add, gs_m_sub, gs_m_mul, gs_m_neg, gs_n_l, gs_m_n, gs_n_c, gs_eq_t, gs_eq_f1, gs_eq_f2, gs_lt_t, gs_lt_f, gs_le_t, gs_le_f, gs_cmp_lt, gs_cmp_eq, gs_cmp_gt, gs_ix_n, gs_nz_n, gs_nzl_g, gs_n_div, gs_af1, gs_af0, gs_ck0, gs_ck1, gs_ck2t, gs_ck2f, gs_ck3, gs_ck4, gs_zd_t, gs_zd_f, gs_zt_t, gs_zt_f, gs_nar1, gs_nar0, gs_tn, if_true, if_false, not_true_eq_false, not_false_eq_true]
  · have hf : gs_flo (gs_tm S s pr hc) = false := by
      cases hb : gs_flo (gs_tm S s pr hc)
      · rfl
      · have := (gs_flo_iff _).mp hb x z1 z2
        have z3 : gs_rm (gs_tm S s pr hc) x < 0 := z3
        omega
    rw [hf, if_neg (by decide)]
    have c3 := c2.wI (t := 7) (f := 2) (by omega) s.toNat (S.1 2 s.toNat)
    have c4 := c3.wI (t := 8) (f := 3) (by omega) s.toNat (S.1 3 s.toNat)
    have hh2 : (gs_wI d 7 0 s.toNat (gs_n pr)).1 8 0 s.toNat = gs_n (S.1 3 s.toNat) := by rw [gs_wI_o (by omega)]; exact hh
    refine ⟨_, ?_, c4.cg (fun f j => ?_) rfl, (((gs_fr.I rfl).tr (gs_fr.I rfl)).tr (gs_fr.I rfl)).tr (gs_fr.I rfl)⟩
    · simp (disch := omega) only [e_A_reprice, k_A_reprice_0, k_A_reprice_6, k_A_reprice_14, k_A_reprice_23, k_A_reprice_30, k_A_reprice_34, k_A_reprice_38, k_A_reprice_40, k_A_reprice_48, k_A_reprice_56, hp, hh, hh2, e, ↓reduceIte, Int.reduceAdd, Int.reduceSub, Int.reduceMul, Int.reduceToNat, gs_00, gs_ofi, gs_k0_m, gs_k1_m, gs_n8, gs_n16, gs_n_add, gs_n_sub, gs_n_mul, gs_n_neg, gs_m_add, gs_m_sub, gs_m_mul, gs_m_neg, gs_n_l, gs_m_n, gs_n_c, gs_eq_t, gs_eq_f1, gs_eq_f2, gs_lt_t, gs_lt_f, gs_le_t, gs_le_f, gs_cmp_lt, gs_cmp_eq, gs_cmp_gt, gs_ix_n, gs_nz_n, gs_nzl_g, gs_n_div, gs_af1, gs_af0, gs_ck0, gs_ck1, gs_ck2t, gs_ck2f, gs_ck3, gs_ck4, gs_zd_t, gs_zd_f, gs_zt_t, gs_zt_f, gs_nar1, gs_nar0, gs_tn, if_true, if_false, not_true_eq_false, not_false_eq_true]
    · by_cases y3 : f = 3 ∧ j = s.toNat
      · rw [y3.1, y3.2, gs_u_s]
      · rw [gs_u_j _ _ y3]
        by_cases y2 : f = 2 ∧ j = s.toNat
        · rw [y2.1, y2.2, gs_u_s]
        · rw [gs_u_j _ _ y2, gs_u_j _ _ y3, gs_u_j _ _ y2]
theorem s_G_terms (hC : gs_Cl 0 d S) (hw : gs_wb B S) {s pr hc : Int} (s1 : -2147483648 ≤ s) (s2 : s < 2147483648) (r1 : -2147483648 ≤ pr) (r2 : pr < 2147483648) (h1 : -2147483648 ≤ hc) (h2 : hc < 2147483648) : ∃ d', f_G_terms [gs_r 0 0, gs_i (gs_n s), gs_i (gs_n pr), gs_i (gs_n hc)] d = some (some (gs_i (gs_n (o_terms S s pr hc).1)), d') ∧ gs_Cl 0 d' (o_terms S s pr hc).2 ∧ gs_fr d d' := by
  have hd := hC.dy
  have h6 := hw.2.2.1.1
  unfold o_terms
  by_cases c : ((1 ≤ s ∧ s < 3) ∧ (0 ≤ pr ∧ pr ≤ 1000) ∧ (0 ≤ hc ∧ hc ≤ 100)) ∧ S.1 6 0 = 0
  · rw [if_pos c]
    obtain ⟨d', e, c1, f1⟩ := s_A_reprice hC hw (s := s) (pr := pr) (hc := hc) (by omega) (by omega) (by omega) (by omega) (by omega) (by omega)
    cases hf : gs_flo (gs_tm S s pr hc)
    · rw [hf] at e c1
      rw [if_neg (by decide)] at c1 ⊢
      refine ⟨d', ?_, c1, f1⟩
      simp (disch := omega) only [e_G_terms, k_G_terms_0, k_G_terms_4, k_G_terms_7, k_G_terms_11, k_G_terms_18, k_G_terms_20, k_G_terms_24, k_G_terms_30, k_G_terms_40, k_G_terms_42, k_G_terms_55, s_G_isSecurity, hd, e, ↓reduceIte, Int.reduceAdd, Int.reduceSub, Int.reduceMul, Int.reduceToNat, gs_00, gs_ofi, gs_k0_m, gs_k1_m, gs_n8, gs_n16, gs_n_add, gs_n_sub, gs_n_mul, gs_n_neg, gs_m_add, gs_m_sub, gs_m_mul, gs_m_neg, gs_n_l, gs_m_n, gs_n_c, gs_eq_t, gs_eq_f1, gs_eq_f2, gs_lt_t, gs_lt_f, gs_le_t, gs_le_f, gs_cmp_lt, gs_cmp_eq, gs_cmp_gt, gs_ix_n, gs_nz_n, gs_nzl_g, gs_n_div, gs_af1, gs_af0, gs_ck0, gs_ck1, gs_ck2t, gs_ck2f, gs_ck3, gs_ck4, gs_zd_t, gs_zd_f, gs_zt_t, gs_zt_f, gs_nar1, gs_nar0, gs_tn, if_true, if_false, not_true_eq_false, not_false_eq_true]
    · rw [hf] at e c1
      rw [if_pos rfl] at c1 ⊢
      refine ⟨d', ?_, c1, f1⟩
      simp (disch := omega) only [e_G_terms, k_G_terms_0, k_G_terms_4, k_G_terms_7, k_G_terms_11, k_G_terms_18, k_G_terms_20, k_G_terms_24, k_G_terms_30, k_G_terms_40, k_G_terms_42, k_G_terms_55, s_G_isSecurity, hd, e, ↓reduceIte, Int.reduceAdd, Int.reduceSub, Int.reduceMul, Int.reduceToNat, gs_00, gs_ofi, gs_k0_m, gs_k1_m, gs_n8, gs_n16, gs_n_add, gs_n_sub, gs_n_mul, gs_n_neg, gs_m_add, gs_m_sub, gs_m_mul, gs_m_neg, gs_n_l, gs_m_n, gs_n_c, gs_eq_t, gs_eq_f1, gs_eq_f2, gs_lt_t, gs_lt_f, gs_le_t, gs_le_f, gs_cmp_lt, gs_cmp_eq, gs_cmp_gt, gs_ix_n, gs_nz_n, gs_nzl_g, gs_n_div, gs_af1, gs_af0, gs_ck0, gs_ck1, gs_ck2t, gs_ck2f, gs_ck3, gs_ck4, gs_zd_t, gs_zd_f, gs_zt_t, gs_zt_f, gs_nar1, gs_nar0, gs_tn, if_true, if_false, not_true_eq_false, not_false_eq_true]
  · rw [if_neg c]
    refine ⟨d, ?_, hC, gs_fr.rf⟩
    simp (disch := omega) only [e_G_terms, k_G_terms_0, k_G_terms_4, k_G_terms_7, k_G_terms_11, k_G_terms_18, k_G_terms_20, k_G_terms_24, k_G_terms_30, k_G_terms_40, k_G_terms_42, k_G_terms_55, s_G_isSecurity, hd, gs_zd0, gs_00, gs_ofi, gs_k0_m, gs_k1_m, gs_n8, gs_n16, gs_n_add, gs_n_sub, gs_n_mul, gs_n_neg, gs_m_add, gs_m_sub, gs_m_mul, gs_m_neg, gs_n_l, gs_m_n, gs_n_c, gs_eq_iff, gs_lt_iff, gs_le_iff, gs_cge, gs_clt, gs_cle, gs_cgt, gs_ceq, gs_ix_n, gs_nz_n, gs_nzl_g, gs_n_div, gs_af1, gs_af0, gs_ck_ite, gs_ck0, gs_ck1, gs_ck2t, gs_ck2f, gs_ck3, gs_ck4, gs_nar1, gs_nar0, gs_tn, if_true, if_false, not_true_eq_false, not_false_eq_true]
    repeat' split
    all_goals first | rfl | (exfalso; omega)
-- questions
theorem s_G_position (hC : gs_Cl 0 d S) {p a w : Int} (p1 : -2147483648 ≤ p) (p2 : p < 2147483648) (a1 : -2147483648 ≤ a) (a2 : a < 2147483648) (w1 : -2147483648 ≤ w) (w2 : w < 2147483648) : f_G_position [gs_r 0 0, gs_i (gs_n p), gs_i (gs_n a), gs_i (gs_n w)] d = some (some (gs_l (gs_m (o_position S p a w))), d) := by
  unfold o_position
  by_cases c : (0 ≤ p ∧ p < 6) ∧ (0 ≤ a ∧ a < 3) ∧ (0 ≤ w ∧ w < 2)
  · rw [if_pos c]
    have hh := hC.h
    have hp := hC.p
    by_cases c2 : w = 0
    · rw [if_pos c2]
      simp (disch := omega) only [e_G_position, k_G_position_0, k_G_position_4, k_G_position_7, k_G_position_11, k_G_position_14, k_G_position_18, k_G_position_23, k_G_position_27, k_G_position_31, k_G_position_44, k_G_position_63a, k_G_position_63b, k_G_position_64a, k_G_position_64b, s_G_isParticipant, s_G_isAsset, s_G_holding, hh, ↓reduceIte, Int.reduceAdd, Int.reduceSub, Int.reduceMul, Int.reduceToNat, gs_00, gs_ofi, gs_k0_m, gs_k1_m, gs_n8, gs_n16, gs_n_add, gs_n_sub, gs_n_mul, gs_n_neg, gs_m_add, gs_m_sub, gs_m_mul, gs_m_neg, gs_n_l, gs_m_n, gs_n_c, gs_eq_t, gs_eq_f1, gs_eq_f2, gs_lt_t, gs_lt_f, gs_le_t, gs_le_f, gs_cmp_lt, gs_cmp_eq, gs_cmp_gt, gs_ix_n, gs_nz_n, gs_nzl_g, gs_n_div, gs_af1, gs_af0, gs_ck0, gs_ck1, gs_ck2t, gs_ck2f, gs_ck3, gs_ck4, gs_zd_t, gs_zd_f, gs_zt_t, gs_zt_f, gs_nar1, gs_nar0, gs_tn, if_true, if_false, not_true_eq_false, not_false_eq_true]
    · rw [if_neg c2]
      simp (disch := omega) only [e_G_position, k_G_position_0, k_G_position_4, k_G_position_7, k_G_position_11, k_G_position_14, k_G_position_18, k_G_position_23, k_G_position_27, k_G_position_31, k_G_position_44, k_G_position_63a, k_G_position_63b, k_G_position_64a, k_G_position_64b, s_G_isParticipant, s_G_isAsset, s_G_holding, hp, ↓reduceIte, Int.reduceAdd, Int.reduceSub, Int.reduceMul, Int.reduceToNat, gs_00, gs_ofi, gs_k0_m, gs_k1_m, gs_n8, gs_n16, gs_n_add, gs_n_sub, gs_n_mul, gs_n_neg, gs_m_add, gs_m_sub, gs_m_mul, gs_m_neg, gs_n_l, gs_m_n, gs_n_c, gs_eq_t, gs_eq_f1, gs_eq_f2, gs_lt_t, gs_lt_f, gs_le_t, gs_le_f, gs_cmp_lt, gs_cmp_eq, gs_cmp_gt, gs_ix_n, gs_nz_n, gs_nzl_g, gs_n_div, gs_af1, gs_af0, gs_ck0, gs_ck1, gs_ck2t, gs_ck2f, gs_ck3, gs_ck4, gs_zd_t, gs_zd_f, gs_zt_t, gs_zt_f, gs_nar1, gs_nar0, gs_tn, if_true, if_false, not_true_eq_false, not_false_eq_true]
  · rw [if_neg c]
    simp (disch := omega) only [e_G_position, k_G_position_0, k_G_position_4, k_G_position_7, k_G_position_11, k_G_position_14, k_G_position_18, k_G_position_23, k_G_position_27, k_G_position_31, k_G_position_44, k_G_position_63a, k_G_position_63b, k_G_position_64a, k_G_position_64b, s_G_isParticipant, s_G_isAsset, s_G_holding, gs_zd0, gs_00, gs_ofi, gs_k0_m, gs_k1_m, gs_n8, gs_n16, gs_n_add, gs_n_sub, gs_n_mul, gs_n_neg, gs_m_add, gs_m_sub, gs_m_mul, gs_m_neg, gs_n_l, gs_m_n, gs_n_c, gs_eq_iff, gs_lt_iff, gs_le_iff, gs_cge, gs_clt, gs_cle, gs_cgt, gs_ceq, gs_ix_n, gs_nz_n, gs_nzl_g, gs_n_div, gs_af1, gs_af0, gs_ck_ite, gs_ck0, gs_ck1, gs_ck2t, gs_ck2f, gs_ck3, gs_ck4, gs_nar1, gs_nar0, gs_tn, if_true, if_false, not_true_eq_false, not_false_eq_true]
    repeat' split
    all_goals first | rfl | (exfalso; omega)
theorem s_G_line (hC : gs_Cl 0 d S) (hw : gs_wb B S) {p : Int} (p1 : -2147483648 ≤ p) (p2 : p < 2147483648) : f_G_line [gs_r 0 0, gs_i (gs_n p)] d = some (some (gs_l (gs_m (o_line S p))), d) := by
  unfold o_line
  by_cases c : 0 ≤ p ∧ p < 6
  · rw [if_pos c]
    have e := s_A_creditOf hC hw c.1 c.2
    simp (disch := omega) only [e_G_line, k_G_line_0, k_G_line_4, k_G_line_7, k_G_line_18, k_G_line_21, s_G_isParticipant, e, ↓reduceIte, Int.reduceAdd, Int.reduceSub, Int.reduceMul, Int.reduceToNat, gs_00, gs_ofi, gs_k0_m, gs_k1_m, gs_n8, gs_n16, gs_n_add, gs_n_sub, gs_n_mul, gs_n_neg, gs_m_add, gs_m_sub, gs_m_mul, gs_m_neg, gs_n_l, gs_m_n, gs_n_c, gs_eq_t, gs_eq_f1, gs_eq_f2, gs_lt_t, gs_lt_f, gs_le_t, gs_le_f, gs_cmp_lt, gs_cmp_eq, gs_cmp_gt, gs_ix_n, gs_nz_n, gs_nzl_g, gs_n_div, gs_af1, gs_af0, gs_ck0, gs_ck1, gs_ck2t, gs_ck2f, gs_ck3, gs_ck4, gs_zd_t, gs_zd_f, gs_zt_t, gs_zt_f, gs_nar1, gs_nar0, gs_tn, if_true, if_false, not_true_eq_false, not_false_eq_true]
  · rw [if_neg c]
    simp (disch := omega) only [e_G_line, k_G_line_0, k_G_line_4, k_G_line_7, k_G_line_18, k_G_line_21, s_G_isParticipant, ↓reduceIte, Int.reduceAdd, Int.reduceSub, Int.reduceMul, Int.reduceToNat, gs_00, gs_ofi, gs_k0_m, gs_k1_m, gs_n8, gs_n16, gs_n_add, gs_n_sub, gs_n_mul, gs_n_neg, gs_m_add, gs_m_sub, gs_m_mul, gs_m_neg, gs_n_l, gs_m_n, gs_n_c, gs_eq_t, gs_eq_f1, gs_eq_f2, gs_lt_t, gs_lt_f, gs_le_t, gs_le_f, gs_cmp_lt, gs_cmp_eq, gs_cmp_gt, gs_ix_n, gs_nz_n, gs_nzl_g, gs_n_div, gs_af1, gs_af0, gs_ck0, gs_ck1, gs_ck2t, gs_ck2f, gs_ck3, gs_ck4, gs_zd_t, gs_zd_f, gs_zt_t, gs_zt_f, gs_nar1, gs_nar0, gs_tn, if_true, if_false, not_true_eq_false, not_false_eq_true]
theorem s_G_net (hC : gs_Cl 0 d S) {p q : Int} (p1 : -2147483648 ≤ p) (p2 : p < 2147483648) (q1 : -2147483648 ≤ q) (q2 : q < 2147483648) : f_G_net [gs_r 0 0, gs_i (gs_n p), gs_i (gs_n q)] d = some (some (gs_l (gs_m (o_net S p q))), d) := by
  unfold o_net
  by_cases c : (0 ≤ p ∧ p < 6) ∧ (0 ≤ q ∧ q < 6) ∧ ¬ p = q
  · rw [if_pos c]
    have hn := hC.nt
    simp (disch := omega) only [e_G_net, k_G_net_0, k_G_net_5, k_G_net_8, k_G_net_23, k_G_net_24, k_G_net_27, s_G_areTwo, s_G_pair, hn, ↓reduceIte, Int.reduceAdd, Int.reduceSub, Int.reduceMul, Int.reduceToNat, gs_00, gs_ofi, gs_k0_m, gs_k1_m, gs_n8, gs_n16, gs_n_add, gs_n_sub, gs_n_mul, gs_n_neg, gs_m_add, gs_m_sub, gs_m_mul, gs_m_neg, gs_n_l, gs_m_n, gs_n_c, gs_eq_t, gs_eq_f1, gs_eq_f2, gs_lt_t, gs_lt_f, gs_le_t, gs_le_f, gs_cmp_lt, gs_cmp_eq, gs_cmp_gt, gs_ix_n, gs_nz_n, gs_nzl_g, gs_n_div, gs_af1, gs_af0, gs_ck0, gs_ck1, gs_ck2t, gs_ck2f, gs_ck3, gs_ck4, gs_zd_t, gs_zd_f, gs_zt_t, gs_zt_f, gs_nar1, gs_nar0, gs_tn, if_true, if_false, not_true_eq_false, not_false_eq_true]
  · rw [if_neg c]
    simp (disch := omega) only [e_G_net, k_G_net_0, k_G_net_5, k_G_net_8, k_G_net_23, k_G_net_24, k_G_net_27, s_G_areTwo, ↓reduceIte, Int.reduceAdd, Int.reduceSub, Int.reduceMul, Int.reduceToNat, gs_00, gs_ofi, gs_k0_m, gs_k1_m, gs_n8, gs_n16, gs_n_add, gs_n_sub, gs_n_mul, gs_n_neg, gs_m_add, gs_m_sub, gs_m_mul, gs_m_neg, gs_n_l, gs_m_n, gs_n_c, gs_eq_t, gs_eq_f1, gs_eq_f2, gs_lt_t, gs_lt_f, gs_le_t, gs_le_f, gs_cmp_lt, gs_cmp_eq, gs_cmp_gt, gs_ix_n, gs_nz_n, gs_nzl_g, gs_n_div, gs_af1, gs_af0, gs_ck0, gs_ck1, gs_ck2t, gs_ck2f, gs_ck3, gs_ck4, gs_zd_t, gs_zd_f, gs_zt_t, gs_zt_f, gs_nar1, gs_nar0, gs_tn, if_true, if_false, not_true_eq_false, not_false_eq_true]
theorem s_G_status (hC : gs_Cl 0 d S) (hw : gs_wb B S) {i : Int} (i1 : -2147483648 ≤ i) (i2 : i < 2147483648) : f_G_status [gs_r 0 0, gs_i (gs_n i)] d = some (some (gs_i (gs_n (o_status S i))), d) := by
  unfold o_status
  have h6 := hw.2.2.1.2.1
  have e := s_Q_isNumber hC hw i1 i2
  by_cases c : 0 ≤ i ∧ i < S.1 6 1
  · rw [if_pos c]
    have hI := hC.is i.toNat 6 (by omega) (by omega)
    simp (disch := omega) only [e_G_status, k_G_status_0, k_G_status_11, k_G_status_14, k_G_status_26, k_G_status_32, e, hI, ↓reduceIte, Int.reduceAdd, Int.reduceSub, Int.reduceMul, Int.reduceToNat, gs_00, gs_ofi, gs_k0_m, gs_k1_m, gs_n8, gs_n16, gs_n_add, gs_n_sub, gs_n_mul, gs_n_neg, gs_m_add, gs_m_sub, gs_m_mul, gs_m_neg, gs_n_l, gs_m_n, gs_n_c, gs_eq_t, gs_eq_f1, gs_eq_f2, gs_lt_t, gs_lt_f, gs_le_t, gs_le_f, gs_cmp_lt, gs_cmp_eq, gs_cmp_gt, gs_ix_n, gs_nz_n, gs_nzl_g, gs_n_div, gs_af1, gs_af0, gs_ck0, gs_ck1, gs_ck2t, gs_ck2f, gs_ck3, gs_ck4, gs_zd_t, gs_zd_f, gs_zt_t, gs_zt_f, gs_nar1, gs_nar0, gs_tn, if_true, if_false, not_true_eq_false, not_false_eq_true]
  · rw [if_neg c]
    simp (disch := omega) only [e_G_status, k_G_status_0, k_G_status_11, k_G_status_14, k_G_status_26, k_G_status_32, e, ↓reduceIte, Int.reduceAdd, Int.reduceSub, Int.reduceMul, Int.reduceToNat, gs_00, gs_ofi, gs_k0_m, gs_k1_m, gs_n8, gs_n16, gs_n_add, gs_n_sub, gs_n_mul, gs_n_neg, gs_m_add, gs_m_sub, gs_m_mul, gs_m_neg, gs_n_l, gs_m_n, gs_n_c, gs_eq_t, gs_eq_f1, gs_eq_f2, gs_lt_t, gs_lt_f, gs_le_t, gs_le_f, gs_cmp_lt, gs_cmp_eq, gs_cmp_gt, gs_ix_n, gs_nz_n, gs_nzl_g, gs_n_div, gs_af1, gs_af0, gs_ck0, gs_ck1, gs_ck2t, gs_ck2f, gs_ck3, gs_ck4, gs_zd_t, gs_zd_f, gs_zt_t, gs_zt_f, gs_nar1, gs_nar0, gs_tn, if_true, if_false, not_true_eq_false, not_false_eq_true]
theorem s_G_waiting (hC : gs_Cl 0 d S) (hw : gs_wb B S) (hv : gs_wv S) {k : Int} (k1 : -2147483648 ≤ k) (k2 : k < 2147483648) : f_G_waiting [gs_r 0 0, gs_i (gs_n k)] d = some (some (gs_i (gs_n (o_waiting S k))), d) := by
  unfold o_waiting
  have hl := hv.2
  have e := s_Q_isPlace hC (hv.q hw) k1 k2
  by_cases c : 0 ≤ k ∧ k < S.2.length
  · rw [if_pos c]
    have ho := hC.oi k c.1 c.2
    simp (disch := omega) only [e_G_waiting, k_G_waiting_0, k_G_waiting_11, k_G_waiting_14, k_G_waiting_26, k_G_waiting_29, e, ho, ↓reduceIte, Int.reduceAdd, Int.reduceSub, Int.reduceMul, Int.reduceToNat, gs_00, gs_ofi, gs_k0_m, gs_k1_m, gs_n8, gs_n16, gs_n_add, gs_n_sub, gs_n_mul, gs_n_neg, gs_m_add, gs_m_sub, gs_m_mul, gs_m_neg, gs_n_l, gs_m_n, gs_n_c, gs_eq_t, gs_eq_f1, gs_eq_f2, gs_lt_t, gs_lt_f, gs_le_t, gs_le_f, gs_cmp_lt, gs_cmp_eq, gs_cmp_gt, gs_ix_n, gs_nz_n, gs_nzl_g, gs_n_div, gs_af1, gs_af0, gs_ck0, gs_ck1, gs_ck2t, gs_ck2f, gs_ck3, gs_ck4, gs_zd_t, gs_zd_f, gs_zt_t, gs_zt_f, gs_nar1, gs_nar0, gs_tn, if_true, if_false, not_true_eq_false, not_false_eq_true]
  · rw [if_neg c]
    simp (disch := omega) only [e_G_waiting, k_G_waiting_0, k_G_waiting_11, k_G_waiting_14, k_G_waiting_26, k_G_waiting_29, e, ↓reduceIte, Int.reduceAdd, Int.reduceSub, Int.reduceMul, Int.reduceToNat, gs_00, gs_ofi, gs_k0_m, gs_k1_m, gs_n8, gs_n16, gs_n_add, gs_n_sub, gs_n_mul, gs_n_neg, gs_m_add, gs_m_sub, gs_m_mul, gs_m_neg, gs_n_l, gs_m_n, gs_n_c, gs_eq_t, gs_eq_f1, gs_eq_f2, gs_lt_t, gs_lt_f, gs_le_t, gs_le_f, gs_cmp_lt, gs_cmp_eq, gs_cmp_gt, gs_ix_n, gs_nz_n, gs_nzl_g, gs_n_div, gs_af1, gs_af0, gs_ck0, gs_ck1, gs_ck2t, gs_ck2f, gs_ck3, gs_ck4, gs_zd_t, gs_zd_f, gs_zt_t, gs_zt_f, gs_nar1, gs_nar0, gs_tn, if_true, if_false, not_true_eq_false, not_false_eq_true]
theorem s_G_behind (hC : gs_Cl 0 d S) (hw : gs_wb B S) (hv : gs_wv S) {k : Int} (k1 : -2147483648 ≤ k) (k2 : k < 2147483648) : f_G_behind [gs_r 0 0, gs_i (gs_n k)] d = some (some (gs_i (gs_n (o_behind S k))), d) := by
  unfold o_behind
  have hl := hv.2
  have e := s_Q_isPlace hC (hv.q hw) k1 k2
  by_cases c : 0 ≤ k ∧ k < S.2.length
  · rw [if_pos c]
    have ho := s_Q_countAhead hC hw (hv.q hw) c.1 c.2
    simp (disch := omega) only [e_G_behind, k_G_behind_0, k_G_behind_11, k_G_behind_14, k_G_behind_25, k_G_behind_28, e, ho, ↓reduceIte, Int.reduceAdd, Int.reduceSub, Int.reduceMul, Int.reduceToNat, gs_00, gs_ofi, gs_k0_m, gs_k1_m, gs_n8, gs_n16, gs_n_add, gs_n_sub, gs_n_mul, gs_n_neg, gs_m_add, gs_m_sub, gs_m_mul, gs_m_neg, gs_n_l, gs_m_n, gs_n_c, gs_eq_t, gs_eq_f1, gs_eq_f2, gs_lt_t, gs_lt_f, gs_le_t, gs_le_f, gs_cmp_lt, gs_cmp_eq, gs_cmp_gt, gs_ix_n, gs_nz_n, gs_nzl_g, gs_n_div, gs_af1, gs_af0, gs_ck0, gs_ck1, gs_ck2t, gs_ck2f, gs_ck3, gs_ck4, gs_zd_t, gs_zd_f, gs_zt_t, gs_zt_f, gs_nar1, gs_nar0, gs_tn, if_true, if_false, not_true_eq_false, not_false_eq_true]
  · rw [if_neg c]
    simp (disch := omega) only [e_G_behind, k_G_behind_0, k_G_behind_11, k_G_behind_14, k_G_behind_25, k_G_behind_28, e, ↓reduceIte, Int.reduceAdd, Int.reduceSub, Int.reduceMul, Int.reduceToNat, gs_00, gs_ofi, gs_k0_m, gs_k1_m, gs_n8, gs_n16, gs_n_add, gs_n_sub, gs_n_mul, gs_n_neg, gs_m_add, gs_m_sub, gs_m_mul, gs_m_neg, gs_n_l, gs_m_n, gs_n_c, gs_eq_t, gs_eq_f1, gs_eq_f2, gs_lt_t, gs_lt_f, gs_le_t, gs_le_f, gs_cmp_lt, gs_cmp_eq, gs_cmp_gt, gs_ix_n, gs_nz_n, gs_nzl_g, gs_n_div, gs_af1, gs_af0, gs_ck0, gs_ck1, gs_ck2t, gs_ck2f, gs_ck3, gs_ck4, gs_zd_t, gs_zd_f, gs_zt_t, gs_zt_f, gs_nar1, gs_nar0, gs_tn, if_true, if_false, not_true_eq_false, not_false_eq_true]
end OD
end
section
-- one book copied over the other
def gs_c3 (d : gs_D) (t b b' N : Nat) : gs_D := (d.1, fun t0 i0 => if t0 = t ∧ i0 = b then va_cpy (d.2 t b') (d.2 t b) 0 0 N else d.2 t0 i0)
def gs_c1a (d : gs_D) (t b b' N : Nat) : gs_D := (fun t0 i0 => if t0 = t ∧ i0 = b then va_cpy (d.1 t b') (d.1 t b) 0 0 N else d.1 t0 i0, d.2)
theorem gs_ac_c {N : Nat} (hN : N < 1000) {n : Nat} (hn : n = N) : decide (¬ gs_n 0 < 0 ∧ ¬ gs_n 0 < 0 ∧ ¬ gs_n (N : Int) < 0 ∧ (gs_n 0).toNatClampNeg + (gs_n (N : Int)).toNatClampNeg ≤ n ∧ (gs_n 0).toNatClampNeg + (gs_n (N : Int)).toNatClampNeg ≤ n) = true := by
  rw [decide_eq_true_iff, gs_00, gs_n_c (by omega) (by omega), gs_n_c (by omega) (by omega), gs_lt_iff (by omega) (by omega) (by omega) (by omega), gs_lt_iff (by omega) (by omega) (by omega) (by omega)]
  omega
theorem s_ac3 {d : gs_D} {t b b' N : Nat} (hk : (Y0.1 t).1 = 3) (hn : (Y0.1 t).2.2 = N) (hN : N < 1000) : f_S_arraycopy [gs_r t b', gs_i (gs_n 0), gs_r t b, gs_i (gs_n 0), gs_i (gs_n (N : Int))] d = some (none, gs_c3 d t b b' N) := by
  show gs_b (decide (¬ gs_n 0 < 0 ∧ ¬ gs_n 0 < 0 ∧ ¬ gs_n (N : Int) < 0 ∧ (gs_n 0).toNatClampNeg + (gs_n (N : Int)).toNatClampNeg ≤ (Y0.1 t).2.2 ∧ (gs_n 0).toNatClampNeg + (gs_n (N : Int)).toNatClampNeg ≤ (Y0.1 t).2.2)) (match (Y0.1 t).1, (Y0.1 t).1 with
    | 1, 1 => some (none, (fun t0 i0 => if t0 = t ∧ i0 = b then va_cpy (d.1 t b') (d.1 t b) (gs_n 0).toNatClampNeg (gs_n 0).toNatClampNeg (gs_n (N : Int)).toNatClampNeg else d.1 t0 i0), d.2)
    | 3, 3 => some (none, d.1, (fun t0 i0 => if t0 = t ∧ i0 = b then va_cpy (d.2 t b') (d.2 t b) (gs_n 0).toNatClampNeg (gs_n 0).toNatClampNeg (gs_n (N : Int)).toNatClampNeg else d.2 t0 i0))
    | _, _ => none) = _
  rw [gs_ac_c hN hn, hk, gs_n_c (by omega) (by omega), gs_n_c (by omega) (by omega)]
  show some (none, d.1, (fun t0 i0 => if t0 = t ∧ i0 = b then va_cpy (d.2 t b') (d.2 t b) (0 : Int).toNat (0 : Int).toNat (N : Int).toNat else d.2 t0 i0)) = _
  rw [gs_tn]
  rfl
theorem s_ac1 {d : gs_D} {t b b' N : Nat} (hk : (Y0.1 t).1 = 1) (hn : (Y0.1 t).2.2 = N) (hN : N < 1000) : f_S_arraycopy [gs_r t b', gs_i (gs_n 0), gs_r t b, gs_i (gs_n 0), gs_i (gs_n (N : Int))] d = some (none, gs_c1a d t b b' N) := by
  show gs_b (decide (¬ gs_n 0 < 0 ∧ ¬ gs_n 0 < 0 ∧ ¬ gs_n (N : Int) < 0 ∧ (gs_n 0).toNatClampNeg + (gs_n (N : Int)).toNatClampNeg ≤ (Y0.1 t).2.2 ∧ (gs_n 0).toNatClampNeg + (gs_n (N : Int)).toNatClampNeg ≤ (Y0.1 t).2.2)) (match (Y0.1 t).1, (Y0.1 t).1 with
    | 1, 1 => some (none, (fun t0 i0 => if t0 = t ∧ i0 = b then va_cpy (d.1 t b') (d.1 t b) (gs_n 0).toNatClampNeg (gs_n 0).toNatClampNeg (gs_n (N : Int)).toNatClampNeg else d.1 t0 i0), d.2)
    | 3, 3 => some (none, d.1, (fun t0 i0 => if t0 = t ∧ i0 = b then va_cpy (d.2 t b') (d.2 t b) (gs_n 0).toNatClampNeg (gs_n 0).toNatClampNeg (gs_n (N : Int)).toNatClampNeg else d.2 t0 i0))
    | _, _ => none) = _
  rw [gs_ac_c hN hn, hk, gs_n_c (by omega) (by omega), gs_n_c (by omega) (by omega)]
  show some (none, (fun t0 i0 => if t0 = t ∧ i0 = b then va_cpy (d.1 t b') (d.1 t b) (0 : Int).toNat (0 : Int).toNat (N : Int).toNat else d.1 t0 i0), d.2) = _
  rw [gs_tn]
  rfl
theorem gs_c3_o {d : gs_D} {t b b' N a i : Nat} (h : ¬ (a = t ∧ i = b)) : (gs_c3 d t b b' N).2 a i = d.2 a i := if_neg h
theorem gs_c3_s {d : gs_D} {t b b' N j : Nat} (h : j < N) : (gs_c3 d t b b' N).2 t b j = d.2 t b' j := by
  show (if t = t ∧ b = b then va_cpy (d.2 t b') (d.2 t b) 0 0 N else d.2 t b) j = _
  rw [if_pos ⟨rfl, rfl⟩]
  show (if 0 ≤ j ∧ j < 0 + N then d.2 t b' (0 + (j - 0)) else d.2 t b j) = _
  rw [if_pos (by omega), show 0 + (j - 0) = j by omega]
theorem gs_c1_o {d : gs_D} {t b b' N a i : Nat} (h : ¬ (a = t ∧ i = b)) : (gs_c1a d t b b' N).1 a i = d.1 a i := if_neg h
theorem gs_c1_s {d : gs_D} {t b b' N j : Nat} (h : j < N) : (gs_c1a d t b b' N).1 t b j = d.1 t b' j := by
  show (if t = t ∧ b = b then va_cpy (d.1 t b') (d.1 t b) 0 0 N else d.1 t b) j = _
  rw [if_pos ⟨rfl, rfl⟩]
  show (if 0 ≤ j ∧ j < 0 + N then d.1 t b' (0 + (j - 0)) else d.1 t b j) = _
  rw [if_pos (by omega), show 0 + (j - 0) = j by omega]
def gs_c7 (d : gs_D) (x y : Nat) : gs_D := gs_wI (gs_wI (gs_wI (gs_wI (gs_wI (gs_wI (gs_wI d 13 x 0 (d.1 13 y 0)) 13 x 1 (d.1 13 y 1)) 13 x 2 (d.1 13 y 2)) 13 x 3 (d.1 13 y 3)) 13 x 4 (d.1 13 y 4)) 13 x 5 (d.1 13 y 5)) 13 x 6 (d.1 13 y 6)
theorem s_I_copyFrom {d : gs_D} {x y : Nat} (h : x ≠ y) : f_I_copyFrom [gs_r 13 x, gs_r 13 y] d = some (none, gs_c7 d x y) := by
  simp (disch := omega) only [e_I_copyFrom, k_I_copyFrom_0, gs_wI_o, ↓reduceIte, Int.reduceAdd, Int.reduceSub, Int.reduceMul, Int.reduceToNat, gs_00, gs_ofi, gs_k0_m, gs_k1_m, gs_n8, gs_n16, gs_n_add, gs_n_sub, gs_n_mul, gs_n_neg, gs_m_add, gs_m_sub, gs_m_mul, gs_m_neg, gs_n_l, gs_m_n, gs_n_c, gs_eq_t, gs_eq_f1, gs_eq_f2, gs_lt_t, gs_lt_f, gs_le_t, gs_le_f, gs_cmp_lt, gs_cmp_eq, gs_cmp_gt, gs_ix_n, gs_nz_n, gs_nzl_g, gs_n_div, gs_af1, gs_af0, gs_ck0, gs_ck1, gs_ck2t, gs_ck2f, gs_ck3, gs_ck4, gs_zd_t, gs_zd_f, gs_zt_t, gs_zt_f, gs_nar1, gs_nar0, gs_tn, if_true, if_false, not_true_eq_false, not_false_eq_true]
  rfl
theorem gs_c7_o {d : gs_D} {x y a i : Nat} (h : ¬ (a = 13 ∧ i = x)) : (gs_c7 d x y).1 a i = d.1 a i := by
  funext c
  unfold gs_c7
  rw [gs_wI_o (by omega), gs_wI_o (by omega), gs_wI_o (by omega), gs_wI_o (by omega), gs_wI_o (by omega), gs_wI_o (by omega), gs_wI_o (by omega)]
theorem gs_c7_s {d : gs_D} {x y c : Nat} (h : c < 7) : (gs_c7 d x y).1 13 x c = d.1 13 y c := by
  unfold gs_c7
  have : c = 0 ∨ c = 1 ∨ c = 2 ∨ c = 3 ∨ c = 4 ∨ c = 5 ∨ c = 6 := by omega
  rcases this with z | z | z | z | z | z | z <;> subst z
  · rw [gs_wI_o (by omega), gs_wI_o (by omega), gs_wI_o (by omega), gs_wI_o (by omega), gs_wI_o (by omega), gs_wI_o (by omega), gs_wI_s]
  · rw [gs_wI_o (by omega), gs_wI_o (by omega), gs_wI_o (by omega), gs_wI_o (by omega), gs_wI_o (by omega), gs_wI_s]
  · rw [gs_wI_o (by omega), gs_wI_o (by omega), gs_wI_o (by omega), gs_wI_o (by omega), gs_wI_s]
  · rw [gs_wI_o (by omega), gs_wI_o (by omega), gs_wI_o (by omega), gs_wI_s]
  · rw [gs_wI_o (by omega), gs_wI_o (by omega), gs_wI_s]
  · rw [gs_wI_o (by omega), gs_wI_s]
  · rw [gs_wI_s]
section CP
variable {d : gs_D} {S : gs_S} {B : Int} {b b' : Nat}
/-- the accounts alone -/
def gs_Ca (b : Nat) (d : gs_D) (S : gs_S) : Prop := ((∀ j, j < 18 → d.2 5 b j = gs_m (S.1 0 j)) ∧ (∀ j, j < 18 → d.2 6 b j = gs_m (S.1 1 j))) ∧ ((∀ j, j < 3 → d.1 7 b j = gs_n (S.1 2 j)) ∧ (∀ j, j < 3 → d.1 8 b j = gs_n (S.1 3 j))) ∧ ((∀ j, j < 36 → d.1 9 b j = gs_n (S.1 4 j)) ∧ (∀ j, j < 36 → d.2 10 b j = gs_m (S.1 5 j)))
theorem s_A_copyFrom (hb : b ≠ b') (hC : gs_Ca b' d S) : ∃ d', f_A_copyFrom [gs_r 3 b, gs_r 3 b'] d = some (none, d') ∧ gs_Ca b d' S ∧ (∀ t i, ¬ ((7 ≤ t ∧ t ≤ 9) ∧ i = b) → d'.1 t i = d.1 t i) ∧ (∀ t i, ¬ ((t = 5 ∨ t = 6 ∨ t = 10) ∧ i = b) → d'.2 t i = d.2 t i) := by
  have a1 := s_ac3 (d := d) (t := 5) (b := b) (b' := b') (N := 18) rfl rfl (by omega)
  have a2 := s_ac3 (d := gs_c3 d 5 b b' 18) (t := 6) (b := b) (b' := b') (N := 18) rfl rfl (by omega)
  have a3 := s_ac1 (d := gs_c3 (gs_c3 d 5 b b' 18) 6 b b' 18) (t := 7) (b := b) (b' := b') (N := 3) rfl rfl (by omega)
  have a4 := s_ac1 (d := gs_c1a (gs_c3 (gs_c3 d 5 b b' 18) 6 b b' 18) 7 b b' 3) (t := 8) (b := b) (b' := b') (N := 3) rfl rfl (by omega)
  have a5 := s_ac1 (d := gs_c1a (gs_c1a (gs_c3 (gs_c3 d 5 b b' 18) 6 b b' 18) 7 b b' 3) 8 b b' 3) (t := 9) (b := b) (b' := b') (N := 36) rfl rfl (by omega)
  have a6 := s_ac3 (d := gs_c1a (gs_c1a (gs_c1a (gs_c3 (gs_c3 d 5 b b' 18) 6 b b' 18) 7 b b' 3) 8 b b' 3) 9 b b' 36) (t := 10) (b := b) (b' := b') (N := 36) rfl rfl (by omega)
  refine ⟨gs_c3 (gs_c1a (gs_c1a (gs_c1a (gs_c3 (gs_c3 d 5 b b' 18) 6 b b' 18) 7 b b' 3) 8 b b' 3) 9 b b' 36) 10 b b' 36, ?_, ⟨⟨fun j hj => ?_, fun j hj => ?_⟩, ⟨fun j hj => ?_, fun j hj => ?_⟩, ⟨fun j hj => ?_, fun j hj => ?_⟩⟩, fun t i h => ?_, fun t i h => ?_⟩
  · have e18 : ((18 : Nat) : Int) = 18 := rfl
    have e3 : ((3 : Nat) : Int) = 3 := rfl
    have e36 : ((36 : Nat) : Int) = 36 := rfl
    rw [e18] at a1 a2
    rw [e3] at a3 a4
    rw [e36] at a5 a6
    simp (disch := omega) only [e_A_copyFrom, k_A_copyFrom_0, k_A_copyFrom_15, k_A_copyFrom_30, k_A_copyFrom_44, k_A_copyFrom_58, k_A_copyFrom_73, k_A_copyFrom_88, a1, a2, a3, a4, a5, a6, ↓reduceIte, Int.reduceAdd, Int.reduceSub, Int.reduceMul, Int.reduceToNat, gs_00, gs_ofi, gs_k0_m, gs_k1_m, gs_n8, gs_n16, gs_n_add, gs_n_sub, gs_n_mul, gs_n_neg, gs_m_add, gs_m_sub, gs_m_mul, gs_m_neg, gs_n_l, gs_m_n, gs_n_c, gs_eq_t, gs_eq_f1, gs_eq_f2, gs_lt_t, gs_lt_f, gs_le_t, gs_le_f, gs_cmp_lt, gs_cmp_eq, gs_cmp_gt, gs_ix_n, gs_nz_n, gs_nzl_g, gs_n_div, gs_af1, gs_af0, gs_ck0, gs_ck1, gs_ck2t, gs_ck2f, gs_ck3, gs_ck4, gs_zd_t, gs_zd_f, gs_zt_t, gs_zt_f, gs_nar1, gs_nar0, gs_tn, if_true, if_false, not_true_eq_false, not_false_eq_true]
  · rw [gs_c3_o (by omega)]
    show (gs_c3 (gs_c3 d 5 b b' 18) 6 b b' 18).2 5 b j = _
    rw [gs_c3_o (by omega), gs_c3_s hj]
    exact hC.1.1 j hj
  · rw [gs_c3_o (by omega)]
    show (gs_c3 (gs_c3 d 5 b b' 18) 6 b b' 18).2 6 b j = _
    rw [gs_c3_s hj, gs_c3_o (by omega)]
    exact hC.1.2 j hj
  · show (gs_c1a (gs_c1a (gs_c1a (gs_c3 (gs_c3 d 5 b b' 18) 6 b b' 18) 7 b b' 3) 8 b b' 3) 9 b b' 36).1 7 b j = _
    rw [gs_c1_o (by omega), gs_c1_o (by omega), gs_c1_s hj]
    exact hC.2.1.1 j hj
  · show (gs_c1a (gs_c1a (gs_c1a (gs_c3 (gs_c3 d 5 b b' 18) 6 b b' 18) 7 b b' 3) 8 b b' 3) 9 b b' 36).1 8 b j = _
    rw [gs_c1_o (by omega), gs_c1_s hj, gs_c1_o (by omega)]
    exact hC.2.1.2 j hj
  · show (gs_c1a (gs_c1a (gs_c1a (gs_c3 (gs_c3 d 5 b b' 18) 6 b b' 18) 7 b b' 3) 8 b b' 3) 9 b b' 36).1 9 b j = _
    rw [gs_c1_s hj, gs_c1_o (by omega), gs_c1_o (by omega)]
    exact hC.2.2.1 j hj
  · rw [gs_c3_s hj]
    show (gs_c3 (gs_c3 d 5 b b' 18) 6 b b' 18).2 10 b' j = _
    rw [gs_c3_o (by omega), gs_c3_o (by omega)]
    exact hC.2.2.2 j hj
  · show (gs_c1a (gs_c1a (gs_c1a (gs_c3 (gs_c3 d 5 b b' 18) 6 b b' 18) 7 b b' 3) 8 b b' 3) 9 b b' 36).1 t i = _
    rw [gs_c1_o (by omega), gs_c1_o (by omega), gs_c1_o (by omega)]
    rfl
  · rw [gs_c3_o (by omega)]
    show (gs_c3 (gs_c3 d 5 b b' 18) 6 b b' 18).2 t i = _
    rw [gs_c3_o (by omega), gs_c3_o (by omega)]
theorem s_Q_copyFrom (hb : b ≠ b') (h1 : b < 2) (h2 : b' < 2) (hc0 : 0 ≤ S.1 6 1) (hc1 : S.1 6 1 ≤ 40) (hl : S.2.length ≤ 10) (hct : d.1 4 b' 1 = gs_n (S.1 6 1)) (hwt : d.1 4 b' 3 = gs_n S.2.length) (his : ∀ i k : Nat, (i : Int) < S.1 6 1 → k < 7 → d.1 13 (gs_ii b' i) k = gs_n (S.1 (10 + i) k)) (hod : ∀ k : Nat, k < S.2.length → d.1 12 b' k = gs_n (S.2.getD k 0 : Nat)) : ∃ d', f_Q_copyFrom [gs_r 4 b, gs_r 4 b'] d = some (none, d') ∧ d'.1 4 b 1 = gs_n (S.1 6 1) ∧ d'.1 4 b 3 = gs_n S.2.length ∧ (∀ i k : Nat, (i : Int) < S.1 6 1 → k < 7 → d'.1 13 (gs_ii b i) k = gs_n (S.1 (10 + i) k)) ∧ (∀ k : Nat, k < S.2.length → d'.1 12 b k = gs_n (S.2.getD k 0 : Nat)) ∧ d'.2 = d.2 ∧ (∀ t i, t ≠ 13 → ¬ (t = 4 ∧ i = b) → ¬ (t = 12 ∧ i = b) → d'.1 t i = d.1 t i) ∧ (∀ i, i < 40 → d'.1 13 (gs_ii b' i) = d.1 13 (gs_ii b' i)) := by
  have key : ∀ (n k : Nat) (dk : gs_D), (k : Int) + n = S.1 6 1 → dk.2 = d.2 → (∀ t i, t ≠ 13 → dk.1 t i = d.1 t i) → (∀ i, i < 40 → dk.1 13 (gs_ii b' i) = d.1 13 (gs_ii b' i)) → (∀ i c : Nat, i < k → c < 7 → dk.1 13 (gs_ii b i) c = gs_n (S.1 (10 + i) c)) →
      ∃ d', gs_g Y0 P_Q_copyFrom 2 [some (gs_r 4 b), some (gs_r 4 b'), some (gs_i (gs_n k))] [] dk = gs_g Y0 P_Q_copyFrom 31 [some (gs_r 4 b), some (gs_r 4 b'), some (gs_i (gs_n (S.1 6 1)))] [] d' ∧ d'.2 = d.2 ∧ (∀ t i, t ≠ 13 → d'.1 t i = d.1 t i) ∧ (∀ i, i < 40 → d'.1 13 (gs_ii b' i) = d.1 13 (gs_ii b' i)) ∧ (∀ i c : Nat, (i : Int) < S.1 6 1 → c < 7 → d'.1 13 (gs_ii b i) c = gs_n (S.1 (10 + i) c)) := by
    intro n
    induction n with
    | zero =>
      intro k dk hk e2 e1 e13 ei
      have hct' : dk.1 4 b' 1 = gs_n (S.1 6 1) := by rw [e1 4 b' (by decide)]; exact hct
      have ek : (k : Int) = S.1 6 1 := by omega
      refine ⟨dk, ?_, e2, e1, e13, fun i c hi hc => ei i c (by omega) hc⟩
      rw [k_Q_copyFrom_2]
      simp (disch := omega) only [hct', ↓reduceIte, Int.reduceAdd, Int.reduceSub, Int.reduceMul, Int.reduceToNat, gs_00, gs_ofi, gs_k0_m, gs_k1_m, gs_n8, gs_n16, gs_n_add, gs_n_sub, gs_n_mul, gs_n_neg, gs_m_add, gs_m_sub, gs_m_mul, gs_m_neg, gs_n_l, gs_m_n, gs_n_c, gs_eq_t, gs_eq_f1, gs_eq_f2, gs_lt_t, gs_lt_f, gs_le_t, gs_le_f, gs_cmp_lt, gs_cmp_eq, gs_cmp_gt, gs_ix_n, gs_nz_n, gs_nzl_g, gs_n_div, gs_af1, gs_af0, gs_ck0, gs_ck1, gs_ck2t, gs_ck2f, gs_ck3, gs_ck4, gs_zd_t, gs_zd_f, gs_zt_t, gs_zt_f, gs_nar1, gs_nar0, gs_tn, if_true, if_false, not_true_eq_false, not_false_eq_true]
      rw [ek]
    | succ n ih =>
      intro k dk hk e2 e1 e13 ei
      have hct' : dk.1 4 b' 1 = gs_n (S.1 6 1) := by rw [e1 4 b' (by decide)]; exact hct
      have hne : ∀ i, i < 40 → gs_ii b k ≠ gs_ii b' i := fun i hi => by unfold gs_ii; omega
      have hc7 := s_I_copyFrom (d := dk) (x := gs_ii b k) (y := gs_ii b' k) (hne k (by omega))
      obtain ⟨d', e, r⟩ := ih (k + 1) (gs_c7 dk (gs_ii b k) (gs_ii b' k)) (by omega) e2 (fun t i ht => by
          rw [gs_c7_o (by omega)]; exact e1 t i ht) (fun i hi => by
          rw [gs_c7_o (by have := hne i hi; omega)]; exact e13 i hi) (fun i c hi hc => by
          by_cases z : i = k
          · subst z
            rw [gs_c7_s hc, e13 i (by omega)]
            exact his i c (by omega) hc
          · rw [gs_c7_o (by unfold gs_ii; omega)]
            exact ei i c (by omega) hc)
      refine ⟨d', ?_, r⟩
      rw [show ((k + 1 : Nat) : Int) = (k : Int) + 1 by omega] at e
      rw [k_Q_copyFrom_2]
      simp (disch := omega) only [e_Q_copyFrom, k_Q_copyFrom_0, k_Q_copyFrom_10, k_Q_copyFrom_16, k_Q_copyFrom_22, k_Q_copyFrom_25, hct', hc7, ↓reduceIte, Int.reduceAdd, Int.reduceSub, Int.reduceMul, Int.reduceToNat, gs_00, gs_ofi, gs_k0_m, gs_k1_m, gs_n8, gs_n16, gs_n_add, gs_n_sub, gs_n_mul, gs_n_neg, gs_m_add, gs_m_sub, gs_m_mul, gs_m_neg, gs_n_l, gs_m_n, gs_n_c, gs_eq_t, gs_eq_f1, gs_eq_f2, gs_lt_t, gs_lt_f, gs_le_t, gs_le_f, gs_cmp_lt, gs_cmp_eq, gs_cmp_gt, gs_ix_n, gs_nz_n, gs_nzl_g, gs_n_div, gs_af1, gs_af0, gs_ck0, gs_ck1, gs_ck2t, gs_ck2f, gs_ck3, gs_ck4, gs_zd_t, gs_zd_f, gs_zt_t, gs_zt_f, gs_nar1, gs_nar0, gs_tn, if_true, if_false, not_true_eq_false, not_false_eq_true]
      exact e
  obtain ⟨d1, e, e2, e1, e13, ei⟩ := key (S.1 6 1).toNat 0 d (by omega) rfl (fun _ _ _ => rfl) (fun _ _ => rfl) (fun i c hi _ => by omega)
  have a1 := s_ac1 (d := d1) (t := 12) (b := b) (b' := b') (N := 10) rfl rfl (by omega)
  rw [show ((10 : Nat) : Int) = 10 from rfl] at a1
  have q1 : (gs_c1a d1 12 b b' 10).1 4 b' 1 = gs_n (S.1 6 1) := by rw [gs_c1_o (by omega), e1 4 b' (by decide)]; exact hct
  have q3 : (gs_wI (gs_c1a d1 12 b b' 10) 4 b 1 (gs_n (S.1 6 1))).1 4 b' 3 = gs_n S.2.length := by rw [gs_wI_o (by omega), gs_c1_o (by omega), e1 4 b' (by decide)]; exact hwt
  refine ⟨gs_wI (gs_wI (gs_c1a d1 12 b b' 10) 4 b 1 (gs_n (S.1 6 1))) 4 b 3 (gs_n S.2.length), ?_, ?_, gs_wI_s, fun i k hi hk => ?_, fun k hk => ?_, e2, fun t i h3 h4 h5 => ?_, fun i hi => ?_⟩
  · rw [show ((0 : Nat) : Int) = 0 from rfl] at e
    rw [e_Q_copyFrom, k_Q_copyFrom_0, e]
    simp (disch := omega) only [k_Q_copyFrom_31, k_Q_copyFrom_46, a1, q1, q3, ↓reduceIte, Int.reduceAdd, Int.reduceSub, Int.reduceMul, Int.reduceToNat, gs_00, gs_ofi, gs_k0_m, gs_k1_m, gs_n8, gs_n16, gs_n_add, gs_n_sub, gs_n_mul, gs_n_neg, gs_m_add, gs_m_sub, gs_m_mul, gs_m_neg, gs_n_l, gs_m_n, gs_n_c, gs_eq_t, gs_eq_f1, gs_eq_f2, gs_lt_t, gs_lt_f, gs_le_t, gs_le_f, gs_cmp_lt, gs_cmp_eq, gs_cmp_gt, gs_ix_n, gs_nz_n, gs_nzl_g, gs_n_div, gs_af1, gs_af0, gs_ck0, gs_ck1, gs_ck2t, gs_ck2f, gs_ck3, gs_ck4, gs_zd_t, gs_zd_f, gs_zt_t, gs_zt_f, gs_nar1, gs_nar0, gs_tn, if_true, if_false, not_true_eq_false, not_false_eq_true]
  · rw [gs_wI_o (by omega), gs_wI_s]
  · rw [gs_wI_o (by omega), gs_wI_o (by omega), gs_c1_o (by omega)]
    exact ei i k hi hk
  · rw [gs_wI_o (by omega), gs_wI_o (by omega), gs_c1_s (by omega), e1 12 b' (by decide)]
    exact hod k hk
  · funext j
    rw [gs_wI_o (by omega), gs_wI_o (by omega), gs_c1_o (by omega), e1 t i h3]
  · funext j
    rw [gs_wI_o (by omega), gs_wI_o (by omega), gs_c1_o (by omega), e13 i hi]
theorem s_B_copyFrom (hb : b ≠ b') (h1 : b < 2) (h2 : b' < 2) (hC : gs_Cl b' d S) (hw : gs_wb B S) (hl : S.2.length ≤ 10) : ∃ d', f_B_copyFrom [gs_r 1 b, gs_r 1 b'] d = some (none, d') ∧ gs_Cl b d' S ∧ gs_Cl b' d' S ∧ (∀ t, 20 ≤ t → d'.1 t = d.1 t ∧ d'.2 t = d.2 t) := by
  have h6 := hw.2.2.1.2.1
  have hd := hC.dy
  have o1 : ∀ t i, ¬ (t = 1 ∧ i = b) → (gs_wI d 1 b 0 (gs_n (S.1 6 0))).1 t i = d.1 t i := fun t i h => by
    funext j
    exact gs_wI_o (by omega)
  have ca : gs_Ca b' (gs_wI d 1 b 0 (gs_n (S.1 6 0))) S := ⟨⟨hC.h, hC.p⟩, ⟨fun j hj => by rw [o1 7 b' (by omega)]; exact hC.pr j hj, fun j hj => by rw [o1 8 b' (by omega)]; exact hC.hc j hj⟩, ⟨fun j hj => by rw [o1 9 b' (by omega)]; exact hC.li j hj, hC.nt⟩⟩
  obtain ⟨d1, e1, c1, f1, g1⟩ := s_A_copyFrom hb ca
  have x1 : ∀ t i, ¬ ((7 ≤ t ∧ t ≤ 9) ∧ i = b) → ¬ (t = 1 ∧ i = b) → d1.1 t i = d.1 t i := fun t i h h' => (f1 t i h).trans (o1 t i h')
  obtain ⟨d2, e2, k1, k3, ki, ko, k2, kt, kb⟩ := s_Q_copyFrom (d := d1) (S := S) hb h1 h2 h6.1 h6.2 hl (by rw [x1 4 b' (by omega) (by omega)]; exact hC.ct) (by rw [x1 4 b' (by omega) (by omega)]; exact hC.wt) (fun i k hi hk => by rw [x1 13 _ (by omega) (by omega)]; exact hC.is i k hi hk) (fun k hk => by rw [x1 12 b' (by omega) (by omega)]; exact hC.od k hk)
  have y1 : ∀ t i, t ≠ 13 → ¬ ((7 ≤ t ∧ t ≤ 9) ∧ i = b) → ¬ (t = 1 ∧ i = b) → ¬ (t = 4 ∧ i = b) → ¬ (t = 12 ∧ i = b) → d2.1 t i = d.1 t i := fun t i ha hb hc hd he => (kt t i ha hd he).trans (x1 t i hb hc)
  have y2 : ∀ t i, ¬ ((t = 5 ∨ t = 6 ∨ t = 10) ∧ i = b) → d2.2 t i = d.2 t i := fun t i h => by rw [k2]; exact g1 t i h
  refine ⟨d2, ?_, ?_, ?_, fun t ht => ⟨?_, ?_⟩⟩
  · simp (disch := omega) only [e_B_copyFrom, k_B_copyFrom_0, k_B_copyFrom_19, k_B_copyFrom_30, hd, e1, e2, ↓reduceIte, Int.reduceAdd, Int.reduceSub, Int.reduceMul, Int.reduceToNat, gs_00, gs_ofi, gs_k0_m, gs_k1_m, gs_n8, gs_n16, gs_n_add, gs_n_sub, gs_n_mul, gs_n_neg, gs_m_add, gs_m_sub, gs_m_mul, gs_m_neg, gs_n_l, gs_m_n, gs_n_c, gs_eq_t, gs_eq_f1, gs_eq_f2, gs_lt_t, gs_lt_f, gs_le_t, gs_le_f, gs_cmp_lt, gs_cmp_eq, gs_cmp_gt, gs_ix_n, gs_nz_n, gs_nzl_g, gs_n_div, gs_af1, gs_af0, gs_ck0, gs_ck1, gs_ck2t, gs_ck2f, gs_ck3, gs_ck4, gs_zd_t, gs_zd_f, gs_zt_t, gs_zt_f, gs_nar1, gs_nar0, gs_tn, if_true, if_false, not_true_eq_false, not_false_eq_true]
  · refine ⟨⟨fun j hj => ?_, fun j hj => ?_⟩, ⟨fun j hj => ?_, fun j hj => ?_⟩, ⟨fun j hj => ?_, fun j hj => ?_⟩, ⟨?_, k1, k3⟩, ki, ko⟩
    · rw [k2]; exact c1.1.1 j hj
    · rw [k2]; exact c1.1.2 j hj
    · rw [kt 7 b (by omega) (by omega) (by omega)]; exact c1.2.1.1 j hj
    · rw [kt 8 b (by omega) (by omega) (by omega)]; exact c1.2.1.2 j hj
    · rw [kt 9 b (by omega) (by omega) (by omega)]; exact c1.2.2.1 j hj
    · rw [k2]; exact c1.2.2.2 j hj
    · rw [kt 1 b (by omega) (by omega) (by omega), f1 1 b (by omega)]; exact gs_wI_s
  · refine ⟨⟨fun j hj => ?_, fun j hj => ?_⟩, ⟨fun j hj => ?_, fun j hj => ?_⟩, ⟨fun j hj => ?_, fun j hj => ?_⟩, ⟨?_, ?_, ?_⟩, fun i k hi hk => ?_, fun k hk => ?_⟩
    · rw [y2 5 b' (by omega)]; exact hC.h j hj
    · rw [y2 6 b' (by omega)]; exact hC.p j hj
    · rw [y1 7 b' (by omega) (by omega) (by omega) (by omega) (by omega)]; exact hC.pr j hj
    · rw [y1 8 b' (by omega) (by omega) (by omega) (by omega) (by omega)]; exact hC.hc j hj
    · rw [y1 9 b' (by omega) (by omega) (by omega) (by omega) (by omega)]; exact hC.li j hj
    · rw [y2 10 b' (by omega)]; exact hC.nt j hj
    · rw [y1 1 b' (by omega) (by omega) (by omega) (by omega) (by omega)]; exact hC.dy
    · rw [y1 4 b' (by omega) (by omega) (by omega) (by omega) (by omega)]; exact hC.ct
    · rw [y1 4 b' (by omega) (by omega) (by omega) (by omega) (by omega)]; exact hC.wt
    · rw [kb i (by omega), x1 13 _ (by omega) (by omega)]; exact hC.is i k hi hk
    · rw [y1 12 b' (by omega) (by omega) (by omega) (by omega) (by omega)]; exact hC.od k hk
  · funext i
    exact y1 t i (by omega) (by omega) (by omega) (by omega) (by omega)
  · funext i
    exact y2 t i (by omega)
theorem s_G_sync (hC : gs_Cl 0 d S) (hw : gs_wb B S) (hl : S.2.length ≤ 10) : ∃ d', f_G_sync [gs_r 0 0] d = some (none, d') ∧ gs_Cl 1 d' S ∧ gs_Cl 0 d' S ∧ (∀ t, 20 ≤ t → d'.1 t = d.1 t ∧ d'.2 t = d.2 t) := by
  obtain ⟨d', e, r⟩ := s_B_copyFrom (b := 1) (b' := 0) (by decide) (by decide) (by decide) hC hw hl
  refine ⟨d', ?_, r⟩
  simp (disch := omega) only [e_G_sync, k_G_sync_0, k_G_sync_11, e, ↓reduceIte, Int.reduceAdd, Int.reduceSub, Int.reduceMul, Int.reduceToNat, gs_00, gs_ofi, gs_k0_m, gs_k1_m, gs_n8, gs_n16, gs_n_add, gs_n_sub, gs_n_mul, gs_n_neg, gs_m_add, gs_m_sub, gs_m_mul, gs_m_neg, gs_n_l, gs_m_n, gs_n_c, gs_eq_t, gs_eq_f1, gs_eq_f2, gs_lt_t, gs_lt_f, gs_le_t, gs_le_f, gs_cmp_lt, gs_cmp_eq, gs_cmp_gt, gs_ix_n, gs_nz_n, gs_nzl_g, gs_n_div, gs_af1, gs_af0, gs_ck0, gs_ck1, gs_ck2t, gs_ck2f, gs_ck3, gs_ck4, gs_zd_t, gs_zd_f, gs_zt_t, gs_zt_f, gs_nar1, gs_nar0, gs_tn, if_true, if_false, not_true_eq_false, not_false_eq_true]
theorem s_G_crash (hC : gs_Cl 1 d S) (hw : gs_wb B S) (hl : S.2.length ≤ 10) : ∃ d', f_G_crash [gs_r 0 0] d = some (none, d') ∧ gs_Cl 0 d' S ∧ gs_Cl 1 d' S ∧ (∀ t, 20 ≤ t → d'.1 t = d.1 t ∧ d'.2 t = d.2 t) := by
  obtain ⟨d', e, r⟩ := s_B_copyFrom (b := 0) (b' := 1) (by decide) (by decide) (by decide) hC hw hl
  refine ⟨d', ?_, r⟩
  simp (disch := omega) only [e_G_crash, k_G_crash_0, k_G_crash_11, e, ↓reduceIte, Int.reduceAdd, Int.reduceSub, Int.reduceMul, Int.reduceToNat, gs_00, gs_ofi, gs_k0_m, gs_k1_m, gs_n8, gs_n16, gs_n_add, gs_n_sub, gs_n_mul, gs_n_neg, gs_m_add, gs_m_sub, gs_m_mul, gs_m_neg, gs_n_l, gs_m_n, gs_n_c, gs_eq_t, gs_eq_f1, gs_eq_f2, gs_lt_t, gs_lt_f, gs_le_t, gs_le_f, gs_cmp_lt, gs_cmp_eq, gs_cmp_gt, gs_ix_n, gs_nz_n, gs_nzl_g, gs_n_div, gs_af1, gs_af0, gs_ck0, gs_ck1, gs_ck2t, gs_ck2f, gs_ck3, gs_ck4, gs_zd_t, gs_zd_f, gs_zt_t, gs_zt_f, gs_nar1, gs_nar0, gs_tn, if_true, if_false, not_true_eq_false, not_false_eq_true]
end CP
end
section
-- RESOLVING: sets of places
theorem gs_sum_neg (f : Nat → Int) : ∀ n, gs_sum (fun k => -f k) n = -gs_sum f n
  | 0 => rfl
  | n + 1 => by
    simp only [gs_sum]
    rw [gs_sum_neg f n]
    omega
theorem gs_sum_rg {f : Nat → Int} {b : Int} (h : ∀ k, -b ≤ f k ∧ f k ≤ b) : ∀ n : Nat, -(b * n) ≤ gs_sum f n ∧ gs_sum f n ≤ b * n
  | 0 => by simp [gs_sum]
  | n + 1 => by
    have a := gs_sum_rg h n
    have c := h n
    have e : b * ((n + 1 : Nat) : Int) = b * n + b := by
      rw [Int.natCast_add, Int.mul_add]
      simp
    simp only [gs_sum]
    rw [e]
    omega
/-- S with those of C settled (their amounts alone) -/
def gs_sm (S : gs_S) (C : Nat → Bool) : gs_S := (fun f j => S.1 f j + gs_sum (fun k => if C k = true then gs_dl S (S.2.getD k 0) f j else 0) S.2.length, S.2)
section RA
variable {S : gs_S} {B : Int} {C : Nat → Bool}
theorem gs_sm_o {f : Nat} (j : Nat) (h0 : f ≠ 0) (h5 : f ≠ 5) : (gs_sm S C).1 f j = S.1 f j := by
  show S.1 f j + gs_sum _ _ = _
  rw [gs_sum_0 (fun k _ => by
    rw [gs_dl_o S _ j h0 h5]
    exact ite_self _), Int.add_zero]
theorem gs_dl_cg {S' : gs_S} {i : Nat} (e : ∀ k, S'.1 (10 + i) k = S.1 (10 + i) k) (f j : Nat) : gs_dl S' i f j = gs_dl S i f j := by
  unfold gs_dl
  simp only [e]
theorem gs_sm_set {C' : Nat → Bool} {k : Nat} {sg : Int} (hk : k < S.2.length) (h : ∀ j, j ≠ k → C' j = C j) (hs : gs_z (C' k) - gs_z (C k) = sg) : gs_mvd (gs_sm S C) (S.2.getD k 0) sg = gs_sm S C' := by
  refine Prod.ext ?_ rfl
  funext f j
  show (gs_sm S C).1 f j + sg * gs_dl (gs_sm S C) (S.2.getD k 0) f j = (gs_sm S C').1 f j
  rw [gs_dl_cg (fun c => gs_sm_o c (by omega) (by omega))]
  show S.1 f j + gs_sum (fun k => if C k = true then gs_dl S (S.2.getD k 0) f j else 0) S.2.length + sg * gs_dl S (S.2.getD k 0) f j = S.1 f j + gs_sum (fun k => if C' k = true then gs_dl S (S.2.getD k 0) f j else 0) S.2.length
  rw [gs_sum_up (f := fun k => if C k = true then gs_dl S (S.2.getD k 0) f j else 0) (g := fun k => if C' k = true then gs_dl S (S.2.getD k 0) f j else 0) hk (fun m _ hm => by simp only [h m hm])]
  have : (if C' k = true then gs_dl S (S.2.getD k 0) f j else 0) - (if C k = true then gs_dl S (S.2.getD k 0) f j else 0) = sg * gs_dl S (S.2.getD k 0) f j := by
    cases hc : C k <;> cases hc' : C' k <;> rw [hc, hc'] at hs <;> rw [← hs] <;> simp [gs_z]
  rw [this]
  omega
theorem gs_sm_wb (hw : gs_wb B S) (hv : gs_wv S) (hB : B + 60000000 ≤ 1000000000000) (C : Nat → Bool) : gs_wb (B + 60000000) (gs_sm S C) := by
  have hl := hv.2
  have ch : ∀ f j, -60000000 ≤ gs_sum (fun k => if C k = true then gs_dl S (S.2.getD k 0) f j else 0) S.2.length ∧ gs_sum (fun k => if C k = true then gs_dl S (S.2.getD k 0) f j else 0) S.2.length ≤ 60000000 := fun f j => by
    have e : gs_sum (fun k => if C k = true then gs_dl S (S.2.getD k 0) f j else 0) S.2.length = gs_sum (fun k => if C k = true ∧ k < S.2.length then gs_dl S (S.2.getD k 0) f j else 0) S.2.length := gs_sum_eq fun k hk => by
      by_cases c : C k = true
      · rw [if_pos c, if_pos ⟨c, hk⟩]
      · rw [if_neg c, if_neg fun z => c z.1]
    have := gs_sum_rg (f := fun k => if C k = true ∧ k < S.2.length then gs_dl S (S.2.getD k 0) f j else 0) (b := 6000000) (fun k => by
      show -6000000 ≤ (if C k = true ∧ k < S.2.length then gs_dl S (S.2.getD k 0) f j else 0) ∧ (if C k = true ∧ k < S.2.length then gs_dl S (S.2.getD k 0) f j else 0) ≤ 6000000
      by_cases c : C k = true ∧ k < S.2.length
      · rw [if_pos c]
        have hm := (hv.q hw).1 (k : Int) (by omega) (by omega)
        unfold gs_qa at hm
        rw [gs_tn] at hm
        exact gs_dl_rg (hw.2.2.2 _ hm) f j
      · rw [if_neg c]
        omega) S.2.length
    rw [e]
    omega
  refine ⟨⟨fun j hj => ?_, fun j hj => ?_, fun j hj => ?_⟩, ⟨fun j hj => ?_, fun j hj => ?_, fun j hj => ?_⟩, ⟨?_, ?_, hB⟩, fun k hk => ?_⟩
  · have a := hw.1.1 j hj
    have c := ch 0 j
    show -(B + 60000000) ≤ S.1 0 j + _ ∧ S.1 0 j + _ ≤ B + 60000000
    omega
  · rw [gs_sm_o j (by decide) (by decide)]
    have := hw.1.2.1 j hj
    omega
  · have a := hw.1.2.2 j hj
    have c := ch 5 j
    show -(B + 60000000) ≤ S.1 5 j + _ ∧ S.1 5 j + _ ≤ B + 60000000
    omega
  · rw [gs_sm_o j (by decide) (by decide)]; exact hw.2.1.1 j hj
  · rw [gs_sm_o j (by decide) (by decide)]; exact hw.2.1.2.1 j hj
  · rw [gs_sm_o j (by decide) (by decide)]; exact hw.2.1.2.2 j hj
  · rw [gs_sm_o 0 (by decide) (by decide)]; exact hw.2.2.1.1
  · rw [gs_sm_o 1 (by decide) (by decide)]; exact hw.2.2.1.2.1
  · rw [gs_sm_o 1 (by decide) (by decide)] at hk
    exact gs_iok_cg (hw.2.2.2 k hk) fun c _ => gs_sm_o c (by omega) (by omega)
theorem gs_sm_wv (hv : gs_wv S) (C : Nat → Bool) : gs_wv (gs_sm S C) := hv.cg (fun a c h => gs_sm_o c (by omega) (by omega)) rfl
-- places
def gs_pe (S : gs_S) (k x : Nat) : Int := gs_el S (S.2.getD k 0) (x : Nat)
def gs_pd (S : gs_S) (k x : Nat) : Bool := gs_db S (S.2.getD k 0) (x : Nat)
def gs_pm (S : gs_S) (k j : Nat) : Bool := gs_mt S (S.2.getD k 0) (S.2.getD j 0)
def gs_pr0 (S : gs_S) (x : Nat) : Int := gs_rm S (x : Nat)
theorem gs_rm_sm (S : gs_S) (C : Nat → Bool) (x : Nat) : gs_rm (gs_sm S C) (x : Nat) = gs_pr0 S x + gs_pos (gs_pe S) C S.2.length x := by
  have ln : ∀ p, gs_ln (gs_sm S C) p = gs_ln S p := fun p => by
    unfold gs_ln
    rw [gs_sm_o _ (by decide) (by decide), gs_sm_o _ (by decide) (by decide), gs_sm_o _ (by decide) (by decide), gs_sm_o _ (by decide) (by decide), gs_sm_o _ (by decide) (by decide), gs_sm_o _ (by decide) (by decide)]
  unfold gs_pr0 gs_pos gs_pe gs_rm
  rw [gs_sm_o _ (by decide) (by decide), ln]
  by_cases c1 : (18 : Int) ≤ x
  · rw [if_pos c1, if_pos c1]
    by_cases c2 : S.1 4 ((x : Int) - 18).toNat = -1
    · rw [if_pos c2, if_pos c2, gs_sum_0 (fun k _ => by
        show (if C k = true then gs_el S (S.2.getD k 0) x else 0) = 0
        unfold gs_el
        rw [if_pos c1, if_pos c2]
        exact ite_self _), Int.add_zero]
    · rw [if_neg c2, if_neg c2]
      have : gs_sum (fun k => if C k = true then gs_el S (S.2.getD k 0) x else 0) S.2.length = -gs_sum (fun k => if C k = true then gs_dl S (S.2.getD k 0) 5 ((x : Int) - 18).toNat else 0) S.2.length := by
        rw [← gs_sum_neg]
        refine gs_sum_eq fun k _ => ?_
        unfold gs_el
        rw [if_pos c1, if_neg c2]
        split
        · rfl
        · rfl
      rw [this]
      show S.1 4 ((x : Int) - 18).toNat - (S.1 5 ((x : Int) - 18).toNat + _) = _
      omega
  · rw [if_neg c1, if_neg c1]
    have : gs_sum (fun k => if C k = true then gs_el S (S.2.getD k 0) x else 0) S.2.length = gs_sum (fun k => if C k = true then gs_dl S (S.2.getD k 0) 0 (x : Int).toNat else 0) S.2.length := gs_sum_eq fun k _ => by
      unfold gs_el
      rw [if_neg c1]
    rw [this]
    by_cases c2 : (x : Int) % 3 = 0
    · rw [if_pos c2, if_pos c2]
      show S.1 0 (x : Int).toNat + _ + gs_ln S ((x : Int) / 3) = _
      omega
    · rw [if_neg c2, if_neg c2]
      rfl
theorem gs_pd_e (hw : gs_wb B S) (hv : gs_wv S) {x : Nat} (hx : x < 54) : ∀ k, k < S.2.length → gs_pe S k x < 0 → gs_pd S k x = true := fun k hk h => by
  have hm := (hv.q hw).1 (k : Int) (by omega) (by omega)
  unfold gs_qa at hm
  rw [gs_tn] at hm
  exact gs_el_db (hw.2.2.2 _ hm) (by omega) (by omega) h
theorem gs_pd_m (hw : gs_wb B S) (hv : gs_wv S) {x : Nat} : ∀ k j, k < S.2.length → j < k → gs_pd S k x = true → gs_pd S j x = true → gs_pm S k j = true := fun k j hk hj h1 h2 => by
  have m1 := (hv.q hw).1 (k : Int) (by omega) (by omega)
  have m2 := (hv.q hw).1 (j : Int) (by omega) (by omega)
  unfold gs_qa at m1 m2
  rw [gs_tn] at m1 m2
  have o1 := hw.2.2.2 _ m1
  have o2 := hw.2.2.2 _ m2
  obtain ⟨a0, a1, a2, a3, a4⟩ := o1.r
  obtain ⟨b0, b1, b2, b3, b4⟩ := o2.r
  have s1 := o1.2.1.2.2.2
  have s2 := o2.2.1.2.2.2
  unfold gs_pd gs_db at h1 h2
  rw [decide_eq_true_iff] at h1 h2
  unfold gs_pm gs_mt
  rw [decide_eq_true_iff]
  omega
/-- the greatest closed and covered set -/
noncomputable def gs_mx (S : gs_S) (k : Nat) : Bool := @decide (∃ U : Nat → Bool, gs_cl (gs_pm S) S.2.length U ∧ gs_cv2 (gs_pe S) (gs_pr0 S) S.2.length 54 U ∧ U k = true) (Classical.propDecidable _)
theorem gs_mx_eq (h1 : gs_cl (gs_pm S) S.2.length C) (h2 : gs_cv2 (gs_pe S) (gs_pr0 S) S.2.length 54 C) (h3 : ∀ U : Nat → Bool, gs_cl (gs_pm S) S.2.length U → gs_cv2 (gs_pe S) (gs_pr0 S) S.2.length 54 U → ∀ k, k < S.2.length → U k = true → C k = true) : ∀ k, k < S.2.length → C k = gs_mx S k := by
  intro k hk
  rw [Bool.eq_iff_iff]
  unfold gs_mx
  rw [@decide_eq_true_iff _ (Classical.propDecidable _)]
  exact ⟨fun h => ⟨C, h1, h2, h⟩, fun ⟨U, u1, u2, u3⟩ => h3 U u1 u2 k hk u3⟩
theorem gs_sm_cg {C' : Nat → Bool} (h : ∀ k, k < S.2.length → C' k = C k) : gs_sm S C' = gs_sm S C := by
  refine Prod.ext ?_ rfl
  funext f j
  show S.1 f j + gs_sum _ _ = S.1 f j + gs_sum _ _
  rw [gs_sum_eq fun k hk => by rw [h k hk]]
end RA
end
section
-- the component resolves
def gs_Rs (d : gs_D) (S : gs_S) (C : Nat → Bool) : Prop := gs_Cl 0 d (gs_sm S C) ∧ ∀ k : Int, 0 ≤ k → k < S.2.length → d.1 2 0 k.toNat = gs_n (gs_z (C k.toNat))
section RB
variable {d : gs_D} {S : gs_S} {B : Int} {C : Nat → Bool}
theorem gs_sm_at (hw : gs_wb B S) (hv : gs_wv S) (hB : B + 60000000 ≤ 1000000000000) (h : gs_Rs d S C) {k : Int} (k0 : 0 ≤ k) (k1 : k < S.2.length) : f_Q_at [gs_r 4 0, gs_i (gs_n k)] d = some (some (gs_r 13 (gs_ii 0 (gs_qa S k))), d) ∧ (gs_qa S k : Int) < (gs_sm S C).1 6 1 := by
  have w1 := gs_sm_wb hw hv hB C
  have q1 := (gs_sm_wv hv C).q w1
  exact ⟨s_Q_at h.1 w1 q1 k0 k1, q1.1 k k0 k1⟩
theorem s_G_chooseAll (hC : gs_Cl 0 d S) (hw : gs_wb B S) (hv : gs_wv S) (hB : B + 60000000 ≤ 1000000000000) : ∃ d', f_G_chooseAll [gs_r 0 0] d = some (none, d') ∧ gs_Rs d' S (fun _ => true) ∧ gs_fr d d' := by
  have hl := hv.2
  have key : ∀ (n k : Nat) (dk : gs_D), k + n = S.2.length → gs_Cl 0 dk (gs_sm S (fun m => decide (m < k))) → (∀ j : Int, 0 ≤ j → j < k → dk.1 2 0 j.toNat = gs_n 1) → gs_fr d dk → ∃ d', gs_g Y0 P_G_chooseAll 2 [some (gs_r 0 0), some (gs_i (gs_n k))] [] dk = some (none, d') ∧ gs_Rs d' S (fun _ => true) ∧ gs_fr d d' := by
    intro n
    induction n with
    | zero =>
      intro k dk hk hc hj hf
      have hwt : dk.1 4 0 3 = gs_n S.2.length := hc.wt
      refine ⟨dk, ?_, ⟨?_, fun j j0 j1 => ?_⟩, hf⟩
      · rw [k_G_chooseAll_2]
        simp (disch := omega) only [k_G_chooseAll_51, hwt, ↓reduceIte, Int.reduceAdd, Int.reduceSub, Int.reduceMul, Int.reduceToNat, gs_00, gs_ofi, gs_k0_m, gs_k1_m, gs_n8, gs_n16, gs_n_add, gs_n_sub, gs_n_mul, gs_n_neg, gs_m_add, gs_m_sub, gs_m_mul, gs_m_neg, gs_n_l, gs_m_n, gs_n_c, gs_eq_t, gs_eq_f1, gs_eq_f2, gs_lt_t, gs_lt_f, gs_le_t, gs_le_f, gs_cmp_lt, gs_cmp_eq, gs_cmp_gt, gs_ix_n, gs_nz_n, gs_nzl_g, gs_n_div, gs_af1, gs_af0, gs_ck0, gs_ck1, gs_ck2t, gs_ck2f, gs_ck3, gs_ck4, gs_zd_t, gs_zd_f, gs_zt_t, gs_zt_f, gs_nar1, gs_nar0, gs_tn, if_true, if_false, not_true_eq_false, not_false_eq_true]
      · rw [gs_sm_cg (C := fun m => decide (m < k)) (fun m hm => (decide_eq_true (show m < k by omega)).symm)]
        exact hc
      · exact hj j j0 (by omega)
    | succ n ih =>
      intro k dk hk hc hj hf
      have c1 : gs_Cl 0 (gs_wI dk 2 0 k (gs_n 1)) (gs_sm S (fun m => decide (m < k))) := by
        have o : ∀ t i, t ≠ 2 → (gs_wI dk 2 0 k (gs_n 1)).1 t i = dk.1 t i := fun t i h => by
          funext j
          exact gs_wI_o (by omega)
        refine ⟨⟨hc.h, hc.p⟩, ⟨fun j hj => ?_, fun j hj => ?_⟩, ⟨fun j hj => ?_, hc.nt⟩, ⟨?_, ?_, ?_⟩, fun i j hi hj => ?_, fun j hj => ?_⟩
        · rw [o 7 0 (by decide)]; exact hc.pr j hj
        · rw [o 8 0 (by decide)]; exact hc.hc j hj
        · rw [o 9 0 (by decide)]; exact hc.li j hj
        · rw [o 1 0 (by decide)]; exact hc.dy
        · rw [o 4 0 (by decide)]; exact hc.ct
        · rw [o 4 0 (by decide)]; exact hc.wt
        · rw [o 13 _ (by decide)]; exact hc.is i j hi hj
        · rw [o 12 0 (by decide)]; exact hc.od j hj
      have hwt : dk.1 4 0 3 = gs_n S.2.length := hc.wt
      have w1 := gs_sm_wb hw hv hB (fun m => decide (m < k))
      have q1 := (gs_sm_wv hv (fun m => decide (m < k))).q w1
      have ha := s_Q_at c1 w1 q1 (k := (k : Int)) (by omega) (by show (k : Int) < S.2.length; omega)
      have hm := q1.1 (k : Int) (by omega) (by show (k : Int) < S.2.length; omega)
      obtain ⟨d2, e2, c2, f2, g2⟩ := s_A_mvd c1 w1 hm (Or.inl rfl)
      have eq : gs_qa (gs_sm S (fun m => decide (m < k))) (k : Int) = S.2.getD k 0 := by
        show S.2.getD (k : Int).toNat 0 = _
        rw [gs_tn]
      rw [eq] at ha e2 c2
      rw [gs_sm_set (C' := fun m => decide (m < k + 1)) (by omega) (fun j hj => by
        by_cases c : j < k
        · rw [decide_eq_true c, decide_eq_true (by omega)]
        · rw [decide_eq_false c, decide_eq_false (by omega)]) (by
        rw [decide_eq_true (show k < k + 1 by omega), decide_eq_false (show ¬ k < k by omega)]; rfl)] at c2
      obtain ⟨d3, e3, r3⟩ := ih (k + 1) d2 (by omega) c2 (fun j j0 j1 => by
        rw [g2]
        by_cases z : j = k
        · subst z
          rw [gs_tn]
          exact gs_wI_s
        · rw [gs_wI_o (by omega)]
          exact hj j j0 (by omega)) ((hf.tr (gs_fr.I rfl)).tr f2)
      refine ⟨d3, ?_, r3⟩
      rw [show ((k + 1 : Nat) : Int) = (k : Int) + 1 by omega] at e3
      rw [k_G_chooseAll_2]
      simp (disch := omega) only [e_G_chooseAll, k_G_chooseAll_0, k_G_chooseAll_16, k_G_chooseAll_23, k_G_chooseAll_41, k_G_chooseAll_45, k_G_chooseAll_51, hwt, ha, e2, ↓reduceIte, Int.reduceAdd, Int.reduceSub, Int.reduceMul, Int.reduceToNat, gs_00, gs_ofi, gs_k0_m, gs_k1_m, gs_n8, gs_n16, gs_n_add, gs_n_sub, gs_n_mul, gs_n_neg, gs_m_add, gs_m_sub, gs_m_mul, gs_m_neg, gs_n_l, gs_m_n, gs_n_c, gs_eq_t, gs_eq_f1, gs_eq_f2, gs_lt_t, gs_lt_f, gs_le_t, gs_le_f, gs_cmp_lt, gs_cmp_eq, gs_cmp_gt, gs_ix_n, gs_nz_n, gs_nzl_g, gs_n_div, gs_af1, gs_af0, gs_ck0, gs_ck1, gs_ck2t, gs_ck2f, gs_ck3, gs_ck4, gs_zd_t, gs_zd_f, gs_zt_t, gs_zt_f, gs_nar1, gs_nar0, gs_tn, if_true, if_false, not_true_eq_false, not_false_eq_true]
      exact e3
  obtain ⟨d', e, r⟩ := key S.2.length 0 d (by omega) (hC.cg (fun f j => by
    show S.1 f j + gs_sum _ _ = _
    rw [gs_sum_0 (fun k _ => if_neg (by simp)), Int.add_zero]) rfl) (fun j j0 j1 => by omega) gs_fr.rf
  refine ⟨d', ?_, r⟩
  rw [show ((0 : Nat) : Int) = 0 from rfl] at e
  simp (disch := omega) only [e_G_chooseAll, k_G_chooseAll_0, e, ↓reduceIte, Int.reduceAdd, Int.reduceSub, Int.reduceMul, Int.reduceToNat, gs_00, gs_ofi, gs_k0_m, gs_k1_m, gs_n8, gs_n16, gs_n_add, gs_n_sub, gs_n_mul, gs_n_neg, gs_m_add, gs_m_sub, gs_m_mul, gs_m_neg, gs_n_l, gs_m_n, gs_n_c, gs_eq_t, gs_eq_f1, gs_eq_f2, gs_lt_t, gs_lt_f, gs_le_t, gs_le_f, gs_cmp_lt, gs_cmp_eq, gs_cmp_gt, gs_ix_n, gs_nz_n, gs_nzl_g, gs_n_div, gs_af1, gs_af0, gs_ck0, gs_ck1, gs_ck2t, gs_ck2f, gs_ck3, gs_ck4, gs_zd_t, gs_zd_f, gs_zt_t, gs_zt_f, gs_nar1, gs_nar0, gs_tn, if_true, if_false, not_true_eq_false, not_false_eq_true]
/-- one is taken back -/
def gs_off1 (C : Nat → Bool) (k : Nat) : Nat → Bool := fun m => if m = k then false else C m
theorem s_G_drop (h : gs_Rs d S C) (hw : gs_wb B S) (hv : gs_wv S) (hB : B + 60000000 ≤ 1000000000000) {k : Int} (k0 : 0 ≤ k) (k1 : k < S.2.length) (hk : C k.toNat = true) : ∃ d', f_G_drop [gs_r 0 0, gs_i (gs_n k)] d = some (none, d') ∧ gs_Rs d' S (gs_off1 C k.toNat) ∧ gs_fr d d' := by
  have hl := hv.2
  obtain ⟨hc, hj⟩ := h
  have c1 : gs_Cl 0 (gs_wI d 2 0 k.toNat (gs_n 0)) (gs_sm S C) := by
    have o : ∀ t i, t ≠ 2 → (gs_wI d 2 0 k.toNat (gs_n 0)).1 t i = d.1 t i := fun t i h => by
      funext j
      exact gs_wI_o (by omega)
    refine ⟨⟨hc.h, hc.p⟩, ⟨fun j hj => ?_, fun j hj => ?_⟩, ⟨fun j hj => ?_, hc.nt⟩, ⟨?_, ?_, ?_⟩, fun i j hi hj => ?_, fun j hj => ?_⟩
    · rw [o 7 0 (by decide)]; exact hc.pr j hj
    · rw [o 8 0 (by decide)]; exact hc.hc j hj
    · rw [o 9 0 (by decide)]; exact hc.li j hj
    · rw [o 1 0 (by decide)]; exact hc.dy
    · rw [o 4 0 (by decide)]; exact hc.ct
    · rw [o 4 0 (by decide)]; exact hc.wt
    · rw [o 13 _ (by decide)]; exact hc.is i j hi hj
    · rw [o 12 0 (by decide)]; exact hc.od j hj
  have w1 := gs_sm_wb hw hv hB C
  have q1 := (gs_sm_wv hv C).q w1
  have ha := s_Q_at c1 w1 q1 k0 k1
  have hm := q1.1 k k0 k1
  obtain ⟨d2, e2, c2, f2, g2⟩ := s_A_mvd c1 w1 hm (Or.inr rfl)
  have eo : gs_off1 C k.toNat k.toNat = false := if_pos rfl
  have c2 : gs_Cl 0 d2 (gs_mvd (gs_sm S C) (S.2.getD k.toNat 0) (-1)) := c2
  rw [gs_sm_set (C' := gs_off1 C k.toNat) (by omega) (fun j hj => if_neg hj) (by rw [eo, hk]; rfl)] at c2
  refine ⟨d2, ?_, ⟨c2, fun j j0 j1 => ?_⟩, (gs_fr.I rfl).tr f2⟩
  · simp (disch := omega) only [e_G_drop, k_G_drop_0, k_G_drop_7, k_G_drop_25, k_G_drop_29, ha, e2, ↓reduceIte, Int.reduceAdd, Int.reduceSub, Int.reduceMul, Int.reduceToNat, gs_00, gs_ofi, gs_k0_m, gs_k1_m, gs_n8, gs_n16, gs_n_add, gs_n_sub, gs_n_mul, gs_n_neg, gs_m_add, gs_m_sub, gs_m_mul, gs_m_neg, gs_n_l, gs_m_n, gs_n_c, gs_eq_t, gs_eq_f1, gs_eq_f2, gs_lt_t, gs_lt_f, gs_le_t, gs_le_f, gs_cmp_lt, gs_cmp_eq, gs_cmp_gt, gs_ix_n, gs_nz_n, gs_nzl_g, gs_n_div, gs_af1, gs_af0, gs_ck0, gs_ck1, gs_ck2t, gs_ck2f, gs_ck3, gs_ck4, gs_zd_t, gs_zd_f, gs_zt_t, gs_zt_f, gs_nar1, gs_nar0, gs_tn, if_true, if_false, not_true_eq_false, not_false_eq_true]
  · rw [g2]
    by_cases z : j = k
    · subst z
      rw [eo]
      exact gs_wI_s
    · rw [gs_wI_o (by omega), hj j j0 j1]
      show _ = gs_n (gs_z (if j.toNat = k.toNat then false else C j.toNat))
      rw [if_neg (by omega)]
theorem gs_mt_sm (C : Nat → Bool) (i j : Nat) : gs_mt (gs_sm S C) i j = gs_mt S i j := by
  unfold gs_mt
  simp only [gs_sm_o (S := S) (C := C) (f := 10 + i) _ (by omega) (by omega), gs_sm_o (S := S) (C := C) (f := 10 + j) _ (by omega) (by omega)]
theorem gs_db_sm (C : Nat → Bool) (i : Nat) (x : Int) : gs_db (gs_sm S C) i x = gs_db S i x := by
  unfold gs_db
  simp only [gs_sm_o (S := S) (C := C) (f := 10 + i) _ (by omega) (by omega)]
theorem s_G_isBehindDropped (h : gs_Rs d S C) (hw : gs_wb B S) (hv : gs_wv S) (hB : B + 60000000 ≤ 1000000000000) {p : Nat} (p1 : p < S.2.length) : f_G_isBehindDropped [gs_r 0 0, gs_i (gs_n p)] d = some (some (gs_i (gs_n (gs_z (gs_bd (gs_pm S) C p)))), d) := by
  have hl := hv.2
  have w1 := gs_sm_wb hw hv hB C
  have q1 := (gs_sm_wv hv C).q w1
  have eqa : ∀ k : Nat, gs_qa (gs_sm S C) (k : Int) = S.2.getD k 0 := fun k => by
    show S.2.getD (k : Int).toNat 0 = _
    rw [gs_tn]
  have ap := s_Q_at h.1 w1 q1 (k := (p : Int)) (by omega) (by show (p : Int) < S.2.length; omega)
  have mp := q1.1 (p : Int) (by omega) (by show (p : Int) < S.2.length; omega)
  rw [eqa] at ap mp
  have key : ∀ (n k : Nat), k + n = p → (∀ i, i < k → ¬ (C i = false ∧ gs_pm S p i = true)) → gs_g Y0 P_G_isBehindDropped 2 [some (gs_r 0 0), some (gs_i (gs_n p)), some (gs_i (gs_n k))] [] d = some (some (gs_i (gs_n (gs_z (gs_bd (gs_pm S) C p)))), d) := by
    intro n
    induction n with
    | zero =>
      intro k hk hn
      have e : gs_bd (gs_pm S) C p = false := by
        cases hb : gs_bd (gs_pm S) C p
        · rfl
        · obtain ⟨i, i1, i2, i3⟩ := gs_bd_t.mp hb
          exact absurd ⟨i2, i3⟩ (hn i (by omega))
      rw [e, k_G_isBehindDropped_2]
      simp (disch := omega) only [k_G_isBehindDropped_52, ↓reduceIte, Int.reduceAdd, Int.reduceSub, Int.reduceMul, Int.reduceToNat, gs_00, gs_ofi, gs_k0_m, gs_k1_m, gs_n8, gs_n16, gs_n_add, gs_n_sub, gs_n_mul, gs_n_neg, gs_m_add, gs_m_sub, gs_m_mul, gs_m_neg, gs_n_l, gs_m_n, gs_n_c, gs_eq_t, gs_eq_f1, gs_eq_f2, gs_lt_t, gs_lt_f, gs_le_t, gs_le_f, gs_cmp_lt, gs_cmp_eq, gs_cmp_gt, gs_ix_n, gs_nz_n, gs_nzl_g, gs_n_div, gs_af1, gs_af0, gs_ck0, gs_ck1, gs_ck2t, gs_ck2f, gs_ck3, gs_ck4, gs_zd_t, gs_zd_f, gs_zt_t, gs_zt_f, gs_nar1, gs_nar0, gs_tn, if_true, if_false, not_true_eq_false, not_false_eq_true]
    | succ n ih =>
      intro k hk hn
      have hch := h.2 (k : Int) (by omega) (by omega)
      rw [gs_tn] at hch
      have ak := s_Q_at h.1 w1 q1 (k := (k : Int)) (by omega) (by show (k : Int) < S.2.length; omega)
      have mk := q1.1 (k : Int) (by omega) (by show (k : Int) < S.2.length; omega)
      rw [eqa] at ak mk
      have hmt := s_I_meets h.1 w1 mp mk
      rw [gs_mt_sm] at hmt
      have go : ¬ (C k = false ∧ gs_pm S p k = true) → gs_g Y0 P_G_isBehindDropped 2 [some (gs_r 0 0), some (gs_i (gs_n p)), some (gs_i (gs_n ((k : Int) + 1)))] [] d = some (some (gs_i (gs_n (gs_z (gs_bd (gs_pm S) C p)))), d) := fun hno => by
        have := ih (k + 1) (by omega) (fun i hi => by
          by_cases z : i = k
          · rw [z]; exact hno
          · exact hn i (by omega))
        rw [show ((k + 1 : Nat) : Int) = (k : Int) + 1 by omega] at this
        exact this
      rw [k_G_isBehindDropped_2]
      cases hck : C k
      · rw [hck] at hch
        cases hb : gs_pm S p k
        · have hb' : gs_mt S (S.2.getD p 0) (S.2.getD k 0) = false := hb
          rw [hb'] at hmt
          simp (disch := omega) only [e_G_isBehindDropped, k_G_isBehindDropped_0, k_G_isBehindDropped_7, k_G_isBehindDropped_13, k_G_isBehindDropped_16, k_G_isBehindDropped_27, k_G_isBehindDropped_38, k_G_isBehindDropped_41, k_G_isBehindDropped_44, k_G_isBehindDropped_46, k_G_isBehindDropped_52, hch, ap, ak, hmt, ↓reduceIte, Int.reduceAdd, Int.reduceSub, Int.reduceMul, Int.reduceToNat, gs_00, gs_ofi, gs_k0_m, gs_k1_m, gs_n8, gs_n16, gs_n_add, gs_n_sub, gs_n_mul, gs_n_neg, gs_m_add, gs_m_sub, gs_m_mul, gs_m_neg, gs_n_l, gs_m_n, gs_n_c, gs_eq_t, gs_eq_f1, gs_eq_f2, gs_lt_t, gs_lt_f, gs_le_t, gs_le_f, gs_cmp_lt, gs_cmp_eq, gs_cmp_gt, gs_ix_n, gs_nz_n, gs_nzl_g, gs_n_div, gs_af1, gs_af0, gs_ck0, gs_ck1, gs_ck2t, gs_ck2f, gs_ck3, gs_ck4, gs_zd_t, gs_zd_f, gs_zt_t, gs_zt_f, gs_nar1, gs_nar0, gs_tn, if_true, if_false, not_true_eq_false, not_false_eq_true]
          exact go (by rw [hb]; simp)
        · have hb' : gs_mt S (S.2.getD p 0) (S.2.getD k 0) = true := hb
          rw [hb'] at hmt
          have e : gs_bd (gs_pm S) C p = true := gs_bd_t.mpr ⟨k, by omega, hck, hb⟩
          rw [e]
          simp (disch := omega) only [e_G_isBehindDropped, k_G_isBehindDropped_0, k_G_isBehindDropped_7, k_G_isBehindDropped_13, k_G_isBehindDropped_16, k_G_isBehindDropped_27, k_G_isBehindDropped_38, k_G_isBehindDropped_41, k_G_isBehindDropped_44, k_G_isBehindDropped_46, k_G_isBehindDropped_52, hch, ap, ak, hmt, ↓reduceIte, Int.reduceAdd, Int.reduceSub, Int.reduceMul, Int.reduceToNat, gs_00, gs_ofi, gs_k0_m, gs_k1_m, gs_n8, gs_n16, gs_n_add, gs_n_sub, gs_n_mul, gs_n_neg, gs_m_add, gs_m_sub, gs_m_mul, gs_m_neg, gs_n_l, gs_m_n, gs_n_c, gs_eq_t, gs_eq_f1, gs_eq_f2, gs_lt_t, gs_lt_f, gs_le_t, gs_le_f, gs_cmp_lt, gs_cmp_eq, gs_cmp_gt, gs_ix_n, gs_nz_n, gs_nzl_g, gs_n_div, gs_af1, gs_af0, gs_ck0, gs_ck1, gs_ck2t, gs_ck2f, gs_ck3, gs_ck4, gs_zd_t, gs_zd_f, gs_zt_t, gs_zt_f, gs_nar1, gs_nar0, gs_tn, if_true, if_false, not_true_eq_false, not_false_eq_true]
      · rw [hck] at hch
        simp (disch := omega) only [e_G_isBehindDropped, k_G_isBehindDropped_0, k_G_isBehindDropped_7, k_G_isBehindDropped_13, k_G_isBehindDropped_16, k_G_isBehindDropped_27, k_G_isBehindDropped_38, k_G_isBehindDropped_41, k_G_isBehindDropped_44, k_G_isBehindDropped_46, k_G_isBehindDropped_52, hch, ↓reduceIte, Int.reduceAdd, Int.reduceSub, Int.reduceMul, Int.reduceToNat, gs_00, gs_ofi, gs_k0_m, gs_k1_m, gs_n8, gs_n16, gs_n_add, gs_n_sub, gs_n_mul, gs_n_neg, gs_m_add, gs_m_sub, gs_m_mul, gs_m_neg, gs_n_l, gs_m_n, gs_n_c, gs_eq_t, gs_eq_f1, gs_eq_f2, gs_lt_t, gs_lt_f, gs_le_t, gs_le_f, gs_cmp_lt, gs_cmp_eq, gs_cmp_gt, gs_ix_n, gs_nz_n, gs_nzl_g, gs_n_div, gs_af1, gs_af0, gs_ck0, gs_ck1, gs_ck2t, gs_ck2f, gs_ck3, gs_ck4, gs_zd_t, gs_zd_f, gs_zt_t, gs_zt_f, gs_nar1, gs_nar0, gs_tn, if_true, if_false, not_true_eq_false, not_false_eq_true]
        exact go (by rw [hck]; simp)
  have e := key p 0 (by omega) (fun i hi => by omega)
  rw [show ((0 : Nat) : Int) = 0 from rfl] at e
  simp (disch := omega) only [e_G_isBehindDropped, k_G_isBehindDropped_0, e, ↓reduceIte, Int.reduceAdd, Int.reduceSub, Int.reduceMul, Int.reduceToNat, gs_00, gs_ofi, gs_k0_m, gs_k1_m, gs_n8, gs_n16, gs_n_add, gs_n_sub, gs_n_mul, gs_n_neg, gs_m_add, gs_m_sub, gs_m_mul, gs_m_neg, gs_n_l, gs_m_n, gs_n_c, gs_eq_t, gs_eq_f1, gs_eq_f2, gs_lt_t, gs_lt_f, gs_le_t, gs_le_f, gs_cmp_lt, gs_cmp_eq, gs_cmp_gt, gs_ix_n, gs_nz_n, gs_nzl_g, gs_n_div, gs_af1, gs_af0, gs_ck0, gs_ck1, gs_ck2t, gs_ck2f, gs_ck3, gs_ck4, gs_zd_t, gs_zd_f, gs_zt_t, gs_zt_f, gs_nar1, gs_nar0, gs_tn, if_true, if_false, not_true_eq_false, not_false_eq_true]
  exact gs_ck2
end RB
end
section
-- the component resolves: rounds
theorem gs_bd_cg {mt : Nat → Nat → Bool} {C C' : Nat → Bool} {j : Nat} (h : ∀ i, i < j → C' i = C i) : gs_bd mt C' j = gs_bd mt C j := by
  rw [Bool.eq_iff_iff, gs_bd_t, gs_bd_t]
  constructor
  · rintro ⟨i, i1, i2, i3⟩
    exact ⟨i, i1, by rw [← h i i1]; exact i2, i3⟩
  · rintro ⟨i, i1, i2, i3⟩
    exact ⟨i, i1, by rw [h i i1]; exact i2, i3⟩
section RC
variable {d : gs_D} {S : gs_S} {B : Int} {C : Nat → Bool}
theorem s_G_dropThose (h : gs_Rs d S C) (hw : gs_wb B S) (hv : gs_wv S) (hB : B + 60000000 ≤ 1000000000000) {p : Nat} (p1 : p ≤ S.2.length) : ∃ (d' : gs_D) (C2 : Nat → Bool), f_G_dropThoseBehindDropped [gs_r 0 0, gs_i (gs_n p)] d = some (none, d') ∧ gs_Rs d' S C2 ∧ (∀ j, j < p → C2 j = C j) ∧ (∀ j, p ≤ j → j < S.2.length → C2 j = (C j && !gs_bd (gs_pm S) C2 j)) ∧ gs_fr d d' := by
  have hl := hv.2
  have key : ∀ (n k : Nat) (dk : gs_D) (Ck : Nat → Bool), p ≤ k → k + n = S.2.length → gs_Rs dk S Ck → (∀ j, j < p → Ck j = C j) → (∀ j, p ≤ j → j < k → Ck j = (C j && !gs_bd (gs_pm S) Ck j)) → (∀ j, k ≤ j → Ck j = C j) → gs_fr d dk →
      ∃ (d' : gs_D) (C2 : Nat → Bool), gs_g Y0 P_G_dropThoseBehindDropped 2 [some (gs_r 0 0), some (gs_i (gs_n p)), some (gs_i (gs_n k))] [] dk = some (none, d') ∧ gs_Rs d' S C2 ∧ (∀ j, j < p → C2 j = C j) ∧ (∀ j, p ≤ j → j < S.2.length → C2 j = (C j && !gs_bd (gs_pm S) C2 j)) ∧ gs_fr d d' := by
    intro n
    induction n with
    | zero =>
      intro k dk Ck hp hk hR i1 i2 i3 hf
      have hwt : dk.1 4 0 3 = gs_n S.2.length := hR.1.wt
      refine ⟨dk, Ck, ?_, hR, i1, fun j j0 j1 => i2 j j0 (by omega), hf⟩
      rw [k_G_dropThoseBehindDropped_2]
      simp (disch := omega) only [k_G_dropThoseBehindDropped_44, hwt, ↓reduceIte, Int.reduceAdd, Int.reduceSub, Int.reduceMul, Int.reduceToNat, gs_00, gs_ofi, gs_k0_m, gs_k1_m, gs_n8, gs_n16, gs_n_add, gs_n_sub, gs_n_mul, gs_n_neg, gs_m_add, gs_m_sub, gs_m_mul, gs_m_neg, gs_n_l, gs_m_n, gs_n_c, gs_eq_t, gs_eq_f1, gs_eq_f2, gs_lt_t, gs_lt_f, gs_le_t, gs_le_f, gs_cmp_lt, gs_cmp_eq, gs_cmp_gt, gs_ix_n, gs_nz_n, gs_nzl_g, gs_n_div, gs_af1, gs_af0, gs_ck0, gs_ck1, gs_ck2t, gs_ck2f, gs_ck3, gs_ck4, gs_zd_t, gs_zd_f, gs_zt_t, gs_zt_f, gs_nar1, gs_nar0, gs_tn, if_true, if_false, not_true_eq_false, not_false_eq_true]
    | succ n ih =>
      intro k dk Ck hp hk hR i1 i2 i3 hf
      have hwt : dk.1 4 0 3 = gs_n S.2.length := hR.1.wt
      have hch := hR.2 (k : Int) (by omega) (by omega)
      rw [gs_tn] at hch
      have hib := s_G_isBehindDropped hR hw hv hB (p := k) (by omega)
      rw [k_G_dropThoseBehindDropped_2]
      cases hck : Ck k
      · rw [hck] at hch
        obtain ⟨d', C2, e, r⟩ := ih (k + 1) dk Ck (by omega) (by omega) hR i1 (fun j j0 j1 => by
          by_cases z : j = k
          · rw [z, hck, ← i3 k (Nat.le_refl k), hck, Bool.false_and]
          · exact i2 j j0 (by omega)) (fun j j0 => i3 j (by omega)) hf
        refine ⟨d', C2, ?_, r⟩
        rw [show ((k + 1 : Nat) : Int) = (k : Int) + 1 by omega] at e
        simp (disch := omega) only [e_G_dropThoseBehindDropped, k_G_dropThoseBehindDropped_0, k_G_dropThoseBehindDropped_16, k_G_dropThoseBehindDropped_22, k_G_dropThoseBehindDropped_25, k_G_dropThoseBehindDropped_30, k_G_dropThoseBehindDropped_33, k_G_dropThoseBehindDropped_38, k_G_dropThoseBehindDropped_44, hwt, hch, ↓reduceIte, Int.reduceAdd, Int.reduceSub, Int.reduceMul, Int.reduceToNat, gs_00, gs_ofi, gs_k0_m, gs_k1_m, gs_n8, gs_n16, gs_n_add, gs_n_sub, gs_n_mul, gs_n_neg, gs_m_add, gs_m_sub, gs_m_mul, gs_m_neg, gs_n_l, gs_m_n, gs_n_c, gs_eq_t, gs_eq_f1, gs_eq_f2, gs_lt_t, gs_lt_f, gs_le_t, gs_le_f, gs_cmp_lt, gs_cmp_eq, gs_cmp_gt, gs_ix_n, gs_nz_n, gs_nzl_g, gs_n_div, gs_af1, gs_af0, gs_ck0, gs_ck1, gs_ck2t, gs_ck2f, gs_ck3, gs_ck4, gs_zd_t, gs_zd_f, gs_zt_t, gs_zt_f, gs_nar1, gs_nar0, gs_tn, if_true, if_false, not_true_eq_false, not_false_eq_true]
        exact e
      · rw [hck] at hch
        cases hb : gs_bd (gs_pm S) Ck k
        · rw [hb] at hib
          obtain ⟨d', C2, e, r⟩ := ih (k + 1) dk Ck (by omega) (by omega) hR i1 (fun j j0 j1 => by
            by_cases z : j = k
            · rw [z, hb, ← i3 k (Nat.le_refl k), hck]
              rfl
            · exact i2 j j0 (by omega)) (fun j j0 => i3 j (by omega)) hf
          refine ⟨d', C2, ?_, r⟩
          rw [show ((k + 1 : Nat) : Int) = (k : Int) + 1 by omega] at e
          simp (disch := omega) only [e_G_dropThoseBehindDropped, k_G_dropThoseBehindDropped_0, k_G_dropThoseBehindDropped_16, k_G_dropThoseBehindDropped_22, k_G_dropThoseBehindDropped_25, k_G_dropThoseBehindDropped_30, k_G_dropThoseBehindDropped_33, k_G_dropThoseBehindDropped_38, k_G_dropThoseBehindDropped_44, hwt, hch, hib, ↓reduceIte, Int.reduceAdd, Int.reduceSub, Int.reduceMul, Int.reduceToNat, gs_00, gs_ofi, gs_k0_m, gs_k1_m, gs_n8, gs_n16, gs_n_add, gs_n_sub, gs_n_mul, gs_n_neg, gs_m_add, gs_m_sub, gs_m_mul, gs_m_neg, gs_n_l, gs_m_n, gs_n_c, gs_eq_t, gs_eq_f1, gs_eq_f2, gs_lt_t, gs_lt_f, gs_le_t, gs_le_f, gs_cmp_lt, gs_cmp_eq, gs_cmp_gt, gs_ix_n, gs_nz_n, gs_nzl_g, gs_n_div, gs_af1, gs_af0, gs_ck0, gs_ck1, gs_ck2t, gs_ck2f, gs_ck3, gs_ck4, gs_zd_t, gs_zd_f, gs_zt_t, gs_zt_f, gs_nar1, gs_nar0, gs_tn, if_true, if_false, not_true_eq_false, not_false_eq_true]
          exact e
        · rw [hb] at hib
          obtain ⟨d1, e1, r1, f1⟩ := s_G_drop hR hw hv hB (k := (k : Int)) (by omega) (by omega) (by rw [gs_tn]; exact hck)
          rw [gs_tn] at r1
          have on : ∀ j, j ≠ k → gs_off1 Ck k j = Ck j := fun j hj => if_neg hj
          have off : gs_off1 Ck k k = false := if_pos rfl
          obtain ⟨d', C2, e, r⟩ := ih (k + 1) d1 (gs_off1 Ck k) (by omega) (by omega) r1 (fun j j0 => by rw [on j (by omega)]; exact i1 j j0) (fun j j0 j1 => by
            rw [gs_bd_cg (C := Ck) (fun i hi => on i (by omega))]
            by_cases z : j = k
            · rw [z, off, hb]
              simp
            · rw [on j z]
              exact i2 j j0 (by omega)) (fun j j0 => by rw [on j (by omega)]; exact i3 j (by omega)) (hf.tr f1)
          refine ⟨d', C2, ?_, r⟩
          rw [show ((k + 1 : Nat) : Int) = (k : Int) + 1 by omega] at e
          simp (disch := omega) only [e_G_dropThoseBehindDropped, k_G_dropThoseBehindDropped_0, k_G_dropThoseBehindDropped_16, k_G_dropThoseBehindDropped_22, k_G_dropThoseBehindDropped_25, k_G_dropThoseBehindDropped_30, k_G_dropThoseBehindDropped_33, k_G_dropThoseBehindDropped_38, k_G_dropThoseBehindDropped_44, hwt, hch, hib, e1, ↓reduceIte, Int.reduceAdd, Int.reduceSub, Int.reduceMul, Int.reduceToNat, gs_00, gs_ofi, gs_k0_m, gs_k1_m, gs_n8, gs_n16, gs_n_add, gs_n_sub, gs_n_mul, gs_n_neg, gs_m_add, gs_m_sub, gs_m_mul, gs_m_neg, gs_n_l, gs_m_n, gs_n_c, gs_eq_t, gs_eq_f1, gs_eq_f2, gs_lt_t, gs_lt_f, gs_le_t, gs_le_f, gs_cmp_lt, gs_cmp_eq, gs_cmp_gt, gs_ix_n, gs_nz_n, gs_nzl_g, gs_n_div, gs_af1, gs_af0, gs_ck0, gs_ck1, gs_ck2t, gs_ck2f, gs_ck3, gs_ck4, gs_zd_t, gs_zd_f, gs_zt_t, gs_zt_f, gs_nar1, gs_nar0, gs_tn, if_true, if_false, not_true_eq_false, not_false_eq_true]
          exact e
  obtain ⟨d', C2, e, r⟩ := key (S.2.length - p) p d C (Nat.le_refl p) (by omega) h (fun _ _ => rfl) (fun j j0 j1 => by omega) (fun _ _ => rfl) gs_fr.rf
  refine ⟨d', C2, ?_, r⟩
  simp (disch := omega) only [e_G_dropThoseBehindDropped, k_G_dropThoseBehindDropped_0, e, ↓reduceIte, Int.reduceAdd, Int.reduceSub, Int.reduceMul, Int.reduceToNat, gs_00, gs_ofi, gs_k0_m, gs_k1_m, gs_n8, gs_n16, gs_n_add, gs_n_sub, gs_n_mul, gs_n_neg, gs_m_add, gs_m_sub, gs_m_mul, gs_m_neg, gs_n_l, gs_m_n, gs_n_c, gs_eq_t, gs_eq_f1, gs_eq_f2, gs_lt_t, gs_lt_f, gs_le_t, gs_le_f, gs_cmp_lt, gs_cmp_eq, gs_cmp_gt, gs_ix_n, gs_nz_n, gs_nzl_g, gs_n_div, gs_af1, gs_af0, gs_ck0, gs_ck1, gs_ck2t, gs_ck2f, gs_ck3, gs_ck4, gs_zd_t, gs_zd_f, gs_zt_t, gs_zt_f, gs_nar1, gs_nar0, gs_tn, if_true, if_false, not_true_eq_false, not_false_eq_true]
theorem s_G_dropLast (h : gs_Rs d S C) (hw : gs_wb B S) (hv : gs_wv S) (hB : B + 60000000 ≤ 1000000000000) {x : Nat} (x1 : x < 54) (hx : ∃ k, k < S.2.length ∧ C k = true ∧ gs_pd S k x = true) : ∃ (d' : gs_D) (C2 : Nat → Bool) (k : Nat), f_G_dropLastThatDebits [gs_r 0 0, gs_i (gs_n x)] d = some (none, d') ∧ gs_Rs d' S C2 ∧ k < S.2.length ∧ C k = true ∧ gs_pd S k x = true ∧ (∀ j, k < j → j < S.2.length → C j = true → ¬ gs_pd S j x = true) ∧ gs_left (gs_pm S) S.2.length k C C2 ∧ gs_fr d d' := by
  have hl := hv.2
  have w1 := gs_sm_wb hw hv hB C
  have q1 := (gs_sm_wv hv C).q w1
  have hwt : d.1 4 0 3 = gs_n S.2.length := h.1.wt
  have key : ∀ (m : Nat), m ≤ S.2.length → (∀ j, m ≤ j → j < S.2.length → C j = true → ¬ gs_pd S j x = true) →
      ∃ (d' : gs_D) (C2 : Nat → Bool) (k : Nat), gs_g Y0 P_G_dropLastThatDebits 13 [some (gs_r 0 0), some (gs_i (gs_n x)), some (gs_i (gs_n ((m : Int) - 1)))] [] d = some (none, d') ∧ gs_Rs d' S C2 ∧ k < S.2.length ∧ C k = true ∧ gs_pd S k x = true ∧ (∀ j, k < j → j < S.2.length → C j = true → ¬ gs_pd S j x = true) ∧ gs_left (gs_pm S) S.2.length k C C2 ∧ gs_fr d d' := by
    intro m
    induction m with
    | zero =>
      intro _ hn
      obtain ⟨k, k1, k2, k3⟩ := hx
      exact absurd k3 (hn k (by omega) k1 k2)
    | succ m ih =>
      intro hm hn
      have hch := h.2 (m : Int) (by omega) (by omega)
      rw [gs_tn] at hch
      have am := s_Q_at h.1 w1 q1 (k := (m : Int)) (by omega) (by show (m : Int) < S.2.length; omega)
      have mm := q1.1 (m : Int) (by omega) (by show (m : Int) < S.2.length; omega)
      have eqa : gs_qa (gs_sm S C) (m : Int) = S.2.getD m 0 := by
        show S.2.getD (m : Int).toNat 0 = _
        rw [gs_tn]
      rw [eqa] at am mm
      have hdb := s_I_debits h.1 w1 mm (x := (x : Int)) (by omega) (by omega)
      rw [gs_db_sm] at hdb
      have ex : ((m + 1 : Nat) : Int) - 1 = (m : Int) := by omega
      have e2 : (m : Int) + -1 = (m : Int) - 1 := by omega
      have go : ¬ (C m = true ∧ gs_pd S m x = true) → ∃ (d' : gs_D) (C2 : Nat → Bool) (k : Nat), gs_g Y0 P_G_dropLastThatDebits 13 [some (gs_r 0 0), some (gs_i (gs_n x)), some (gs_i (gs_n ((m : Int) - 1)))] [] d = some (none, d') ∧ gs_Rs d' S C2 ∧ k < S.2.length ∧ C k = true ∧ gs_pd S k x = true ∧ (∀ j, k < j → j < S.2.length → C j = true → ¬ gs_pd S j x = true) ∧ gs_left (gs_pm S) S.2.length k C C2 ∧ gs_fr d d' := fun hno => ih (by omega) (fun j j0 j1 hcj hpj => by
          by_cases z : j = m
          · rw [z] at hcj hpj
            exact hno ⟨hcj, hpj⟩
          · exact hn j (by omega) j1 hcj hpj)
      rw [ex]
      cases hcm : C m
      · rw [hcm] at hch
        obtain ⟨d', C2, k, e, r⟩ := go (by rw [hcm]; simp)
        refine ⟨d', C2, k, ?_, r⟩
        rw [k_G_dropLastThatDebits_13]
        simp (disch := omega) only [e_G_dropLastThatDebits, k_G_dropLastThatDebits_0, k_G_dropLastThatDebits_17, k_G_dropLastThatDebits_23, k_G_dropLastThatDebits_26, k_G_dropLastThatDebits_37, k_G_dropLastThatDebits_41, k_G_dropLastThatDebits_44, k_G_dropLastThatDebits_49, k_G_dropLastThatDebits_56, k_G_dropLastThatDebits_57, k_G_dropLastThatDebits_63, hch, e2, ↓reduceIte, Int.reduceAdd, Int.reduceSub, Int.reduceMul, Int.reduceToNat, gs_00, gs_ofi, gs_k0_m, gs_k1_m, gs_n8, gs_n16, gs_n_add, gs_n_sub, gs_n_mul, gs_n_neg, gs_m_add, gs_m_sub, gs_m_mul, gs_m_neg, gs_n_l, gs_m_n, gs_n_c, gs_eq_t, gs_eq_f1, gs_eq_f2, gs_lt_t, gs_lt_f, gs_le_t, gs_le_f, gs_cmp_lt, gs_cmp_eq, gs_cmp_gt, gs_ix_n, gs_nz_n, gs_nzl_g, gs_n_div, gs_af1, gs_af0, gs_ck0, gs_ck1, gs_ck2t, gs_ck2f, gs_ck3, gs_ck4, gs_zd_t, gs_zd_f, gs_zt_t, gs_zt_f, gs_nar1, gs_nar0, gs_tn, if_true, if_false, not_true_eq_false, not_false_eq_true]
        exact e
      · rw [hcm] at hch
        cases hpm : gs_pd S m x
        · have hpm' : gs_db S (S.2.getD m 0) (x : Int) = false := hpm
          rw [hpm'] at hdb
          obtain ⟨d', C2, k, e, r⟩ := go (by rw [hpm]; simp)
          refine ⟨d', C2, k, ?_, r⟩
          rw [k_G_dropLastThatDebits_13]
          simp (disch := omega) only [e_G_dropLastThatDebits, k_G_dropLastThatDebits_0, k_G_dropLastThatDebits_17, k_G_dropLastThatDebits_23, k_G_dropLastThatDebits_26, k_G_dropLastThatDebits_37, k_G_dropLastThatDebits_41, k_G_dropLastThatDebits_44, k_G_dropLastThatDebits_49, k_G_dropLastThatDebits_56, k_G_dropLastThatDebits_57, k_G_dropLastThatDebits_63, hch, am, hdb, e2, ↓reduceIte, Int.reduceAdd, Int.reduceSub, Int.reduceMul, Int.reduceToNat, gs_00, gs_ofi, gs_k0_m, gs_k1_m, gs_n8, gs_n16, gs_n_add, gs_n_sub, gs_n_mul, gs_n_neg, gs_m_add, gs_m_sub, gs_m_mul, gs_m_neg, gs_n_l, gs_m_n, gs_n_c, gs_eq_t, gs_eq_f1, gs_eq_f2, gs_lt_t, gs_lt_f, gs_le_t, gs_le_f, gs_cmp_lt, gs_cmp_eq, gs_cmp_gt, gs_ix_n, gs_nz_n, gs_nzl_g, gs_n_div, gs_af1, gs_af0, gs_ck0, gs_ck1, gs_ck2t, gs_ck2f, gs_ck3, gs_ck4, gs_zd_t, gs_zd_f, gs_zt_t, gs_zt_f, gs_nar1, gs_nar0, gs_tn, if_true, if_false, not_true_eq_false, not_false_eq_true]
          exact e
        · have hpm' : gs_db S (S.2.getD m 0) (x : Int) = true := hpm
          rw [hpm'] at hdb
          obtain ⟨d1, e1, r1, f1⟩ := s_G_drop h hw hv hB (k := (m : Int)) (by omega) (by omega) (by rw [gs_tn]; exact hcm)
          rw [gs_tn] at r1
          obtain ⟨d2, C2, e3, r2, j1, j2, f2⟩ := s_G_dropThose r1 hw hv hB (p := m + 1) (by omega)
          rw [show ((m + 1 : Nat) : Int) = (m : Int) + 1 by omega] at e3
          have on : ∀ j, j ≠ m → gs_off1 C m j = C j := fun j hj => if_neg hj
          have off : gs_off1 C m m = false := if_pos rfl
          refine ⟨d2, C2, m, ?_, r2, by omega, hcm, hpm, fun j j0 => hn j (by omega), ⟨fun j hj => ?_, ?_, fun j k0 k1 => ?_⟩, f1.tr f2⟩
          · rw [k_G_dropLastThatDebits_13]
            simp (disch := omega) only [e_G_dropLastThatDebits, k_G_dropLastThatDebits_0, k_G_dropLastThatDebits_17, k_G_dropLastThatDebits_23, k_G_dropLastThatDebits_26, k_G_dropLastThatDebits_37, k_G_dropLastThatDebits_41, k_G_dropLastThatDebits_44, k_G_dropLastThatDebits_49, k_G_dropLastThatDebits_56, k_G_dropLastThatDebits_57, k_G_dropLastThatDebits_63, hch, am, hdb, e1, e3, ↓reduceIte, Int.reduceAdd, Int.reduceSub, Int.reduceMul, Int.reduceToNat, gs_00, gs_ofi, gs_k0_m, gs_k1_m, gs_n8, gs_n16, gs_n_add, gs_n_sub, gs_n_mul, gs_n_neg, gs_m_add, gs_m_sub, gs_m_mul, gs_m_neg, gs_n_l, gs_m_n, gs_n_c, gs_eq_t, gs_eq_f1, gs_eq_f2, gs_lt_t, gs_lt_f, gs_le_t, gs_le_f, gs_cmp_lt, gs_cmp_eq, gs_cmp_gt, gs_ix_n, gs_nz_n, gs_nzl_g, gs_n_div, gs_af1, gs_af0, gs_ck0, gs_ck1, gs_ck2t, gs_ck2f, gs_ck3, gs_ck4, gs_zd_t, gs_zd_f, gs_zt_t, gs_zt_f, gs_nar1, gs_nar0, gs_tn, if_true, if_false, not_true_eq_false, not_false_eq_true]
          · rw [j1 j (by omega), on j (by omega)]
          · rw [j1 m (by omega), off]
          · rw [j2 j (by omega) k1, on j (by omega)]
  obtain ⟨d', C2, k, e, r⟩ := key S.2.length (Nat.le_refl _) (fun j j0 j1 => by omega)
  refine ⟨d', C2, k, ?_, r⟩
  simp (disch := omega) only [e_G_dropLastThatDebits, k_G_dropLastThatDebits_0, hwt, e, ↓reduceIte, Int.reduceAdd, Int.reduceSub, Int.reduceMul, Int.reduceToNat, gs_00, gs_ofi, gs_k0_m, gs_k1_m, gs_n8, gs_n16, gs_n_add, gs_n_sub, gs_n_mul, gs_n_neg, gs_m_add, gs_m_sub, gs_m_mul, gs_m_neg, gs_n_l, gs_m_n, gs_n_c, gs_eq_t, gs_eq_f1, gs_eq_f2, gs_lt_t, gs_lt_f, gs_le_t, gs_le_f, gs_cmp_lt, gs_cmp_eq, gs_cmp_gt, gs_ix_n, gs_nz_n, gs_nzl_g, gs_n_div, gs_af1, gs_af0, gs_ck0, gs_ck1, gs_ck2t, gs_ck2f, gs_ck3, gs_ck4, gs_zd_t, gs_zd_f, gs_zt_t, gs_zt_f, gs_nar1, gs_nar0, gs_tn, if_true, if_false, not_true_eq_false, not_false_eq_true]
end RC
/-- is f one of those of C, from place m on -/
def gs_in6 (S : gs_S) (C : Nat → Bool) (m f : Nat) : Bool := (List.range S.2.length).any fun k => C k && (decide (m ≤ k) && decide (f = 10 + S.2.getD k 0))
theorem gs_in6_t {S : gs_S} {C : Nat → Bool} {m f : Nat} : gs_in6 S C m f = true ↔ ∃ k, k < S.2.length ∧ m ≤ k ∧ C k = true ∧ f = 10 + S.2.getD k 0 := by
  unfold gs_in6
  rw [List.any_eq_true]
  constructor
  · rintro ⟨k, hk, h⟩
    simp only [Bool.and_eq_true, decide_eq_true_iff] at h
    exact ⟨k, List.mem_range.mp hk, h.2.1, h.1, h.2.2⟩
  · rintro ⟨k, k1, k2, k3, k4⟩
    exact ⟨k, List.mem_range.mpr k1, by simp only [k3, Bool.true_and, Bool.and_eq_true, decide_eq_true_iff]; exact ⟨k2, k4⟩⟩
def gs_rs1 (S : gs_S) (C : Nat → Bool) (m : Nat) : gs_S := (fun f j => if j = 6 ∧ gs_in6 S C m f = true then 1 else (gs_sm S C).1 f j, S.2)
/-- those of C have settled -/
def gs_rs (S : gs_S) (C : Nat → Bool) : gs_S := gs_cl2 (gs_rs1 S C 0)
section RD
variable {d : gs_D} {S : gs_S} {B : Int} {C : Nat → Bool}
theorem gs_cnt_s (C : Nat → Bool) (m : Nat) : gs_cnt C (m + 1) = gs_cnt C m + gs_z (C m) := rfl
theorem s_G_leaveChosen (h : gs_Rs d S C) (hw : gs_wb B S) (hv : gs_wv S) (hB : B + 60000000 ≤ 1000000000000) : ∃ d', f_G_leaveChosen [gs_r 0 0] d = some (some (gs_i (gs_n (gs_cnt C S.2.length))), d') ∧ gs_Cl 0 d' (gs_rs S C) ∧ gs_fr d d' ∧ gs_wv (gs_rs S C) ∧ gs_wb (B + 60000000) (gs_rs S C) := by
  have hl := hv.2
  have hwt : d.1 4 0 3 = gs_n S.2.length := h.1.wt
  have cn := gs_cnt_nn C
  have key : ∀ (m : Nat) (T : gs_S) (dk : gs_D), m ≤ S.2.length → gs_Cl 0 dk T → (∀ f j, T.1 f j = (gs_rs1 S C m).1 f j) → (∀ j, j < m → T.2.getD j 0 = S.2.getD j 0) → m ≤ T.2.length → gs_wv T → gs_wb (B + 60000000) T → dk.1 2 0 = d.1 2 0 → gs_fr d dk →
      ∃ d', gs_g Y0 P_G_leaveChosen 15 [some (gs_r 0 0), some (gs_i (gs_n (gs_cnt C S.2.length - gs_cnt C m))), some (gs_i (gs_n ((m : Int) - 1)))] [] dk = some (some (gs_i (gs_n (gs_cnt C S.2.length))), d') ∧ gs_Cl 0 d' (gs_rs S C) ∧ gs_fr d d' ∧ gs_wv (gs_rs S C) ∧ gs_wb (B + 60000000) (gs_rs S C) := by
    intro m
    induction m with
    | zero =>
      intro T dk hm hc e1 e2 e3 hvT hwT hcd hf
      have eT : T = gs_rs S C := by
        have a : T.1 = (gs_rs1 S C 0).1 := by
          funext f j
          exact e1 f j
        refine Prod.ext a ?_
        rw [hvT.1]
        show gs_wl T = gs_wl (gs_rs1 S C 0)
        unfold gs_wl gs_wp
        rw [a]
      rw [← eT]
      refine ⟨dk, ?_, hc, hf, hvT, hwT⟩
      have c0 : gs_cnt C 0 = 0 := rfl
      rw [c0, Int.sub_zero, k_G_leaveChosen_15]
      simp (disch := omega) only [k_G_leaveChosen_49, ↓reduceIte, Int.reduceAdd, Int.reduceSub, Int.reduceMul, Int.reduceToNat, gs_00, gs_ofi, gs_k0_m, gs_k1_m, gs_n8, gs_n16, gs_n_add, gs_n_sub, gs_n_mul, gs_n_neg, gs_m_add, gs_m_sub, gs_m_mul, gs_m_neg, gs_n_l, gs_m_n, gs_n_c, gs_eq_t, gs_eq_f1, gs_eq_f2, gs_lt_t, gs_lt_f, gs_le_t, gs_le_f, gs_cmp_lt, gs_cmp_eq, gs_cmp_gt, gs_ix_n, gs_nz_n, gs_nzl_g, gs_n_div, gs_af1, gs_af0, gs_ck0, gs_ck1, gs_ck2t, gs_ck2f, gs_ck3, gs_ck4, gs_zd_t, gs_zd_f, gs_zt_t, gs_zt_f, gs_nar1, gs_nar0, gs_tn, if_true, if_false, not_true_eq_false, not_false_eq_true]
    | succ m ih =>
      intro T dk hm hc e1 e2 e3 hvT hwT hcd hf
      have a1 := cn m
      have a2 := cn S.2.length
      have a3 := gs_cnt_s C m
      have ex : ((m + 1 : Nat) : Int) - 1 = (m : Int) := by omega
      have e9 : (m : Int) + -1 = (m : Int) - 1 := by omega
      have hch := h.2 (m : Int) (by omega) (by omega)
      rw [gs_tn] at hch
      have hch : dk.1 2 0 m = gs_n (gs_z (C m)) := by rw [hcd]; exact hch
      rw [ex]
      cases hcm : C m
      · rw [hcm] at hch a3
        obtain ⟨d', e, r⟩ := ih T dk (by omega) hc (fun f j => by
          rw [e1 f j]
          have eb : gs_in6 S C (m + 1) f = gs_in6 S C m f := by
            rw [Bool.eq_iff_iff, gs_in6_t, gs_in6_t]
            constructor
            · rintro ⟨k, k1, k2, k3, k4⟩
              exact ⟨k, k1, by omega, k3, k4⟩
            · rintro ⟨k, k1, k2, k3, k4⟩
              refine ⟨k, k1, ?_, k3, k4⟩
              by_cases z : k = m
              · rw [z, hcm] at k3; cases k3
              · omega
          show (if j = 6 ∧ gs_in6 S C (m + 1) f = true then 1 else (gs_sm S C).1 f j) = (if j = 6 ∧ gs_in6 S C m f = true then 1 else (gs_sm S C).1 f j)
          rw [eb]) (fun j hj => e2 j (by omega)) (by omega) hvT hwT hcd hf
        refine ⟨d', ?_, r⟩
        rw [gs_zt_f, Int.add_zero] at a3
        rw [a3, k_G_leaveChosen_15]
        simp (disch := omega) only [e_G_leaveChosen, k_G_leaveChosen_0, k_G_leaveChosen_19, k_G_leaveChosen_25, k_G_leaveChosen_28, k_G_leaveChosen_40, k_G_leaveChosen_43, k_G_leaveChosen_49, hch, e9, ↓reduceIte, Int.reduceAdd, Int.reduceSub, Int.reduceMul, Int.reduceToNat, gs_00, gs_ofi, gs_k0_m, gs_k1_m, gs_n8, gs_n16, gs_n_add, gs_n_sub, gs_n_mul, gs_n_neg, gs_m_add, gs_m_sub, gs_m_mul, gs_m_neg, gs_n_l, gs_m_n, gs_n_c, gs_eq_t, gs_eq_f1, gs_eq_f2, gs_lt_t, gs_lt_f, gs_le_t, gs_le_f, gs_cmp_lt, gs_cmp_eq, gs_cmp_gt, gs_ix_n, gs_nz_n, gs_nzl_g, gs_n_div, gs_af1, gs_af0, gs_ck0, gs_ck1, gs_ck2t, gs_ck2f, gs_ck3, gs_ck4, gs_zd_t, gs_zd_f, gs_zt_t, gs_zt_f, gs_nar1, gs_nar0, gs_tn, if_true, if_false, not_true_eq_false, not_false_eq_true]
        exact e
      · rw [hcm] at hch a3
        obtain ⟨d1, e4, c4, f4, g4⟩ := s_Q_leave hc hwT (hvT.q hwT) (k := (m : Int)) (st := 1) (by omega) (by omega)
        rw [gs_tn] at c4
        have eq : T.2.getD m 0 = S.2.getD m 0 := e2 m (by omega)
        have hm1 : (S.2.getD m 0 : Int) < T.1 6 1 := by
          have := (hvT.q hwT).1 (m : Int) (by omega) (by omega)
          unfold gs_qa at this
          rw [gs_tn, eq] at this
          exact this
        obtain ⟨d', e, r⟩ := ih (gs_lv T m 1) d1 (by omega) c4 (fun f j => by
          show (if f = 10 + T.2.getD m 0 ∧ j = 6 then 1 else T.1 f j) = (if j = 6 ∧ gs_in6 S C m f = true then 1 else (gs_sm S C).1 f j)
          rw [e1 f j, eq]
          show (if f = 10 + S.2.getD m 0 ∧ j = 6 then 1 else if j = 6 ∧ gs_in6 S C (m + 1) f = true then 1 else (gs_sm S C).1 f j) = _
          by_cases z1 : f = 10 + S.2.getD m 0 ∧ j = 6
          · rw [if_pos z1, if_pos ⟨z1.2, gs_in6_t.mpr ⟨m, by omega, Nat.le_refl m, hcm, z1.1⟩⟩]
          · rw [if_neg z1]
            by_cases z2 : j = 6 ∧ gs_in6 S C (m + 1) f = true
            · obtain ⟨k, k1, k2, k3, k4⟩ := gs_in6_t.mp z2.2
              rw [if_pos z2, if_pos ⟨z2.1, gs_in6_t.mpr ⟨k, k1, by omega, k3, k4⟩⟩]
            · rw [if_neg z2, if_neg]
              rintro ⟨y1, y2⟩
              obtain ⟨k, k1, k2, k3, k4⟩ := gs_in6_t.mp y2
              by_cases z : k = m
              · rw [z] at k4
                exact z1 ⟨k4, y1⟩
              · exact z2 ⟨y1, gs_in6_t.mpr ⟨k, k1, by omega, k3, k4⟩⟩) (fun j hj => by
          show (T.2.eraseIdx m).getD j 0 = _
          rw [gs_er, if_pos hj]
          exact e2 j (by omega)) (by
          have : (gs_lv T m 1).2.length = T.2.length - 1 := List.length_eraseIdx_of_lt (by omega)
          omega) (hvT.lv hwT (by omega) (by omega) (by omega)) (gs_wb_st hwT _ (by omega) (by omega)) (g4.trans hcd) (hf.tr f4)
        refine ⟨d', ?_, r⟩
        rw [gs_zt_t] at a3
        rw [k_G_leaveChosen_15]
        simp (disch := omega) only [e_G_leaveChosen, k_G_leaveChosen_0, k_G_leaveChosen_19, k_G_leaveChosen_25, k_G_leaveChosen_28, k_G_leaveChosen_40, k_G_leaveChosen_43, k_G_leaveChosen_49, hch, e4, e9, ↓reduceIte, Int.reduceAdd, Int.reduceSub, Int.reduceMul, Int.reduceToNat, gs_00, gs_ofi, gs_k0_m, gs_k1_m, gs_n8, gs_n16, gs_n_add, gs_n_sub, gs_n_mul, gs_n_neg, gs_m_add, gs_m_sub, gs_m_mul, gs_m_neg, gs_n_l, gs_m_n, gs_n_c, gs_eq_t, gs_eq_f1, gs_eq_f2, gs_lt_t, gs_lt_f, gs_le_t, gs_le_f, gs_cmp_lt, gs_cmp_eq, gs_cmp_gt, gs_ix_n, gs_nz_n, gs_nzl_g, gs_n_div, gs_af1, gs_af0, gs_ck0, gs_ck1, gs_ck2t, gs_ck2f, gs_ck3, gs_ck4, gs_zd_t, gs_zd_f, gs_zt_t, gs_zt_f, gs_nar1, gs_nar0, gs_tn, if_true, if_false, not_true_eq_false, not_false_eq_true]
        rw [show gs_cnt C S.2.length - gs_cnt C (m + 1) + 1 = gs_cnt C S.2.length - gs_cnt C m by omega]
        exact e
  have w1 := gs_sm_wb hw hv hB C
  obtain ⟨d', e, r⟩ := key S.2.length (gs_sm S C) d (Nat.le_refl _) h.1 (fun f j => by
    show _ = (if j = 6 ∧ gs_in6 S C S.2.length f = true then 1 else (gs_sm S C).1 f j)
    rw [if_neg]
    rintro ⟨-, z⟩
    obtain ⟨k, k1, k2, -⟩ := gs_in6_t.mp z
    omega) (fun _ _ => rfl) (Nat.le_refl _) (gs_sm_wv hv C) w1 rfl gs_fr.rf
  refine ⟨d', ?_, r⟩
  rw [Int.sub_self] at e
  simp (disch := omega) only [e_G_leaveChosen, k_G_leaveChosen_0, hwt, e, ↓reduceIte, Int.reduceAdd, Int.reduceSub, Int.reduceMul, Int.reduceToNat, gs_00, gs_ofi, gs_k0_m, gs_k1_m, gs_n8, gs_n16, gs_n_add, gs_n_sub, gs_n_mul, gs_n_neg, gs_m_add, gs_m_sub, gs_m_mul, gs_m_neg, gs_n_l, gs_m_n, gs_n_c, gs_eq_t, gs_eq_f1, gs_eq_f2, gs_lt_t, gs_lt_f, gs_le_t, gs_le_f, gs_cmp_lt, gs_cmp_eq, gs_cmp_gt, gs_ix_n, gs_nz_n, gs_nzl_g, gs_n_div, gs_af1, gs_af0, gs_ck0, gs_ck1, gs_ck2t, gs_ck2f, gs_ck3, gs_ck4, gs_zd_t, gs_zd_f, gs_zt_t, gs_zt_f, gs_nar1, gs_nar0, gs_tn, if_true, if_false, not_true_eq_false, not_false_eq_true]
noncomputable def o_resolve (S : gs_S) : Int × gs_S := (gs_cnt (gs_mx S) S.2.length, gs_rs S (gs_mx S))
theorem gs_rs_cg {C' : Nat → Bool} (h : ∀ k, k < S.2.length → C' k = C k) : gs_rs S C' = gs_rs S C := by
  have e6 : ∀ f, gs_in6 S C' 0 f = gs_in6 S C 0 f := fun f => by
    rw [Bool.eq_iff_iff, gs_in6_t, gs_in6_t]
    constructor
    · rintro ⟨k, k1, k2, k3, k4⟩
      exact ⟨k, k1, k2, by rw [← h k k1]; exact k3, k4⟩
    · rintro ⟨k, k1, k2, k3, k4⟩
      exact ⟨k, k1, k2, by rw [h k k1]; exact k3, k4⟩
  have e1 : gs_rs1 S C' 0 = gs_rs1 S C 0 := by
    unfold gs_rs1
    rw [gs_sm_cg h]
    simp only [e6]
  unfold gs_rs
  rw [e1]
theorem gs_cnt_cg {C' : Nat → Bool} {n : Nat} (h : ∀ k, k < n → C' k = C k) : gs_cnt C' n = gs_cnt C n := gs_sum_eq fun k hk => by rw [h k hk]
theorem s_G_resolve (hC : gs_Cl 0 d S) (hw : gs_wb B S) (hv : gs_wv S) (hg : gs_wg S) (hB : B + 60000000 ≤ 1000000000000) : ∃ d', f_G_resolve [gs_r 0 0] d = some (some (gs_i (gs_n (o_resolve S).1)), d') ∧ gs_Cl 0 d' (o_resolve S).2 ∧ gs_fr d d' ∧ gs_wv (o_resolve S).2 ∧ gs_wb (B + 60000000) (o_resolve S).2 ∧ (gs_cl (gs_pm S) S.2.length (gs_mx S) ∧ gs_cv2 (gs_pe S) (gs_pr0 S) S.2.length 54 (gs_mx S)) := by
  have hl := hv.2
  have hr0 : ∀ x, x < 54 → 0 ≤ gs_pr0 S x := fun x hx => hg (x : Int) (by omega) (by omega)
  have fin : ∀ (dk : gs_D) (C : Nat → Bool), gs_Rs dk S C → gs_fr d dk → gs_cl (gs_pm S) S.2.length C → gs_cv2 (gs_pe S) (gs_pr0 S) S.2.length 54 C → (∀ U : Nat → Bool, gs_cl (gs_pm S) S.2.length U → gs_cv2 (gs_pe S) (gs_pr0 S) S.2.length 54 U → ∀ k, k < S.2.length → U k = true → C k = true) →
      ∃ d', f_G_leaveChosen [gs_r 0 0] dk = some (some (gs_i (gs_n (o_resolve S).1)), d') ∧ gs_Cl 0 d' (o_resolve S).2 ∧ gs_fr d d' ∧ gs_wv (o_resolve S).2 ∧ gs_wb (B + 60000000) (o_resolve S).2 ∧ (gs_cl (gs_pm S) S.2.length (gs_mx S) ∧ gs_cv2 (gs_pe S) (gs_pr0 S) S.2.length 54 (gs_mx S)) := by
    intro dk C hR hf h1 h2 h3
    have em := gs_mx_eq h1 h2 h3
    obtain ⟨d', e, c, f, v, w⟩ := s_G_leaveChosen hR hw hv hB
    rw [gs_cnt_cg em] at e
    rw [gs_rs_cg em] at c v w
    refine ⟨d', e, c, hf.tr f, v, w, ⟨fun k j hk hj => ?_, fun x hx => ?_⟩⟩
    · rw [← em k hk, ← em j (by omega)]
      exact h1 k j hk hj
    · have := h2 x hx
      unfold gs_pos at this ⊢
      rw [gs_sum_eq fun k hk => by rw [← em k hk]]
      exact this
  have key : ∀ (n : Nat) (r : Int) (dk : gs_D) (C : Nat → Bool) (o : Option gs_V), 0 ≤ r → r + n = 10 → gs_cnt C S.2.length ≤ n → gs_Rs dk S C → gs_fr d dk → gs_cl (gs_pm S) S.2.length C → (∀ U : Nat → Bool, gs_cl (gs_pm S) S.2.length U → gs_cv2 (gs_pe S) (gs_pr0 S) S.2.length 54 U → ∀ k, k < S.2.length → U k = true → C k = true) →
      ∃ d', gs_g Y0 P_G_resolve 6 [some (gs_r 0 0), some (gs_i (gs_n r)), o] [] dk = some (some (gs_i (gs_n (o_resolve S).1)), d') ∧ gs_Cl 0 d' (o_resolve S).2 ∧ gs_fr d d' ∧ gs_wv (o_resolve S).2 ∧ gs_wb (B + 60000000) (o_resolve S).2 ∧ (gs_cl (gs_pm S) S.2.length (gs_mx S) ∧ gs_cv2 (gs_pe S) (gs_pr0 S) S.2.length 54 (gs_mx S)) := by
    intro n
    induction n with
    | zero =>
      intro r dk C o r0 r1 hn hR hf h1 h3
      have z := gs_cnt_0 (C := C) (n := S.2.length) (by omega)
      obtain ⟨d', e, q⟩ := fin dk C hR hf h1 (fun x hx => by
        unfold gs_pos
        rw [gs_sum_0 (fun k hk => if_neg (by rw [z k hk]; simp)), Int.add_zero]
        exact hr0 x hx) h3
      refine ⟨d', ?_, q⟩
      rw [k_G_resolve_6]
      simp (disch := omega) only [k_G_resolve_42, k_G_resolve_46, e, ↓reduceIte, Int.reduceAdd, Int.reduceSub, Int.reduceMul, Int.reduceToNat, gs_00, gs_ofi, gs_k0_m, gs_k1_m, gs_n8, gs_n16, gs_n_add, gs_n_sub, gs_n_mul, gs_n_neg, gs_m_add, gs_m_sub, gs_m_mul, gs_m_neg, gs_n_l, gs_m_n, gs_n_c, gs_eq_t, gs_eq_f1, gs_eq_f2, gs_lt_t, gs_lt_f, gs_le_t, gs_le_f, gs_cmp_lt, gs_cmp_eq, gs_cmp_gt, gs_ix_n, gs_nz_n, gs_nzl_g, gs_n_div, gs_af1, gs_af0, gs_ck0, gs_ck1, gs_ck2t, gs_ck2f, gs_ck3, gs_ck4, gs_zd_t, gs_zd_f, gs_zt_t, gs_zt_f, gs_nar1, gs_nar0, gs_tn, if_true, if_false, not_true_eq_false, not_false_eq_true]
    | succ n ih =>
      intro r dk C o r0 r1 hn hR hf h1 h3
      obtain ⟨x, hx, e⟩ := s_A_firstBelowFloor hR.1 (gs_sm_wb hw hv hB C)
      rw [k_G_resolve_6]
      rcases hx with ⟨z1, z2⟩ | ⟨z1, z2, z3⟩
      · subst z1
        obtain ⟨d', e2, q⟩ := fin dk C hR hf h1 (fun y hy => by
          have := z2 (y : Int) (by omega) (by omega)
          rw [gs_rm_sm] at this
          exact this) h3
        refine ⟨d', ?_, q⟩
        simp (disch := omega) only [k_G_resolve_12, k_G_resolve_22, k_G_resolve_28, k_G_resolve_46, e, e2, ↓reduceIte, Int.reduceAdd, Int.reduceSub, Int.reduceMul, Int.reduceToNat, gs_00, gs_ofi, gs_k0_m, gs_k1_m, gs_n8, gs_n16, gs_n_add, gs_n_sub, gs_n_mul, gs_n_neg, gs_m_add, gs_m_sub, gs_m_mul, gs_m_neg, gs_n_l, gs_m_n, gs_n_c, gs_eq_t, gs_eq_f1, gs_eq_f2, gs_lt_t, gs_lt_f, gs_le_t, gs_le_f, gs_cmp_lt, gs_cmp_eq, gs_cmp_gt, gs_ix_n, gs_nz_n, gs_nzl_g, gs_n_div, gs_af1, gs_af0, gs_ck0, gs_ck1, gs_ck2t, gs_ck2f, gs_ck3, gs_ck4, gs_zd_t, gs_zd_f, gs_zt_t, gs_zt_f, gs_nar1, gs_nar0, gs_tn, if_true, if_false, not_true_eq_false, not_false_eq_true]
      · have hxn : ((x.toNat : Nat) : Int) = x := by omega
        have hx54 : x.toNat < 54 := by omega
        rw [← hxn, gs_rm_sm] at z3
        obtain ⟨k0, b1, b2, b3⟩ := gs_below (gs_pd_e hw hv hx54) (hr0 _ hx54) z3
        obtain ⟨d1, C2, k, e1, R1, k1, k2, k3, k4, hleft, f1⟩ := s_G_dropLast hR hw hv hB hx54 ⟨k0, b1, b2, b3⟩
        have cl2 := gs_cnt_lt (C := C) (C2 := C2) (gs_left_sub hleft) k1 k2 hleft.2.1
        obtain ⟨d', e2, q⟩ := ih (r + 1) d1 C2 (some (gs_i (gs_n x))) (by omega) (by omega) (by omega) R1 (hf.tr f1) (gs_left_cl hleft h1) (fun U u1 u2 => gs_left_max hleft (gs_pd_e hw hv hx54) (gs_pd_m hw hv) hx54 (h3 U u1 u2) u1 u2 z3 k1 k3 k4)
        rw [hxn] at e1
        refine ⟨d', ?_, q⟩
        simp (disch := omega) only [k_G_resolve_12, k_G_resolve_22, k_G_resolve_31, k_G_resolve_36, e, e1, ↓reduceIte, Int.reduceAdd, Int.reduceSub, Int.reduceMul, Int.reduceToNat, gs_00, gs_ofi, gs_k0_m, gs_k1_m, gs_n8, gs_n16, gs_n_add, gs_n_sub, gs_n_mul, gs_n_neg, gs_m_add, gs_m_sub, gs_m_mul, gs_m_neg, gs_n_l, gs_m_n, gs_n_c, gs_eq_t, gs_eq_f1, gs_eq_f2, gs_lt_t, gs_lt_f, gs_le_t, gs_le_f, gs_cmp_lt, gs_cmp_eq, gs_cmp_gt, gs_ix_n, gs_nz_n, gs_nzl_g, gs_n_div, gs_af1, gs_af0, gs_ck0, gs_ck1, gs_ck2t, gs_ck2f, gs_ck3, gs_ck4, gs_zd_t, gs_zd_f, gs_zt_t, gs_zt_f, gs_nar1, gs_nar0, gs_tn, if_true, if_false, not_true_eq_false, not_false_eq_true]
        exact e2
  obtain ⟨d1, e1, R1, f1⟩ := s_G_chooseAll hC hw hv hB
  obtain ⟨d', e2, q⟩ := key 10 0 d1 (fun _ => true) none (by omega) (by omega) (by have := (gs_cnt_nn (fun _ => true) S.2.length).2; omega) R1 f1 (fun _ _ _ _ _ _ => rfl) (fun _ _ _ _ _ _ => rfl)
  refine ⟨d', ?_, q⟩
  simp (disch := omega) only [e_G_resolve, k_G_resolve_0, k_G_resolve_4, e1, e2, ↓reduceIte, Int.reduceAdd, Int.reduceSub, Int.reduceMul, Int.reduceToNat, gs_00, gs_ofi, gs_k0_m, gs_k1_m, gs_n8, gs_n16, gs_n_add, gs_n_sub, gs_n_mul, gs_n_neg, gs_m_add, gs_m_sub, gs_m_mul, gs_m_neg, gs_n_l, gs_m_n, gs_n_c, gs_eq_t, gs_eq_f1, gs_eq_f2, gs_lt_t, gs_lt_f, gs_le_t, gs_le_f, gs_cmp_lt, gs_cmp_eq, gs_cmp_gt, gs_ix_n, gs_nz_n, gs_nzl_g, gs_n_div, gs_af1, gs_af0, gs_ck0, gs_ck1, gs_ck2t, gs_ck2f, gs_ck3, gs_ck4, gs_zd_t, gs_zd_f, gs_zt_t, gs_zt_f, gs_nar1, gs_nar0, gs_tn, if_true, if_false, not_true_eq_false, not_false_eq_true]
end RD
end
