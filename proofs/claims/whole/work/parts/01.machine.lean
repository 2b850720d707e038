/-! A small machine over named cells. A cell is named by a pair (tag, index); what lies in it is two functions,
ints and longs by (tag, index, place); which cell a field or an element refers to is fixed by a layout. -/
abbrev gs_V : Type := Int32 ⊕ Int64 ⊕ (Nat × Nat)
abbrev gs_i (x : Int32) : gs_V := .inl x
abbrev gs_l (x : Int64) : gs_V := .inr (.inl x)
abbrev gs_r (t i : Nat) : gs_V := .inr (.inr (t, i))
abbrev gs_D : Type := (Nat → Nat → Nat → Int32) × (Nat → Nat → Nat → Int64)
/-- a layout: of a tag its kind (0 object, 1 int[], 2 boolean[], 3 long[], 4 reference[], 5 the script), its kind's number, its length; of a field its kind (0 int, 1 long, 2 reference); where a reference leads; the script -/
abbrev gs_Y : Type := (Nat → Nat × Nat × Nat) × (Nat → Nat → Nat) × (Nat → Nat → Nat → Nat × Nat) × (Nat → Int32)
abbrev gs_R : Type := Option (Option gs_V × gs_D)
abbrev gs_F : Type := List gs_V → gs_D → gs_R
/-- a method: its instructions with their targets, its field numbers, its constants, its callees (arguments without receiver, receiver's kind or 1000, what it does) -/
abbrev gs_P : Type := (Nat → Option (Jvm.ClassFile.Instr × Nat)) × (Nat → Option (Nat × Nat)) × (Nat → Option gs_V) × (Nat → Option (Nat × Nat × gs_F))
abbrev gs_K : Type := Nat → List (Option gs_V) → List gs_V → gs_D → gs_R
def gs_cz (ad : Nat → Nat → Nat) (v : gs_V) : Value := match v with
  | .inl x => .int x
  | .inr (.inl x) => .long x
  | .inr (.inr r) => .ref (ad r.1 r.2)
def gs_cat (v : gs_V) : Nat := match v with
  | .inr (.inl _) => 2
  | _ => 1
theorem gs_cz_cat (ad : Nat → Nat → Nat) (v : gs_V) : (gs_cz ad v).category = gs_cat v := by
  rcases v with x | x | r <;> rfl
def gs_uI (f : Nat → Nat → Nat → Int32) (t i j : Nat) (x : Int32) : Nat → Nat → Nat → Int32 := fun a b c => if a = t ∧ b = i ∧ c = j then x else f a b c
def gs_uL (f : Nat → Nat → Nat → Int64) (t i j : Nat) (x : Int64) : Nat → Nat → Nat → Int64 := fun a b c => if a = t ∧ b = i ∧ c = j then x else f a b c
def gs_wI (d : gs_D) (t i j : Nat) (x : Int32) : gs_D := (gs_uI d.1 t i j x, d.2)
def gs_wL (d : gs_D) (t i j : Nat) (x : Int64) : gs_D := (d.1, gs_uL d.2 t i j x)
-- locals
def gs_nl (o : Option gs_V) : Option gs_V := match o with
  | some (.inr (.inl _)) => none
  | o => o
def gs_clr (l : List (Option gs_V)) (i : Nat) : List (Option gs_V) := match i with
  | 0 => l
  | j + 1 => l.set j (gs_nl (l.getD j none))
def gs_st1 (l : List (Option gs_V)) (i : Nat) (v : gs_V) : List (Option gs_V) := (gs_clr l i).set i (some v)
def gs_st2 (l : List (Option gs_V)) (i : Nat) (v : gs_V) : List (Option gs_V) := ((gs_clr l i).set i (some v)).set (i + 1) none
def gs_sl (av : List gs_V) : List (Option gs_V) := av.flatMap fun v => if gs_cat v = 2 then [some v, none] else [some v]
def gs_ent (n : Nat) (av : List gs_V) : List (Option gs_V) := gs_sl av ++ List.replicate (n - (gs_sl av).length) none
/-- a table by numbers -/
def gs_lk {α : Type} (tb : List (Nat × α)) (x : Nat) : Option α := match tb with
  | [] => none
  | e :: r => match Nat.beq e.1 x with
    | true => some e.2
    | false => gs_lk r x
theorem gs_lk_mem {α : Type} {x : Nat} {v : α} : ∀ {tb : List (Nat × α)}, gs_lk tb x = some v → (x, v) ∈ tb
  | [], h => by cases h
  | e :: r, h => by
    cases hb : Nat.beq e.1 x with
    | true =>
      rw [gs_lk, hb] at h
      cases h
      rw [← Nat.eq_of_beq_eq_true hb]
      exact List.mem_cons_self
    | false =>
      rw [gs_lk, hb] at h
      exact List.mem_cons_of_mem _ (gs_lk_mem h)
-- the machine's helpers: each goes on, or there is no answer
def gs_b (b : Bool) (a : gs_R) : gs_R := match b with
  | true => a
  | false => none
def gs_ki (o : Option gs_V) (k : Int32 → gs_R) : gs_R := match o with
  | some (.inl x) => k x
  | _ => none
def gs_kl (o : Option gs_V) (k : Int64 → gs_R) : gs_R := match o with
  | some (.inr (.inl x)) => k x
  | _ => none
def gs_kr (o : Option gs_V) (k : Nat → Nat → gs_R) : gs_R := match o with
  | some (.inr (.inr q)) => k q.1 q.2
  | _ => none
def gs_1v (st : List gs_V) (k : gs_V → List gs_V → gs_R) : gs_R := match st with
  | v :: r => k v r
  | _ => none
def gs_1i (st : List gs_V) (k : Int32 → List gs_V → gs_R) : gs_R := match st with
  | .inl x :: r => k x r
  | _ => none
def gs_1l (st : List gs_V) (k : Int64 → List gs_V → gs_R) : gs_R := match st with
  | .inr (.inl x) :: r => k x r
  | _ => none
def gs_1r (st : List gs_V) (k : Nat → Nat → List gs_V → gs_R) : gs_R := match st with
  | .inr (.inr q) :: r => k q.1 q.2 r
  | _ => none
def gs_2i (st : List gs_V) (k : Int32 → Int32 → List gs_V → gs_R) : gs_R := gs_1i st fun y r => gs_1i r fun x r => k x y r
def gs_2l (st : List gs_V) (k : Int64 → Int64 → List gs_V → gs_R) : gs_R := gs_1l st fun y r => gs_1l r fun x r => k x y r
def gs_2r (st : List gs_V) (k : Int32 → Nat → Nat → List gs_V → gs_R) : gs_R := gs_1i st fun j r => gs_1r r fun t i r => k j t i r
def gs_br (c : Jvm.ClassFile.Cond) (x y : Int32) (a b : gs_R) : gs_R := match c with
  | .eq => if x = y then a else b
  | .ne => if ¬ x = y then a else b
  | .lt => if x < y then a else b
  | .ge => if y ≤ x then a else b
  | .gt => if y < x then a else b
  | .le => if x ≤ y then a else b
def gs_ix (j : Int32) (n : Nat) (a : gs_R) : gs_R := if j < 0 ∨ n ≤ j.toNatClampNeg then none else a
def gs_nz (j : Int32) (a : gs_R) : gs_R := if j = 0 then none else a
def gs_nzl (j : Int64) (a : gs_R) : gs_R := if j = 0 then none else a
def gs_fa (Y : gs_Y) (d : gs_D) (t i k : Nat) : gs_V := match Y.2.1 t k with
  | 0 => .inl (d.1 t i k)
  | 1 => .inr (.inl (d.2 t i k))
  | _ => .inr (.inr (Y.2.2.1 t i k))
def gs_ia (Y : gs_Y) (d : gs_D) (t i n : Nat) : Int32 := match (Y.1 t).1 with
  | 5 => Y.2.2.2 n
  | _ => d.1 t i n
def gs_ts (x : Int32) (lo hi : Int) (pc : Nat) (offs : Array Int) (a : gs_R) (k : Nat → gs_R) : gs_R := if x.toInt < lo ∨ hi < x.toInt then a else match offs[(x.toInt - lo).toNat]? with
  | some o => gs_b (decide (0 ≤ (pc : Int) + o)) (k ((pc : Int) + o).toNat)
  | none => none
def gs_sw (v : gs_V) (ki : Int32 → gs_R) (kl : Int64 → gs_R) (kr : gs_R) : gs_R := match v with
  | .inl z => ki z
  | .inr (.inl z) => kl z
  | _ => kr
def gs_fl (Y : gs_Y) (o : Option (Nat × Nat)) (t : Nat) (k : Nat → gs_R) : gs_R := match o with
  | some q => gs_b ((Y.1 t).1 == 0 && ((Y.1 t).2.1 == q.1 && Nat.ble (q.2 + 1) (Y.1 t).2.2)) (k q.2)
  | none => none
def gs_af (a : gs_R) (rest : List gs_V) (k : List gs_V → gs_D → gs_R) : gs_R := match a with
  | some (some v, d) => k (v :: rest) d
  | some (none, d) => k rest d
  | none => none
def gs_cs (o : Option (Nat × Nat × gs_F)) (st : List gs_V) (d : gs_D) (k : List gs_V → gs_D → gs_R) : gs_R := match o with
  | some q => gs_b (q.2.1 == 1000 && (Nat.ble q.1 st.length && Nat.ble ((st.drop q.1).map gs_cat).sum 8)) (gs_af (q.2.2 (st.take q.1).reverse d) (st.drop q.1) k)
  | none => none
def gs_cv (Y : gs_Y) (o : Option (Nat × Nat × gs_F)) (st : List gs_V) (d : gs_D) (k : List gs_V → gs_D → gs_R) : gs_R := match o with
  | some q => gs_b (Nat.ble q.2.1 999 && Nat.ble q.1 st.length) (gs_1r (st.drop q.1) fun t i r => gs_b ((Y.1 t).1 == 0 && ((Y.1 t).2.1 == q.2.1 && Nat.ble (r.map gs_cat).sum 8)) (gs_af (q.2.2 (gs_r t i :: (st.take q.1).reverse) d) r k))
  | none => none
def gs_ret (i : Jvm.ClassFile.Instr) (st : List gs_V) : Option (Option gs_V) := match i with
  | .return_ => match st with
    | [] => some none
    | _ => none
  | .ireturn => match st with
    | [.inl x] => some (some (.inl x))
    | _ => none
  | .lreturn => match st with
    | [.inr (.inl x)] => some (some (.inr (.inl x)))
    | _ => none
  | .areturn => match st with
    | [.inr (.inr q)] => some (some (.inr (.inr q)))
    | _ => none
  | _ => none
def gs_stp (Y : gs_Y) (P : gs_P) (pc : Nat) (l : List (Option gs_V)) (st : List gs_V) (d : gs_D) (k : gs_K) : gs_R := match P.1 pc with
  | none => none
  | some (i, tg) => match i with
    | .iconst n => k (pc + 1) l (gs_i (Int32.ofInt n) :: st) d
    | .bipush n => k (pc + 2) l (gs_i (Int8.ofInt n).toInt32 :: st) d
    | .sipush n => k (pc + 3) l (gs_i (Int16.ofInt n).toInt32 :: st) d
    | .lconst n => k (pc + 1) l (gs_l (Int64.ofNat n) :: st) d
    | .ldc x => gs_ki (P.2.2.1 x) fun v => k (pc + 2) l (gs_i v :: st) d
    | .ldc2_w x => gs_kl (P.2.2.1 x) fun v => k (pc + 3) l (gs_l v :: st) d
    | .iload_n n => gs_ki (l.getD n none) fun v => k (pc + 1) l (gs_i v :: st) d
    | .iload n => gs_ki (l.getD n none) fun v => k (pc + 2) l (gs_i v :: st) d
    | .lload_n n => gs_kl (l.getD n none) fun v => k (pc + 1) l (gs_l v :: st) d
    | .lload n => gs_kl (l.getD n none) fun v => k (pc + 2) l (gs_l v :: st) d
    | .aload_n n => gs_kr (l.getD n none) fun t i => k (pc + 1) l (gs_r t i :: st) d
    | .aload n => gs_kr (l.getD n none) fun t i => k (pc + 2) l (gs_r t i :: st) d
    | .istore_n n => gs_1i st fun x r => gs_b (Nat.ble (n + 1) l.length) (k (pc + 1) (gs_st1 l n (gs_i x)) r d)
    | .istore n => gs_1i st fun x r => gs_b (Nat.ble (n + 1) l.length) (k (pc + 2) (gs_st1 l n (gs_i x)) r d)
    | .lstore_n n => gs_1l st fun x r => gs_b (Nat.ble (n + 2) l.length) (k (pc + 1) (gs_st2 l n (gs_l x)) r d)
    | .lstore n => gs_1l st fun x r => gs_b (Nat.ble (n + 2) l.length) (k (pc + 2) (gs_st2 l n (gs_l x)) r d)
    | .astore_n n => gs_1r st fun t i r => gs_b (Nat.ble (n + 1) l.length) (k (pc + 1) (gs_st1 l n (gs_r t i)) r d)
    | .astore n => gs_1r st fun t i r => gs_b (Nat.ble (n + 1) l.length) (k (pc + 2) (gs_st1 l n (gs_r t i)) r d)
    | .iinc n c => gs_ki (l.getD n none) fun v => gs_b (Nat.ble (n + 1) l.length) (k (pc + 3) (gs_st1 l n (gs_i (v + Int32.ofInt c))) st d)
    | .iadd => gs_2i st fun x y r => k (pc + 1) l (gs_i (x + y) :: r) d
    | .isub => gs_2i st fun x y r => k (pc + 1) l (gs_i (x - y) :: r) d
    | .imul => gs_2i st fun x y r => k (pc + 1) l (gs_i (x * y) :: r) d
    | .iand => gs_2i st fun x y r => k (pc + 1) l (gs_i (x &&& y) :: r) d
    | .ior => gs_2i st fun x y r => k (pc + 1) l (gs_i (x ||| y) :: r) d
    | .ixor => gs_2i st fun x y r => k (pc + 1) l (gs_i (x ^^^ y) :: r) d
    | .ishl => gs_2i st fun x y r => k (pc + 1) l (gs_i (x <<< (y &&& 31)) :: r) d
    | .ishr => gs_2i st fun x y r => k (pc + 1) l (gs_i (x >>> (y &&& 31)) :: r) d
    | .idiv => gs_2i st fun x y r => gs_nz y (k (pc + 1) l (gs_i (x / y) :: r) d)
    | .irem => gs_2i st fun x y r => gs_nz y (k (pc + 1) l (gs_i (x - x / y * y) :: r) d)
    | .ineg => gs_1i st fun x r => k (pc + 1) l (gs_i (-x) :: r) d
    | .ladd => gs_2l st fun x y r => k (pc + 1) l (gs_l (x + y) :: r) d
    | .lsub => gs_2l st fun x y r => k (pc + 1) l (gs_l (x - y) :: r) d
    | .lmul => gs_2l st fun x y r => k (pc + 1) l (gs_l (x * y) :: r) d
    | .ldiv => gs_2l st fun x y r => gs_nzl y (k (pc + 1) l (gs_l (x / y) :: r) d)
    | .lrem => gs_2l st fun x y r => gs_nzl y (k (pc + 1) l (gs_l (x - x / y * y) :: r) d)
    | .lneg => gs_1l st fun x r => k (pc + 1) l (gs_l (-x) :: r) d
    | .lcmp => gs_2l st fun x y r => k (pc + 1) l (gs_i (lg_cmp x y) :: r) d
    | .i2l => gs_1i st fun x r => k (pc + 1) l (gs_l x.toInt64 :: r) d
    | .l2i => gs_1l st fun x r => k (pc + 1) l (gs_i x.toInt32 :: r) d
    | .dup => gs_1v st fun v r => gs_b (gs_cat v == 1) (k (pc + 1) l (v :: v :: r) d)
    | .pop => gs_1v st fun v r => gs_b (gs_cat v == 1) (k (pc + 1) l r d)
    | .pop2 => gs_1v st fun v r => gs_b (gs_cat v == 2) (k (pc + 1) l r d)
    | .dup_x1 => gs_1v st fun v r => gs_1v r fun w r => gs_b (gs_cat v == 1 && gs_cat w == 1) (k (pc + 1) l (v :: w :: v :: r) d)
    | .dup_x2 => gs_1v st fun v r => gs_1v r fun w r => gs_1v r fun u r => gs_b (gs_cat v == 1 && (gs_cat w == 1 && gs_cat u == 1)) (k (pc + 1) l (v :: w :: u :: v :: r) d)
    | .dup2 => gs_1v st fun v r => gs_sw v (fun _ => gs_1v r fun w r => gs_b (gs_cat w == 1) (k (pc + 1) l (v :: w :: v :: w :: r) d)) (fun _ => k (pc + 1) l (v :: v :: r) d) (gs_1v r fun w r => gs_b (gs_cat w == 1) (k (pc + 1) l (v :: w :: v :: w :: r) d))
    | .ifCond c _ => gs_1i st fun x r => gs_br c x 0 (k tg l r d) (k (pc + 3) l r d)
    | .if_icmp c _ => gs_2i st fun x y r => gs_br c x y (k tg l r d) (k (pc + 3) l r d)
    | .goto _ => k tg l st d
    | .getfield x => gs_1r st fun t i r => gs_fl Y (P.2.1 x) t fun f => k (pc + 3) l (gs_fa Y d t i f :: r) d
    | .putfield x => gs_1v st fun v r => gs_1r r fun t i r => gs_fl Y (P.2.1 x) t fun f => gs_sw v (fun z => gs_b (Y.2.1 t f == 0) (k (pc + 3) l r (gs_wI d t i f z))) (fun z => gs_b (Y.2.1 t f == 1) (k (pc + 3) l r (gs_wL d t i f z))) none
    | .iaload => gs_2r st fun j t i r => gs_b ((Y.1 t).1 == 1 || (Y.1 t).1 == 5) (gs_ix j (Y.1 t).2.2 (k (pc + 1) l (gs_i (gs_ia Y d t i j.toNatClampNeg) :: r) d))
    | .arraylength => gs_1r st fun t i r => gs_b ((Y.1 t).1 == 5) (k (pc + 1) l (gs_i (Int32.ofNat (Y.1 t).2.2) :: r) d)
    | .tableswitch _ lo hi offs => gs_1i st fun x r => gs_ts x lo hi pc offs (k tg l r d) (fun p1 => k p1 l r d)
    | .baload => gs_2r st fun j t i r => gs_b ((Y.1 t).1 == 2) (gs_ix j (Y.1 t).2.2 (k (pc + 1) l (gs_i (d.1 t i j.toNatClampNeg) :: r) d))
    | .laload => gs_2r st fun j t i r => gs_b ((Y.1 t).1 == 3) (gs_ix j (Y.1 t).2.2 (k (pc + 1) l (gs_l (d.2 t i j.toNatClampNeg) :: r) d))
    | .aaload => gs_2r st fun j t i r => gs_b ((Y.1 t).1 == 4) (gs_ix j (Y.1 t).2.2 (k (pc + 1) l (.inr (.inr (Y.2.2.1 t i j.toNatClampNeg)) :: r) d))
    | .iastore => gs_1i st fun x r => gs_2r r fun j t i r => gs_b ((Y.1 t).1 == 1) (gs_ix j (Y.1 t).2.2 (k (pc + 1) l r (gs_wI d t i j.toNatClampNeg x)))
    | .bastore => gs_1i st fun x r => gs_2r r fun j t i r => gs_b ((Y.1 t).1 == 2) (gs_ix j (Y.1 t).2.2 (k (pc + 1) l r (gs_wI d t i j.toNatClampNeg (vp_nar .boolean x))))
    | .lastore => gs_1l st fun x r => gs_2r r fun j t i r => gs_b ((Y.1 t).1 == 3) (gs_ix j (Y.1 t).2.2 (k (pc + 1) l r (gs_wL d t i j.toNatClampNeg x)))
    | .invokestatic x => gs_cs (P.2.2.2 x) st d fun st d => k (pc + 3) l st d
    | .invokevirtual x => gs_cv Y (P.2.2.2 x) st d fun st d => k (pc + 3) l st d
    | i => match gs_ret i st with
      | some r => some (r, d)
      | none => none
def gs_run (Y : gs_Y) (P : gs_P) : Nat → gs_K
  | 0 => fun _ _ _ _ => none
  | n + 1 => fun pc l st d => gs_stp Y P pc l st d (gs_run Y P n)
-- what goes on in more cases answers in more cases
theorem gs_b_m {b : Bool} {a a' : gs_R} {r} (h : a = some r → a' = some r) : gs_b b a = some r → gs_b b a' = some r := by
  cases b
  · exact id
  · exact h
theorem gs_ki_m {o : Option gs_V} {k k' : Int32 → gs_R} {r} (h : ∀ x, k x = some r → k' x = some r) : gs_ki o k = some r → gs_ki o k' = some r := by
  rcases o with _ | x | x | x <;> first | exact id | exact h _
theorem gs_kl_m {o : Option gs_V} {k k' : Int64 → gs_R} {r} (h : ∀ x, k x = some r → k' x = some r) : gs_kl o k = some r → gs_kl o k' = some r := by
  rcases o with _ | x | x | x <;> first | exact id | exact h _
theorem gs_kr_m {o : Option gs_V} {k k' : Nat → Nat → gs_R} {r} (h : ∀ x y, k x y = some r → k' x y = some r) : gs_kr o k = some r → gs_kr o k' = some r := by
  rcases o with _ | x | x | x <;> first | exact id | exact h _ _
theorem gs_1v_m {st : List gs_V} {k k' : gs_V → List gs_V → gs_R} {r} (h : ∀ x y, k x y = some r → k' x y = some r) : gs_1v st k = some r → gs_1v st k' = some r := by
  rcases st with _ | ⟨x, y⟩ <;> first | exact id | exact h _ _
theorem gs_1i_m {st : List gs_V} {k k' : Int32 → List gs_V → gs_R} {r} (h : ∀ x y, k x y = some r → k' x y = some r) : gs_1i st k = some r → gs_1i st k' = some r := by
  rcases st with _ | ⟨x | x | x, y⟩ <;> first | exact id | exact h _ _
theorem gs_1l_m {st : List gs_V} {k k' : Int64 → List gs_V → gs_R} {r} (h : ∀ x y, k x y = some r → k' x y = some r) : gs_1l st k = some r → gs_1l st k' = some r := by
  rcases st with _ | ⟨x | x | x, y⟩ <;> first | exact id | exact h _ _
theorem gs_1r_m {st : List gs_V} {k k' : Nat → Nat → List gs_V → gs_R} {r} (h : ∀ x y z, k x y z = some r → k' x y z = some r) : gs_1r st k = some r → gs_1r st k' = some r := by
  rcases st with _ | ⟨x | x | x, y⟩ <;> first | exact id | exact h _ _ _
theorem gs_2i_m {st : List gs_V} {k k' : Int32 → Int32 → List gs_V → gs_R} {r} (h : ∀ x y z, k x y z = some r → k' x y z = some r) : gs_2i st k = some r → gs_2i st k' = some r :=
  gs_1i_m fun _ _ => gs_1i_m fun _ _ => h _ _ _
theorem gs_2l_m {st : List gs_V} {k k' : Int64 → Int64 → List gs_V → gs_R} {r} (h : ∀ x y z, k x y z = some r → k' x y z = some r) : gs_2l st k = some r → gs_2l st k' = some r :=
  gs_1l_m fun _ _ => gs_1l_m fun _ _ => h _ _ _
theorem gs_2r_m {st : List gs_V} {k k' : Int32 → Nat → Nat → List gs_V → gs_R} {r} (h : ∀ x y z u, k x y z u = some r → k' x y z u = some r) : gs_2r st k = some r → gs_2r st k' = some r :=
  gs_1i_m fun _ _ => gs_1r_m fun _ _ _ => h _ _ _ _
theorem gs_br_m {c : Jvm.ClassFile.Cond} {x y : Int32} {a a' b b' : gs_R} {r} (h : a = some r → a' = some r) (h2 : b = some r → b' = some r) : gs_br c x y a b = some r → gs_br c x y a' b' = some r := by
  cases c <;> simp only [gs_br] <;> split <;> assumption
theorem gs_ix_m {j : Int32} {n : Nat} {a a' : gs_R} {r} (h : a = some r → a' = some r) : gs_ix j n a = some r → gs_ix j n a' = some r := by
  unfold gs_ix; split <;> first | exact id | exact h
theorem gs_nz_m {j : Int32} {a a' : gs_R} {r} (h : a = some r → a' = some r) : gs_nz j a = some r → gs_nz j a' = some r := by
  unfold gs_nz; split <;> first | exact id | exact h
theorem gs_nzl_m {j : Int64} {a a' : gs_R} {r} (h : a = some r → a' = some r) : gs_nzl j a = some r → gs_nzl j a' = some r := by
  unfold gs_nzl; split <;> first | exact id | exact h
theorem gs_ts_m {x : Int32} {lo hi : Int} {pc : Nat} {offs : Array Int} {a a' : gs_R} {k k' : Nat → gs_R} {r} (h : a = some r → a' = some r) (h2 : ∀ p1, k p1 = some r → k' p1 = some r) : gs_ts x lo hi pc offs a k = some r → gs_ts x lo hi pc offs a' k' = some r := by
  unfold gs_ts
  split
  · exact h
  · split
    · exact gs_b_m (h2 _)
    · exact id
theorem gs_sw_m {v : gs_V} {ki ki' : Int32 → gs_R} {kl kl' : Int64 → gs_R} {kr kr' : gs_R} {r} (h : ∀ x, ki x = some r → ki' x = some r) (h2 : ∀ x, kl x = some r → kl' x = some r) (h3 : kr = some r → kr' = some r) : gs_sw v ki kl kr = some r → gs_sw v ki' kl' kr' = some r := by
  rcases v with x | x | x
  · exact h _
  · exact h2 _
  · exact h3
theorem gs_fl_m {Y : gs_Y} {o : Option (Nat × Nat)} {t : Nat} {k k' : Nat → gs_R} {r} (h : ∀ x, k x = some r → k' x = some r) : gs_fl Y o t k = some r → gs_fl Y o t k' = some r := by
  rcases o with _ | q
  · exact id
  · exact gs_b_m (h _)
theorem gs_af_m {a : gs_R} {st : List gs_V} {k k' : List gs_V → gs_D → gs_R} {r} (h : ∀ x y, k x y = some r → k' x y = some r) : gs_af a st k = some r → gs_af a st k' = some r := by
  rcases a with _ | ⟨_ | v, d⟩
  · exact id
  · exact h _ _
  · exact h _ _
theorem gs_cs_m {o : Option (Nat × Nat × gs_F)} {st : List gs_V} {d : gs_D} {k k' : List gs_V → gs_D → gs_R} {r} (h : ∀ x y, k x y = some r → k' x y = some r) : gs_cs o st d k = some r → gs_cs o st d k' = some r := by
  rcases o with _ | q
  · exact id
  · exact gs_b_m (gs_af_m h)
theorem gs_cv_m {Y : gs_Y} {o : Option (Nat × Nat × gs_F)} {st : List gs_V} {d : gs_D} {k k' : List gs_V → gs_D → gs_R} {r} (h : ∀ x y, k x y = some r → k' x y = some r) : gs_cv Y o st d k = some r → gs_cv Y o st d k' = some r := by
  rcases o with _ | q
  · exact id
  · exact gs_b_m (gs_1r_m fun _ _ _ => gs_b_m (gs_af_m h))
set_option maxHeartbeats 4000000 in
theorem gs_stp_m {Y : gs_Y} {P : gs_P} {pc : Nat} {l : List (Option gs_V)} {st : List gs_V} {d : gs_D} {k k' : gs_K} {r} (hk : ∀ a b c e, k a b c e = some r → k' a b c e = some r) : gs_stp Y P pc l st d k = some r → gs_stp Y P pc l st d k' = some r := by
  unfold gs_stp
  rcases P.1 pc with _ | ⟨i, tg⟩
  · exact id
  · cases i <;> dsimp only <;> (repeat' (first
      | exact hk _ _ _ _
      | exact id
      | (refine gs_ki_m fun _ => ?_)
      | (refine gs_kl_m fun _ => ?_)
      | (refine gs_kr_m fun _ _ => ?_)
      | (refine gs_2i_m fun _ _ _ => ?_)
      | (refine gs_2l_m fun _ _ _ => ?_)
      | (refine gs_2r_m fun _ _ _ _ => ?_)
      | (refine gs_1i_m fun _ _ => ?_)
      | (refine gs_1l_m fun _ _ => ?_)
      | (refine gs_1r_m fun _ _ _ => ?_)
      | (refine gs_1v_m fun _ _ => ?_)
      | (refine gs_b_m ?_)
      | (refine gs_ix_m ?_)
      | (refine gs_nz_m ?_)
      | (refine gs_nzl_m ?_)
      | (refine gs_br_m ?_ ?_)
      | (refine gs_ts_m ?_ (fun _ => ?_))
      | (refine gs_fl_m fun _ => ?_)
      | (refine gs_sw_m (fun _ => ?_) (fun _ => ?_) ?_)
      | (refine gs_cs_m fun _ _ => ?_)
      | (refine gs_cv_m fun _ _ => ?_)))
theorem gs_run_s {Y : gs_Y} {P : gs_P} {r} : ∀ (n : Nat) (pc : Nat) (l : List (Option gs_V)) (st : List gs_V) (d : gs_D), gs_run Y P n pc l st d = some r → gs_run Y P (n + 1) pc l st d = some r
  | 0, _, _, _, _, h => by cases h
  | n + 1, pc, l, st, d, h => gs_stp_m (fun a b c e => gs_run_s n a b c e) h
theorem gs_run_le {Y : gs_Y} {P : gs_P} {r} {pc : Nat} {l : List (Option gs_V)} {st : List gs_V} {d : gs_D} {n : Nat} (h : gs_run Y P n pc l st d = some r) : ∀ j, gs_run Y P (n + j) pc l st d = some r
  | 0 => h
  | j + 1 => gs_run_s (n + j) _ _ _ _ (gs_run_le h j)
/-- what the machine answers, however long it runs -/
noncomputable def gs_g (Y : gs_Y) (P : gs_P) : gs_K := fun pc l st d => @dite gs_R (∃ r, ∃ n, gs_run Y P n pc l st d = some r) (Classical.propDecidable _) (fun h => some h.choose) (fun _ => none)
theorem gs_g_iff {Y : gs_Y} {P : gs_P} {r} {pc : Nat} {l : List (Option gs_V)} {st : List gs_V} {d : gs_D} : gs_g Y P pc l st d = some r ↔ ∃ n, gs_run Y P n pc l st d = some r := by
  constructor
  · intro h
    by_cases hc : ∃ r, ∃ n, gs_run Y P n pc l st d = some r
    · unfold gs_g at h
      rw [dif_pos hc] at h
      obtain ⟨n, hn⟩ := hc.choose_spec
      exact ⟨n, hn.trans h⟩
    · unfold gs_g at h
      rw [dif_neg hc] at h
      cases h
  · rintro ⟨n, hn⟩
    have hc : ∃ r, ∃ n, gs_run Y P n pc l st d = some r := ⟨r, n, hn⟩
    unfold gs_g
    rw [dif_pos hc]
    obtain ⟨n2, h2⟩ := hc.choose_spec
    have a := gs_run_le hn n2
    have b := gs_run_le h2 n
    rw [Nat.add_comm] at b
    exact b.symm.trans a
theorem gs_oext {α : Type} {a b : Option α} (h : ∀ r, a = some r ↔ b = some r) : a = b := by
  rcases a with _ | x
  · rcases b with _ | y
    · rfl
    · exact absurd ((h y).mpr rfl) (by simp)
  · exact ((h x).mp rfl).symm
section BK
variable {Y : gs_Y} {P : gs_P} {pc : Nat} {l : List (Option gs_V)} {st : List gs_V} {d : gs_D}
/-- a stretch of instructions -/
theorem gs_go (k : Nat) {pc' : Nat} {l' : List (Option gs_V)} {st' : List gs_V} {d' : gs_D} (h : ∀ n, gs_run Y P (n + k) pc l st d = gs_run Y P n pc' l' st' d') : gs_g Y P pc l st d = gs_g Y P pc' l' st' d' := by
  refine gs_oext fun r => ?_
  rw [gs_g_iff, gs_g_iff]
  constructor
  · rintro ⟨n, hn⟩
    exact ⟨n, (h n).symm.trans (gs_run_le hn k)⟩
  · rintro ⟨n, hn⟩
    exact ⟨n + k, (h n).trans hn⟩
/-- the same, its first step taken -/
theorem gs_gs (k : Nat) {pc' : Nat} {l' : List (Option gs_V)} {st' : List gs_V} {d' : gs_D} (h : ∀ n, gs_stp Y P pc l st d (gs_run Y P (n + k)) = gs_run Y P n pc' l' st' d') : gs_g Y P pc l st d = gs_g Y P pc' l' st' d' := gs_go (k + 1) h
/-- .. that ends in a branch -/
theorem gs_if (k : Nat) {b : Prop} [Decidable b] {p1 p2 : Nat} {l1 l2 : List (Option gs_V)} {s1 s2 : List gs_V} {d1 d2 : gs_D} (h : ∀ n, gs_run Y P (n + k) pc l st d = if b then gs_run Y P n p1 l1 s1 d1 else gs_run Y P n p2 l2 s2 d2) : gs_g Y P pc l st d = if b then gs_g Y P p1 l1 s1 d1 else gs_g Y P p2 l2 s2 d2 := by
  by_cases hb : b
  · rw [if_pos hb]
    exact gs_go k fun n => by rw [h n, if_pos hb]
  · rw [if_neg hb]
    exact gs_go k fun n => by rw [h n, if_neg hb]
/-- .. that answers -/
theorem gs_an (k : Nat) {a : gs_R} (h : ∀ n, gs_run Y P (n + k) pc l st d = a) : gs_g Y P pc l st d = a := by
  refine gs_oext fun r => ?_
  rw [gs_g_iff]
  constructor
  · rintro ⟨n, hn⟩
    exact (h n).symm.trans (gs_run_le hn k)
  · intro hn
    exact ⟨0 + k, (h 0).trans hn⟩
/-- .. that ends at a place of an array -/
theorem gs_gx (k : Nat) {j : Int32} {N : Nat} {p1 : Nat} {l1 : List (Option gs_V)} {s1 : List gs_V} {d1 : gs_D} (h : ∀ n, gs_run Y P (n + k) pc l st d = gs_ix j N (gs_run Y P n p1 l1 s1 d1)) : gs_g Y P pc l st d = gs_ix j N (gs_g Y P p1 l1 s1 d1) := by
  by_cases hb : j < 0 ∨ N ≤ j.toNatClampNeg
  · rw [gs_ix, if_pos hb]
    exact gs_an k fun n => by rw [h n, gs_ix, if_pos hb]
  · rw [gs_ix, if_neg hb]
    exact gs_go k fun n => by rw [h n, gs_ix, if_neg hb]
theorem gs_gz (k : Nat) {j : Int32} {p1 : Nat} {l1 : List (Option gs_V)} {s1 : List gs_V} {d1 : gs_D} (h : ∀ n, gs_run Y P (n + k) pc l st d = gs_nz j (gs_run Y P n p1 l1 s1 d1)) : gs_g Y P pc l st d = gs_nz j (gs_g Y P p1 l1 s1 d1) := by
  by_cases hb : j = 0
  · rw [gs_nz, if_pos hb]
    exact gs_an k fun n => by rw [h n, gs_nz, if_pos hb]
  · rw [gs_nz, if_neg hb]
    exact gs_go k fun n => by rw [h n, gs_nz, if_neg hb]
theorem gs_gzl (k : Nat) {j : Int64} {p1 : Nat} {l1 : List (Option gs_V)} {s1 : List gs_V} {d1 : gs_D} (h : ∀ n, gs_run Y P (n + k) pc l st d = gs_nzl j (gs_run Y P n p1 l1 s1 d1)) : gs_g Y P pc l st d = gs_nzl j (gs_g Y P p1 l1 s1 d1) := by
  by_cases hb : j = 0
  · rw [gs_nzl, if_pos hb]
    exact gs_an k fun n => by rw [h n, gs_nzl, if_pos hb]
  · rw [gs_nzl, if_neg hb]
    exact gs_go k fun n => by rw [h n, gs_nzl, if_neg hb]
/-- .. that ends in a call -/
theorem gs_gc (k : Nat) {a : gs_R} {rest : List gs_V} {p1 : Nat} {l1 : List (Option gs_V)} (h : ∀ n, gs_run Y P (n + k) pc l st d = gs_af a rest (fun s1 d1 => gs_run Y P n p1 l1 s1 d1)) : gs_g Y P pc l st d = gs_af a rest (fun s1 d1 => gs_g Y P p1 l1 s1 d1) := by
  rcases a with _ | ⟨_ | v, d'⟩
  · exact gs_an k h
  · exact gs_go k h
  · exact gs_go k h
end BK
/-- what kind of answer: 0 none, 1 an int, 2 a boolean, 3 a long, 4 a reference -/
def gs_rk (k : Nat) (r : Option gs_V) : Bool := match k with
  | 0 => match r with
    | none => true
    | _ => false
  | 1 => match r with
    | some (.inl _) => true
    | _ => false
  | 2 => match r with
    | some (.inl x) => decide (x = 0 ∨ x = 1)
    | _ => false
  | 3 => match r with
    | some (.inr (.inl _)) => true
    | _ => false
  | _ => match r with
    | some (.inr (.inr _)) => true
    | _ => false
def gs_ck (k : Nat) (a : gs_R) : gs_R := match a with
  | some (r, d) => gs_b (gs_rk k r) (some (r, d))
  | none => none
/-- a method as a function: its locals, what kind it answers, its code -/
noncomputable def gs_f (Y : gs_Y) (nL k : Nat) (P : gs_P) : gs_F := fun av d =>
  gs_b (Nat.ble (gs_sl av).length nL) (gs_ck k (gs_g Y P 0 (gs_ent nL av) [] d))
/-- System.arraycopy, between int[] or between long[] -/
def gs_ac (Y : gs_Y) : gs_F := fun av d => match av with
  | [.inr (.inr a), .inl sp, .inr (.inr b), .inl dp, .inl n] => gs_b (decide (¬ sp < 0 ∧ ¬ dp < 0 ∧ ¬ n < 0 ∧ sp.toNatClampNeg + n.toNatClampNeg ≤ (Y.1 a.1).2.2 ∧ dp.toNatClampNeg + n.toNatClampNeg ≤ (Y.1 b.1).2.2)) (match (Y.1 a.1).1, (Y.1 b.1).1 with
    | 1, 1 => some (none, (fun t i => if t = b.1 ∧ i = b.2 then va_cpy (d.1 a.1 a.2) (d.1 b.1 b.2) sp.toNatClampNeg dp.toNatClampNeg n.toNatClampNeg else d.1 t i), d.2)
    | 3, 3 => some (none, d.1, (fun t i => if t = b.1 ∧ i = b.2 then va_cpy (d.2 a.1 a.2) (d.2 b.1 b.2) sp.toNatClampNeg dp.toNatClampNeg n.toNatClampNeg else d.2 t i))
    | _, _ => none)
  | _ => none
