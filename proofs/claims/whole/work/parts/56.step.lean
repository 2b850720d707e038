-- inversions
theorem gs_b_v {b : Bool} {a : gs_R} {r} (h : gs_b b a = some r) : b = true ∧ a = some r := by
  cases b
  · simp [gs_b] at h
  · exact ⟨rfl, h⟩
theorem gs_ki_v {o : Option gs_V} {k : Int32 → gs_R} {r} (h : gs_ki o k = some r) : ∃ x, o = some (gs_i x) ∧ k x = some r := by
  rcases o with _ | x | x | x
  · simp [gs_ki] at h
  · exact ⟨x, rfl, h⟩
  · simp [gs_ki] at h
  · simp [gs_ki] at h
theorem gs_kl_v {o : Option gs_V} {k : Int64 → gs_R} {r} (h : gs_kl o k = some r) : ∃ x, o = some (gs_l x) ∧ k x = some r := by
  rcases o with _ | x | x | x
  · simp [gs_kl] at h
  · simp [gs_kl] at h
  · exact ⟨x, rfl, h⟩
  · simp [gs_kl] at h
theorem gs_kr_v {o : Option gs_V} {k : Nat → Nat → gs_R} {r} (h : gs_kr o k = some r) : ∃ t i, o = some (gs_r t i) ∧ k t i = some r := by
  rcases o with _ | x | x | ⟨t, i⟩
  · simp [gs_kr] at h
  · simp [gs_kr] at h
  · simp [gs_kr] at h
  · exact ⟨t, i, rfl, h⟩
theorem gs_1v_v {st : List gs_V} {k : gs_V → List gs_V → gs_R} {r} (h : gs_1v st k = some r) : ∃ x t, st = x :: t ∧ k x t = some r := by
  rcases st with _ | ⟨x, y⟩
  · simp [gs_1v] at h
  · exact ⟨x, y, rfl, h⟩
theorem gs_1i_v {st : List gs_V} {k : Int32 → List gs_V → gs_R} {r} (h : gs_1i st k = some r) : ∃ x t, st = gs_i x :: t ∧ k x t = some r := by
  rcases st with _ | ⟨x | x | x, y⟩
  · simp [gs_1i] at h
  · exact ⟨x, y, rfl, h⟩
  · simp [gs_1i] at h
  · simp [gs_1i] at h
theorem gs_1l_v {st : List gs_V} {k : Int64 → List gs_V → gs_R} {r} (h : gs_1l st k = some r) : ∃ x t, st = gs_l x :: t ∧ k x t = some r := by
  rcases st with _ | ⟨x | x | x, y⟩
  · simp [gs_1l] at h
  · simp [gs_1l] at h
  · exact ⟨x, y, rfl, h⟩
  · simp [gs_1l] at h
theorem gs_1r_v {st : List gs_V} {k : Nat → Nat → List gs_V → gs_R} {r} (h : gs_1r st k = some r) : ∃ t i y, st = gs_r t i :: y ∧ k t i y = some r := by
  rcases st with _ | ⟨x | x | ⟨t, i⟩, y⟩
  · simp [gs_1r] at h
  · simp [gs_1r] at h
  · simp [gs_1r] at h
  · exact ⟨t, i, y, rfl, h⟩
theorem gs_2i_v {st : List gs_V} {k : Int32 → Int32 → List gs_V → gs_R} {r} (h : gs_2i st k = some r) : ∃ x y t, st = gs_i y :: gs_i x :: t ∧ k x y t = some r := by
  replace h := gs_1i_v h
  obtain ⟨y, t, rfl, h⟩ := h
  replace h := gs_1i_v h
  obtain ⟨x, t, rfl, h⟩ := h
  exact ⟨x, y, t, rfl, h⟩
theorem gs_2l_v {st : List gs_V} {k : Int64 → Int64 → List gs_V → gs_R} {r} (h : gs_2l st k = some r) : ∃ x y t, st = gs_l y :: gs_l x :: t ∧ k x y t = some r := by
  replace h := gs_1l_v h
  obtain ⟨y, t, rfl, h⟩ := h
  replace h := gs_1l_v h
  obtain ⟨x, t, rfl, h⟩ := h
  exact ⟨x, y, t, rfl, h⟩
theorem gs_2r_v {st : List gs_V} {k : Int32 → Nat → Nat → List gs_V → gs_R} {r} (h : gs_2r st k = some r) : ∃ j t i y, st = gs_i j :: gs_r t i :: y ∧ k j t i y = some r := by
  replace h := gs_1i_v h
  obtain ⟨j, y, rfl, h⟩ := h
  replace h := gs_1r_v h
  obtain ⟨t, i, y, rfl, h⟩ := h
  exact ⟨j, t, i, y, rfl, h⟩
theorem gs_ix_v {j : Int32} {n : Nat} {a : gs_R} {r} (h : gs_ix j n a = some r) : vp_in j n ∧ a = some r := by
  unfold gs_ix at h
  split at h
  · cases h
  · exact ⟨by assumption, h⟩
theorem gs_nz_v {j : Int32} {a : gs_R} {r} (h : gs_nz j a = some r) : ¬ j = 0 ∧ a = some r := by
  unfold gs_nz at h
  split at h
  · cases h
  · exact ⟨by assumption, h⟩
theorem gs_nzl_v {j : Int64} {a : gs_R} {r} (h : gs_nzl j a = some r) : ¬ j = 0 ∧ a = some r := by
  unfold gs_nzl at h
  split at h
  · cases h
  · exact ⟨by assumption, h⟩
theorem gs_fl_v {Y : gs_Y} {o : Option (Nat × Nat)} {t : Nat} {k : Nat → gs_R} {r} (h : gs_fl Y o t k = some r) : ∃ f, o = some ((Y.1 t).2.1, f) ∧ (Y.1 t).1 = 0 ∧ f < (Y.1 t).2.2 ∧ k f = some r := by
  rcases o with _ | ⟨ci, f⟩
  · simp [gs_fl] at h
  · obtain ⟨hb, h⟩ := gs_b_v h
    simp only [Bool.and_eq_true, beq_iff_eq] at hb
    exact ⟨f, by rw [hb.2.1], hb.1, Nat.le_of_ble_eq_true hb.2.2, h⟩
theorem gs_ift {b : Prop} [Decidable b] {a a' : gs_R} {r} (h : (if b then a else a') = some r) (hb : b) : a = some r := by rw [if_pos hb] at h; exact h
theorem gs_ifn {b : Prop} [Decidable b] {a a' : gs_R} {r} (h : (if b then a else a') = some r) (hb : ¬ b) : a' = some r := by rw [if_neg hb] at h; exact h
-- references that are there
def gs_ok (pr : Nat → Nat → Bool) (v : gs_V) : Prop := match v with
  | .inr (.inr q) => pr q.1 q.2 = true
  | _ => True
def gs_oks (pr : Nat → Nat → Bool) (st : List gs_V) : Prop := ∀ v ∈ st, gs_ok pr v
theorem gs_oks.tl {pr : Nat → Nat → Bool} {v : gs_V} {st : List gs_V} (h : gs_oks pr (v :: st)) : gs_oks pr st := fun w hw => h w (List.mem_cons_of_mem _ hw)
theorem gs_oks.hd {pr : Nat → Nat → Bool} {v : gs_V} {st : List gs_V} (h : gs_oks pr (v :: st)) : gs_ok pr v := h v List.mem_cons_self
theorem gs_oks.cn {pr : Nat → Nat → Bool} {v : gs_V} {st : List gs_V} (h : gs_oks pr st) (hv : gs_ok pr v) : gs_oks pr (v :: st) := fun w hw => by
  rcases List.mem_cons.mp hw with e | e
  · rw [e]; exact hv
  · exact h w e
theorem gs_oks.i {pr : Nat → Nat → Bool} {x : Int32} {st : List gs_V} (h : gs_oks pr st) : gs_oks pr (gs_i x :: st) := h.cn trivial
theorem gs_oks.l {pr : Nat → Nat → Bool} {x : Int64} {st : List gs_V} (h : gs_oks pr st) : gs_oks pr (gs_l x :: st) := h.cn trivial
def gs_okl (pr : Nat → Nat → Bool) (l : List (Option gs_V)) : Prop := ∀ i v, l.getD i none = some v → gs_ok pr v
theorem gs_okl.s1 {pr : Nat → Nat → Bool} {l : List (Option gs_V)} {i : Nat} {v : gs_V} (h : gs_okl pr l) (hv : gs_ok pr v) : gs_okl pr (gs_st1 l i v) := fun j w hw => by
  rcases gs_getD_set hw with ⟨-, e⟩ | ⟨-, h2⟩
  · cases e; exact hv
  · exact h j w (gs_clr_get h2).1
theorem gs_okl.s2 {pr : Nat → Nat → Bool} {l : List (Option gs_V)} {i : Nat} {v : gs_V} (h : gs_okl pr l) (hv : gs_ok pr v) : gs_okl pr (gs_st2 l i v) := fun j w hw => by
  rcases gs_getD_set hw with ⟨-, e⟩ | ⟨-, hw⟩
  · cases e
  rcases gs_getD_set hw with ⟨-, e⟩ | ⟨-, h2⟩
  · cases e; exact hv
  · exact h j w (gs_clr_get h2).1
-- an instruction's length, where it is fixed, and its offset
def gs_len (i : Jvm.ClassFile.Instr) : Option Nat := match i with
  | .bipush _ | .ldc _ | .iload _ | .lload _ | .aload _ | .istore _ | .lstore _ | .astore _ => some 2
  | .sipush _ | .ldc2_w _ | .iinc _ _ | .ifCond _ _ | .if_icmp _ _ | .goto _ | .getfield _ | .putfield _ | .invokestatic _ | .invokevirtual _ => some 3
  | .tableswitch _ _ _ _ | .lookupswitch _ _ => none
  | _ => some 1
def gs_off (i : Jvm.ClassFile.Instr) : Option Int := match i with
  | .ifCond _ o | .if_icmp _ o | .goto o => some o
  | .tableswitch o _ _ _ => some o
  | _ => none
-- what is asked of a layout
def gs_lay (Y : gs_Y) (cA : Nat → Nat → ClassId) (RL : List (Nat × Nat)) (pr : Nat → Nat → Bool) (cl : List vw_C) (tys : List (ClassId × FieldType)) (Ts : List Cond) : Prop :=
  ((∀ t i, pr t i = true → (Y.1 t).1 ≠ 5 → ∃ q : Nat, RL[q]? = some (t, i)) ∧ gs_inj RL)
  ∧ ((∀ t i, pr t i = true → (Y.1 t).1 = 1 → ∃ q : Nat, tys[q]? = some (cA t i, FieldType.int)) ∧ (∀ t i, pr t i = true → (Y.1 t).1 = 2 → ∃ q : Nat, tys[q]? = some (cA t i, FieldType.boolean)) ∧ (∀ t i, pr t i = true → (Y.1 t).1 = 3 → ∃ q : Nat, tys[q]? = some (cA t i, FieldType.long)) ∧ (∀ t i, pr t i = true → (Y.1 t).1 = 4 → ∃ (q : Nat) (C : String), tys[q]? = some (cA t i, FieldType.object C)))
  ∧ ((∀ t i k, pr t i = true → (Y.1 t).1 = 4 → k < (Y.1 t).2.2 → pr (Y.2.2.1 t i k).1 (Y.2.2.1 t i k).2 = true) ∧ (∀ d t i k, pr t i = true → (Y.1 t).1 = 0 → k < (Y.1 t).2.2 → gs_ok pr (gs_fa Y d t i k)))
  ∧ (∀ (ci : Nat) (C : String) (T : u_T) (N : Nat), cl[ci]? = some (C, T, N) → (∀ w ∈ u_ws C T N, w ∈ Ts) ∧ (∃ ty0 : Nat → FieldType, ∀ k, k < N → parseFieldDescriptor (T k).2.2.1 = some (ty0 k)) ∧ (∀ a, a < N → ∀ b, b < N → a ≠ b → (T a).2.1 ≠ (T b).2.1))
  ∧ (∀ (t : Nat) (C : String) (T : u_T) (N f : Nat), (Y.1 t).1 = 0 → cl[(Y.1 t).2.1]? = some (C, T, N) → f < (Y.1 t).2.2 → (Y.2.1 t f = 0 → parseFieldDescriptor (T f).2.2.1 = some .int) ∧ (Y.2.1 t f = 1 → parseFieldDescriptor (T f).2.2.1 = some .long))
-- what is asked of a method's tables
def gs_mok (cc : ByteArray) (Ts : List Cond) (own : String) (cl : List vw_C) (P : gs_P) : Prop :=
  (∀ pc i tg, P.1 pc = some (i, tg) → ∃ len, decode cc pc = .ok (i, len) ∧ (∀ n, gs_len i = some n → len = n) ∧ (∀ o, gs_off i = some o → (pc : Int) + o = (tg : Int)))
  ∧ (∀ x ci f, P.2.1 x = some (ci, f) → ∃ (C : String) (T : u_T) (N : Nat), cl[ci]? = some (C, T, N) ∧ f < N ∧ (Cond.fieldLink own x (T f).1 (T f).2.1 (T f).2.2.1 ∈ Ts ∨ ∃ host, Cond.fieldLinkNest own x (T f).1 (T f).2.1 (T f).2.2.1 host ∈ Ts))
  ∧ (∀ pc x tg, P.1 pc = some (.putfield x, tg) → ∀ (ci f : Nat) (C : String) (T : u_T) (N : Nat), P.2.1 x = some (ci, f) → cl[ci]? = some (C, T, N) → (T f).2.2.2 = false)
  ∧ ((∀ x v, P.2.2.1 x = some (.inl v) → Cond.constant own x v ∈ Ts) ∧ (∀ x v, P.2.2.1 x = some (.inr (.inl v)) → Cond.constantLong own x v ∈ Ts))
section GS
variable {p : Program} {l : Launch} {e : Env} {R : Room} {s : State} {m : MethodId} {args : Array Value} {below : List Frame} {meth : Method} {c : Code} {cells slots : Nat} {Q : State → Prop} {cc : ByteArray} {nL : Nat} {own : String} {Ts : List Cond} {D : va_G} {cl : List vw_C} {tys : List (ClassId × FieldType)} {A : Nat → Prop} {Y : gs_Y} {cA : Nat → Nat → ClassId} {ad : Nat → Nat → Nat} {RL : List (Nat × Nat)} {pr : Nat → Nat → Bool} {P : gs_P}
def gs_B (Y : gs_Y) (cA : Nat → Nat → ClassId) (ad : Nat → Nat → Nat) (D : va_G) (cl : List vw_C) (RL : List (Nat × Nat)) (pr : Nat → Nat → Bool) (A : Nat → Prop) (H0 : Heap) (nL : Nat) (lo : List (Option gs_V)) (d : gs_D) (ls : Array Slot) (H : Heap) (locs : List Loc) : Prop :=
  gs_rel ad ls nL lo ∧ gs_okl pr lo ∧ va_P D cl (gs_W Y cA ad d RL) H ∧ va_D A (gs_W Y cA ad d RL) ∧ va_S A H0 H locs
/-- a call does what f says -/
def gs_co (p : Program) (l : Launch) (e : Env) (R : Room) (s : State) (m : MethodId) (args : Array Value) (below : List Frame) (meth : Method) (c : Code) (cells slots : Nat) (Q : State → Prop) (Y : gs_Y) (cA : Nat → Nat → ClassId) (ad : Nat → Nat → Nat) (D : va_G) (cl : List vw_C) (RL : List (Nat × Nat)) (pr : Nat → Nat → Bool) (A : Nat → Prop) (nL : Nat) (cc : ByteArray) (ins : Jvm.ClassFile.Instr) (f : gs_F) (gd : List gs_V → Prop) : Prop :=
  ∀ (pc : Nat) (ls : Array Slot) (H : Heap) (locs : List Loc) (lo : List (Option gs_V)) (d : gs_D) (av rest : List gs_V) (r : Option gs_V) (d' : gs_D), decode cc pc = .ok (ins, 3) → gs_B Y cA ad D cl RL pr A s.heap nL lo d ls H locs → gs_oks pr av → gd av → (rest.map gs_cat).sum ≤ 8 → f av d = some (r, d') →
    (∀ (H' : Heap) (locs' : List Loc), (∀ v, r = some v → gs_ok pr v) → gs_B Y cA ad D cl RL pr A s.heap nL lo d' ls H' locs' → W p l e R s m args below meth c H' locs' cells slots Q (F0 m (pc + 3) ls ((r.toList ++ rest).map (gs_cz ad)))) →
    W p l e R s m args below meth c H locs cells slots Q (F0 m pc ls ((av.reverse ++ rest).map (gs_cz ad)))
def gs_gv (Y : gs_Y) (n cr : Nat) (av : List gs_V) : Prop := ∃ t i av', av = gs_r t i :: av' ∧ (Y.1 t).1 = 0 ∧ (Y.1 t).2.1 = cr ∧ av'.length = n
set_option maxHeartbeats 4000000 in
theorem gs_step (hx : p.tables.exec = Jvm.exec) (hb : c.code = cc) (hown : s.vm.findClass own = some m.cls) (hts : ∀ w ∈ Ts, w.before args s = true) (hK : va_K D cl tys s) (hL : gs_lay Y cA RL pr cl tys Ts) (hM : gs_mok cc Ts own cl P)
    (hcs : ∀ x n f, P.2.2.2 x = some (n, 1000, f) → gs_co p l e R s m args below meth c cells slots Q Y cA ad D cl RL pr A nL cc (.invokestatic x) f (fun av => av.length = n))
    (hcv : ∀ x n cr f, cr ≤ 999 → P.2.2.2 x = some (n, cr, f) → gs_co p l e R s m args below meth c cells slots Q Y cA ad D cl RL pr A nL cc (.invokevirtual x) f (gs_gv Y n cr))
    (h5 : ∀ t i, pr t i = true → (Y.1 t).1 = 5 → va_X (ad t i) (Y.1 t).2.2 Y.2.2.2 s s.heap ∧ ad t i < s.heap.size ∧ ¬ A (ad t i))
    {pc : Nat} {lo : List (Option gs_V)} {st : List gs_V} {d : gs_D} {ls : Array Slot} {H : Heap} {locs : List Loc} {k : gs_K} {res : Option gs_V × gs_D} (h : gs_stp Y P pc lo st d k = some res) (hB : gs_B Y cA ad D cl RL pr A s.heap nL lo d ls H locs) (hst : gs_oks pr st)
    (kk : ∀ pc' lo' st' d' ls' H' locs', k pc' lo' st' d' = some res → gs_B Y cA ad D cl RL pr A s.heap nL lo' d' ls' H' locs' → gs_oks pr st' → W p l e R s m args below meth c H' locs' cells slots Q (F0 m pc' ls' (st'.map (gs_cz ad))))
    (hfin : ∀ i tg r, P.1 pc = some (i, tg) → gs_ret i st = some r → res = (r, d) → W p l e R s m args below meth c H locs cells slots Q (F0 m pc ls (st.map (gs_cz ad)))) :
    W p l e R s m args below meth c H locs cells slots Q (F0 m pc ls (st.map (gs_cz ad))) := by
  cases hi : P.1 pc with
  | none => simp [gs_stp, hi] at h
  | some ii =>
  obtain ⟨i, tg⟩ := ii
  obtain ⟨len, hd, hlen, hoff⟩ := hM.1 pc i tg hi
  unfold gs_stp at h
  rw [hi] at h
  obtain ⟨⟨hpr, hinj⟩, ⟨hk1, hk2, hk3, hk4⟩, ⟨hr4, hr0⟩, hcls, hfty⟩ := hL
  obtain ⟨-, hfld, hput, hcon, hcol⟩ := hM
  obtain ⟨⟨lv, hlv, hll, hlm⟩, hokl, hP, hD, hS⟩ := hB
  have hBr : gs_rel ad ls nL lo := ⟨lv, hlv, hll, hlm⟩
  have hB : gs_B Y cA ad D cl RL pr A s.heap nL lo d ls H locs := ⟨hBr, hokl, hP, hD, hS⟩
  cases i with
  | iconst n =>
    cases hlen 1 rfl
    exact lv_iconst hx hb hd rfl (kk _ _ _ _ _ _ _ h hB hst.i)
  | bipush n =>
    cases hlen 2 rfl
    exact lv_bipush hx hb hd rfl (kk _ _ _ _ _ _ _ h hB hst.i)
  | sipush n =>
    cases hlen 3 rfl
    exact lv_sipush hx hb hd rfl (kk _ _ _ _ _ _ _ h hB hst.i)
  | lconst n =>
    cases hlen 1 rfl
    exact lv_lconst hx hb hd rfl (kk _ _ _ _ _ _ _ h hB hst.l)
  | ldc x =>
    cases hlen 2 rfl
    replace h := gs_ki_v h
    obtain ⟨v, hv, h⟩ := h
    exact lv_ldc hx hb hown (hts _ (hcon x v hv)) hd (kk _ _ _ _ _ _ _ h hB hst.i)
  | ldc2_w x =>
    cases hlen 3 rfl
    replace h := gs_kl_v h
    obtain ⟨v, hv, h⟩ := h
    exact lv_ldc2 hx hb hown (hts _ (hcol x v hv)) hd (kk _ _ _ _ _ _ _ h hB hst.l)
  | iload_n n =>
    cases hlen 1 rfl
    replace h := gs_ki_v h
    obtain ⟨v, hv, h⟩ := h
    exact lv_iload_n hx hb hd rfl (gs_rel_at hBr hv) (kk _ _ _ _ _ _ _ h hB hst.i)
  | iload n =>
    cases hlen 2 rfl
    replace h := gs_ki_v h
    obtain ⟨v, hv, h⟩ := h
    exact lv_iload hx hb hd (gs_rel_at hBr hv) (kk _ _ _ _ _ _ _ h hB hst.i)
  | lload_n n =>
    cases hlen 1 rfl
    replace h := gs_kl_v h
    obtain ⟨v, hv, h⟩ := h
    exact lv_lload_n hx hb hd rfl (gs_rel_at hBr hv) (kk _ _ _ _ _ _ _ h hB hst.l)
  | lload n =>
    cases hlen 2 rfl
    replace h := gs_kl_v h
    obtain ⟨v, hv, h⟩ := h
    exact lv_lload hx hb hd (gs_rel_at hBr hv) (kk _ _ _ _ _ _ _ h hB hst.l)
  | aload_n n =>
    cases hlen 1 rfl
    replace h := gs_kr_v h
    obtain ⟨t, i, hv, h⟩ := h
    exact lv_aload_n hx hb hd rfl (gs_rel_at hBr hv) (kk _ _ _ _ _ _ _ h hB (hst.cn (hokl _ _ hv)))
  | aload n =>
    cases hlen 2 rfl
    replace h := gs_kr_v h
    obtain ⟨t, i, hv, h⟩ := h
    exact lv_aload hx hb hd (gs_rel_at hBr hv) (kk _ _ _ _ _ _ _ h hB (hst.cn (hokl _ _ hv)))
  | istore_n n =>
    cases hlen 1 rfl
    replace h := gs_1i_v h
    obtain ⟨x, r, rfl, h⟩ := h
    replace h := gs_b_v h
    obtain ⟨hn, h⟩ := h
    exact lv_istore_n hx hb hd rfl hlv (by rw [← hll]; exact Nat.le_of_ble_eq_true hn) rfl fun ls' hl' => kk _ _ _ _ _ _ _ h ⟨gs_rel_st1 (v := gs_i x) hll hlm hl', hokl.s1 trivial, hP, hD, hS⟩ hst.tl
  | istore n =>
    cases hlen 2 rfl
    replace h := gs_1i_v h
    obtain ⟨x, r, rfl, h⟩ := h
    replace h := gs_b_v h
    obtain ⟨hn, h⟩ := h
    exact lv_istore hx hb hd hlv (by rw [← hll]; exact Nat.le_of_ble_eq_true hn) rfl fun ls' hl' => kk _ _ _ _ _ _ _ h ⟨gs_rel_st1 (v := gs_i x) hll hlm hl', hokl.s1 trivial, hP, hD, hS⟩ hst.tl
  | lstore_n n =>
    cases hlen 1 rfl
    replace h := gs_1l_v h
    obtain ⟨x, r, rfl, h⟩ := h
    replace h := gs_b_v h
    obtain ⟨hn, h⟩ := h
    exact lv_lstore_n hx hb hd rfl hlv (by rw [← hll]; exact Nat.le_of_ble_eq_true hn) rfl fun ls' hl' => kk _ _ _ _ _ _ _ h ⟨gs_rel_st2 (v := gs_l x) hll hlm hl', hokl.s2 trivial, hP, hD, hS⟩ hst.tl
  | lstore n =>
    cases hlen 2 rfl
    replace h := gs_1l_v h
    obtain ⟨x, r, rfl, h⟩ := h
    replace h := gs_b_v h
    obtain ⟨hn, h⟩ := h
    exact lv_lstore hx hb hd hlv (by rw [← hll]; exact Nat.le_of_ble_eq_true hn) rfl fun ls' hl' => kk _ _ _ _ _ _ _ h ⟨gs_rel_st2 (v := gs_l x) hll hlm hl', hokl.s2 trivial, hP, hD, hS⟩ hst.tl
  | astore_n n =>
    cases hlen 1 rfl
    replace h := gs_1r_v h
    obtain ⟨t, i, r, rfl, h⟩ := h
    replace h := gs_b_v h
    obtain ⟨hn, h⟩ := h
    exact lv_astore_n hx hb hd rfl hlv (by rw [← hll]; exact Nat.le_of_ble_eq_true hn) rfl fun ls' hl' => kk _ _ _ _ _ _ _ h ⟨gs_rel_st1 (v := gs_r t i) hll hlm hl', hokl.s1 hst.hd, hP, hD, hS⟩ hst.tl
  | astore n =>
    cases hlen 2 rfl
    replace h := gs_1r_v h
    obtain ⟨t, i, r, rfl, h⟩ := h
    replace h := gs_b_v h
    obtain ⟨hn, h⟩ := h
    exact lv_astore hx hb hd hlv (by rw [← hll]; exact Nat.le_of_ble_eq_true hn) rfl fun ls' hl' => kk _ _ _ _ _ _ _ h ⟨gs_rel_st1 (v := gs_r t i) hll hlm hl', hokl.s1 hst.hd, hP, hD, hS⟩ hst.tl
  | iinc n z =>
    cases hlen 3 rfl
    replace h := gs_ki_v h
    obtain ⟨v, hv, h⟩ := h
    replace h := gs_b_v h
    obtain ⟨hn, h⟩ := h
    obtain ⟨q, hq⟩ := List.getElem?_of_mem (hlm _ _ hv)
    exact lv_iinc hx hb hd hlv hq rfl (by rw [← hll]; exact Nat.le_of_ble_eq_true hn) rfl fun ls' hl' => kk _ _ _ _ _ _ _ h ⟨gs_rel_st1 (v := gs_i (v + Int32.ofInt z)) hll hlm hl', hokl.s1 trivial, hP, hD, hS⟩ hst
  | iadd =>
    cases hlen 1 rfl
    replace h := gs_2i_v h
    obtain ⟨x, y, r, rfl, h⟩ := h
    exact lv_iadd hx hb hd (kk _ _ _ _ _ _ _ h hB hst.tl.tl.i)
  | isub =>
    cases hlen 1 rfl
    replace h := gs_2i_v h
    obtain ⟨x, y, r, rfl, h⟩ := h
    exact lv_isub hx hb hd (kk _ _ _ _ _ _ _ h hB hst.tl.tl.i)
  | imul =>
    cases hlen 1 rfl
    replace h := gs_2i_v h
    obtain ⟨x, y, r, rfl, h⟩ := h
    exact lv_imul hx hb hd (kk _ _ _ _ _ _ _ h hB hst.tl.tl.i)
  | iand =>
    cases hlen 1 rfl
    replace h := gs_2i_v h
    obtain ⟨x, y, r, rfl, h⟩ := h
    exact lv_iand hx hb hd (kk _ _ _ _ _ _ _ h hB hst.tl.tl.i)
  | ior =>
    cases hlen 1 rfl
    replace h := gs_2i_v h
    obtain ⟨x, y, r, rfl, h⟩ := h
    exact lv_ior hx hb hd (kk _ _ _ _ _ _ _ h hB hst.tl.tl.i)
  | ixor =>
    cases hlen 1 rfl
    replace h := gs_2i_v h
    obtain ⟨x, y, r, rfl, h⟩ := h
    exact lv_ixor hx hb hd (kk _ _ _ _ _ _ _ h hB hst.tl.tl.i)
  | ishl =>
    cases hlen 1 rfl
    replace h := gs_2i_v h
    obtain ⟨x, y, r, rfl, h⟩ := h
    exact lv_ishl hx hb hd (kk _ _ _ _ _ _ _ h hB hst.tl.tl.i)
  | ishr =>
    cases hlen 1 rfl
    replace h := gs_2i_v h
    obtain ⟨x, y, r, rfl, h⟩ := h
    exact lv_ishr hx hb hd (kk _ _ _ _ _ _ _ h hB hst.tl.tl.i)
  | idiv =>
    cases hlen 1 rfl
    replace h := gs_2i_v h
    obtain ⟨x, y, r, rfl, h⟩ := h
    replace h := gs_nz_v h
    obtain ⟨hn, h⟩ := h
    exact lv_idiv hx hb hd hn (kk _ _ _ _ _ _ _ h hB hst.tl.tl.i)
  | irem =>
    cases hlen 1 rfl
    replace h := gs_2i_v h
    obtain ⟨x, y, r, rfl, h⟩ := h
    replace h := gs_nz_v h
    obtain ⟨hn, h⟩ := h
    exact lv_irem hx hb hd hn (kk _ _ _ _ _ _ _ h hB hst.tl.tl.i)
  | ineg =>
    cases hlen 1 rfl
    replace h := gs_1i_v h
    obtain ⟨x, r, rfl, h⟩ := h
    exact lv_ineg hx hb hd (kk _ _ _ _ _ _ _ h hB hst.tl.i)
  | ladd =>
    cases hlen 1 rfl
    replace h := gs_2l_v h
    obtain ⟨x, y, r, rfl, h⟩ := h
    exact lv_ladd hx hb hd (kk _ _ _ _ _ _ _ h hB hst.tl.tl.l)
  | lsub =>
    cases hlen 1 rfl
    replace h := gs_2l_v h
    obtain ⟨x, y, r, rfl, h⟩ := h
    exact lv_lsub hx hb hd (kk _ _ _ _ _ _ _ h hB hst.tl.tl.l)
  | lmul =>
    cases hlen 1 rfl
    replace h := gs_2l_v h
    obtain ⟨x, y, r, rfl, h⟩ := h
    exact lv_lmul hx hb hd (kk _ _ _ _ _ _ _ h hB hst.tl.tl.l)
  | ldiv =>
    cases hlen 1 rfl
    replace h := gs_2l_v h
    obtain ⟨x, y, r, rfl, h⟩ := h
    replace h := gs_nzl_v h
    obtain ⟨hn, h⟩ := h
    exact lv_ldiv hx hb hd hn (kk _ _ _ _ _ _ _ h hB hst.tl.tl.l)
  | lrem =>
    cases hlen 1 rfl
    replace h := gs_2l_v h
    obtain ⟨x, y, r, rfl, h⟩ := h
    replace h := gs_nzl_v h
    obtain ⟨hn, h⟩ := h
    exact lv_lrem hx hb hd hn (kk _ _ _ _ _ _ _ h hB hst.tl.tl.l)
  | lneg =>
    cases hlen 1 rfl
    replace h := gs_1l_v h
    obtain ⟨x, r, rfl, h⟩ := h
    exact lv_lneg hx hb hd (kk _ _ _ _ _ _ _ h hB hst.tl.l)
  | lcmp =>
    cases hlen 1 rfl
    replace h := gs_2l_v h
    obtain ⟨x, y, r, rfl, h⟩ := h
    exact W.lcmp hx hb hd (kk _ _ _ _ _ _ _ h hB hst.tl.tl.i)
  | i2l =>
    cases hlen 1 rfl
    replace h := gs_1i_v h
    obtain ⟨x, r, rfl, h⟩ := h
    exact lv_i2l hx hb hd rfl (kk _ _ _ _ _ _ _ h hB hst.tl.l)
  | l2i =>
    cases hlen 1 rfl
    replace h := gs_1l_v h
    obtain ⟨x, r, rfl, h⟩ := h
    exact lv_l2i hx hb hd rfl (kk _ _ _ _ _ _ _ h hB hst.tl.i)
  | dup =>
    cases hlen 1 rfl
    replace h := gs_1v_v h
    obtain ⟨v, r, rfl, h⟩ := h
    replace h := gs_b_v h
    obtain ⟨hv, h⟩ := h
    exact lv_dup hx hb hd ((gs_cz_cat ad v).trans (beq_iff_eq.mp hv)) (kk _ _ _ _ _ _ _ h hB (hst.cn hst.hd))
  | pop =>
    cases hlen 1 rfl
    replace h := gs_1v_v h
    obtain ⟨v, r, rfl, h⟩ := h
    replace h := gs_b_v h
    obtain ⟨hv, h⟩ := h
    exact lv_pop hx hb hd ((gs_cz_cat ad v).trans (beq_iff_eq.mp hv)) (kk _ _ _ _ _ _ _ h hB hst.tl)
  | pop2 =>
    cases hlen 1 rfl
    replace h := gs_1v_v h
    obtain ⟨v, r, rfl, h⟩ := h
    replace h := gs_b_v h
    obtain ⟨hv, h⟩ := h
    exact lv_pop2_2 hx hb hd ((gs_cz_cat ad v).trans (beq_iff_eq.mp hv)) (kk _ _ _ _ _ _ _ h hB hst.tl)
  | dup_x1 =>
    cases hlen 1 rfl
    replace h := gs_1v_v h
    obtain ⟨v, r, rfl, h⟩ := h
    replace h := gs_1v_v h
    obtain ⟨w, r, rfl, h⟩ := h
    replace h := gs_b_v h
    obtain ⟨hv, h⟩ := h
    simp only [Bool.and_eq_true, beq_iff_eq] at hv
    exact lv_dup_x1 hx hb hd ((gs_cz_cat ad v).trans hv.1) ((gs_cz_cat ad w).trans hv.2) (kk _ _ _ _ _ _ _ h hB (((hst.tl.tl.cn hst.hd).cn hst.tl.hd).cn hst.hd))
  | dup_x2 =>
    cases hlen 1 rfl
    replace h := gs_1v_v h
    obtain ⟨v, r, rfl, h⟩ := h
    replace h := gs_1v_v h
    obtain ⟨w, r, rfl, h⟩ := h
    replace h := gs_1v_v h
    obtain ⟨u, r, rfl, h⟩ := h
    replace h := gs_b_v h
    obtain ⟨hv, h⟩ := h
    simp only [Bool.and_eq_true, beq_iff_eq] at hv
    exact lv_dup_x2 hx hb hd ((gs_cz_cat ad v).trans hv.1) ((gs_cz_cat ad w).trans hv.2.1) ((gs_cz_cat ad u).trans hv.2.2) (kk _ _ _ _ _ _ _ h hB ((((hst.tl.tl.tl.cn hst.hd).cn hst.tl.tl.hd).cn hst.tl.hd).cn hst.hd))
  | dup2 =>
    cases hlen 1 rfl
    replace h := gs_1v_v h
    obtain ⟨v, r, rfl, h⟩ := h
    have two : ∀ (hc : gs_cat v = 1) (h : (gs_1v r fun w r => gs_b (gs_cat w == 1) (k (pc + 1) lo (v :: w :: v :: w :: r) d)) = some res), W p l e R s m args below meth c H locs cells slots Q (F0 m pc ls ((v :: r).map (gs_cz ad))) := by
      intro hc h2
      replace h2 := gs_1v_v h2
      obtain ⟨w, r2, hr, h2⟩ := h2
      subst hr
      replace h2 := gs_b_v h2
      obtain ⟨hv, h2⟩ := h2
      exact lv_dup2_11 hx hb hd ((gs_cz_cat ad v).trans hc) ((gs_cz_cat ad w).trans (beq_iff_eq.mp hv)) (kk _ _ _ _ _ _ _ h2 hB ((hst.cn hst.tl.hd).cn hst.hd))
    rcases v with x | x | x
    · exact two rfl h
    · exact lv_dup2_2 hx hb hd rfl (kk _ _ _ _ _ _ _ h hB (hst.cn hst.hd))
    · exact two rfl h
  | ifCond q o =>
    cases hlen 3 rfl
    replace h := gs_1i_v h
    obtain ⟨x, r, rfl, h⟩ := h
    have ht := hoff _ rfl
    cases q
    · exact lv_if_eq hx hb hd ht (fun hc => kk _ _ _ _ _ _ _ (gs_ift (b := x = 0) h hc) hB hst.tl) (fun hc => kk _ _ _ _ _ _ _ (gs_ifn (b := x = 0) h hc) hB hst.tl)
    · exact lv_if_ne hx hb hd ht (fun hc => kk _ _ _ _ _ _ _ (gs_ift (b := ¬ x = 0) h hc) hB hst.tl) (fun hc => kk _ _ _ _ _ _ _ (gs_ifn (b := ¬ x = 0) h (fun z => z hc)) hB hst.tl)
    · exact lv_if_lt hx hb hd ht (fun hc => kk _ _ _ _ _ _ _ (gs_ift (b := x < 0) h hc) hB hst.tl) (fun hc => kk _ _ _ _ _ _ _ (gs_ifn (b := x < 0) h hc) hB hst.tl)
    · exact lv_if_ge hx hb hd ht (fun hc => kk _ _ _ _ _ _ _ (gs_ift (b := 0 ≤ x) h hc) hB hst.tl) (fun hc => kk _ _ _ _ _ _ _ (gs_ifn (b := 0 ≤ x) h hc) hB hst.tl)
    · exact lv_if_gt hx hb hd ht (fun hc => kk _ _ _ _ _ _ _ (gs_ift (b := 0 < x) h hc) hB hst.tl) (fun hc => kk _ _ _ _ _ _ _ (gs_ifn (b := 0 < x) h hc) hB hst.tl)
    · exact lv_if_le hx hb hd ht (fun hc => kk _ _ _ _ _ _ _ (gs_ift (b := x ≤ 0) h hc) hB hst.tl) (fun hc => kk _ _ _ _ _ _ _ (gs_ifn (b := x ≤ 0) h hc) hB hst.tl)
  | if_icmp q o =>
    cases hlen 3 rfl
    replace h := gs_2i_v h
    obtain ⟨x, y, r, rfl, h⟩ := h
    have ht := hoff _ rfl
    cases q
    · exact lv_icmp_eq hx hb hd ht (fun hc => kk _ _ _ _ _ _ _ (gs_ift (b := x = y) h hc) hB hst.tl.tl) (fun hc => kk _ _ _ _ _ _ _ (gs_ifn (b := x = y) h hc) hB hst.tl.tl)
    · exact lv_icmp_ne hx hb hd ht (fun hc => kk _ _ _ _ _ _ _ (gs_ift (b := ¬ x = y) h hc) hB hst.tl.tl) (fun hc => kk _ _ _ _ _ _ _ (gs_ifn (b := ¬ x = y) h (fun z => z hc)) hB hst.tl.tl)
    · exact lv_icmp_lt hx hb hd ht (fun hc => kk _ _ _ _ _ _ _ (gs_ift (b := x < y) h hc) hB hst.tl.tl) (fun hc => kk _ _ _ _ _ _ _ (gs_ifn (b := x < y) h hc) hB hst.tl.tl)
    · exact lv_icmp_ge hx hb hd ht (fun hc => kk _ _ _ _ _ _ _ (gs_ift (b := y ≤ x) h hc) hB hst.tl.tl) (fun hc => kk _ _ _ _ _ _ _ (gs_ifn (b := y ≤ x) h hc) hB hst.tl.tl)
    · exact lv_icmp_gt hx hb hd ht (fun hc => kk _ _ _ _ _ _ _ (gs_ift (b := y < x) h hc) hB hst.tl.tl) (fun hc => kk _ _ _ _ _ _ _ (gs_ifn (b := y < x) h hc) hB hst.tl.tl)
    · exact lv_icmp_le hx hb hd ht (fun hc => kk _ _ _ _ _ _ _ (gs_ift (b := x ≤ y) h hc) hB hst.tl.tl) (fun hc => kk _ _ _ _ _ _ _ (gs_ifn (b := x ≤ y) h hc) hB hst.tl.tl)
  | goto o =>
    cases hlen 3 rfl
    exact lv_goto hx hb hd (hoff _ rfl) (kk _ _ _ _ _ _ _ h hB hst)
  | getfield x =>
    cases hlen 3 rfl
    replace h := gs_1r_v h
    obtain ⟨t, i, r, rfl, h⟩ := h
    replace h := gs_fl_v h
    obtain ⟨f, hf, h0, hfl, h⟩ := h
    obtain ⟨q, hq⟩ := hpr t i hst.hd (by rw [h0]; decide)
    obtain ⟨C, T, N, hc, hfN, hlk⟩ := hfld x _ _ hf
    have he : (gs_W Y cA ad d RL)[q]? = some (ad t i, .inr ((Y.1 t).2.1, (List.range (Y.1 t).2.2).map fun k => gs_cz ad (gs_fa Y d t i k))) := by rw [gs_W_at hq, gs_c0 h0]
    have hv : ((List.range (Y.1 t).2.2).map fun k => gs_cz ad (gs_fa Y d t i k))[f]? = some (gs_cz ad (gs_fa Y d t i f)) := by rw [List.getElem?_map, List.getElem?_range hfl]; rfl
    have hk := kk _ _ _ _ _ _ _ h hB (hst.tl.cn (hr0 d t i f hst.hd h0 hfl))
    rcases hlk with hlk | ⟨host, hlk⟩
    · exact va_get hx hb hts (hcls _ C T N hc).1 hown hK hP q he hc f hfN (hts _ hlk) (fun _ h9 => h9) hv hd hk
    · exact va_getN hx hb hts (hcls _ C T N hc).1 hown hK hP q he hc f hfN (hts _ hlk) (fun _ h9 => h9) hv hd hk
  | putfield x =>
    cases hlen 3 rfl
    replace h := gs_1v_v h
    obtain ⟨v, r, rfl, h⟩ := h
    replace h := gs_1r_v h
    obtain ⟨t, i, r, rfl, h⟩ := h
    replace h := gs_fl_v h
    obtain ⟨f, hf, h0, hfl, h⟩ := h
    obtain ⟨q, hq⟩ := hpr t i hst.tl.hd (by rw [h0]; decide)
    obtain ⟨C, T, N, hc, hfN, hlk⟩ := hfld x _ _ hf
    obtain ⟨hin, ⟨ty0, hty⟩, hnm⟩ := hcls _ C T N hc
    have hfin2 := hput pc x tg hi _ f C T N hf hc
    have he : (gs_W Y cA ad d RL)[q]? = some (ad t i, .inr ((Y.1 t).2.1, (List.range (Y.1 t).2.2).map fun k => gs_cz ad (gs_fa Y d t i k))) := by rw [gs_W_at hq, gs_c0 h0]
    have hlf : f < ((List.range (Y.1 t).2.2).map fun k => gs_cz ad (gs_fa Y d t i k)).length := by rw [List.length_map, List.length_range]; exact hfl
    rcases v with z | z | z
    · obtain ⟨hb0, h⟩ := gs_b_v h
      have hk0 := beq_iff_eq.mp hb0
      have eW := gs_W_set (cA := cA) (ad := ad) (d := d) (d' := gs_wI d t i f z) hinj hq (gs_c0 h0) (fun a b hn => gs_cont_wI a b hn)
      rw [← gs_obj_wI hk0] at eW
      have hk : ∀ (H1 : Heap) (locs1 : List Loc), va_P D cl ((gs_W Y cA ad d RL).set q (ad t i, .inr ((Y.1 t).2.1, ((List.range (Y.1 t).2.2).map fun k => gs_cz ad (gs_fa Y d t i k)).set f (.int z)))) H1 → va_D A ((gs_W Y cA ad d RL).set q (ad t i, .inr ((Y.1 t).2.1, ((List.range (Y.1 t).2.2).map fun k => gs_cz ad (gs_fa Y d t i k)).set f (.int z)))) → va_S A s.heap H1 locs1 → W p l e R s m args below meth c H1 locs1 cells slots Q (F0 m (pc + 3) ls (r.map (gs_cz ad))) := by
        intro H1 locs1 a1 a2 a3
        rw [eW] at a1 a2
        exact kk _ _ _ _ _ _ _ h ⟨hBr, hokl, a1, a2, a3⟩ hst.tl.tl
      rcases hlk with hlk | ⟨host, hlk⟩
      · exact va_put hx hb hts hin ty0 hty hnm hown hK hP hD hS q he hc f hfN (hts _ hlk) (fun _ h9 => h9) hfin2 ((hfty t C T N f h0 hc hfl).1 hk0) rfl rfl hlf hd hk
      · exact va_putN hx hb hts hin ty0 hty hnm hown hK hP hD hS q he hc f hfN (hts _ hlk) (fun _ h9 => h9) hfin2 ((hfty t C T N f h0 hc hfl).1 hk0) rfl rfl hlf hd hk
    · obtain ⟨hb0, h⟩ := gs_b_v h
      have hk0 := beq_iff_eq.mp hb0
      have eW := gs_W_set (cA := cA) (ad := ad) (d := d) (d' := gs_wL d t i f z) hinj hq (gs_c0 h0) (fun a b hn => gs_cont_wL a b hn)
      rw [← gs_obj_wL hk0] at eW
      have hk : ∀ (H1 : Heap) (locs1 : List Loc), va_P D cl ((gs_W Y cA ad d RL).set q (ad t i, .inr ((Y.1 t).2.1, ((List.range (Y.1 t).2.2).map fun k => gs_cz ad (gs_fa Y d t i k)).set f (.long z)))) H1 → va_D A ((gs_W Y cA ad d RL).set q (ad t i, .inr ((Y.1 t).2.1, ((List.range (Y.1 t).2.2).map fun k => gs_cz ad (gs_fa Y d t i k)).set f (.long z)))) → va_S A s.heap H1 locs1 → W p l e R s m args below meth c H1 locs1 cells slots Q (F0 m (pc + 3) ls (r.map (gs_cz ad))) := by
        intro H1 locs1 a1 a2 a3
        rw [eW] at a1 a2
        exact kk _ _ _ _ _ _ _ h ⟨hBr, hokl, a1, a2, a3⟩ hst.tl.tl
      rcases hlk with hlk | ⟨host, hlk⟩
      · exact va_put hx hb hts hin ty0 hty hnm hown hK hP hD hS q he hc f hfN (hts _ hlk) (fun _ h9 => h9) hfin2 ((hfty t C T N f h0 hc hfl).2 hk0) rfl rfl hlf hd hk
      · exact va_putN hx hb hts hin ty0 hty hnm hown hK hP hD hS q he hc f hfN (hts _ hlk) (fun _ h9 => h9) hfin2 ((hfty t C T N f h0 hc hfl).2 hk0) rfl rfl hlf hd hk
    · simp [gs_sw] at h
  | iaload =>
    cases hlen 1 rfl
    replace h := gs_2r_v h
    obtain ⟨j, t, i, r, rfl, h⟩ := h
    replace h := gs_b_v h
    obtain ⟨hb0, h⟩ := h
    rw [Bool.or_eq_true] at hb0
    replace h := gs_ix_v h
    obtain ⟨hn, h⟩ := h
    rcases hb0 with hb0 | hb0
    · have h0 := beq_iff_eq.mp hb0
      obtain ⟨q, hq⟩ := hpr t i hst.tl.hd (by rw [h0]; decide)
      have hv : gs_ia Y d t i j.toNatClampNeg = d.1 t i j.toNatClampNeg := by unfold gs_ia; rw [h0]; rfl
      rw [hv] at h
      obtain ⟨z, hz⟩ := hk1 t i hst.tl.hd h0
      exact va_iald hx hb hK hP q z (by rw [gs_W_at hq, gs_c1 h0]) hz hn hd (kk _ _ _ _ _ _ _ h hB hst.tl.tl.i)
    · have h0 := beq_iff_eq.mp hb0
      obtain ⟨x1, x2, x3⟩ := h5 t i hst.tl.hd h0
      have hv : gs_ia Y d t i j.toNatClampNeg = Y.2.2.2 j.toNatClampNeg := by unfold gs_ia; rw [h0]; rfl
      rw [hv] at h
      exact va_sld hx hb x1 x2 x3 hS hn hd (kk _ _ _ _ _ _ _ h hB hst.tl.tl.i)
  | arraylength =>
    cases hlen 1 rfl
    replace h := gs_1r_v h
    obtain ⟨t, i, r, rfl, h⟩ := h
    replace h := gs_b_v h
    obtain ⟨hb0, h⟩ := h
    obtain ⟨x1, x2, x3⟩ := h5 t i hst.hd (beq_iff_eq.mp hb0)
    exact va_slen hx hb x1 x2 x3 hS hd (kk _ _ _ _ _ _ _ h hB hst.tl.i)
  | tableswitch df lo1 hi1 offs =>
    replace h := gs_1i_v h
    obtain ⟨x, r, rfl, h⟩ := h
    unfold gs_ts at h
    split at h
    · rename_i hc
      exact lv_tableOut hx hb hd hc (hoff _ rfl) (kk _ _ _ _ _ _ _ h hB hst.tl)
    · rename_i hc
      split at h
      · rename_i o ho
        replace h := gs_b_v h
        obtain ⟨hb0, h⟩ := h
        exact lv_tableIn hx hb hd (fun z => hc (Or.inl z)) (fun z => hc (Or.inr z)) ho (Int.toNat_of_nonneg (of_decide_eq_true hb0)).symm (kk _ _ _ _ _ _ _ h hB hst.tl)
      · cases h
  | baload =>
    cases hlen 1 rfl
    replace h := gs_2r_v h
    obtain ⟨j, t, i, r, rfl, h⟩ := h
    replace h := gs_b_v h
    obtain ⟨hb0, h⟩ := h
    have h0 := beq_iff_eq.mp hb0
    replace h := gs_ix_v h
    obtain ⟨hn, h⟩ := h
    obtain ⟨q, hq⟩ := hpr t i hst.tl.hd (by rw [h0]; decide)
    obtain ⟨z, hz⟩ := hk2 t i hst.tl.hd h0
    exact va_zald hx hb hK hP q z (by rw [gs_W_at hq, gs_c2 h0]) hz hn hd (kk _ _ _ _ _ _ _ h hB hst.tl.tl.i)
  | laload =>
    cases hlen 1 rfl
    replace h := gs_2r_v h
    obtain ⟨j, t, i, r, rfl, h⟩ := h
    replace h := gs_b_v h
    obtain ⟨hb0, h⟩ := h
    have h0 := beq_iff_eq.mp hb0
    replace h := gs_ix_v h
    obtain ⟨hn, h⟩ := h
    obtain ⟨q, hq⟩ := hpr t i hst.tl.hd (by rw [h0]; decide)
    obtain ⟨z, hz⟩ := hk3 t i hst.tl.hd h0
    exact va_lald hx hb hK hP q z (by rw [gs_W_at hq, gs_cl3 h0]) hz hn hd (kk _ _ _ _ _ _ _ h hB hst.tl.tl.l)
  | aaload =>
    cases hlen 1 rfl
    replace h := gs_2r_v h
    obtain ⟨j, t, i, r, rfl, h⟩ := h
    replace h := gs_b_v h
    obtain ⟨hb0, h⟩ := h
    have h0 := beq_iff_eq.mp hb0
    replace h := gs_ix_v h
    obtain ⟨hn, h⟩ := h
    obtain ⟨q, hq⟩ := hpr t i hst.tl.hd (by rw [h0]; decide)
    obtain ⟨z, C, hC⟩ := hk4 t i hst.tl.hd h0
    have hlt : j.toNatClampNeg < (Y.1 t).2.2 := Nat.not_le.mp fun z => hn (Or.inr z)
    exact va_aldq (f := fun j => some (ad (Y.2.2.1 t i j).1 (Y.2.2.1 t i j).2)) hx hb hK hP q z (by rw [gs_W_at hq, gs_c4 h0]) hC hn hd (kk _ _ _ _ _ _ _ h hB (hst.tl.tl.cn (hr4 t i _ hst.tl.hd h0 hlt)))
  | iastore =>
    cases hlen 1 rfl
    replace h := gs_1i_v h
    obtain ⟨x, r, rfl, h⟩ := h
    replace h := gs_2r_v h
    obtain ⟨j, t, i, r, rfl, h⟩ := h
    replace h := gs_b_v h
    obtain ⟨hb0, h⟩ := h
    have h0 := beq_iff_eq.mp hb0
    replace h := gs_ix_v h
    obtain ⟨hn, h⟩ := h
    obtain ⟨q, hq⟩ := hpr t i hst.tl.tl.hd (by rw [h0]; decide)
    have e := gs_W_set (cA := cA) (ad := ad) (d := d) (d' := gs_wI d t i j.toNatClampNeg x) hinj hq (gs_c1 h0) (fun a b hn => gs_cont_wI a b hn)
    rw [gs_row_wI] at e
    obtain ⟨z, hz⟩ := hk1 t i hst.tl.tl.hd h0
    exact va_iast hx hb hK hP hD hS q z (by rw [gs_W_at hq, gs_c1 h0]) hz hn hd fun H1 locs1 a1 a2 a3 => kk _ _ _ _ _ _ _ h ⟨hBr, hokl, e ▸ a1, e ▸ a2, a3⟩ hst.tl.tl.tl
  | bastore =>
    cases hlen 1 rfl
    replace h := gs_1i_v h
    obtain ⟨x, r, rfl, h⟩ := h
    replace h := gs_2r_v h
    obtain ⟨j, t, i, r, rfl, h⟩ := h
    replace h := gs_b_v h
    obtain ⟨hb0, h⟩ := h
    have h0 := beq_iff_eq.mp hb0
    replace h := gs_ix_v h
    obtain ⟨hn, h⟩ := h
    obtain ⟨q, hq⟩ := hpr t i hst.tl.tl.hd (by rw [h0]; decide)
    have e := gs_W_set (cA := cA) (ad := ad) (d := d) (d' := gs_wI d t i j.toNatClampNeg (vp_nar .boolean x)) hinj hq (gs_c2 h0) (fun a b hn => gs_cont_wI a b hn)
    rw [gs_row_wI] at e
    obtain ⟨z, hz⟩ := hk2 t i hst.tl.tl.hd h0
    exact va_zast hx hb hK hP hD hS q z (by rw [gs_W_at hq, gs_c2 h0]) hz hn hd fun H1 locs1 a1 a2 a3 => kk _ _ _ _ _ _ _ h ⟨hBr, hokl, e ▸ a1, e ▸ a2, a3⟩ hst.tl.tl.tl
  | lastore =>
    cases hlen 1 rfl
    replace h := gs_1l_v h
    obtain ⟨x, r, rfl, h⟩ := h
    replace h := gs_2r_v h
    obtain ⟨j, t, i, r, rfl, h⟩ := h
    replace h := gs_b_v h
    obtain ⟨hb0, h⟩ := h
    have h0 := beq_iff_eq.mp hb0
    replace h := gs_ix_v h
    obtain ⟨hn, h⟩ := h
    obtain ⟨q, hq⟩ := hpr t i hst.tl.tl.hd (by rw [h0]; decide)
    have e := gs_W_set (cA := cA) (ad := ad) (d := d) (d' := gs_wL d t i j.toNatClampNeg x) hinj hq (gs_cl3 h0) (fun a b hn => gs_cont_wL a b hn)
    rw [gs_row_wL] at e
    obtain ⟨z, hz⟩ := hk3 t i hst.tl.tl.hd h0
    exact va_last hx hb hK hP hD hS q z (by rw [gs_W_at hq, gs_cl3 h0]) hz hn hd fun H1 locs1 a1 a2 a3 => kk _ _ _ _ _ _ _ h ⟨hBr, hokl, e ▸ a1, e ▸ a2, a3⟩ hst.tl.tl.tl
  | invokestatic x =>
    cases hlen 3 rfl
    simp only at h
    cases hq : P.2.2.2 x with
    | none => rw [hq] at h; simp [gs_cs] at h
    | some q =>
      obtain ⟨n, cr, f⟩ := q
      rw [hq] at h
      replace h := gs_b_v h
      obtain ⟨hg, h⟩ := h
      simp only [Bool.and_eq_true, beq_iff_eq] at hg
      obtain ⟨hcr, hg⟩ := hg
      subst hcr
      have hn := Nat.le_of_ble_eq_true hg.1
      have h : gs_af (f (st.take n).reverse d) (st.drop n) (fun st d => k (pc + 3) lo st d) = some res := h
      cases hf : f (st.take n).reverse d with
      | none => rw [hf] at h; simp [gs_af] at h
      | some rr =>
        obtain ⟨r, d'⟩ := rr
        have e : (st.take n).reverse.reverse ++ st.drop n = st := by rw [List.reverse_reverse, List.take_append_drop]
        have hco := hcs x n f hq pc ls H locs lo d (st.take n).reverse (st.drop n) r d' hd hB (fun v hv => hst v (List.mem_of_mem_take (List.mem_reverse.mp hv))) (by show (st.take n).reverse.length = n; rw [List.length_reverse, List.length_take, Nat.min_eq_left hn]) (Nat.le_of_ble_eq_true hg.2) hf
        rw [e] at hco
        refine hco fun H' locs' hr hB' => ?_
        have hdr : gs_oks pr (st.drop n) := fun v hv => hst v (List.mem_of_mem_drop hv)
        rw [hf] at h
        rcases r with _ | v
        · exact kk _ _ _ _ _ _ _ h hB' hdr
        · exact kk _ _ _ _ _ _ _ h hB' (hdr.cn (hr v rfl))
  | invokevirtual x =>
    cases hlen 3 rfl
    simp only at h
    cases hq : P.2.2.2 x with
    | none => rw [hq] at h; simp [gs_cv] at h
    | some q =>
      obtain ⟨n, cr, f⟩ := q
      rw [hq] at h
      replace h := gs_b_v h
      obtain ⟨hg, h⟩ := h
      rw [Bool.and_eq_true] at hg
      have hcr := Nat.le_of_ble_eq_true hg.1
      have hn := Nat.le_of_ble_eq_true hg.2
      replace h := gs_1r_v h
      obtain ⟨t, i, r0, hdrop, h⟩ := h
      replace h := gs_b_v h
      obtain ⟨hg, h⟩ := h
      simp only [Bool.and_eq_true, beq_iff_eq] at hg
      have h : gs_af (f (gs_r t i :: (st.take n).reverse) d) r0 (fun st d => k (pc + 3) lo st d) = some res := h
      cases hf : f (gs_r t i :: (st.take n).reverse) d with
      | none => rw [hf] at h; simp [gs_af] at h
      | some rr =>
        obtain ⟨r, d'⟩ := rr
        have e : (gs_r t i :: (st.take n).reverse).reverse ++ r0 = st := by
          rw [List.reverse_cons, List.reverse_reverse, List.append_assoc, List.singleton_append, ← hdrop, List.take_append_drop]
        have hsub : gs_oks pr (gs_r t i :: r0) := fun v hv => hst v (List.mem_of_mem_drop (by rw [hdrop]; exact hv))
        have hav : gs_oks pr (gs_r t i :: (st.take n).reverse) := gs_oks.cn (fun v hv => hst v (List.mem_of_mem_take (List.mem_reverse.mp hv))) hsub.hd
        have hco := hcv x n cr f hcr hq pc ls H locs lo d (gs_r t i :: (st.take n).reverse) r0 r d' hd hB hav ⟨t, i, _, rfl, hg.1, hg.2.1, by rw [List.length_reverse, List.length_take, Nat.min_eq_left hn]⟩ (Nat.le_of_ble_eq_true hg.2.2) hf
        rw [e] at hco
        refine hco fun H' locs' hr hB' => ?_
        rw [hf] at h
        rcases r with _ | v
        · exact kk _ _ _ _ _ _ _ h hB' hsub.tl
        · exact kk _ _ _ _ _ _ _ h hB' (hsub.tl.cn (hr v rfl))
  | return_ =>
    simp only at h
    cases hr : gs_ret .return_ st with
    | none => rw [hr] at h; cases h
    | some r => rw [hr] at h; exact hfin _ _ r hi hr (Option.some.inj h).symm
  | ireturn =>
    simp only at h
    cases hr : gs_ret .ireturn st with
    | none => rw [hr] at h; cases h
    | some r => rw [hr] at h; exact hfin _ _ r hi hr (Option.some.inj h).symm
  | lreturn =>
    simp only at h
    cases hr : gs_ret .lreturn st with
    | none => rw [hr] at h; cases h
    | some r => rw [hr] at h; exact hfin _ _ r hi hr (Option.some.inj h).symm
  | areturn =>
    simp only at h
    cases hr : gs_ret .areturn st with
    | none => rw [hr] at h; cases h
    | some r => rw [hr] at h; exact hfin _ _ r hi hr (Option.some.inj h).symm
  | _ => simp [gs_ret] at h
end GS
