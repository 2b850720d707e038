theorem gs_ent_in : ∀ {av : List gs_V} {k i : Nat} {v : gs_V}, (gs_sl av ++ List.replicate k none).getD i none = some v → v ∈ av
  | [], k, i, v, h => by
    exfalso
    rw [List.getD_eq_getElem?_getD] at h
    simp only [gs_sl, List.flatMap_nil, List.nil_append, List.getElem?_replicate] at h
    split at h <;> cases h
  | w :: av, k, i, v, h => by
    by_cases hc : gs_cat w = 2
    · have e : gs_sl (w :: av) ++ List.replicate k none = some w :: none :: (gs_sl av ++ List.replicate k none) := by simp [gs_sl, hc]
      rw [e] at h
      rcases i with _ | _ | i
      · cases h
        exact List.mem_cons_self
      · cases h
      · exact List.mem_cons_of_mem _ (gs_ent_in (k := k) (i := i) h)
    · have e : gs_sl (w :: av) ++ List.replicate k none = some w :: (gs_sl av ++ List.replicate k none) := by simp [gs_sl, hc]
      rw [e] at h
      rcases i with _ | i
      · cases h
        exact List.mem_cons_self
      · exact List.mem_cons_of_mem _ (gs_ent_in (k := k) (i := i) h)
def gs_T (cA : Nat → Nat → ClassId) (RL : List (Nat × Nat)) (TL : Nat → Option FieldType) : List (ClassId × FieldType) := RL.filterMap fun q => (TL q.1).map fun ty => (cA q.1 q.2, ty)
def gs_Q (Y : gs_Y) (cA : Nat → Nat → ClassId) (ad : Nat → Nat → Nat) (D : va_G) (cl : List vw_C) (RL : List (Nat × Nat)) (pr : Nat → Nat → Bool) (r : Option gs_V) (d' : gs_D) (A : Nat → Prop) : Array Value → State → Outcome → State → Prop := fun _ st oc t =>
  (oc = .returned (r.map (gs_cz ad)) ∧ (∀ v, r = some v → gs_ok pr v) ∧ va_P D cl (gs_W Y cA ad d' RL) t.heap) ∧ va_F A st t
/-- words on private members of a nest mate: they go along from state to state -/
def gs_isN (w : Cond) : Bool := match w with
  | .fieldLinkNest .. => true
  | .methodLinkNest .. => true
  | _ => false
theorem gs_isN_t {w : Cond} (h : gs_isN w = true) : w.onTables = true := by
  cases w <;> first | rfl | (simp [gs_isN] at h; done)
theorem gs_nw_w {NW : List Cond} (hN : ∀ w ∈ NW, gs_isN w = true) {s U : State} (hW : s.WarmedH U.vm) (h : ∀ w ∈ NW, va_Nw w s) : ∀ w ∈ NW, va_Nw w U := by
  intro w hw
  have h1 := hN w hw
  have h2 := h w hw
  cases w <;> first | exact va_Nw.warmF hW h2 | exact va_Nw.warmM hW h2 | (simp [gs_isN] at h1; done)
/-- the contract: wherever the machine answers, the method does so -/
def gs_C (l : Launch) (Y : gs_Y) (RL : List (Nat × Nat)) (pr : Nat → Nat → Bool) (cl : List vw_C) (TL : Nat → Option FieldType) (NW : List Cond) (y : MethodName) (ws : List Cond) (rm : Room) (f : gs_F) : Prop :=
  ∀ (D : va_G) (cA : Nat → Nat → ClassId) (ad : Nat → Nat → Nat) (av : List gs_V) (d : gs_D) (r : Option gs_V) (d' : gs_D) (sz : Nat), f av d = some (r, d') → gs_oks pr av →
    Met l y ws rm (va_Pc (av.map (gs_cz ad)) (fun U => U.heap.size = sz ∧ va_P D cl (gs_W Y cA ad d RL) U.heap ∧ va_K D cl (gs_T cA RL TL) U ∧ va_D (fun _ => True) (gs_W Y cA ad d RL) ∧ ∀ w ∈ NW, va_Nw w U)) (gs_Q Y cA ad D cl RL pr r d' (va_A (gs_W Y cA ad d RL) sz)) 0 0 (va_A (gs_W Y cA ad d RL) sz)
/-- what a call of a static method rests on -/
def gs_sc (l : Launch) (Y : gs_Y) (RL : List (Nat × Nat)) (pr : Nat → Nat → Bool) (cl : List vw_C) (TL : Nat → Option FieldType) (NW Ts : List Cond) (own : String) (rm : Room) (x n : Nat) (f : gs_F) : Prop :=
  ∃ (y : MethodName) (ws ws' : List Cond) (rm2 : Room) (bytes : ByteArray) (maxL : Nat) (ret : Option FieldType), gs_C l Y RL pr cl TL NW y ws rm2 f ∧ GoodIn Ts ws ∧ ws = Cond.code y bytes maxL ret :: ws' ∧ (rm2.cells = 0 ∧ rm2.slots = 0) ∧ (rm2.frames + 1 ≤ rm.frames ∧ 8 + (maxL + 11) + rm2.locals ≤ rm.locals)
    ∧ (Cond.methodLink own x y ∈ Ts ∨ ∃ host, Cond.methodLinkNest own x y host ∈ Ts) ∧ Cond.static y ∈ Ts ∧ Cond.initialized y.cls ∈ Ts ∧ (y.cls ≠ "java/lang/invoke/MethodHandle" ∧ y.cls ≠ "java/lang/invoke/VarHandle" ∧ (parseMethodDescriptor y.desc).map (fun d => d.parameters.length) = some n)
/-- .. of an object's method -/
def gs_vc (l : Launch) (Y : gs_Y) (RL : List (Nat × Nat)) (pr : Nat → Nat → Bool) (cl : List vw_C) (TL : Nat → Option FieldType) (NW Ts : List Cond) (own : String) (rm : Room) (x n cr : Nat) (f : gs_F) : Prop :=
  ∃ (y : MethodName) (ws ws' : List Cond) (rm2 : Room) (bytes : ByteArray) (maxL : Nat) (ret : Option FieldType), gs_C l Y RL pr cl TL NW y ws rm2 f ∧ GoodIn Ts ws ∧ ws = Cond.code y bytes maxL ret :: ws' ∧ (rm2.cells = 0 ∧ rm2.slots = 0) ∧ (rm2.frames + 1 ≤ rm.frames ∧ 8 + (maxL + 11) + rm2.locals ≤ rm.locals)
    ∧ (Cond.methodLink own x y ∈ Ts ∨ ∃ host, Cond.methodLinkNest own x y host ∈ Ts) ∧ (Cond.instanceMethod y ∈ Ts ∧ Cond.selects y.cls y y ∈ Ts) ∧ Cond.initialized y.cls ∈ Ts ∧ (y.cls ≠ "java/lang/invoke/MethodHandle" ∧ y.cls ≠ "java/lang/invoke/VarHandle" ∧ (parseMethodDescriptor y.desc).map (fun d => d.parameters.length) = some n) ∧ ∃ T N, cl[cr]? = some (y.cls, T, N)
def gs_acw (Y : gs_Y) (Ts : List Cond) (own : String) (rm : Room) (x n : Nat) (f : gs_F) : Prop :=
  f = gs_ac Y ∧ n = 5 ∧ (Cond.methodLink own x arraycopyName ∈ Ts ∧ Cond.native arraycopyName ∈ Ts ∧ Cond.static arraycopyName ∈ Ts ∧ Cond.initialized "java/lang/System" ∈ Ts) ∧ (1 ≤ rm.frames ∧ 8 + (nativeFrameWords "java/lang/System" "arraycopy" 5 + 11) ≤ rm.locals)
theorem gs_cont_x {Y : gs_Y} {cA : Nat → Nat → ClassId} {ad : Nat → Nat → Nat} {d d' : gs_D} {a b : Nat} (h1 : d'.1 a b = d.1 a b) (h2 : d'.2 a b = d.2 a b) : gs_cont Y cA ad d' a b = gs_cont Y cA ad d a b := by
  have e : ∀ k, gs_fa Y d' a b k = gs_fa Y d a b k := fun k => by
    unfold gs_fa
    rw [h1, h2]
  unfold gs_cont
  simp only [e]
  rw [h1, h2]
section GC
variable {NW : List Cond} {p : Program} {l : Launch} {e : Env} {R : Room} {s : State} {m : MethodId} {args : Array Value} {below : List Frame} {meth : Method} {c : Code} {cells slots : Nat} {Q : State → Prop} {cc : ByteArray} {nL : Nat} {own : String} {Ts : List Cond} {D : va_G} {cl : List vw_C} {TL : Nat → Option FieldType} {A : Nat → Prop} {Y : gs_Y} {cA : Nat → Nat → ClassId} {ad : Nat → Nat → Nat} {RL : List (Nat × Nat)} {pr : Nat → Nat → Bool} {P : gs_P}
theorem gs_call {H : Heap} {locs : List Loc} {pc : Nat} {ls : Array Slot} {st0 : List Value} {rest : List gs_V} {r : Option gs_V} {d' : gs_D} {A1 : Nat → Prop} {a : Array Value} {free : Addr → Prop} {H0 : Heap} (hr : va_Run p l e R s m args below meth c H locs cells slots 0 0 (F0 m pc ls st0) (rest.map (gs_cz ad)) (gs_Q Y cA ad D cl RL pr r d' A1 a) free) (hS : va_S A H0 H locs) (hA : ∀ q, q < H.size → A1 q → A q) (hf : ∀ q, free q → A q)
    (kk : ∀ (H1 : Heap) (locs1 : List Loc), (∀ v, r = some v → gs_ok pr v) → va_P D cl (gs_W Y cA ad d' RL) H1 → va_S A H0 H1 locs1 → W p l e R s m args below meth c H1 locs1 cells slots Q (F0 m (pc + 3) ls ((r.toList ++ rest).map (gs_cz ad)))) : W p l e R s m args below meth c H locs cells slots Q (F0 m pc ls st0) := by
  intro T hT X
  obtain ⟨v, st₀, t, T', L, h0, X', hL, e1, e2, ⟨⟨hv, hok, hb⟩, hz, hk⟩, st⟩ := hr T hT X
  have hv' : v = r.map (gs_cz ad) := Outcome.returned.inj hv
  subst hv'
  rw [h0] at hz hk
  obtain ⟨t2, a1, b1⟩ := kk T'.heap (locs ++ L) hok (by rw [e1]; exact hb)
    ⟨Nat.le_trans hS.1 (by rw [e1]; exact hz), fun q h1 h2 => by rw [e1, hk q (Nat.lt_of_lt_of_le h1 hS.1) (fun z => h2 (hA q (Nat.lt_of_lt_of_le h1 hS.1) z))]; exact hS.2.1 q h1 h2, fun q hq => by
      rcases List.mem_append.mp hq with h | h
      · exact hS.2.2 q h
      · exact hf _ (hL q h)⟩ T' rfl X'
  refine ⟨t2, st t2 ?_, b1⟩
  rcases r with _ | v
  · exact a1
  · exact a1
theorem gs_blind {D : va_G} {cl : List vw_C} {tys : List (ClassId × FieldType)} {av : List Value} {sz : Nat} {w : va_W} {NW : List Cond} (hN : ∀ w ∈ NW, gs_isN w = true) : FrameBlind (va_Pc av (fun U => U.heap.size = sz ∧ va_P D cl w U.heap ∧ va_K D cl tys U ∧ va_D (fun _ => True) w ∧ ∀ w ∈ NW, va_Nw w U)) := fun a U g mk q => by
  obtain ⟨q0, q1, qP, qK, qD, qN⟩ := q
  exact ⟨q0, q1, qP, va_K.moved (u := U) (U := U.calling g mk a) (Vm.Alike.refl U.vm) qK, qD, fun w hw => va_Nw.same (gs_isN_t (hN w hw)) (u := U) (U := U.calling g mk a) rfl (qN w hw)⟩
theorem gs_room {pc : Nat} {ls : Array Slot} {st : List Value} {rest : List gs_V} (h : (rest.map gs_cat).sum ≤ 8) : 2 * (F0 m pc ls st).monitorRoom + ((rest.map (gs_cz ad)).map fun v => v.category).sum ≤ 8 := by
  refine lv_room ?_
  rw [List.map_map]
  have e : ((fun v : Value => v.category) ∘ gs_cz ad) = gs_cat := by
    funext v
    exact gs_cz_cat ad v
  rw [e]
  exact h
theorem gs_co_S (hx : p.tables.exec = Jvm.exec) (hb : c.code = cc) (hml : c.maxLocals = nL) (hown : s.vm.findClass own = some m.cls) (hts : ∀ w ∈ Ts, w.before args s = true) (hK : va_K D cl (gs_T cA RL TL) s) (hN : ∀ w ∈ NW, gs_isN w = true) (hnw : ∀ w ∈ NW, va_Nw w s) (hA : ∀ q, s.heap.size ≤ q → A q) (hcl : cells ≤ R.cells ∧ slots ≤ R.slots) {x n : Nat} {f : gs_F} (h : gs_sc l Y RL pr cl TL NW Ts own R x n f) :
    gs_co p l e R s m args below meth c cells slots Q Y cA ad D cl RL pr A nL cc (.invokestatic x) f (fun av => av.length = n) := by
  obtain ⟨y, ws, ws', rm2, bytes, maxL, ret, hC, hG, hw, ⟨hrc, hrs⟩, hR, hlk, hstc, hini, hd⟩ := h
  intro pc ls H locs lo d av rest r d' hdc hB hav hgd hsum hf kk
  obtain ⟨hrel, hokl, hP, hD, hS⟩ := hB
  have hM := hC D cA ad av d r d' H.size hf hav
  have hFc : ∀ q, va_A (gs_W Y cA ad d RL) H.size q → A q := fun q hq => by
    rcases hq with ⟨k, e, hk⟩ | hq
    · exact hD.2 k _ hk
    · exact hA q (Nat.le_trans hS.1 hq)
  have hps : PreS s H (va_Pc (av.map (gs_cz ad)) (fun U => U.heap.size = H.size ∧ va_P D cl (gs_W Y cA ad d RL) U.heap ∧ va_K D cl (gs_T cA RL TL) U ∧ va_D (fun _ => True) (gs_W Y cA ad d RL) ∧ ∀ w ∈ NW, va_Nw w U)) (av.map (gs_cz ad)) := ⟨gs_blind hN, fun U hU hW => ⟨rfl, by rw [hU], by rw [hU]; exact hP, va_K.moved hW.alike hK, hD.weaken (fun _ _ _ _ => trivial), gs_nw_w hN hW hnw⟩⟩
  have hstk : (av.reverse ++ rest).map (gs_cz ad) = (av.map (gs_cz ad)).reverse ++ rest.map (gs_cz ad) := by rw [List.map_append, List.map_reverse]
  have hsz : ls.size = nL := by
    obtain ⟨lv, h1, -, -⟩ := hrel
    exact h1.1
  have run : va_Run p l e R s m args below meth c H locs cells slots 0 0 (F0 m pc ls ((av.reverse ++ rest).map (gs_cz ad))) (rest.map (gs_cz ad)) (gs_Q Y cA ad D cl RL pr r d' (va_A (gs_W Y cA ad d RL) H.size) (av.map (gs_cz ad)).toArray) (va_A (gs_W Y cA ad d RL) H.size) := by
    rcases hlk with hlk | ⟨host, hlk⟩
    · exact va_runS ⟨hx, hb, hml, hown, hts⟩ hM ⟨callB_of n hts hG hw hrc hrs (hts _ hini) (hts _ hlk) hd hR, hts _ hstc⟩ hps rfl (by rw [List.length_map]; exact hgd) hsz hstk (gs_room hsum) hdc hcl
    · exact va_runSN ⟨hx, hb, hml, hown, hts⟩ hM ⟨va_cnB n hts hG hw hrc hrs (va_Nw.of rfl (hts _ hlk)) (hts _ hini) hd hR, hts _ hstc, trivial⟩ hps rfl (by rw [List.length_map]; exact hgd) hsz hstk (gs_room hsum) hdc hcl
  exact gs_call run hS (fun q _ h => hFc q h) hFc (fun H1 locs1 hok hP1 hS1 => kk H1 locs1 hok ⟨hrel, hokl, hP1, gs_D_same hD, hS1⟩)
theorem gs_co_V (hx : p.tables.exec = Jvm.exec) (hb : c.code = cc) (hml : c.maxLocals = nL) (hown : s.vm.findClass own = some m.cls) (hts : ∀ w ∈ Ts, w.before args s = true) (hK : va_K D cl (gs_T cA RL TL) s) (hN : ∀ w ∈ NW, gs_isN w = true) (hnw : ∀ w ∈ NW, va_Nw w s) (hA : ∀ q, s.heap.size ≤ q → A q) (hcl : cells ≤ R.cells ∧ slots ≤ R.slots) (hpr : ∀ t i, pr t i = true → (Y.1 t).1 ≠ 5 → ∃ q : Nat, RL[q]? = some (t, i)) {x n cr : Nat} {f : gs_F} (h : gs_vc l Y RL pr cl TL NW Ts own R x n cr f) :
    gs_co p l e R s m args below meth c cells slots Q Y cA ad D cl RL pr A nL cc (.invokevirtual x) f (gs_gv Y n cr) := by
  obtain ⟨y, ws, ws', rm2, bytes, maxL, ret, hC, hG, hw, ⟨hrc, hrs⟩, hR, hlk, ⟨hins, hsel⟩, hini, hd, T, N, hcr⟩ := h
  intro pc ls H locs lo d av rest r d' hdc hB hav hgd hsum hf kk
  obtain ⟨t, i, av', rfl, h0, h1, hlen⟩ := hgd
  obtain ⟨hrel, hokl, hP, hD, hS⟩ := hB
  have hM := hC D cA ad (gs_r t i :: av') d r d' H.size hf hav
  have hFc : ∀ q, va_A (gs_W Y cA ad d RL) H.size q → A q := fun q hq => by
    rcases hq with ⟨k, e, hk⟩ | hq
    · exact hD.2 k _ hk
    · exact hA q (Nat.le_trans hS.1 hq)
  obtain ⟨q, hq⟩ := hpr t i hav.hd (by rw [h0]; decide)
  have he : (gs_W Y cA ad d RL)[q]? = some (ad t i, .inr (cr, (List.range (Y.1 t).2.2).map fun k => gs_cz ad (gs_fa Y d t i k))) := by rw [gs_W_at hq, gs_c0 h0, h1]
  have hps : PreV s H y.cls (ad t i) (va_Pc ((gs_r t i :: av').map (gs_cz ad)) (fun U => U.heap.size = H.size ∧ va_P D cl (gs_W Y cA ad d RL) U.heap ∧ va_K D cl (gs_T cA RL TL) U ∧ va_D (fun _ => True) (gs_W Y cA ad d RL) ∧ ∀ w ∈ NW, va_Nw w U)) (av'.map (gs_cz ad)) := ⟨gs_blind hN, va_recv hK hP hcr he, fun U hU hW => ⟨rfl, by rw [hU], by rw [hU]; exact hP, va_K.moved hW.alike hK, hD.weaken (fun _ _ _ _ => trivial), gs_nw_w hN hW hnw⟩⟩
  have hstk : ((gs_r t i :: av').reverse ++ rest).map (gs_cz ad) = (av'.map (gs_cz ad)).reverse ++ .ref (ad t i) :: rest.map (gs_cz ad) := by
    rw [List.reverse_cons, List.append_assoc, List.map_append, List.map_reverse]
    rfl
  have hsz : ls.size = nL := by
    obtain ⟨lv, h1, -, -⟩ := hrel
    exact h1.1
  have run : va_Run p l e R s m args below meth c H locs cells slots 0 0 (F0 m pc ls (((gs_r t i :: av').reverse ++ rest).map (gs_cz ad))) (rest.map (gs_cz ad)) (gs_Q Y cA ad D cl RL pr r d' (va_A (gs_W Y cA ad d RL) H.size) (Value.ref (ad t i) :: av'.map (gs_cz ad)).toArray) (va_A (gs_W Y cA ad d RL) H.size) := by
    rcases hlk with hlk | ⟨host, hlk⟩
    · exact va_runV ⟨hx, hb, hml, hown, hts⟩ hM ⟨callB_of n hts hG hw hrc hrs (hts _ hini) (hts _ hlk) hd hR, hts _ hins, hts _ hsel⟩ hps rfl (by rw [List.length_map]; exact hlen) hsz hstk (gs_room hsum) hdc hcl
    · exact va_runVN ⟨hx, hb, hml, hown, hts⟩ hM ⟨va_cnB n hts hG hw hrc hrs (va_Nw.of rfl (hts _ hlk)) (hts _ hini) hd hR, hts _ hins, hts _ hsel⟩ hps rfl (by rw [List.length_map]; exact hlen) hsz hstk (gs_room hsum) hdc hcl
  exact gs_call run hS (fun q _ h => hFc q h) hFc (fun H1 locs1 hok hP1 hS1 => kk H1 locs1 hok ⟨hrel, hokl, hP1, gs_D_same hD, hS1⟩)
theorem gs_co_ac {tys : List (ClassId × FieldType)} (hx : p.tables.exec = Jvm.exec) (hb : c.code = cc) (hml : c.maxLocals = nL) (hown : s.vm.findClass own = some m.cls) (hts : ∀ w ∈ Ts, w.before args s = true) (hK : va_K D cl tys s) (hpr : ∀ t i, pr t i = true → (Y.1 t).1 ≠ 5 → ∃ q : Nat, RL[q]? = some (t, i)) (hinj : gs_inj RL) (hk1 : ∀ t i, pr t i = true → (Y.1 t).1 = 1 → ∃ q : Nat, tys[q]? = some (cA t i, FieldType.int)) (hk3 : ∀ t i, pr t i = true → (Y.1 t).1 = 3 → ∃ q : Nat, tys[q]? = some (cA t i, FieldType.long)) {x n : Nat} {f : gs_F} (h : gs_acw Y Ts own R x n f) :
    gs_co p l e R s m args below meth c cells slots Q Y cA ad D cl RL pr A nL cc (.invokestatic x) f (fun av => av.length = n) := by
  obtain ⟨rfl, rfl, ⟨w1, w2, w3, w4⟩, hfr, hlo⟩ := h
  intro pc ls H locs lo d av rest r d' hdc hB hav hgd hsum hf kk
  obtain ⟨hrel, hokl, hP, hD, hS⟩ := hB
  have hsz : ls.size = nL := by
    obtain ⟨lv, h1, -, -⟩ := hrel
    exact h1.1
  have hro : ((rest.map (gs_cz ad)).map fun v => v.category).sum + (nativeFrameWords "java/lang/System" "arraycopy" 5 + 11) ≤ R.locals := by
    rw [List.map_map]
    have e : ((fun v : Value => v.category) ∘ gs_cz ad) = gs_cat := by
      funext v
      exact gs_cz_cat ad v
    rw [e]
    omega
  unfold gs_ac at hf
  split at hf
  · rename_i a sp b dp z
    obtain ⟨a0, a1⟩ := a
    obtain ⟨b0, b1⟩ := b
    obtain ⟨hb0, hf⟩ := gs_b_v hf
    obtain ⟨h1, h2, h3, h4, h5⟩ := of_decide_eq_true hb0
    split at hf
    · rename_i ka kb
      have ka : (Y.1 a0).1 = 1 := ka
      have kb : (Y.1 b0).1 = 1 := kb
      obtain ⟨q0, hq0⟩ := hpr a0 a1 hav.hd (by rw [ka]; decide)
      obtain ⟨q1, hq1⟩ := hpr b0 b1 hav.tl.tl.hd (by rw [kb]; decide)
      have hd' := (Prod.mk.inj (Option.some.inj hf)).2
      have hr' := (Prod.mk.inj (Option.some.inj hf)).1
      have e1 : d'.1 b0 b1 = va_cpy (d.1 a0 a1) (d.1 b0 b1) sp.toNatClampNeg dp.toNatClampNeg z.toNatClampNeg := by
        rw [← hd']
        exact if_pos ⟨rfl, rfl⟩
      have e2 : ∀ t i, (t, i) ≠ (b0, b1) → d'.1 t i = d.1 t i ∧ d'.2 t i = d.2 t i := by
        intro t i hn
        rw [← hd']
        exact ⟨if_neg fun z => hn (by rw [z.1, z.2]), rfl⟩
      have e := gs_W_set (Y := Y) (cA := cA) (ad := ad) (d := d) (d' := d') hinj hq1 (gs_c1 kb) (fun t i hn => gs_cont_x (e2 t i hn).1 (e2 t i hn).2)
      rw [e1] at e
      subst hr'
      obtain ⟨z0, hz0⟩ := hk1 a0 a1 hav.hd ka
      obtain ⟨z1, hz1⟩ := hk1 b0 b1 hav.tl.tl.hd kb
      exact va_copyi hx hb (hml.trans hsz.symm) hown (hts _ w1) (hts _ w2) (hts _ w3) (hts _ w4) hK hP hD hS q0 q1 z0 z1 (by rw [gs_W_at hq0, gs_c1 ka]) (by rw [gs_W_at hq1, gs_c1 kb]) hz0 hz1 rfl h1 h2 h3 h4 h5 (fun _ _ => rfl) hfr hro hdc fun H1 locs1 y1 y2 y3 => kk H1 locs1 (fun v hv => by cases hv) ⟨hrel, hokl, e ▸ y1, e ▸ y2, y3⟩
    · rename_i ka kb
      have ka : (Y.1 a0).1 = 3 := ka
      have kb : (Y.1 b0).1 = 3 := kb
      obtain ⟨q0, hq0⟩ := hpr a0 a1 hav.hd (by rw [ka]; decide)
      obtain ⟨q1, hq1⟩ := hpr b0 b1 hav.tl.tl.hd (by rw [kb]; decide)
      have hd' := (Prod.mk.inj (Option.some.inj hf)).2
      have hr' := (Prod.mk.inj (Option.some.inj hf)).1
      have e1 : d'.2 b0 b1 = va_cpy (d.2 a0 a1) (d.2 b0 b1) sp.toNatClampNeg dp.toNatClampNeg z.toNatClampNeg := by
        rw [← hd']
        exact if_pos ⟨rfl, rfl⟩
      have e2 : ∀ t i, (t, i) ≠ (b0, b1) → d'.1 t i = d.1 t i ∧ d'.2 t i = d.2 t i := by
        intro t i hn
        rw [← hd']
        exact ⟨rfl, if_neg fun z => hn (by rw [z.1, z.2])⟩
      have e := gs_W_set (Y := Y) (cA := cA) (ad := ad) (d := d) (d' := d') hinj hq1 (gs_cl3 kb) (fun t i hn => gs_cont_x (e2 t i hn).1 (e2 t i hn).2)
      rw [e1] at e
      subst hr'
      obtain ⟨z0, hz0⟩ := hk3 a0 a1 hav.hd ka
      obtain ⟨z1, hz1⟩ := hk3 b0 b1 hav.tl.tl.hd kb
      exact va_copyl hx hb (hml.trans hsz.symm) hown (hts _ w1) (hts _ w2) (hts _ w3) (hts _ w4) hK hP hD hS q0 q1 z0 z1 (by rw [gs_W_at hq0, gs_cl3 ka]) (by rw [gs_W_at hq1, gs_cl3 kb]) hz0 hz1 rfl h1 h2 h3 h4 h5 (fun _ _ => rfl) hfr hro hdc fun H1 locs1 y1 y2 y3 => kk H1 locs1 (fun v hv => by cases hv) ⟨hrel, hokl, e ▸ y1, e ▸ y2, y3⟩
    · cases hf
  · cases hf
theorem gs_sound {tys : List (ClassId × FieldType)} (hx : p.tables.exec = Jvm.exec) (hb : c.code = cc) (hown : s.vm.findClass own = some m.cls) (hts : ∀ w ∈ Ts, w.before args s = true) (hK : va_K D cl tys s) (hL : gs_lay Y cA RL pr cl tys Ts) (hM : gs_mok cc Ts own cl P)
    (hcs : ∀ x n f, P.2.2.2 x = some (n, 1000, f) → gs_co p l e R s m args below meth c cells slots Q Y cA ad D cl RL pr A nL cc (.invokestatic x) f (fun av => av.length = n))
    (hcv : ∀ x n cr f, cr ≤ 999 → P.2.2.2 x = some (n, cr, f) → gs_co p l e R s m args below meth c cells slots Q Y cA ad D cl RL pr A nL cc (.invokevirtual x) f (gs_gv Y n cr))
    (h5 : ∀ t i, pr t i = true → (Y.1 t).1 = 5 → va_X (ad t i) (Y.1 t).2.2 Y.2.2.2 s s.heap ∧ ad t i < s.heap.size ∧ ¬ A (ad t i))
    {r : Option gs_V} {d' : gs_D} (hfin : ∀ pc i tg st lo ls H locs, P.1 pc = some (i, tg) → gs_ret i st = some r → gs_B Y cA ad D cl RL pr A s.heap nL lo d' ls H locs → gs_oks pr st → W p l e R s m args below meth c H locs cells slots Q (F0 m pc ls (st.map (gs_cz ad)))) :
    ∀ (n pc : Nat) (lo : List (Option gs_V)) (st : List gs_V) (d : gs_D) (ls : Array Slot) (H : Heap) (locs : List Loc), gs_run Y P n pc lo st d = some (r, d') → gs_B Y cA ad D cl RL pr A s.heap nL lo d ls H locs → gs_oks pr st → W p l e R s m args below meth c H locs cells slots Q (F0 m pc ls (st.map (gs_cz ad))) := by
  intro n
  induction n with
  | zero =>
    intro pc lo st d ls H locs h
    cases h
  | succ n ih =>
    intro pc lo st d ls H locs h hB hst
    exact gs_step hx hb hown hts hK hL hM hcs hcv h5 h hB hst (fun pc' lo' st' d1 ls' H' locs' h' hB' hst' => ih pc' lo' st' d1 ls' H' locs' h' hB' hst') (fun i tg r1 hi hr he => by cases he; exact hfin pc i tg st lo ls H locs hi hr hB hst)
end GC
set_option maxHeartbeats 4000000 in
theorem gs_C_of {l : Launch} {Y : gs_Y} {RL : List (Nat × Nat)} {pr : Nat → Nat → Bool} {cl : List vw_C} {TL : Nat → Option FieldType} {y : MethodName} {NW ws ws' : List Cond} {rm : Room} {cc : ByteArray} {maxL : Nat} {ret : Option FieldType} {k : Nat} {P : gs_P} (hy : plainName y.cls = true) (hw : ws = Cond.code y cc maxL ret :: ws')
    (hk : (k = 0 ∧ ret = none) ∨ (k = 1 ∧ ret = some .int) ∨ (k = 2 ∧ ret = some .boolean) ∨ (k = 3 ∧ ret = some .long) ∨ (k = 4 ∧ ∃ n, ret = some (.object n))) (hrm : rm.cells = 0 ∧ rm.slots = 0)
    (hN : ∀ w ∈ NW, gs_isN w = true) (hL : ∀ cA, gs_lay Y cA RL pr cl (gs_T cA RL TL) (ws ++ NW)) (hM : gs_mok cc (ws ++ NW) y.cls cl P)
    (hY5 : ∀ t, (Y.1 t).1 ≠ 5)
    (hcs : ∀ x n f, P.2.2.2 x = some (n, 1000, f) → gs_sc l Y RL pr cl TL NW (ws ++ NW) y.cls rm x n f ∨ gs_acw Y (ws ++ NW) y.cls rm x n f)
    (hcv : ∀ x n cr f, cr ≤ 999 → P.2.2.2 x = some (n, cr, f) → gs_vc l Y RL pr cl TL NW (ws ++ NW) y.cls rm x n cr f)   : gs_C l Y RL pr cl TL NW y ws rm (gs_f Y maxL k P) := by
  intro D cA ad av d r d' sz hf hav
  obtain ⟨hlen, hf⟩ := gs_b_v hf
  have hg : gs_g Y P 0 (gs_ent maxL av) [] d = some (r, d') ∧ gs_rk k r = true := by
    cases hg : gs_g Y P 0 (gs_ent maxL av) [] d with
    | none => rw [hg] at hf; cases hf
    | some q =>
      obtain ⟨r1, d1⟩ := q
      rw [hg] at hf
      obtain ⟨h1, h2⟩ := gs_b_v hf
      cases h2
      exact ⟨rfl, h1⟩
  obtain ⟨hg, hrk⟩ := hg
  obtain ⟨n, hn⟩ := gs_g_iff.mp hg
  refine Met.ofW (cc := cc) (maxL := maxL) (ret := ret) hy hw ?_
  intro p e s m args below meth c s₁ B hml hv
  obtain ⟨rfl, hsz, hP, hK, hD0, hnw⟩ := hv
  have hx := B.exec
  have hb := B.bytes
  have hr := B.returns
  have hts0 := atoms_spec (ws := ws) B.pre
  have hts : ∀ w ∈ ws ++ NW, w.before (av.map (gs_cz ad)).toArray s = true := fun w hw => (List.mem_append.mp hw).elim (hts0 w) (fun h => va_Nw.use (gs_isN_t (hN w h)) (hnw w h))
  have hown : s.vm.findClass y.cls = some m.cls := findClass_of_methodNamed B.named
  have hlocks := B.notSynchronized
  subst hsz
  have hD := hD0.self (sz := s.heap.size)
  have hA : ∀ q : Nat, s.heap.size ≤ q → va_A (gs_W Y cA ad d RL) s.heap.size q := fun q h => Or.inr h
  have hlv := lv_entry (av.map (gs_cz ad)) (n := maxL) (by rw [gs_sl_len]; exact Nat.le_of_ble_eq_true hlen)
  rw [lg_entry_eq]
  generalize (lg_sl (av.map (gs_cz ad)) ++ List.replicate (maxL - (lg_sl (av.map (gs_cz ad))).length) Slot.unset).toArray = ls at hlv ⊢
  have hrel : gs_rel ad ls maxL (gs_ent maxL av) := by
    refine ⟨_, hlv, ?_, fun i v h => ?_⟩
    · have := Nat.le_of_ble_eq_true hlen
      simp only [gs_ent, List.length_append, List.length_replicate]
      omega
    · have := gs_rel_ent ad _ av 0 i v h
      rwa [Nat.zero_add] at this
  have hokl : gs_okl pr (gs_ent maxL av) := fun i v h => hav v (gs_ent_in h)
  have hcl : (0 : Nat) ≤ (headSpec ws rm).room.cells ∧ (0 : Nat) ≤ (headSpec ws rm).room.slots := ⟨Nat.zero_le _, Nat.zero_le _⟩
  refine gs_sound hx hb hown hts hK (hL cA) hM (fun x n f h1 => (hcs x n f h1).elim (fun h => gs_co_S hx hb hml hown hts hK hN hnw hA hcl h) (fun h => gs_co_ac hx hb hml hown hts hK (hL cA).1.1 (hL cA).1.2 (hL cA).2.1.1 (hL cA).2.1.2.2.1 h)) (fun x n cr f h1 h2 => gs_co_V hx hb hml hown hts hK hN hnw hA hcl (hL cA).1.1 (hcv x n cr f h1 h2)) (fun t i _ h => absurd h (hY5 t)) ?_ n 0 _ [] d ls s.heap [] hn ⟨hrel, hokl, hP, hD, va_S.rf⟩ (fun _ h => by cases h)
  intro pc i tg st lo ls' H locs hi hrt hB hst
  obtain ⟨len, hd, hln, -⟩ := hM.1 pc i tg hi
  have hq : (∀ v, r = some v → gs_ok pr v) → ∀ t : State, t.heap = H → s.WarmedH t.vm → gs_Q Y cA ad D cl RL pr r d' (va_A (gs_W Y cA ad d RL) s.heap.size) (av.map (gs_cz ad)).toArray s (.returned (r.map (gs_cz ad))) t := fun ho t ht _ => ⟨⟨rfl, ho, by rw [ht]; exact hB.2.2.1⟩, hB.2.2.2.2.F ht⟩
  have hfr : ∀ q ∈ locs, va_A (gs_W Y cA ad d RL) s.heap.size q.base := hB.2.2.2.2.2.2
  unfold gs_ret at hrt
  split at hrt
  · split at hrt
    · cases hrt
      cases hln 1 rfl
      rcases hk with ⟨rfl, rfl⟩ | ⟨rfl, -⟩ | ⟨rfl, -⟩ | ⟨rfl, -⟩ | ⟨rfl, -⟩
      · exact W.vret hx hb hr (hq (fun v h => by cases h)) hfr hd
      · simp [gs_rk] at hrk
      · simp [gs_rk] at hrk
      · simp [gs_rk] at hrk
      · simp [gs_rk] at hrk
    · cases hrt
  · split at hrt
    · rename_i x
      cases hrt
      cases hln 1 rfl
      rcases hk with ⟨rfl, -⟩ | ⟨rfl, rfl⟩ | ⟨rfl, rfl⟩ | ⟨rfl, -⟩ | ⟨rfl, -⟩
      · simp [gs_rk] at hrk
      · exact W.iret hx hb hr (hq (fun v h => hst v (by cases h; exact List.mem_cons_self))) hfr hd
      · have hx01 : x = 0 ∨ x = 1 := of_decide_eq_true hrk
        refine W.zret hx hb hr ?_ (hq (fun v h => hst v (by cases h; exact List.mem_cons_self))) hfr hd
        rcases hx01 with rfl | rfl <;> rfl
      · simp [gs_rk] at hrk
      · simp [gs_rk] at hrk
    · cases hrt
  · split at hrt
    · cases hrt
      cases hln 1 rfl
      rcases hk with ⟨rfl, -⟩ | ⟨rfl, -⟩ | ⟨rfl, -⟩ | ⟨rfl, rfl⟩ | ⟨rfl, -⟩
      · simp [gs_rk] at hrk
      · simp [gs_rk] at hrk
      · simp [gs_rk] at hrk
      · exact W.lret hx hb hr (hq (fun v h => hst v (by cases h; exact List.mem_cons_self))) hfr hd
      · simp [gs_rk] at hrk
    · cases hrt
  · split at hrt
    · cases hrt
      cases hln 1 rfl
      rcases hk with ⟨rfl, -⟩ | ⟨rfl, -⟩ | ⟨rfl, -⟩ | ⟨rfl, -⟩ | ⟨rfl, nm, rfl⟩
      · simp [gs_rk] at hrk
      · simp [gs_rk] at hrk
      · simp [gs_rk] at hrk
      · simp [gs_rk] at hrk
      · exact W.aret hx hb hr (Or.inl ⟨nm, rfl⟩) (Or.inr ⟨_, rfl⟩) (hq (fun v h => hst v (by cases h; exact List.mem_cons_self))) hfr hd
    · cases hrt
  · cases hrt
