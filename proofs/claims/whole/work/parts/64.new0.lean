-- constructors: what they are given, what they leave
def gs_fs (ci : Nat) : List Value := match ci with
  | 0 => [.null, .null, .null]
  | 1 => [.int 0, .null, .null]
  | 2 => [.null, .null, .null, .null, .null, .null]
  | 3 => [.null, .int 0, .null, .int 0]
  | 4 => [.int 0, .int 0, .int 0, .int 0, .int 0, .int 0, .int 0]
  | _ => [.null, .null, .null, .int 0, .null, .null]
def gs_bl (ci : Nat) : va_E := .inr (ci, gs_fs ci)
def gs_tyf (ci : Nat) : Nat → FieldType := match ci with
  | 0 => fun k => match k with | 0 => .object "GrossSettlement$Book" | 1 => .object "GrossSettlement$Book" | _ => .array .boolean
  | 1 => fun k => match k with | 0 => .int | 1 => .object "GrossSettlement$Accounts" | _ => .object "GrossSettlement$Queue"
  | 2 => fun k => match k with | 0 => .array .long | 1 => .array .long | 2 => .array .int | 3 => .array .int | 4 => .array .int | _ => .array .long
  | 3 => fun k => match k with | 0 => .array (.object "GrossSettlement$Instruction") | 1 => .int | 2 => .array .int | _ => .int
  | 4 => fun _ => .int
  | _ => fun k => match k with | 0 => .array .long | 1 => .array .long | 2 => .array .int | 3 => .int | 4 => .array .long | _ => .array .int
theorem gs_cls_ok {ci : Nat} {C : String} {T : u_T} {N : Nat} (h : gs_CL[ci]? = some (C, T, N)) : (∀ w ∈ u_ws C T N, w ∈ gs_tb) ∧ (∀ k, k < N → parseFieldDescriptor (T k).2.2.1 = some (gs_tyf ci k)) ∧ (∀ j, j < N → defaultValue (gs_tyf ci j) = vp_V (gs_fs ci) j) ∧ (∀ a, a < N → ∀ b, b < N → a ≠ b → (T a).2.1 ≠ (T b).2.1) := by
  have hL := (gs_lay0 (fun _ _ => (0 : ClassId)) (Ts := gs_tb) (fun _ h => h)).2.2.2.1 ci C T N h
  refine ⟨hL.1, ?_, ?_, hL.2.2⟩
  · rcases ci with _ | _ | _ | _ | _ | _ | ci
    · cases h; decide +kernel
    · cases h; decide +kernel
    · cases h; decide +kernel
    · cases h; decide +kernel
    · cases h; decide +kernel
    · cases h; decide +kernel
    · cases h
  · rcases ci with _ | _ | _ | _ | _ | _ | ci
    · cases h; intro j hj; rcases (show j = 0 ∨ j = 1 ∨ j = 2 by omega) with rfl | rfl | rfl <;> rfl
    · cases h; intro j hj; rcases (show j = 0 ∨ j = 1 ∨ j = 2 by omega) with rfl | rfl | rfl <;> rfl
    · cases h; intro j hj; rcases (show j = 0 ∨ j = 1 ∨ j = 2 ∨ j = 3 ∨ j = 4 ∨ j = 5 by omega) with rfl | rfl | rfl | rfl | rfl | rfl <;> rfl
    · cases h; intro j hj; rcases (show j = 0 ∨ j = 1 ∨ j = 2 ∨ j = 3 by omega) with rfl | rfl | rfl | rfl <;> rfl
    · cases h; intro j hj; rcases (show j = 0 ∨ j = 1 ∨ j = 2 ∨ j = 3 ∨ j = 4 ∨ j = 5 ∨ j = 6 by omega) with rfl | rfl | rfl | rfl | rfl | rfl | rfl <;> rfl
    · cases h; intro j hj; rcases (show j = 0 ∨ j = 1 ∨ j = 2 ∨ j = 3 ∨ j = 4 ∨ j = 5 by omega) with rfl | rfl | rfl | rfl | rfl | rfl <;> rfl
    · cases h
def gs_PC (D : va_G) (h0 : Nat) (e0 : va_E) (sz : Nat) : State → Prop := fun U => U.heap.size = sz ∧ va_P D gs_CL [(h0, e0)] U.heap ∧ va_K D gs_CL [] U ∧ va_D (fun _ => True) [(h0, e0)] ∧ (∀ w ∈ gs_NW, va_Nw w U) ∧ va_AO "GrossSettlement$Instruction" U
def gs_QC (D : va_G) (h0 : Nat) (e0 : va_E) (sz : Nat) {S : Type} (w : Nat → S → va_W) (ty : S → List (ClassId × FieldType)) : Array Value → State → Outcome → State → Prop := va_Qv (fun _ : S => True) (fun u t => va_P D gs_CL (w h0 u) t.heap ∧ va_K D gs_CL (ty u) t ∧ va_D (va_A [(h0, e0)] sz) (w h0 u)) (va_A [(h0, e0)] sz)
/-- a constructor's contract -/
def gs_N (l : Launch) (y : MethodName) (ws : List Cond) (rm : Room) (ci : Nat) {S : Type} (w : Nat → S → va_W) (ty : S → List (ClassId × FieldType)) : Prop := ∀ (D : va_G) (h0 sz : Nat), Met l y ws rm (va_Pc [.ref h0] (gs_PC D h0 (gs_bl ci) sz)) (gs_QC D h0 (gs_bl ci) sz w ty) rm.cells rm.slots (va_A [(h0, gs_bl ci)] sz)
theorem gs_blind2 {D : va_G} {h0 sz : Nat} {e0 : va_E} {av : List Value} : FrameBlind (va_Pc av (gs_PC D h0 e0 sz)) := fun a U g mk q => by
  obtain ⟨q0, q1, qP, qK, qD, qN, qO⟩ := q
  exact ⟨q0, q1, qP, va_K.moved (u := U) (U := U.calling g mk a) (Vm.Alike.refl U.vm) qK, qD, fun w hw => va_Nw.same (gs_isN_t (gs_hN w hw)) (u := U) (U := U.calling g mk a) rfl (qN w hw), va_AO.moved (u := U) (U := U.calling g mk a) (Vm.Alike.refl U.vm) qO⟩
theorem gs_ww {w : Cond} (i : Nat) (h : lw_tbl[i]? = some w) (hg : goodWord w = true) : w ∈ gs_tb := List.mem_filter.mpr ⟨List.mem_of_getElem? h, hg⟩
theorem gs_good2 {y : MethodName} {b : ByteArray} {n : Nat} {r : Option FieldType} (h : Cond.code y b n r ∈ gs_tb) : GoodIn gs_tb (Cond.code y b n r :: gs_tb) := by
  intro w hw
  rcases List.mem_cons.mp hw with e | e
  · rw [e]
    exact ⟨h, Or.inl rfl⟩
  · exact ⟨e, good_of_word (List.mem_filter.mp e).2⟩
theorem gs_jn {A0 : Nat → Prop} {D : va_G} {cl : List vw_C} {X w1 : va_W} {h0 : Nat} {e0 : va_E} {H H1 : Heap} (hP : va_P D cl (X ++ [(h0, e0)]) H) (hD : va_D A0 (X ++ [(h0, e0)])) (hk : ∀ q : Nat, q < H.size → ¬ va_A [(h0, e0)] H.size q → H1[q]? = H[q]?) (hF : ∀ q, va_A [(h0, e0)] H.size q → A0 q) (hP1 : va_P D cl w1 H1) (hD1 : va_D (va_A [(h0, e0)] H.size) w1) : va_P D cl (X ++ w1) H1 ∧ va_D A0 (X ++ w1) := by
  have inX : ∀ {k : Nat} {q : Nat × va_E}, X[k]? = some q → (X ++ [(h0, e0)])[k]? = some q := fun {k q} h => by
    rw [List.getElem?_append_left (List.getElem?_eq_some_iff.mp h).1]
    exact h
  have hl : (X ++ [(h0, e0)])[X.length]? = some (h0, e0) := by
    rw [List.getElem?_append_right (Nat.le_refl _), Nat.sub_self]
    rfl
  have apart : ∀ (k : Nat) (q : Nat × va_E), X[k]? = some q → q.1 < H.size ∧ ¬ va_A [(h0, e0)] H.size q.1 := by
    intro k q hq
    have h2 := inX hq
    refine ⟨(hP k q h2).lt, fun h => ?_⟩
    rcases h with ⟨k2, e, h⟩ | h
    · have e1 : (q.1, e) = (h0, e0) := List.mem_singleton.mp (List.mem_of_getElem? h)
      have h3 := hD.1 k X.length q (h0, e0) h2 hl (Prod.mk.inj e1).1
      have h4 := (List.getElem?_eq_some_iff.mp hq).1
      omega
    · have := (hP k q h2).lt
      omega
  refine ⟨va_P.app (fun k q hq => ?_) hP1, va_D.app ?_ (hD1.weaken (fun k q _ h => hF q.1 h)) (fun i j x y hx hy hxy => ?_)⟩
  · obtain ⟨g1, g2⟩ := apart k q hq
    exact (hP k q (inX hq)).kept (hk q.1 g1 g2)
  · exact ⟨fun i j p q hp hq h => hD.1 i j p q (inX hp) (inX hq) h, fun k q hq => hD.2 k q (inX hq)⟩
  · exact (apart i x hx).2 (by rw [hxy]; exact hD1.2 j y hy)
theorem gs_1P {D : va_G} {cl : List vw_C} {X : va_W} {z : Nat × va_E} {H : Heap} (hP : va_P D cl (X ++ [z]) H) : va_P D cl [z] H := fun k q hk => by
  have e : q = z := List.mem_singleton.mp (List.mem_of_getElem? hk)
  obtain ⟨i, hi⟩ := List.getElem?_of_mem (show z ∈ X ++ [z] from List.mem_append_right _ List.mem_cons_self)
  rw [e]
  exact hP i z hi
theorem gs_1D {A : Nat → Prop} {z : Nat × va_E} (h : A z.1) : va_D A [z] := by
  refine ⟨fun i j p q hi hj _ => ?_, fun k q hk => ?_⟩
  · have h1 : i < 1 := (List.getElem?_eq_some_iff.mp hi).1
    have h2 : j < 1 := (List.getElem?_eq_some_iff.mp hj).1
    omega
  · rw [List.mem_singleton.mp (List.mem_of_getElem? hk)]
    exact h
section NC
variable {p : Program} {l : Launch} {e : Env} {R : Room} {s : State} {m : MethodId} {args : Array Value} {below : List Frame} {meth : Method} {c : Code} {H : Heap} {locs : List Loc} {cells slots : Nat} {Q : State → Prop} {cc : ByteArray} {nL : Nat} {own : String} {D : va_G} {tys : List (ClassId × FieldType)} {X : va_W} {A : Nat → Prop} {pc : Nat} {ls : Array Slot} {rest : List Value}
/-- new, dup, invokespecial -/
theorem gs_newc (hx : p.tables.exec = Jvm.exec) (hb : c.code = cc) (hml : c.maxLocals = nL) (hown : s.vm.findClass own = some m.cls) (htb : ∀ w ∈ gs_tb, w.before args s = true) (hnw : ∀ w ∈ gs_NW, va_Nw w s) (hao : va_AO "GrossSettlement$Instruction" s) (hsz : ls.size = nL)
    (hK : va_K D gs_CL tys s) (hP : va_P D gs_CL X H) (hD : va_D A X) (hS : va_S A s.heap H locs) (hA : ∀ q, s.heap.size ≤ q → A q)
    {index x ci N : Nat} {y : MethodName} {T : u_T} {ws : List Cond} {rm : Room} {S : Type} {w : Nat → S → va_W} {ty : S → List (ClassId × FieldType)} {bytes : ByteArray} {maxL : Nat}
    (hN : gs_N l y ws rm ci w ty) (hw : ws = Cond.code y bytes maxL none :: gs_tb) (hcode : Cond.code y bytes maxL none ∈ gs_tb) (hc : gs_CL[ci]? = some (y.cls, T, N))
    (hcl : Cond.classLink own index y.cls ∈ gs_tb) (hinst : Cond.instantiable y.cls N ∈ gs_tb) (hini : Cond.initialized y.cls ∈ gs_tb)
    (hlk : Cond.methodLink own x y ∈ gs_tb ∨ ∃ host, Cond.methodLinkNest own x y host ∈ gs_NW) (hins : Cond.instanceMethod y ∈ gs_tb)
    (hd : y.name = "<init>" ∧ y.cls ≠ "java/lang/invoke/MethodHandle" ∧ y.cls ≠ "java/lang/invoke/VarHandle" ∧ (parseMethodDescriptor y.desc).map (fun d => d.parameters.length) = some 0)
    (hR : rm.frames + 1 ≤ R.frames ∧ 8 + (maxL + 11) + rm.locals ≤ R.locals) (hcells : cells + 1 + rm.cells ≤ R.cells) (hslots : slots + N + rm.slots ≤ R.slots)
    (hsum : ((Value.ref 0 :: rest).map fun v => v.category).sum ≤ 8)
    (hd1 : decode cc pc = .ok (.new index, 3)) (hd2 : decode cc (pc + 3) = .ok (.dup, 1)) (hd3 : decode cc (pc + 4) = .ok (.invokespecial x, 3))
    (kk : ∀ (q : Nat) (u : S) (H1 : Heap) (locs1 : List Loc), va_K D gs_CL (tys ++ ty u) s → va_P D gs_CL (X ++ w q u) H1 → va_D A (X ++ w q u) → va_S A s.heap H1 locs1 → W p l e R s m args below meth c H1 locs1 (cells + 1 + rm.cells) (slots + N + rm.slots) Q (F0 m (pc + 7) ls (.ref q :: rest))) : W p l e R s m args below meth c H locs cells slots Q (F0 m pc ls rest) := by
  obtain ⟨k1, k2, k3, k4⟩ := gs_cls_ok hc
  refine va_new (ci := ci) (fs := gs_fs ci) (C := y.cls) (T := T) (N := N) hx hb htb k1 (gs_tyf ci) k2 hown (htb _ hcl) (htb _ hinst) (htb _ hini) hK hP hD hS hA hc k3 (by omega) (by omega) hd1 (fun q H hP hD hS => ?_)
  refine lv_dup hx hb hd2 rfl ?_
  have hP : va_P D gs_CL (X ++ [(q, gs_bl ci)]) H := hP
  have hD : va_D A (X ++ [(q, gs_bl ci)]) := hD
  have hPc := gs_1P hP
  have hDc : va_D (fun _ => True) [(q, gs_bl ci)] := gs_1D trivial
  have hq : (X ++ [(q, gs_bl ci)])[X.length]? = some (q, gs_bl ci) := by
    rw [List.getElem?_append_right (Nat.le_refl _), Nat.sub_self]
    rfl
  have hFc : ∀ a, va_A [(q, gs_bl ci)] H.size a → A a := fun a ha => by
    rcases ha with ⟨k, e1, hk⟩ | ha
    · have e2 : (a, e1) = (q, gs_bl ci) := List.mem_singleton.mp (List.mem_of_getElem? hk)
      have e3 : a = q := congrArg Prod.fst e2
      rw [e3]
      exact hD.2 _ _ hq
    · exact hA a (Nat.le_trans hS.1 ha)
  have hM := hN D q H.size
  have hps : PreS s H (va_Pc [.ref q] (gs_PC D q (gs_bl ci) H.size)) [.ref q] := ⟨gs_blind2, fun U hU hW => ⟨rfl, by rw [hU], by rw [hU]; exact hPc, va_K.moved hW.alike (hK.sub (tys' := []) [] rfl), hDc, gs_nw_w gs_hN hW hnw, va_AO.moved hW.alike hao⟩⟩
  have hG : GoodIn gs_tb ws := by rw [hw]; exact gs_good2 hcode
  have run : va_Run p l e R s m args below meth c H locs (cells + 1) (slots + N) rm.cells rm.slots (F0 m (pc + 3 + 1) ls (.ref q :: .ref q :: rest)) (.ref q :: rest) (gs_QC D q (gs_bl ci) H.size w ty [Value.ref q].toArray) (va_A [(q, gs_bl ci)] H.size) := by
    rcases hlk with hlk | ⟨host, hlk⟩
    · exact va_runI (As := []) ⟨hx, hb, hml, hown, htb⟩ hM ⟨callB_of 0 htb hG hw rfl rfl (htb _ hini) (htb _ hlk) hd.2 hR, hd.1, htb _ hins⟩ hps rfl rfl hsz rfl (lv_room hsum) hd3 ⟨hcells, hslots⟩
    · exact va_runIN (As := []) ⟨hx, hb, hml, hown, htb⟩ hM ⟨va_cnB 0 htb hG hw rfl rfl (hnw _ hlk) (htb _ hini) hd.2 hR, hd.1, htb _ hins⟩ hps rfl rfl hsz rfl (lv_room hsum) hd3 ⟨hcells, hslots⟩
  refine va_callv run hS (fun a _ h => hFc a h) hFc (fun u t H1 locs1 ht hvm _ hB _ hk1 hS1 => ?_)
  obtain ⟨hP1, hK1, hD1⟩ := hB
  rw [ht] at hP1
  obtain ⟨hP2, hD2⟩ := gs_jn hP hD hk1 hFc hP1 hD1
  exact kk q u H1 locs1 (hK.app (va_K.moved hvm.symm hK1)) hP2 hD2 hS1
end NC
theorem gs_N_of {l : Launch} {y : MethodName} {ws : List Cond} {rm : Room} {ci : Nat} {S : Type} {w : Nat → S → va_W} {ty : S → List (ClassId × FieldType)} {cc : ByteArray} {maxL : Nat} (hy : plainName y.cls = true) (hi : y.name = "<init>") (hw : ws = Cond.code y cc maxL none :: gs_tb) (hmx : 1 ≤ maxL)
    (body : ∀ (p : Program) (e : Env) (s : State) (m : MethodId) (args : Array Value) (below : List Frame) (meth : Method) (c : Code) (D : va_G) (h0 : Nat) (ls : Array Slot) (Q : State → Prop), p.tables.exec = Jvm.exec → c.code = cc → c.maxLocals = maxL → s.vm.findClass y.cls = some m.cls → meth.name = "<init>" → (∀ w ∈ gs_tb, w.before args s = true) → (∀ w ∈ gs_NW, va_Nw w s) → va_AO "GrossSettlement$Instruction" s → va_K D gs_CL [] s → va_P D gs_CL [(h0, gs_bl ci)] s.heap → va_D (va_A [(h0, gs_bl ci)] s.heap.size) [(h0, gs_bl ci)] → lv_has ls maxL [(0, .ref h0)] →
      (∀ (u : S) (pc : Nat) (ls : Array Slot) (H : Heap) (locs : List Loc), decode cc pc = .ok (.return_, 1) → va_P D gs_CL (w h0 u) H → va_K D gs_CL (ty u) s → va_D (va_A [(h0, gs_bl ci)] s.heap.size) (w h0 u) → va_S (va_A [(h0, gs_bl ci)] s.heap.size) s.heap H locs → W p l e rm s m args below meth c H locs rm.cells rm.slots Q (F0 m pc ls [])) →
      W p l e rm s m args below meth c s.heap [] 0 0 Q (F0 m 0 ls [])) : gs_N l y ws rm ci w ty := by
  intro D h0 sz
  refine Met.ofW (cc := cc) (maxL := maxL) (ret := none) hy hw ?_
  intro p e s m args below meth c s₁ B hml hv
  obtain ⟨rfl, hsz, hP, hK, hD0, hnw, hao⟩ := hv
  have hts := atoms_spec (ws := ws) B.pre
  have hown : s.vm.findClass y.cls = some m.cls := findClass_of_methodNamed B.named
  have hlocks := B.notSynchronized
  have hin : meth.name = "<init>" := (name_of_methodNamed B.named B.method).1.trans hi
  subst hsz
  have hD := hD0.self (sz := s.heap.size)
  have hl := lv_entry ([.ref h0]) (n := maxL) (by show 1 ≤ maxL; exact hmx)
  rw [lg_entry_eq]
  generalize (lg_sl ([.ref h0]) ++ List.replicate (maxL - (lg_sl ([.ref h0])).length) Slot.unset).toArray = ls at hl ⊢
  have hl : lv_has ls maxL [(0, .ref h0)] := hl
  exact body p e s m _ below meth c D h0 ls _ B.exec B.bytes hml hown hin (fun w h => hts w (by rw [hw]; exact List.mem_cons_of_mem _ h)) hnw hao hK hP hD hl (fun u pc ls H locs hd hP hK hD hS => W.vret B.exec B.bytes B.returns (fun t ht hW => ⟨⟨u, rfl, trivial, by rw [ht]; exact hP, va_K.moved hW.alike hK, hD⟩, hS.F ht⟩) hS.2.2 hd)
