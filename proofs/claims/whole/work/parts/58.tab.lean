-- a method's tables are checked by deciding
def gs_chk (cc : ByteArray) (e : Nat × Jvm.ClassFile.Instr × Nat) : Bool := match decode cc e.1 with
  | .ok (j, n) => decide (j = e.2.1) && ((match gs_len e.2.1 with
      | some k => n == k
      | none => true) && (match gs_off e.2.1 with
      | some o => decide ((e.1 : Int) + o = (e.2.2 : Int))
      | none => true))
  | .error _ => false
theorem gs_chk_v {cc : ByteArray} {pc : Nat} {i : Jvm.ClassFile.Instr} {tg : Nat} (h : gs_chk cc (pc, i, tg) = true) : ∃ len, decode cc pc = .ok (i, len) ∧ (∀ n, gs_len i = some n → len = n) ∧ (∀ o, gs_off i = some o → (pc : Int) + o = (tg : Int)) := by
  unfold gs_chk at h
  cases hd : decode cc pc with
  | error e => rw [hd] at h; cases h
  | ok q =>
    obtain ⟨j, n⟩ := q
    rw [hd] at h
    simp only [Bool.and_eq_true, decide_eq_true_eq] at h
    obtain ⟨rfl, h1, h2⟩ := h
    refine ⟨n, rfl, fun k hk => ?_, fun o ho => ?_⟩
    · rw [hk] at h1
      exact beq_iff_eq.mp h1
    · rw [ho] at h2
      exact of_decide_eq_true h2
def gs_fck (Ts : List Cond) (own host : String) (cl : List vw_C) (e : Nat × Nat × Nat) : Bool := match cl[e.2.1]? with
  | some q => Nat.ble (e.2.2 + 1) q.2.2 && (decide (Cond.fieldLink own e.1 (q.2.1 e.2.2).1 (q.2.1 e.2.2).2.1 (q.2.1 e.2.2).2.2.1 ∈ Ts) || decide (Cond.fieldLinkNest own e.1 (q.2.1 e.2.2).1 (q.2.1 e.2.2).2.1 (q.2.1 e.2.2).2.2.1 host ∈ Ts))
  | none => false
/-- fields that are written aren't final -/
def gs_pck (cl : List vw_C) (F : List (Nat × Nat × Nat)) (e : Nat × Jvm.ClassFile.Instr × Nat) : Bool := match e.2.1 with
  | .putfield x => match gs_lk F x with
    | some q => match cl[q.1]? with
      | some c => !(c.2.1 q.2).2.2.2
      | none => true
    | none => true
  | _ => true
def gs_kck (Ts : List Cond) (own : String) (e : Nat × gs_V) : Bool := match e.2 with
  | .inl v => decide (Cond.constant own e.1 v ∈ Ts)
  | .inr (.inl v) => decide (Cond.constantLong own e.1 v ∈ Ts)
  | _ => true
theorem gs_mok_of {cc : ByteArray} {Ts Tb : List Cond} {own host : String} {cl : List vw_C} {I : List (Nat × Jvm.ClassFile.Instr × Nat)} {F : List (Nat × Nat × Nat)} {K : List (Nat × gs_V)} {C : Nat → Option (Nat × Nat × gs_F)} (hT : ∀ w ∈ Tb, w ∈ Ts) (h1 : I.all (gs_chk cc) = true) (h2 : F.all (gs_fck Tb own host cl) = true) (h3 : I.all (gs_pck cl F) = true) (h4 : K.all (gs_kck Tb own) = true) : gs_mok cc Ts own cl (gs_lk I, gs_lk F, gs_lk K, C) := by
  refine ⟨fun pc i tg h => gs_chk_v (List.all_eq_true.mp h1 _ (gs_lk_mem h)), fun x ci f h => ?_, fun pc x tg h ci f C T N hf hc => ?_, fun x v h => ?_, fun x v h => ?_⟩
  · have a := List.all_eq_true.mp h2 _ (gs_lk_mem h)
    unfold gs_fck at a
    cases hc : cl[ci]? with
    | none => rw [hc] at a; cases a
    | some q =>
      obtain ⟨C, T, N⟩ := q
      rw [hc] at a
      simp only [Bool.and_eq_true, Bool.or_eq_true, decide_eq_true_eq] at a
      refine ⟨C, T, N, rfl, Nat.le_of_ble_eq_true a.1, ?_⟩
      rcases a.2 with b | b
      · exact Or.inl (hT _ b)
      · exact Or.inr ⟨host, hT _ b⟩
  · have a := List.all_eq_true.mp h3 _ (gs_lk_mem h)
    have hf : gs_lk F x = some (ci, f) := hf
    simp only [gs_pck, hf, hc] at a
    simpa using a
  · have a := List.all_eq_true.mp h4 _ (gs_lk_mem h)
    exact hT _ (of_decide_eq_true a)
  · have a := List.all_eq_true.mp h4 _ (gs_lk_mem h)
    exact hT _ (of_decide_eq_true a)
