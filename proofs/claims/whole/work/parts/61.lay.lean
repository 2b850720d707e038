/-! What is asked of the layout, and contracts by the tables. -/
theorem gs_RL_inj : gs_inj gs_RL := fun i j q hi hj => by
  obtain ⟨hi1, hi2⟩ := List.getElem?_eq_some_iff.mp hi
  obtain ⟨hj1, hj2⟩ := List.getElem?_eq_some_iff.mp hj
  exact (List.getElem_inj gs_RL_nd).mp (hi2.trans hj2.symm)
def gs_T0 : u_T := fun k => match k with
  | 0 => ("GrossSettlement", "now", "LGrossSettlement$Book;", true)
  | 1 => ("GrossSettlement", "sure", "LGrossSettlement$Book;", true)
  | _ => ("GrossSettlement", "chosen", "[Z", true)
def gs_T1 : u_T := fun k => match k with
  | 0 => ("GrossSettlement$Book", "day", "I", false)
  | 1 => ("GrossSettlement$Book", "accounts", "LGrossSettlement$Accounts;", true)
  | _ => ("GrossSettlement$Book", "queue", "LGrossSettlement$Queue;", true)
def gs_T2 : u_T := fun k => match k with
  | 0 => ("GrossSettlement$Accounts", "held", "[J", true)
  | 1 => ("GrossSettlement$Accounts", "pledged", "[J", true)
  | 2 => ("GrossSettlement$Accounts", "prices", "[I", true)
  | 3 => ("GrossSettlement$Accounts", "haircuts", "[I", true)
  | 4 => ("GrossSettlement$Accounts", "limits", "[I", true)
  | _ => ("GrossSettlement$Accounts", "nets", "[J", true)
def gs_T3 : u_T := fun k => match k with
  | 0 => ("GrossSettlement$Queue", "all", "[LGrossSettlement$Instruction;", true)
  | 1 => ("GrossSettlement$Queue", "count", "I", false)
  | 2 => ("GrossSettlement$Queue", "order", "[I", true)
  | _ => ("GrossSettlement$Queue", "waits", "I", false)
def gs_T4 : u_T := fun k => match k with
  | 0 => ("GrossSettlement$Instruction", "giver", "I", false)
  | 1 => ("GrossSettlement$Instruction", "taker", "I", false)
  | 2 => ("GrossSettlement$Instruction", "security", "I", false)
  | 3 => ("GrossSettlement$Instruction", "amount", "I", false)
  | 4 => ("GrossSettlement$Instruction", "money", "I", false)
  | 5 => ("GrossSettlement$Instruction", "priority", "I", false)
  | _ => ("GrossSettlement$Instruction", "status", "I", false)
def gs_T5 : u_T := fun k => match k with
  | 0 => ("GrossSettlementModel", "row", "[J", true)
  | 1 => ("GrossSettlementModel", "sure", "[J", true)
  | 2 => ("GrossSettlementModel", "queue", "[I", true)
  | 3 => ("GrossSettlementModel", "waits", "I", false)
  | 4 => ("GrossSettlementModel", "moves", "[J", true)
  | _ => ("GrossSettlementModel", "after", "[I", true)
def gs_CL : List vw_C := [("GrossSettlement", gs_T0, 3), ("GrossSettlement$Book", gs_T1, 3), ("GrossSettlement$Accounts", gs_T2, 6), ("GrossSettlement$Queue", gs_T3, 4), ("GrossSettlement$Instruction", gs_T4, 7), ("GrossSettlementModel", gs_T5, 6)]
def gs_y4 : List (Nat × FieldType) := [(2, .boolean), (5, .long), (6, .long), (7, .int), (8, .int), (9, .int), (10, .long), (11, .object "GrossSettlement$Instruction"), (12, .int), (21, .long), (22, .long), (23, .int), (24, .long), (25, .int)]
def gs_TL (t : Nat) : Option FieldType := gs_lk gs_y4 t
def gs_fw : List Cond := [(Cond.fieldLink "GrossSettlement$Accounts" (9 : Nat) "GrossSettlement$Accounts" "held" "[J"), (Cond.fieldLinkNest "GrossSettlement" (41 : Nat) "GrossSettlement$Accounts" "held" "[J" "GrossSettlement"), (Cond.fieldLink "GrossSettlement$Accounts" (15 : Nat) "GrossSettlement$Accounts" "pledged" "[J"), (Cond.fieldLinkNest "GrossSettlement" (133 : Nat) "GrossSettlement$Accounts" "pledged" "[J" "GrossSettlement"), (Cond.fieldLink "GrossSettlement$Accounts" (18 : Nat) "GrossSettlement$Accounts" "prices" "[I"), (Cond.fieldLink "GrossSettlement$Accounts" (22 : Nat) "GrossSettlement$Accounts" "haircuts" "[I"), (Cond.fieldLink "GrossSettlement$Accounts" (25 : Nat) "GrossSettlement$Accounts" "limits" "[I"), (Cond.fieldLinkNest "GrossSettlement" (80 : Nat) "GrossSettlement$Accounts" "limits" "[I" "GrossSettlement"), (Cond.fieldLink "GrossSettlement$Accounts" (28 : Nat) "GrossSettlement$Accounts" "nets" "[J"), (Cond.fieldLinkNest "GrossSettlement" (74 : Nat) "GrossSettlement$Accounts" "nets" "[J" "GrossSettlement"), (Cond.fieldLink "GrossSettlement$Instruction" (15 : Nat) "GrossSettlement$Instruction" "giver" "I"), (Cond.fieldLinkNest "GrossSettlement$Accounts" (48 : Nat) "GrossSettlement$Instruction" "giver" "I" "GrossSettlement"), (Cond.fieldLinkNest "GrossSettlement$Queue" (37 : Nat) "GrossSettlement$Instruction" "giver" "I" "GrossSettlement"), (Cond.fieldLink "GrossSettlement$Instruction" (28 : Nat) "GrossSettlement$Instruction" "taker" "I"), (Cond.fieldLinkNest "GrossSettlement$Accounts" (61 : Nat) "GrossSettlement$Instruction" "taker" "I" "GrossSettlement"), (Cond.fieldLinkNest "GrossSettlement$Queue" (40 : Nat) "GrossSettlement$Instruction" "taker" "I" "GrossSettlement"), (Cond.fieldLink "GrossSettlement$Instruction" (18 : Nat) "GrossSettlement$Instruction" "security" "I"), (Cond.fieldLinkNest "GrossSettlement$Accounts" (51 : Nat) "GrossSettlement$Instruction" "security" "I" "GrossSettlement"), (Cond.fieldLinkNest "GrossSettlement$Queue" (43 : Nat) "GrossSettlement$Instruction" "security" "I" "GrossSettlement"), (Cond.fieldLink "GrossSettlement$Instruction" (9 : Nat) "GrossSettlement$Instruction" "amount" "I"), (Cond.fieldLinkNest "GrossSettlement$Accounts" (42 : Nat) "GrossSettlement$Instruction" "amount" "I" "GrossSettlement"), (Cond.fieldLinkNest "GrossSettlement$Queue" (46 : Nat) "GrossSettlement$Instruction" "amount" "I" "GrossSettlement"), (Cond.fieldLink "GrossSettlement$Instruction" (25 : Nat) "GrossSettlement$Instruction" "money" "I"), (Cond.fieldLinkNest "GrossSettlement$Accounts" (58 : Nat) "GrossSettlement$Instruction" "money" "I" "GrossSettlement"), (Cond.fieldLinkNest "GrossSettlement$Queue" (49 : Nat) "GrossSettlement$Instruction" "money" "I" "GrossSettlement"), (Cond.fieldLink "GrossSettlement$Instruction" (34 : Nat) "GrossSettlement$Instruction" "priority" "I"), (Cond.fieldLinkNest "GrossSettlement$Queue" (52 : Nat) "GrossSettlement$Instruction" "priority" "I" "GrossSettlement"), (Cond.fieldLink "GrossSettlement$Instruction" (37 : Nat) "GrossSettlement$Instruction" "status" "I"), (Cond.fieldLinkNest "GrossSettlement$Queue" (55 : Nat) "GrossSettlement$Instruction" "status" "I" "GrossSettlement"), (Cond.fieldLinkNest "GrossSettlement" (147 : Nat) "GrossSettlement$Instruction" "status" "I" "GrossSettlement"), (Cond.fieldLink "GrossSettlement$Queue" (11 : Nat) "GrossSettlement$Queue" "all" "[LGrossSettlement$Instruction;"), (Cond.fieldLinkNest "GrossSettlement" (143 : Nat) "GrossSettlement$Queue" "all" "[LGrossSettlement$Instruction;" "GrossSettlement"), (Cond.fieldLink "GrossSettlement$Queue" (17 : Nat) "GrossSettlement$Queue" "count" "I"), (Cond.fieldLink "GrossSettlement$Queue" (21 : Nat) "GrossSettlement$Queue" "order" "[I"), (Cond.fieldLinkNest "GrossSettlement" (155 : Nat) "GrossSettlement$Queue" "order" "[I" "GrossSettlement"), (Cond.fieldLink "GrossSettlement$Queue" (25 : Nat) "GrossSettlement$Queue" "waits" "I"), (Cond.fieldLinkNest "GrossSettlement" (179 : Nat) "GrossSettlement$Queue" "waits" "I" "GrossSettlement"), (Cond.fieldLink "GrossSettlement$Book" (9 : Nat) "GrossSettlement$Book" "day" "I"), (Cond.fieldLinkNest "GrossSettlement" (33 : Nat) "GrossSettlement$Book" "day" "I" "GrossSettlement"), (Cond.fieldLink "GrossSettlement$Book" (18 : Nat) "GrossSettlement$Book" "accounts" "LGrossSettlement$Accounts;"), (Cond.fieldLinkNest "GrossSettlement" (37 : Nat) "GrossSettlement$Book" "accounts" "LGrossSettlement$Accounts;" "GrossSettlement"), (Cond.fieldLink "GrossSettlement$Book" (25 : Nat) "GrossSettlement$Book" "queue" "LGrossSettlement$Queue;"), (Cond.fieldLinkNest "GrossSettlement" (91 : Nat) "GrossSettlement$Book" "queue" "LGrossSettlement$Queue;" "GrossSettlement"), (Cond.fieldLink "GrossSettlement" (12 : Nat) "GrossSettlement" "now" "LGrossSettlement$Book;"), (Cond.fieldLink "GrossSettlement" (16 : Nat) "GrossSettlement" "sure" "LGrossSettlement$Book;"), (Cond.fieldLink "GrossSettlement" (19 : Nat) "GrossSettlement" "chosen" "[Z"), (Cond.constant "GrossSettlement" (73 : Nat) (1000000 : Int32)), (Cond.constantLong "GrossSettlement$Accounts" (33 : Nat) (4611686018427387904 : Int64)), (Cond.constantLong "GrossSettlement$Accounts" (31 : Nat) (100 : Int64)), (Cond.constantLong "GrossSettlement" (131 : Nat) (-1 : Int64)), (Cond.constantLong "GrossSettlementModel" (26 : Nat) (-1 : Int64)), (Cond.fieldLink "GrossSettlementModel" (7 : Nat) "GrossSettlementModel" "row" "[J"), (Cond.fieldLink "GrossSettlementModel" (13 : Nat) "GrossSettlementModel" "sure" "[J"), (Cond.fieldLink "GrossSettlementModel" (16 : Nat) "GrossSettlementModel" "queue" "[I"), (Cond.fieldLink "GrossSettlementModel" (58 : Nat) "GrossSettlementModel" "waits" "I"), (Cond.fieldLink "GrossSettlementModel" (20 : Nat) "GrossSettlementModel" "moves" "[J"), (Cond.fieldLink "GrossSettlementModel" (23 : Nat) "GrossSettlementModel" "after" "[I"), (Cond.constant "GrossSettlementModel" (28 : Nat) (1000000 : Int32)), (Cond.constantLong "GrossSettlementModel" (41 : Nat) (100 : Int64)), (Cond.constantLong "GrossSettlementModel" (129 : Nat) (3 : Int64))]
def gs_NW : List Cond := lw_tbl.filter gs_isN
def gs_tb : List Cond := lw_tbl.filter goodWord
theorem gs_hN : ∀ w ∈ gs_NW, gs_isN w = true := fun w h => (List.mem_filter.mp h).2
theorem gs_fw_in {c : Cond} : ∀ w ∈ gs_fw, w ∈ (c :: gs_tb) ++ gs_NW := by
  have h : gs_fw.all (fun w => decide (w ∈ lw_tbl) && (goodWord w || gs_isN w)) = true := by decide +kernel
  intro w hw
  have := List.all_eq_true.mp h w hw
  rw [Bool.and_eq_true, Bool.or_eq_true] at this
  have hm := of_decide_eq_true this.1
  rcases this.2 with g | g
  · exact List.mem_append_left _ (List.mem_cons_of_mem _ (List.mem_filter.mpr ⟨hm, g⟩))
  · exact List.mem_append_right _ (List.mem_filter.mpr ⟨hm, g⟩)
theorem gs_at {c w : Cond} (i : Nat) (h : lw_tbl[i]? = some w) (hg : goodWord w = true) : w ∈ (c :: gs_tb) ++ gs_NW := List.mem_append_left _ (List.mem_cons_of_mem _ (List.mem_filter.mpr ⟨List.mem_of_getElem? h, hg⟩))
theorem gs_nt {c w : Cond} (i : Nat) (h : lw_tbl[i]? = some w) (hg : gs_isN w = true) : w ∈ (c :: gs_tb) ++ gs_NW := List.mem_append_right _ (List.mem_filter.mpr ⟨List.mem_of_getElem? h, hg⟩)
theorem gs_good {c : Cond} {y : MethodName} {b : ByteArray} {n : Nat} {r : Option FieldType} (h : Cond.code y b n r ∈ lw_tbl) : GoodIn ((c :: gs_tb) ++ gs_NW) (Cond.code y b n r :: gs_tb) := by
  intro w hw
  rcases List.mem_cons.mp hw with e | e
  · rw [e]
    exact ⟨List.mem_append_left _ (List.mem_cons_of_mem _ (List.mem_filter.mpr ⟨h, rfl⟩)), Or.inl rfl⟩
  · exact ⟨List.mem_append_left _ (List.mem_cons_of_mem _ e), good_of_word (List.mem_filter.mp e).2⟩
theorem gs_Y1 {t : Nat} {v : Nat × Nat × Nat} (h : Y0.1 t = v) (hn : v.1 ≠ 9) : (t, v) ∈ gs_y1 := by
  have h : gs_or (gs_lk gs_y1 t) (9, 0, 0) = v := h
  cases e : gs_lk gs_y1 t with
  | none =>
    rw [e] at h
    exact absurd (by rw [← h]; rfl) hn
  | some q =>
    rw [e] at h
    have h : q = v := h
    rw [← h]
    exact gs_lk_mem e
theorem gs_Tin {cA : Nat → Nat → ClassId} {t i : Nat} {ty : FieldType} (hp : gs_pr t i = true) (h : gs_TL t = some ty) : ∃ q : Nat, (gs_T cA gs_RL gs_TL)[q]? = some (cA t i, ty) := by
  obtain ⟨q, hq⟩ := gs_RL_pr hp
  refine List.getElem?_of_mem ?_
  unfold gs_T
  exact List.mem_filterMap.mpr ⟨(t, i), List.mem_of_getElem? hq, by rw [h]; rfl⟩
theorem gs_kind {k : Nat} {p : Nat → Bool} (h : gs_y1.all (fun e => !(e.2.1 == k) || p e.1) = true) (hk : k ≠ 9) {t : Nat} (ht : (Y0.1 t).1 = k) : p t = true := by
  have hm := gs_Y1 (t := t) rfl (by rw [ht]; exact hk)
  have := List.all_eq_true.mp h _ hm
  simp only [ht, beq_self_eq_true, Bool.not_true, Bool.false_or] at this
  exact this
theorem Y0_5 (t : Nat) : (Y0.1 t).1 ≠ 5 := fun h => by
  have := gs_kind (k := 5) (p := fun _ => false) (by decide) (by decide) h
  cases this
theorem gs_lay0 (cA : Nat → Nat → ClassId) {Ts : List Cond} (hT : ∀ w ∈ gs_tb, w ∈ Ts) : gs_lay Y0 cA gs_RL gs_pr gs_CL (gs_T cA gs_RL gs_TL) Ts := by
  have ob : ∀ t, (Y0.1 t).1 = 0 → t = 0 ∨ t = 1 ∨ t = 3 ∨ t = 4 ∨ t = 13 ∨ t = 20 := fun t h => by
    have := gs_kind (k := 0) (p := fun t => decide (t = 0 ∨ t = 1 ∨ t = 3 ∨ t = 4 ∨ t = 13 ∨ t = 20)) (by decide) (by decide) h
    exact of_decide_eq_true this
  have cls : ∀ (C : String) (T : u_T) (N : Nat), (u_ws C T N).all (fun w => decide (w ∈ lw_tbl) && goodWord w) = true → ∀ w ∈ u_ws C T N, w ∈ Ts := fun C T N h w hw => by
    have := List.all_eq_true.mp h w hw
    rw [Bool.and_eq_true] at this
    exact hT w (List.mem_filter.mpr ⟨of_decide_eq_true this.1, this.2⟩)
  refine ⟨⟨fun t i h _ => gs_RL_pr h, gs_RL_inj⟩, ⟨fun t i h hk => gs_Tin h ?_, fun t i h hk => gs_Tin h ?_, fun t i h hk => gs_Tin h ?_, fun t i h hk => ?_⟩, ⟨fun t i k h hk hl => ?_, fun d t i k h hk hl => ?_⟩, fun ci C T N h => ?_, fun t C T N f hk hc hf => ?_⟩
  · have := gs_kind (k := 1) (p := fun t => decide (gs_TL t = some .int)) (by decide) (by decide) hk
    exact of_decide_eq_true this
  · have := gs_kind (k := 2) (p := fun t => decide (gs_TL t = some .boolean)) (by decide) (by decide) hk
    exact of_decide_eq_true this
  · have := gs_kind (k := 3) (p := fun t => decide (gs_TL t = some .long)) (by decide) (by decide) hk
    exact of_decide_eq_true this
  · have := gs_kind (k := 4) (p := fun t => decide (gs_TL t = some (.object "GrossSettlement$Instruction"))) (by decide) (by decide) hk
    obtain ⟨q, hq⟩ := gs_Tin (cA := cA) h (of_decide_eq_true this)
    exact ⟨q, _, hq⟩
  · have := gs_kind (k := 4) (p := fun t => decide (t = 11)) (by decide) (by decide) hk
    have e : t = 11 := of_decide_eq_true this
    subst e
    have h1 : i + 1 ≤ 2 := Nat.le_of_ble_eq_true h
    have h2 : k < 40 := hl
    show Nat.ble (gs_ii i k + 1) 80 = true
    unfold gs_ii
    exact Nat.ble_eq_true_of_le (by omega)
  · rcases ob t hk with e | e | e | e | e | e
    · subst e
      have hl : k < 3 := hl
      have : k = 0 ∨ k = 1 ∨ k = 2 := by omega
      rcases this with e | e | e <;> subst e <;> exact rfl
    · subst e
      have hl : k < 3 := hl
      have : k = 0 ∨ k = 1 ∨ k = 2 := by omega
      rcases this with e | e | e <;> subst e
      · exact trivial
      · exact h
      · exact h
    · subst e
      have hl : k < 6 := hl
      have : k = 0 ∨ k = 1 ∨ k = 2 ∨ k = 3 ∨ k = 4 ∨ k = 5 := by omega
      rcases this with e | e | e | e | e | e <;> subst e <;> exact h
    · subst e
      have hl : k < 4 := hl
      have : k = 0 ∨ k = 1 ∨ k = 2 ∨ k = 3 := by omega
      rcases this with e | e | e | e <;> subst e
      · exact h
      · exact trivial
      · exact h
      · exact trivial
    · subst e
      have hl : k < 7 := hl
      have : k = 0 ∨ k = 1 ∨ k = 2 ∨ k = 3 ∨ k = 4 ∨ k = 5 ∨ k = 6 := by omega
      rcases this with e | e | e | e | e | e | e <;> subst e <;> exact trivial
    · subst e
      have hl : k < 6 := hl
      have : k = 0 ∨ k = 1 ∨ k = 2 ∨ k = 3 ∨ k = 4 ∨ k = 5 := by omega
      rcases this with e | e | e | e | e | e <;> subst e
      · exact h
      · exact h
      · exact h
      · exact trivial
      · exact h
      · exact h
  · rcases ci with _ | _ | _ | _ | _ | _ | ci
    · cases h
      exact ⟨cls _ _ _ (by decide +kernel), ⟨fun k => match k with | 0 => .object "GrossSettlement$Book" | 1 => .object "GrossSettlement$Book" | _ => .array .boolean, by decide +kernel⟩, by decide +kernel⟩
    · cases h
      exact ⟨cls _ _ _ (by decide +kernel), ⟨fun k => match k with | 0 => .int | 1 => .object "GrossSettlement$Accounts" | _ => .object "GrossSettlement$Queue", by decide +kernel⟩, by decide +kernel⟩
    · cases h
      exact ⟨cls _ _ _ (by decide +kernel), ⟨fun k => match k with | 0 => .array .long | 1 => .array .long | 2 => .array .int | 3 => .array .int | 4 => .array .int | _ => .array .long, by decide +kernel⟩, by decide +kernel⟩
    · cases h
      exact ⟨cls _ _ _ (by decide +kernel), ⟨fun k => match k with | 0 => .array (.object "GrossSettlement$Instruction") | 1 => .int | 2 => .array .int | _ => .int, by decide +kernel⟩, by decide +kernel⟩
    · cases h
      exact ⟨cls _ _ _ (by decide +kernel), ⟨fun _ => .int, by decide +kernel⟩, by decide +kernel⟩
    · cases h
      exact ⟨cls _ _ _ (by decide +kernel), ⟨fun k => match k with | 0 => .array .long | 1 => .array .long | 2 => .array .int | 3 => .int | 4 => .array .long | _ => .array .int, by decide +kernel⟩, by decide +kernel⟩
    · cases h
  · have fx : ∀ f, f < N → Y0.2.1 t f = 0 ∨ Y0.2.1 t f = 2 := fun f _ => by
      show gs_k2 t f = 0 ∨ gs_k2 t f = 2
      unfold gs_k2
      split
      · exact Or.inl rfl
      · exact Or.inr rfl
    have fk : ∀ (t0 : Nat) (T0 : u_T) (N0 : Nat), (List.range N0).all (fun f => !(gs_k2 t0 f == 0) || decide (parseFieldDescriptor (T0 f).2.2.1 = some .int)) = true → ∀ f, f < N0 → (Y0.2.1 t0 f = 0 → parseFieldDescriptor (T0 f).2.2.1 = some .int) ∧ (Y0.2.1 t0 f = 1 → parseFieldDescriptor (T0 f).2.2.1 = some .long) := by
      intro t0 T0 N0 h f hf
      refine ⟨fun h0 => ?_, fun h1 => ?_⟩
      · have := List.all_eq_true.mp h f (List.mem_range.mpr hf)
        have h0 : gs_k2 t0 f = 0 := h0
        simp only [h0, beq_self_eq_true, Bool.not_true, Bool.false_or] at this
        exact of_decide_eq_true this
      · have h1 : gs_k2 t0 f = 1 := h1
        unfold gs_k2 at h1
        split at h1 <;> cases h1
    rcases ob t hk with e | e | e | e | e | e <;> subst e <;> cases hc <;> exact fk _ _ _ (by decide +kernel) f hf
/-- what a row of a method's callees rests on -/
def gs_cw (l : Launch) (ws : List Cond) (own : String) (rm : Room) (e : Nat × Nat × Nat × gs_F) : Prop :=
  (e.2.2.1 = 1000 → gs_sc l Y0 gs_RL gs_pr gs_CL gs_TL gs_NW (ws ++ gs_NW) own rm e.1 e.2.1 e.2.2.2 ∨ gs_acw Y0 (ws ++ gs_NW) own rm e.1 e.2.1 e.2.2.2) ∧ (e.2.2.1 ≤ 999 → gs_vc l Y0 gs_RL gs_pr gs_CL gs_TL gs_NW (ws ++ gs_NW) own rm e.1 e.2.1 e.2.2.1 e.2.2.2)
theorem gs_C_go {l : Launch} {y : MethodName} {ws ws' : List Cond} {rm : Room} {cc : ByteArray} {maxL : Nat} {ret : Option FieldType} {k : Nat} {I : List (Nat × Jvm.ClassFile.Instr × Nat)} {F : List (Nat × Nat × Nat)} {K : List (Nat × gs_V)} {C : List (Nat × Nat × Nat × gs_F)} (hy : plainName y.cls = true) (hw : ws = Cond.code y cc maxL ret :: ws')
    (hk : (k = 0 ∧ ret = none) ∨ (k = 1 ∧ ret = some .int) ∨ (k = 2 ∧ ret = some .boolean) ∨ (k = 3 ∧ ret = some .long) ∨ (k = 4 ∧ ∃ n, ret = some (.object n))) (hrm : rm.cells = 0 ∧ rm.slots = 0) (hT : ∀ w ∈ gs_tb, w ∈ ws)
    (hM : gs_mok cc (ws ++ gs_NW) y.cls gs_CL (gs_lk I, gs_lk F, gs_lk K, gs_lk C)) (hC : ∀ e ∈ C, gs_cw l ws y.cls rm e) : gs_C l Y0 gs_RL gs_pr gs_CL gs_TL gs_NW y ws rm (gs_f Y0 maxL k (gs_lk I, gs_lk F, gs_lk K, gs_lk C)) :=
  gs_C_of hy hw hk hrm gs_hN (fun cA => gs_lay0 cA (fun w h => List.mem_append_left _ (hT w h))) hM Y0_5 (fun x n f h => (hC _ (gs_lk_mem h)).1 rfl) (fun x n cr f hcr h => (hC _ (gs_lk_mem h)).2 hcr)
