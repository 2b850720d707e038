/-! The small machine is the JVM's: what it answers, the JVM comes to. -/
-- locals
def gs_rel (ad : Nat → Nat → Nat) (ls : Array Slot) (nL : Nat) (l : List (Option gs_V)) : Prop := ∃ lv, lv_has ls nL lv ∧ l.length = nL ∧ ∀ i v, l.getD i none = some v → (i, gs_cz ad v) ∈ lv
theorem gs_rel_at {ad : Nat → Nat → Nat} {ls : Array Slot} {nL : Nat} {l : List (Option gs_V)} (h : gs_rel ad ls nL l) {i : Nat} {v : gs_V} (hi : l.getD i none = some v) : ls[i]? = some (.val (gs_cz ad v)) := by
  obtain ⟨lv, h1, -, h3⟩ := h
  exact h1.2.2 _ (h3 i v hi)
theorem gs_getD_set {l : List (Option gs_V)} {i j : Nat} {x : Option gs_V} {v : gs_V} (h : (l.set i x).getD j none = some v) : (j = i ∧ x = some v) ∨ (j ≠ i ∧ l.getD j none = some v) := by
  rw [List.getD_eq_getElem?_getD, List.getElem?_set] at h
  by_cases e : i = j
  · rw [if_pos e] at h
    refine Or.inl ⟨e.symm, ?_⟩
    by_cases h2 : i < l.length
    · rw [if_pos h2] at h
      exact h
    · rw [if_neg h2] at h
      cases h
  · rw [if_neg e] at h
    exact Or.inr ⟨fun q => e q.symm, by rw [List.getD_eq_getElem?_getD]; exact h⟩
theorem gs_clr_len (l : List (Option gs_V)) (i : Nat) : (gs_clr l i).length = l.length := by
  cases i
  · rfl
  · simp [gs_clr]
theorem gs_nl_v {o : Option gs_V} {v : gs_V} (h : gs_nl o = some v) : o = some v ∧ ¬ gs_cat v = 2 := by
  rcases o with _ | x | x | x
  · cases h
  · cases h
    exact ⟨rfl, (show ¬ (1 : Nat) = 2 by decide)⟩
  · cases h
  · cases h
    exact ⟨rfl, (show ¬ (1 : Nat) = 2 by decide)⟩
theorem gs_clr_get {l : List (Option gs_V)} {i j : Nat} {v : gs_V} (h : (gs_clr l i).getD j none = some v) : l.getD j none = some v ∧ ¬ (j + 1 = i ∧ gs_cat v = 2) := by
  rcases i with _ | m
  · exact ⟨h, fun q => by omega⟩
  · rcases gs_getD_set h with ⟨e, h2⟩ | ⟨e, h2⟩
    · obtain ⟨h3, h4⟩ := gs_nl_v h2
      exact ⟨by rw [e]; exact h3, fun q => h4 q.2⟩
    · exact ⟨h2, fun q => e (by omega)⟩
theorem gs_rel_st1 {ad : Nat → Nat → Nat} {nL : Nat} {l : List (Option gs_V)} {lv : List (Nat × Value)} {i : Nat} {v : gs_V} {ls' : Array Slot} (hl : l.length = nL) (hm : ∀ i v, l.getD i none = some v → (i, gs_cz ad v) ∈ lv) (h : lv_has ls' nL ((i, gs_cz ad v) :: lv.filter (fun q => !(q.1 == i) && !(q.1 + 1 == i && q.2.category == 2)))) : gs_rel ad ls' nL (gs_st1 l i v) := by
  refine ⟨_, h, by simp [gs_st1, gs_clr_len, hl], fun j w hw => ?_⟩
  rcases gs_getD_set hw with ⟨e, e2⟩ | ⟨e, h2⟩
  · cases e2
    rw [e]
    exact List.mem_cons_self
  · obtain ⟨h3, h4⟩ := gs_clr_get h2
    refine List.mem_cons_of_mem _ (List.mem_filter.mpr ⟨hm j w h3, ?_⟩)
    simp only [gs_cz_cat, Bool.and_eq_true, Bool.not_eq_true', beq_eq_false_iff_ne, Bool.and_eq_false_imp, beq_iff_eq, ne_eq]
    exact ⟨e, fun a b => h4 ⟨a, b⟩⟩
theorem gs_rel_st2 {ad : Nat → Nat → Nat} {nL : Nat} {l : List (Option gs_V)} {lv : List (Nat × Value)} {i : Nat} {v : gs_V} {ls' : Array Slot} (hl : l.length = nL) (hm : ∀ i v, l.getD i none = some v → (i, gs_cz ad v) ∈ lv) (h : lv_has ls' nL ((i, gs_cz ad v) :: lv.filter (fun q => !(q.1 == i) && (!(q.1 == i + 1) && !(q.1 + 1 == i && q.2.category == 2))))) : gs_rel ad ls' nL (gs_st2 l i v) := by
  refine ⟨_, h, by simp [gs_st2, gs_clr_len, hl], fun j w hw => ?_⟩
  rcases gs_getD_set hw with ⟨-, e2⟩ | ⟨e1, hw⟩
  · cases e2
  rcases gs_getD_set hw with ⟨e, e2⟩ | ⟨e, h2⟩
  · cases e2
    rw [e]
    exact List.mem_cons_self
  · obtain ⟨h3, h4⟩ := gs_clr_get h2
    refine List.mem_cons_of_mem _ (List.mem_filter.mpr ⟨hm j w h3, ?_⟩)
    simp only [gs_cz_cat, Bool.and_eq_true, Bool.not_eq_true', beq_eq_false_iff_ne, Bool.and_eq_false_imp, beq_iff_eq, ne_eq]
    exact ⟨e, e1, fun a b => h4 ⟨a, b⟩⟩
theorem gs_rel_ent (ad : Nat → Nat → Nat) (k : Nat) : ∀ (av : List gs_V) (o i : Nat) (v : gs_V), (gs_sl av ++ List.replicate k none).getD i none = some v → (o + i, gs_cz ad v) ∈ lv_args o (av.map (gs_cz ad))
  | [], o, i, v, h => by
    exfalso
    rw [List.getD_eq_getElem?_getD] at h
    simp only [gs_sl, List.flatMap_nil, List.nil_append, List.getElem?_replicate] at h
    split at h <;> cases h
  | w :: av, o, i, v, h => by
    have ih := gs_rel_ent ad k av
    simp only [List.map_cons, lv_args, gs_cz_cat]
    by_cases hc : gs_cat w = 2
    · rw [if_pos hc]
      have e : gs_sl (w :: av) ++ List.replicate k none = some w :: none :: (gs_sl av ++ List.replicate k none) := by simp [gs_sl, hc]
      rw [e] at h
      rcases i with _ | _ | i
      · cases h
        exact List.mem_cons_self
      · cases h
      · have := ih (o + 2) i v h
        rw [show o + (i + 1 + 1) = o + 2 + i by omega]
        exact List.mem_cons_of_mem _ this
    · rw [if_neg hc]
      have e : gs_sl (w :: av) ++ List.replicate k none = some w :: (gs_sl av ++ List.replicate k none) := by simp [gs_sl, hc]
      rw [e] at h
      rcases i with _ | i
      · cases h
        exact List.mem_cons_self
      · have := ih (o + 1) i v h
        rw [show o + (i + 1) = o + 1 + i by omega]
        exact List.mem_cons_of_mem _ this
theorem gs_sl_len (ad : Nat → Nat → Nat) : ∀ av : List gs_V, (lg_sl (av.map (gs_cz ad))).length = (gs_sl av).length
  | [] => rfl
  | w :: av => by
    have ih := gs_sl_len ad av
    by_cases hc : gs_cat w = 2
    · simp only [lg_sl, gs_sl, List.map_cons, List.flatMap_cons, gs_cz_cat, hc, if_true, List.length_append] at ih ⊢
      rw [ih]
      rfl
    · simp only [lg_sl, gs_sl, List.map_cons, List.flatMap_cons, gs_cz_cat, hc, if_false, List.length_append] at ih ⊢
      rw [ih]
      rfl
-- cells
def gs_cont (Y : gs_Y) (cA : Nat → Nat → ClassId) (ad : Nat → Nat → Nat) (d : gs_D) (t i : Nat) : va_E := match (Y.1 t).1 with
  | 0 => .inr ((Y.1 t).2.1, (List.range (Y.1 t).2.2).map fun k => gs_cz ad (gs_fa Y d t i k))
  | 3 => .inl (cA t i, (Y.1 t).2.2, .inr (.inl (d.2 t i)))
  | 4 => .inl (cA t i, (Y.1 t).2.2, .inr (.inr (.inr (.inr fun j => some (ad (Y.2.2.1 t i j).1 (Y.2.2.1 t i j).2)))))
  | _ => .inl (cA t i, (Y.1 t).2.2, .inl (d.1 t i))
def gs_W (Y : gs_Y) (cA : Nat → Nat → ClassId) (ad : Nat → Nat → Nat) (d : gs_D) (RL : List (Nat × Nat)) : va_W := RL.map fun q => (ad q.1 q.2, gs_cont Y cA ad d q.1 q.2)
def gs_inj (RL : List (Nat × Nat)) : Prop := ∀ (i j : Nat) (q : Nat × Nat), RL[i]? = some q → RL[j]? = some q → i = j
section GW
variable {Y : gs_Y} {cA : Nat → Nat → ClassId} {ad : Nat → Nat → Nat} {d : gs_D} {RL : List (Nat × Nat)} {t i j : Nat}
theorem gs_W_at {q : Nat} (h : RL[q]? = some (t, i)) : (gs_W Y cA ad d RL)[q]? = some (ad t i, gs_cont Y cA ad d t i) := by
  unfold gs_W
  rw [List.getElem?_map, h]
  rfl
theorem gs_W_set {q : Nat} {d' : gs_D} {e : va_E} (hj : gs_inj RL) (hq : RL[q]? = some (t, i)) (he : gs_cont Y cA ad d' t i = e) (ho : ∀ a b, (a, b) ≠ (t, i) → gs_cont Y cA ad d' a b = gs_cont Y cA ad d a b) : (gs_W Y cA ad d RL).set q (ad t i, e) = gs_W Y cA ad d' RL := by
  apply List.ext_getElem?
  intro n
  rw [List.getElem?_set]
  by_cases hn : q = n
  · subst hn
    rw [if_pos rfl, gs_W_at hq, if_pos (by unfold gs_W; rw [List.length_map]; exact (List.getElem?_eq_some_iff.mp hq).1), he]
  · rw [if_neg hn]
    unfold gs_W
    rw [List.getElem?_map, List.getElem?_map]
    cases h : RL[n]? with
    | none => rfl
    | some r =>
      obtain ⟨a, b⟩ := r
      have hne : (a, b) ≠ (t, i) := fun z => hn (hj q n (t, i) hq (by rw [h, z]))
      show some (ad a b, gs_cont Y cA ad d a b) = some (ad a b, gs_cont Y cA ad d' a b)
      rw [ho a b hne]
theorem gs_fa_wI {x : Int32} {a b c : Nat} (h : ¬ (a = t ∧ b = i ∧ c = j)) : gs_fa Y (gs_wI d t i j x) a b c = gs_fa Y d a b c := by
  have e : (gs_wI d t i j x).1 a b c = d.1 a b c := if_neg h
  unfold gs_fa
  rw [e]
  rfl
theorem gs_fa_wL {x : Int64} {a b c : Nat} (h : ¬ (a = t ∧ b = i ∧ c = j)) : gs_fa Y (gs_wL d t i j x) a b c = gs_fa Y d a b c := by
  have e : (gs_wL d t i j x).2 a b c = d.2 a b c := if_neg h
  unfold gs_fa
  rw [e]
  rfl
theorem gs_ne3 {a b c : Nat} (h : (a, b) ≠ (t, i)) : ¬ (a = t ∧ b = i ∧ c = j) := fun z => h (by rw [z.1, z.2.1])
theorem gs_cont_wI {x : Int32} (a b : Nat) (h : (a, b) ≠ (t, i)) : gs_cont Y cA ad (gs_wI d t i j x) a b = gs_cont Y cA ad d a b := by
  have e : (gs_wI d t i j x).1 a b = d.1 a b := by
    funext c
    show gs_uI d.1 t i j x a b c = _
    unfold gs_uI
    rw [if_neg (gs_ne3 h)]
  unfold gs_cont
  simp only [gs_fa_wI (gs_ne3 h)]
  rw [e]
  rfl
theorem gs_cont_wL {x : Int64} (a b : Nat) (h : (a, b) ≠ (t, i)) : gs_cont Y cA ad (gs_wL d t i j x) a b = gs_cont Y cA ad d a b := by
  have e : (gs_wL d t i j x).2 a b = d.2 a b := by
    funext c
    show gs_uL d.2 t i j x a b c = _
    unfold gs_uL
    rw [if_neg (gs_ne3 h)]
  unfold gs_cont
  simp only [gs_fa_wL (gs_ne3 h)]
  rw [e]
  rfl
theorem gs_row_wI {x : Int32} : (gs_wI d t i j x).1 t i = upd (d.1 t i) j x := by
  funext c
  show gs_uI d.1 t i j x t i c = _
  unfold gs_uI upd
  by_cases h : c = j <;> simp [h]
theorem gs_row_wL {x : Int64} : (gs_wL d t i j x).2 t i = vp_updL (d.2 t i) j x := by
  funext c
  show gs_uL d.2 t i j x t i c = _
  unfold gs_uL vp_updL
  by_cases h : c = j <;> simp [h]
theorem gs_c0 (h : (Y.1 t).1 = 0) : gs_cont Y cA ad d t i = .inr ((Y.1 t).2.1, (List.range (Y.1 t).2.2).map fun k => gs_cz ad (gs_fa Y d t i k)) := by
  unfold gs_cont; rw [h]; rfl
theorem gs_c1 (h : (Y.1 t).1 = 1) : gs_cont Y cA ad d t i = .inl (cA t i, (Y.1 t).2.2, .inl (d.1 t i)) := by
  unfold gs_cont; rw [h]; rfl
theorem gs_c2 (h : (Y.1 t).1 = 2) : gs_cont Y cA ad d t i = .inl (cA t i, (Y.1 t).2.2, .inl (d.1 t i)) := by
  unfold gs_cont; rw [h]; rfl
theorem gs_cl3 (h : (Y.1 t).1 = 3) : gs_cont Y cA ad d t i = .inl (cA t i, (Y.1 t).2.2, .inr (.inl (d.2 t i))) := by
  unfold gs_cont; rw [h]; rfl
theorem gs_c4 (h : (Y.1 t).1 = 4) : gs_cont Y cA ad d t i = .inl (cA t i, (Y.1 t).2.2, .inr (.inr (.inr (.inr fun j => some (ad (Y.2.2.1 t i j).1 (Y.2.2.1 t i j).2))))) := by
  unfold gs_cont; rw [h]; rfl
theorem gs_obj_wI {x : Int32} {n : Nat} (hk : Y.2.1 t j = 0) : ((List.range n).map fun k => gs_cz ad (gs_fa Y d t i k)).set j (.int x) = (List.range n).map fun k => gs_cz ad (gs_fa Y (gs_wI d t i j x) t i k) := by
  apply List.ext_getElem?
  intro m
  rw [List.getElem?_set, List.getElem?_map, List.getElem?_map, List.length_map, List.length_range]
  by_cases hm : j = m
  · subst hm
    rw [if_pos rfl]
    by_cases hn : j < n
    · rw [if_pos hn, List.getElem?_range hn]
      have e : gs_fa Y (gs_wI d t i j x) t i j = gs_i x := by
        unfold gs_fa
        rw [hk]
        exact congrArg Sum.inl (if_pos ⟨rfl, rfl, rfl⟩)
      show some (Value.int x) = some (gs_cz ad (gs_fa Y (gs_wI d t i j x) t i j))
      rw [e]
      rfl
    · rw [if_neg hn, List.getElem?_eq_none (by rw [List.length_range]; omega)]
      rfl
  · rw [if_neg hm]
    by_cases hn : m < n
    · rw [List.getElem?_range hn]
      show some (gs_cz ad (gs_fa Y d t i m)) = some (gs_cz ad (gs_fa Y (gs_wI d t i j x) t i m))
      rw [gs_fa_wI (fun z => hm z.2.2.symm)]
    · rw [List.getElem?_eq_none (by rw [List.length_range]; omega)]
      rfl
theorem gs_obj_wL {x : Int64} {n : Nat} (hk : Y.2.1 t j = 1) : ((List.range n).map fun k => gs_cz ad (gs_fa Y d t i k)).set j (.long x) = (List.range n).map fun k => gs_cz ad (gs_fa Y (gs_wL d t i j x) t i k) := by
  apply List.ext_getElem?
  intro m
  rw [List.getElem?_set, List.getElem?_map, List.getElem?_map, List.length_map, List.length_range]
  by_cases hm : j = m
  · subst hm
    rw [if_pos rfl]
    by_cases hn : j < n
    · rw [if_pos hn, List.getElem?_range hn]
      have e : gs_fa Y (gs_wL d t i j x) t i j = gs_l x := by
        unfold gs_fa
        rw [hk]
        exact congrArg (fun z => Sum.inr (Sum.inl z)) (if_pos ⟨rfl, rfl, rfl⟩)
      show some (Value.long x) = some (gs_cz ad (gs_fa Y (gs_wL d t i j x) t i j))
      rw [e]
      rfl
    · rw [if_neg hn, List.getElem?_eq_none (by rw [List.length_range]; omega)]
      rfl
  · rw [if_neg hm]
    by_cases hn : m < n
    · rw [List.getElem?_range hn]
      show some (gs_cz ad (gs_fa Y d t i m)) = some (gs_cz ad (gs_fa Y (gs_wL d t i j x) t i m))
      rw [gs_fa_wL (fun z => hm z.2.2.symm)]
    · rw [List.getElem?_eq_none (by rw [List.length_range]; omega)]
      rfl
/-- addresses don't depend on what lies in the cells -/
theorem gs_D_same {A : Nat → Prop} {d' : gs_D} (h : va_D A (gs_W Y cA ad d RL)) : va_D A (gs_W Y cA ad d' RL) := by
  have key : ∀ (k : Nat) (q : Nat × va_E), (gs_W Y cA ad d' RL)[k]? = some q → ∃ q0, (gs_W Y cA ad d RL)[k]? = some q0 ∧ q0.1 = q.1 := by
    intro k q hk
    unfold gs_W at hk ⊢
    rw [List.getElem?_map] at hk ⊢
    cases hr : RL[k]? with
    | none => rw [hr] at hk; cases hk
    | some r =>
      rw [hr] at hk
      cases hk
      exact ⟨_, rfl, rfl⟩
  refine ⟨fun i j x y hx hy hxy => ?_, fun k q hk => ?_⟩
  · obtain ⟨x0, a1, a2⟩ := key i x hx
    obtain ⟨y0, b1, b2⟩ := key j y hy
    exact h.1 i j x0 y0 a1 b1 (by rw [a2, b2, hxy])
  · obtain ⟨q0, a1, a2⟩ := key k q hk
    rw [← a2]
    exact h.2 k q0 a1
end GW
