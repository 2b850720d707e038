-- constructors: the queue, the book, the whole
def gs_is (g : Nat → Nat) (k : Nat) : va_W := (List.range k).map fun i => (g i, gs_bl 4)
def gs_rfn (g : Nat → Nat) (k : Nat) : Nat → Option Nat := fun j => if j < k then some (g j) else none
theorem gs_is_s (g : Nat → Nat) (k q : Nat) : gs_is g k ++ [(q, gs_bl 4)] = gs_is (va_up g k q) (k + 1) := by
  unfold gs_is
  rw [List.range_succ, List.map_append]
  congr 1
  · refine List.map_congr_left fun i hi => ?_
    have := List.mem_range.mp hi
    rw [va_up_ne _ _ (by omega)]
  · show [(q, gs_bl 4)] = [(va_up g k q k, gs_bl 4)]
    rw [va_up_self]
theorem gs_rfn_s (g : Nat → Nat) {k : Nat} (q : Nat) (hk : k < 40) : va_up (gs_rfn g k) (gs_n k).toNatClampNeg (some q) = gs_rfn (va_up g k q) (k + 1) := by
  rw [gs_n_c (by omega) (by omega), gs_tn]
  funext j
  show (if j = k then some q else if j < k then some (g j) else none) = (if j < k + 1 then some (va_up g k q j) else none)
  by_cases h1 : j = k
  · subst h1
    rw [if_pos rfl, if_pos (by omega), va_up_self]
  · rw [if_neg h1, va_up_ne _ _ h1]
    by_cases h2 : j < k
    · rw [if_pos h2, if_pos (by omega)]
    · rw [if_neg h2, if_neg (by omega)]
theorem gs_rfn_0 (g : Nat → Nat) : gs_rfn g 0 = fun _ => none := funext fun j => if_neg (by omega)
theorem gs_at_last (a b d : Nat × va_E) (g : Nat → Nat) (k : Nat) (z : Nat × va_E) : (([a, b, d] ++ gs_is g k) ++ [z])[3 + k]? = some z := by
  have e : ([a, b, d] ++ gs_is g k).length = 3 + k := by
    unfold gs_is
    simp
    omega
  rw [List.getElem?_append_right (by omega), e, Nat.sub_self]
  rfl
/-- only the places of an array of references count -/
theorem gs_rep {D : va_G} {cl : List vw_C} {H : Heap} {a : Nat × va_E} {q n : Nat} {c : ClassId} {f f' : Nat → Option Nat} {r : va_W} (hf : ∀ j, j < n → f j = f' j) (hP : va_P D cl (a :: (q, .inl (c, n, .inr (.inr (.inr (.inr f))))) :: r) H) : va_P D cl (a :: (q, .inl (c, n, .inr (.inr (.inr (.inr f'))))) :: r) H := by
  intro k z hk
  rcases k with _ | _ | k
  · exact hP 0 z hk
  · cases hk
    have h1 : H[q]? = some (vp_cell c (n, .inr (.inr (.inr (.inr f))))) := hP 1 _ rfl
    show H[q]? = some (vp_cell c (n, .inr (.inr (.inr (.inr f')))))
    rw [h1]
    show some (arrV c n (fun j => va_rf (f j))) = some (arrV c n (fun j => va_rf (f' j)))
    unfold arrV
    congr 2
    congr 1
    funext j
    show va_rf (f j.val) = va_rf (f' j.val)
    rw [hf j.val j.isLt]
  · exact hP (k + 2) z hk
theorem gs_repD {A : Nat → Prop} {a : Nat × va_E} {q n : Nat} {c : ClassId} {f f' : Nat → Option Nat} {r : va_W} (hD : va_D A (a :: (q, .inl (c, n, .inr (.inr (.inr (.inr f))))) :: r)) : va_D A (a :: (q, .inl (c, n, .inr (.inr (.inr (.inr f'))))) :: r) := by
  have key : ∀ (k : Nat) (z : Nat × va_E), (a :: (q, .inl (c, n, .inr (.inr (.inr (.inr f'))))) :: r)[k]? = some z → ∃ z0, (a :: (q, .inl (c, n, .inr (.inr (.inr (.inr f))))) :: r)[k]? = some z0 ∧ z0.1 = z.1 := by
    intro k z hk
    rcases k with _ | _ | k
    · exact ⟨z, hk, rfl⟩
    · cases hk
      exact ⟨_, rfl, rfl⟩
    · exact ⟨z, hk, rfl⟩
  refine ⟨fun i j x y hx hy hxy => ?_, fun k z hk => ?_⟩
  · obtain ⟨x0, a1, a2⟩ := key i x hx
    obtain ⟨y0, b1, b2⟩ := key j y hy
    exact hD.1 i j x0 y0 a1 b1 (by rw [a2, b2, hxy])
  · obtain ⟨z0, a1, a2⟩ := key k z hk
    rw [← a2]
    exact hD.2 k z0 a1
abbrev gs_SQ : Type := gs_SA × (Nat → Nat)
def w_Q (h : Nat) (u : gs_SQ) : va_W := [(h, .inr (3, [.ref (u.1.1 11), .int 0, .ref (u.1.1 12), .int 0])), (u.1.1 11, .inl (u.1.2 11, 40, .inr (.inr (.inr (.inr fun j => some (u.2 j)))))), (u.1.1 12, .inl (u.1.2 12, 10, .inl fun _ => 0))] ++ gs_is u.2 40
def t_Q (u : gs_SQ) : List (ClassId × FieldType) := [(u.1.2 11, .object "GrossSettlement$Instruction"), (u.1.2 12, .int)]
set_option maxHeartbeats 4000000 in
theorem n_Q (l : Launch) : gs_N l y_Qi w_Qi r_Qi 3 w_Q t_Q := by
  refine gs_N_of (cc := prog_5_method_1_code) (maxL := 2) (by decide) rfl rfl (by decide) ?_
  intro p e s m args below meth c D h0 ls Q hx hb hml hown hin htb hnw hao hK hP hD hl fin
  have hA : ∀ q : Nat, s.heap.size ≤ q → va_A [(h0, gs_bl 3)] s.heap.size q := fun q h => Or.inr h
  generalize va_A [(h0, gs_bl 3)] s.heap.size = A at hD hA fin
  have hS : va_S A s.heap s.heap [] := va_S.rf
  refine lv_aload_n hx hb d_Qi_0 rfl (lv_at hl 0 rfl) ?_
  refine W.objInit hx hb hown (htb (.methodLink "GrossSettlement$Queue" 3 objectInit) (gs_ww 94 (by decide +kernel) rfl)) (htb (.instanceMethod objectInit) (gs_ww 50 (by decide +kernel) rfl)) (htb (.code objectInit object_method_1_code 1 none) (gs_ww 51 (by decide +kernel) rfl)) rfl (by rw [hml]; exact hl.1) rfl d_Qi_1 (by decide) (Nat.le_of_ble_eq_true rfl) ?_
  refine W.eq (g2 := F0 m 4 ls []) rfl ?_
  have hP : va_P D gs_CL [(h0, .inr (3, [.null, .int 0, .null, .int 0]))] s.heap := hP
  have hD : va_D A [(h0, .inr (3, [.null, .int 0, .null, .int 0]))] := hD
  refine lv_aload_n hx hb d_Qi_4 rfl (lv_at hl 0 rfl) ?_
  refine lv_bipush (v := 40) hx hb d_Qi_5 (by decide) ?_
  refine va_newq (n := 40) hx hb hown (htb (.classLink "GrossSettlement$Queue" 9 "GrossSettlement$Instruction") (gs_ww 95 (by decide +kernel) rfl)) hao hK hP hD hS hA (N' := 40) (by decide) (by decide +kernel) (by decide +kernel) (Nat.le_of_ble_eq_true rfl) (Nat.le_of_ble_eq_true rfl) d_Qi_7 (fun q11 c11 H hK hP hD hS => ?_)
  have hP : va_P D gs_CL [(h0, .inr (3, [.null, .int 0, .null, .int 0])), (q11, .inl (c11, 40, .inr (.inr (.inr (.inr fun _ => none)))))] H := hP
  have hD : va_D A [(h0, .inr (3, [.null, .int 0, .null, .int 0])), (q11, .inl (c11, 40, .inr (.inr (.inr (.inr fun _ => none)))))] := hD
  have hK : va_K D gs_CL [(c11, .object "GrossSettlement$Instruction")] s := hK
  refine va_putF (D := D) (ci := 3) (v := .ref q11) (ty := .array (.object "GrossSettlement$Instruction")) (C := "GrossSettlement$Queue") (T := gs_T3) (N := 4) hx hb htb (gs_cls_ok (ci := 3) rfl).1 (gs_tyf 3) (gs_cls_ok (ci := 3) rfl).2.1 (gs_cls_ok (ci := 3) rfl).2.2.2 hown hK hP hD hS 0 rfl rfl 0 (by decide) (htb (.fieldLink "GrossSettlement$Queue" 11 "GrossSettlement$Queue" "all" "[LGrossSettlement$Instruction;") (gs_ww 137 (by decide +kernel) rfl)) (fun _ h9 => h9) rfl hin rfl (by decide +kernel) rfl rfl (Nat.le_of_ble_eq_true rfl) d_Qi_10 (fun H locs hP hD hS => ?_)
  have hP : va_P D gs_CL [(h0, .inr (3, [.ref q11, .int 0, .null, .int 0])), (q11, .inl (c11, 40, .inr (.inr (.inr (.inr fun _ => none)))))] H := hP
  have hD : va_D A [(h0, .inr (3, [.ref q11, .int 0, .null, .int 0])), (q11, .inl (c11, 40, .inr (.inr (.inr (.inr fun _ => none)))))] := hD
  refine lv_aload_n hx hb d_Qi_13 rfl (lv_at hl 0 rfl) ?_
  refine lv_iconst (v := 0) hx hb d_Qi_14 (by decide) ?_
  refine va_put (D := D) (ci := 3) (v := .int 0) (ty := .int) (C := "GrossSettlement$Queue") (T := gs_T3) (N := 4) hx hb htb (gs_cls_ok (ci := 3) rfl).1 (gs_tyf 3) (gs_cls_ok (ci := 3) rfl).2.1 (gs_cls_ok (ci := 3) rfl).2.2.2 hown hK hP hD hS 0 rfl rfl 1 (by decide) (htb (.fieldLink "GrossSettlement$Queue" 17 "GrossSettlement$Queue" "count" "I") (gs_ww 139 (by decide +kernel) rfl)) (fun _ h9 => h9) rfl (by decide +kernel) rfl rfl (Nat.le_of_ble_eq_true rfl) d_Qi_15 (fun H locs hP hD hS => ?_)
  have hP : va_P D gs_CL [(h0, .inr (3, [.ref q11, .int 0, .null, .int 0])), (q11, .inl (c11, 40, .inr (.inr (.inr (.inr fun _ => none)))))] H := hP
  have hD : va_D A [(h0, .inr (3, [.ref q11, .int 0, .null, .int 0])), (q11, .inl (c11, 40, .inr (.inr (.inr (.inr fun _ => none)))))] := hD
  refine lv_aload_n hx hb d_Qi_18 rfl (lv_at hl 0 rfl) ?_
  refine lv_bipush (v := 10) hx hb d_Qi_19 (by decide) ?_
  refine va_newa (atype := .int) (n := 10) (N' := 10) (a0 := (10, .inl fun _ => 0)) (ty := .int) hx hb (htb (.arrayClass .int) (gs_ww 88 (by decide +kernel) rfl)) rfl hK hP hD hS hA (fun _ => rfl) (by decide) (by decide +kernel) (by decide +kernel) (Nat.le_of_ble_eq_true rfl) (Nat.le_of_ble_eq_true rfl) d_Qi_21 (fun q12 c12 H hK hP hD hS => ?_)
  have hP : va_P D gs_CL [(h0, .inr (3, [.ref q11, .int 0, .null, .int 0])), (q11, .inl (c11, 40, .inr (.inr (.inr (.inr fun _ => none))))), (q12, .inl (c12, 10, .inl fun _ => 0))] H := hP
  have hD : va_D A [(h0, .inr (3, [.ref q11, .int 0, .null, .int 0])), (q11, .inl (c11, 40, .inr (.inr (.inr (.inr fun _ => none))))), (q12, .inl (c12, 10, .inl fun _ => 0))] := hD
  have hK : va_K D gs_CL [(c11, .object "GrossSettlement$Instruction"), (c12, .int)] s := hK
  refine va_putF (D := D) (ci := 3) (v := .ref q12) (ty := .array .int) (C := "GrossSettlement$Queue") (T := gs_T3) (N := 4) hx hb htb (gs_cls_ok (ci := 3) rfl).1 (gs_tyf 3) (gs_cls_ok (ci := 3) rfl).2.1 (gs_cls_ok (ci := 3) rfl).2.2.2 hown hK hP hD hS 0 rfl rfl 2 (by decide) (htb (.fieldLink "GrossSettlement$Queue" 21 "GrossSettlement$Queue" "order" "[I") (gs_ww 140 (by decide +kernel) rfl)) (fun _ h9 => h9) rfl hin rfl (by decide +kernel) rfl rfl (Nat.le_of_ble_eq_true rfl) d_Qi_23 (fun H locs hP hD hS => ?_)
  have hP : va_P D gs_CL [(h0, .inr (3, [.ref q11, .int 0, .ref q12, .int 0])), (q11, .inl (c11, 40, .inr (.inr (.inr (.inr fun _ => none))))), (q12, .inl (c12, 10, .inl fun _ => 0))] H := hP
  have hD : va_D A [(h0, .inr (3, [.ref q11, .int 0, .ref q12, .int 0])), (q11, .inl (c11, 40, .inr (.inr (.inr (.inr fun _ => none))))), (q12, .inl (c12, 10, .inl fun _ => 0))] := hD
  refine lv_aload_n hx hb d_Qi_26 rfl (lv_at hl 0 rfl) ?_
  refine lv_iconst (v := 0) hx hb d_Qi_27 (by decide) ?_
  refine va_put (D := D) (ci := 3) (v := .int 0) (ty := .int) (C := "GrossSettlement$Queue") (T := gs_T3) (N := 4) hx hb htb (gs_cls_ok (ci := 3) rfl).1 (gs_tyf 3) (gs_cls_ok (ci := 3) rfl).2.1 (gs_cls_ok (ci := 3) rfl).2.2.2 hown hK hP hD hS 0 rfl rfl 3 (by decide) (htb (.fieldLink "GrossSettlement$Queue" 25 "GrossSettlement$Queue" "waits" "I") (gs_ww 142 (by decide +kernel) rfl)) (fun _ h9 => h9) rfl (by decide +kernel) rfl rfl (Nat.le_of_ble_eq_true rfl) d_Qi_28 (fun H locs hP hD hS => ?_)
  have hP : va_P D gs_CL [(h0, .inr (3, [.ref q11, .int 0, .ref q12, .int 0])), (q11, .inl (c11, 40, .inr (.inr (.inr (.inr fun _ => none))))), (q12, .inl (c12, 10, .inl fun _ => 0))] H := hP
  have hD : va_D A [(h0, .inr (3, [.ref q11, .int 0, .ref q12, .int 0])), (q11, .inl (c11, 40, .inr (.inr (.inr (.inr fun _ => none))))), (q12, .inl (c12, 10, .inl fun _ => 0))] := hD
  refine W.widen (k := 2 + 0) (n := 50 + 7 * 0) (by decide) (by decide) ?_
  have key : ∀ (n k : Nat) (g : Nat → Nat) (ls : Array Slot) (H : Heap) (locs : List Loc), k + n = 40 → lv_has ls 2 [(1, .int (gs_n k)), (0, .ref h0)] → va_P D gs_CL ([(h0, .inr (3, [.ref q11, .int 0, .ref q12, .int 0])), (q11, .inl (c11, 40, .inr (.inr (.inr (.inr (gs_rfn g k)))))), (q12, .inl (c12, 10, .inl fun _ => 0))] ++ gs_is g k) H → va_D A ([(h0, .inr (3, [.ref q11, .int 0, .ref q12, .int 0])), (q11, .inl (c11, 40, .inr (.inr (.inr (.inr (gs_rfn g k)))))), (q12, .inl (c12, 10, .inl fun _ => 0))] ++ gs_is g k) → va_S A s.heap H locs → W p l e r_Qi s m args below meth c H locs (2 + k) (50 + 7 * k) Q (F0 m 33 ls []) := by
    intro n
    induction n with
    | zero =>
      intro k g ls H locs hk hl hP hD hS
      have e : k = 40 := by omega
      subst e
      refine lv_iload_n hx hb d_Qi_33 rfl (lv_at hl 0 rfl) ?_
      refine lv_bipush (v := gs_n 40) hx hb d_Qi_34 (by decide) ?_
      refine lv_icmp_ge (tgt := 58) hx hb d_Qi_36 (by decide) (fun _ => ?_) (fun h => absurd (by decide) h)
      exact fin (((fun t => match t with | 11 => q11 | _ => q12), (fun t => match t with | 11 => c11 | _ => c12)), g) 58 ls H locs d_Qi_58 (gs_rep (fun j hj => if_pos hj) hP) hK (gs_repD hD) hS
    | succ n ih =>
      intro k g ls H locs hk hl hP hD hS
      refine lv_iload_n hx hb d_Qi_33 rfl (lv_at hl 0 rfl) ?_
      refine lv_bipush (v := gs_n 40) hx hb d_Qi_34 (by decide) ?_
      refine lv_icmp_ge (tgt := 58) hx hb d_Qi_36 (by decide) (fun h => absurd h (gs_nge (N := 40) (by omega) (by omega))) (fun _ => ?_)
      refine lv_aload_n hx hb d_Qi_39 rfl (lv_at hl 1 rfl) ?_
      refine va_get (D := D) (ci := 3) (v := .ref q11) (C := "GrossSettlement$Queue") (T := gs_T3) (N := 4) hx hb htb (gs_cls_ok (ci := 3) rfl).1 hown hK hP 0 rfl rfl 0 (by decide) (htb (.fieldLink "GrossSettlement$Queue" 11 "GrossSettlement$Queue" "all" "[LGrossSettlement$Instruction;") (gs_ww 137 (by decide +kernel) rfl)) (fun _ h9 => h9) rfl d_Qi_40 ?_
      refine lv_iload_n hx hb d_Qi_43 rfl (lv_at hl 0 rfl) ?_
      refine gs_newc (y := y_Ii) hx hb hml hown htb hnw hao hl.1 hK hP hD hS hA (n_I l) rfl b_Ii (ci := 4) rfl (gs_ww 95 (by decide +kernel) rfl) (gs_ww 97 (by decide +kernel) rfl) (gs_ww 41 (by decide +kernel) rfl) (Or.inr ⟨"GrossSettlement", List.mem_filter.mpr ⟨List.mem_of_getElem? (i := 98) (by decide +kernel), rfl⟩⟩) (gs_ww 99 (by decide +kernel) rfl) ⟨rfl, by decide, by decide, by decide +kernel⟩ ⟨by decide, by decide⟩ (show 2 + k + 1 + 0 ≤ 42 by omega) (show 50 + 7 * k + 7 + 0 ≤ 330 by omega) (Nat.le_of_ble_eq_true rfl) d_Qi_44 d_Qi_47 d_Qi_48 (fun q _ H locs hK2 hP hD hS => ?_)
      refine va_astq (a := q11) (r := ("GrossSettlement$Instruction", gs_T4, 7)) hx hb hK hP hD hS 1 0 (3 + k) 4 rfl rfl (gs_at_last _ _ _ g k (q, gs_bl 4)) rfl (gs_vin (by omega) (by omega)) d_Qi_51 (fun H locs hP hD hS => ?_)
      rw [gs_rfn_s (k := k) g q (by omega)] at hP hD
      have hP : va_P D gs_CL ([(h0, .inr (3, [.ref q11, .int 0, .ref q12, .int 0])), (q11, .inl (c11, 40, .inr (.inr (.inr (.inr (gs_rfn (va_up g k q) (k + 1))))))), (q12, .inl (c12, 10, .inl fun _ => 0))] ++ gs_is (va_up g k q) (k + 1)) H := by
        rw [← gs_is_s]
        exact hP
      have hD : va_D A ([(h0, .inr (3, [.ref q11, .int 0, .ref q12, .int 0])), (q11, .inl (c11, 40, .inr (.inr (.inr (.inr (gs_rfn (va_up g k q) (k + 1))))))), (q12, .inl (c12, 10, .inl fun _ => 0))] ++ gs_is (va_up g k q) (k + 1)) := by
        rw [← gs_is_s]
        exact hD
      refine lv_iinc (k := 0) hx hb d_Qi_52 hl rfl (gs_nadd k) (by decide) rfl (fun ls hl => ?_)
      refine lv_goto (tgt := 33) hx hb d_Qi_55 (by decide) ?_
      refine W.widen (k := 2 + (k + 1)) (n := 50 + 7 * (k + 1)) (by show 2 + k + 1 + 0 ≤ _; omega) (by show 50 + 7 * k + 7 + 0 ≤ _; omega) ?_
      exact ih (k + 1) (va_up g k q) ls H locs (by omega) hl hP hD hS
  refine lv_iconst (v := gs_n 0) hx hb d_Qi_31 rfl ?_
  refine lv_istore_n hx hb d_Qi_32 rfl hl (by decide) rfl (fun ls hl => ?_)
  exact key 40 0 (fun _ => 0) ls _ _ (by omega) hl (by rw [gs_rfn_0]; exact hP) (by rw [gs_rfn_0]; exact hD) hS
abbrev gs_SB : Type := (Nat × gs_SA) × (Nat × gs_SQ)
def w_B (h : Nat) (u : gs_SB) : va_W := (h, .inr (1, [.int 0, .ref u.1.1, .ref u.2.1])) :: (w_A u.1.1 u.1.2 ++ w_Q u.2.1 u.2.2)
def t_B (u : gs_SB) : List (ClassId × FieldType) := t_A u.1.2 ++ t_Q u.2.2
set_option maxHeartbeats 4000000 in
theorem n_B (l : Launch) : gs_N l y_Bi w_Bi r_Bi 1 w_B t_B := by
  refine gs_N_of (cc := prog_3_method_1_code) (maxL := 1) (by decide) rfl rfl (by decide) ?_
  intro p e s m args below meth c D h0 ls Q hx hb hml hown hin htb hnw hao hK hP hD hl fin
  have hA : ∀ q : Nat, s.heap.size ≤ q → va_A [(h0, gs_bl 1)] s.heap.size q := fun q h => Or.inr h
  generalize va_A [(h0, gs_bl 1)] s.heap.size = A at hD hA fin
  have hS : va_S A s.heap s.heap [] := va_S.rf
  refine lv_aload_n hx hb d_Bi_0 rfl (lv_at hl 0 rfl) ?_
  refine W.objInit hx hb hown (htb (.methodLink "GrossSettlement$Book" 3 objectInit) (gs_ww 57 (by decide +kernel) rfl)) (htb (.instanceMethod objectInit) (gs_ww 50 (by decide +kernel) rfl)) (htb (.code objectInit object_method_1_code 1 none) (gs_ww 51 (by decide +kernel) rfl)) rfl (by rw [hml]; exact hl.1) rfl d_Bi_1 (by decide) (Nat.le_of_ble_eq_true rfl) ?_
  refine W.eq (g2 := F0 m 4 ls []) rfl ?_
  have hP : va_P D gs_CL [(h0, .inr (1, [.int 0, .null, .null]))] s.heap := hP
  have hD : va_D A [(h0, .inr (1, [.int 0, .null, .null]))] := hD
  refine lv_aload_n hx hb d_Bi_4 rfl (lv_at hl 0 rfl) ?_
  refine lv_iconst (v := 0) hx hb d_Bi_5 (by decide) ?_
  refine va_put (D := D) (ci := 1) (v := .int 0) (ty := .int) (C := "GrossSettlement$Book") (T := gs_T1) (N := 3) hx hb htb (gs_cls_ok (ci := 1) rfl).1 (gs_tyf 1) (gs_cls_ok (ci := 1) rfl).2.1 (gs_cls_ok (ci := 1) rfl).2.2.2 hown hK hP hD hS 0 rfl rfl 0 (by decide) (htb (.fieldLink "GrossSettlement$Book" 9 "GrossSettlement$Book" "day" "I") (gs_ww 153 (by decide +kernel) rfl)) (fun _ h9 => h9) rfl (by decide +kernel) rfl rfl (Nat.le_of_ble_eq_true rfl) d_Bi_6 (fun H locs hP hD hS => ?_)
  have hP : va_P D gs_CL [(h0, .inr (1, [.int 0, .null, .null]))] H := hP
  have hD : va_D A [(h0, .inr (1, [.int 0, .null, .null]))] := hD
  refine lv_aload_n hx hb d_Bi_9 rfl (lv_at hl 0 rfl) ?_
  refine gs_newc (y := y_Ai) hx hb hml hown htb hnw hao hl.1 hK hP hD hS hA (n_A l) rfl b_Ai (ci := 2) rfl (gs_ww 58 (by decide +kernel) rfl) (gs_ww 59 (by decide +kernel) rfl) (gs_ww 39 (by decide +kernel) rfl) (Or.inl (gs_ww 60 (by decide +kernel) rfl)) (gs_ww 61 (by decide +kernel) rfl) ⟨rfl, by decide, by decide, by decide +kernel⟩ ⟨by decide, by decide⟩ (by decide) (by decide) (Nat.le_of_ble_eq_true rfl) d_Bi_10 d_Bi_13 d_Bi_14 (fun qa ua H locs hK hP hD hS => ?_)
  have hP : va_P D gs_CL ((h0, .inr (1, [.int 0, .null, .null])) :: w_A qa ua) H := hP
  have hD : va_D A ((h0, .inr (1, [.int 0, .null, .null])) :: w_A qa ua) := hD
  refine va_putF (D := D) (ci := 1) (v := .ref qa) (ty := .object "GrossSettlement$Accounts") (C := "GrossSettlement$Book") (T := gs_T1) (N := 3) hx hb htb (gs_cls_ok (ci := 1) rfl).1 (gs_tyf 1) (gs_cls_ok (ci := 1) rfl).2.1 (gs_cls_ok (ci := 1) rfl).2.2.2 hown hK hP hD hS 0 rfl rfl 1 (by decide) (htb (.fieldLink "GrossSettlement$Book" 18 "GrossSettlement$Book" "accounts" "LGrossSettlement$Accounts;") (gs_ww 155 (by decide +kernel) rfl)) (fun _ h9 => h9) rfl hin rfl (by decide +kernel) rfl rfl (Nat.le_of_ble_eq_true rfl) d_Bi_17 (fun H locs hP hD hS => ?_)
  have hP : va_P D gs_CL ((h0, .inr (1, [.int 0, .ref qa, .null])) :: w_A qa ua) H := hP
  have hD : va_D A ((h0, .inr (1, [.int 0, .ref qa, .null])) :: w_A qa ua) := hD
  refine lv_aload_n hx hb d_Bi_20 rfl (lv_at hl 0 rfl) ?_
  refine gs_newc (y := y_Qi) hx hb hml hown htb hnw hao hl.1 hK hP hD hS hA (n_Q l) rfl b_Qi (ci := 3) rfl (gs_ww 89 (by decide +kernel) rfl) (gs_ww 90 (by decide +kernel) rfl) (gs_ww 40 (by decide +kernel) rfl) (Or.inl (gs_ww 91 (by decide +kernel) rfl)) (gs_ww 92 (by decide +kernel) rfl) ⟨rfl, by decide, by decide, by decide +kernel⟩ ⟨by decide, by decide⟩ (by decide) (by decide) (Nat.le_of_ble_eq_true rfl) d_Bi_21 d_Bi_24 d_Bi_25 (fun qq uq H locs hK hP hD hS => ?_)
  have hP : va_P D gs_CL ((h0, .inr (1, [.int 0, .ref qa, .null])) :: (w_A qa ua ++ w_Q qq uq)) H := hP
  have hD : va_D A ((h0, .inr (1, [.int 0, .ref qa, .null])) :: (w_A qa ua ++ w_Q qq uq)) := hD
  refine va_putF (D := D) (ci := 1) (v := .ref qq) (ty := .object "GrossSettlement$Queue") (C := "GrossSettlement$Book") (T := gs_T1) (N := 3) hx hb htb (gs_cls_ok (ci := 1) rfl).1 (gs_tyf 1) (gs_cls_ok (ci := 1) rfl).2.1 (gs_cls_ok (ci := 1) rfl).2.2.2 hown hK hP hD hS 0 rfl rfl 2 (by decide) (htb (.fieldLink "GrossSettlement$Book" 25 "GrossSettlement$Book" "queue" "LGrossSettlement$Queue;") (gs_ww 157 (by decide +kernel) rfl)) (fun _ h9 => h9) rfl hin rfl (by decide +kernel) rfl rfl (Nat.le_of_ble_eq_true rfl) d_Bi_28 (fun H locs hP hD hS => ?_)
  have hP : va_P D gs_CL ((h0, .inr (1, [.int 0, .ref qa, .ref qq])) :: (w_A qa ua ++ w_Q qq uq)) H := hP
  have hD : va_D A ((h0, .inr (1, [.int 0, .ref qa, .ref qq])) :: (w_A qa ua ++ w_Q qq uq)) := hD
  refine W.widen (k := 50) (n := 454) (by decide) (by decide) ?_
  exact fin ((qa, ua), (qq, uq)) 31 ls H locs d_Bi_31 hP hK hD hS
abbrev gs_SG : Type := ((Nat × gs_SB) × (Nat × gs_SB)) × (Nat × ClassId)
def w_G (h : Nat) (u : gs_SG) : va_W := (h, .inr (0, [.ref u.1.1.1, .ref u.1.2.1, .ref u.2.1])) :: ((w_B u.1.1.1 u.1.1.2 ++ w_B u.1.2.1 u.1.2.2) ++ [(u.2.1, .inl (u.2.2, 10, .inl fun _ => 0))])
def t_G (u : gs_SG) : List (ClassId × FieldType) := (t_B u.1.1.2 ++ t_B u.1.2.2) ++ [(u.2.2, .boolean)]
set_option maxHeartbeats 4000000 in
theorem n_G (l : Launch) : gs_N l y_Gi w_Gi r_Gi 0 w_G t_G := by
  refine gs_N_of (cc := prog_1_method_1_code) (maxL := 1) (by decide) rfl rfl (by decide) ?_
  intro p e s m args below meth c D h0 ls Q hx hb hml hown hin htb hnw hao hK hP hD hl fin
  have hA : ∀ q : Nat, s.heap.size ≤ q → va_A [(h0, gs_bl 0)] s.heap.size q := fun q h => Or.inr h
  generalize va_A [(h0, gs_bl 0)] s.heap.size = A at hD hA fin
  have hS : va_S A s.heap s.heap [] := va_S.rf
  refine lv_aload_n hx hb d_Gi_0 rfl (lv_at hl 0 rfl) ?_
  refine W.objInit hx hb hown (htb (.methodLink "GrossSettlement" 3 objectInit) (gs_ww 49 (by decide +kernel) rfl)) (htb (.instanceMethod objectInit) (gs_ww 50 (by decide +kernel) rfl)) (htb (.code objectInit object_method_1_code 1 none) (gs_ww 51 (by decide +kernel) rfl)) rfl (by rw [hml]; exact hl.1) rfl d_Gi_1 (by decide) (Nat.le_of_ble_eq_true rfl) ?_
  refine W.eq (g2 := F0 m 4 ls []) rfl ?_
  have hP : va_P D gs_CL [(h0, .inr (0, [.null, .null, .null]))] s.heap := hP
  have hD : va_D A [(h0, .inr (0, [.null, .null, .null]))] := hD
  refine lv_aload_n hx hb d_Gi_4 rfl (lv_at hl 0 rfl) ?_
  refine gs_newc (y := y_Bi) hx hb hml hown htb hnw hao hl.1 hK hP hD hS hA (n_B l) rfl b_Bi (ci := 1) rfl (gs_ww 52 (by decide +kernel) rfl) (gs_ww 53 (by decide +kernel) rfl) (gs_ww 38 (by decide +kernel) rfl) (Or.inr ⟨"GrossSettlement", List.mem_filter.mpr ⟨List.mem_of_getElem? (i := 54) (by decide +kernel), rfl⟩⟩) (gs_ww 55 (by decide +kernel) rfl) ⟨rfl, by decide, by decide, by decide +kernel⟩ ⟨by decide, by decide⟩ (by decide) (by decide) (Nat.le_of_ble_eq_true rfl) d_Gi_5 d_Gi_8 d_Gi_9 (fun qa ua H locs hK hP hD hS => ?_)
  have hP : va_P D gs_CL ((h0, .inr (0, [.null, .null, .null])) :: w_B qa ua) H := hP
  have hD : va_D A ((h0, .inr (0, [.null, .null, .null])) :: w_B qa ua) := hD
  refine va_putF (D := D) (ci := 0) (v := .ref qa) (ty := .object "GrossSettlement$Book") (C := "GrossSettlement") (T := gs_T0) (N := 3) hx hb htb (gs_cls_ok (ci := 0) rfl).1 (gs_tyf 0) (gs_cls_ok (ci := 0) rfl).2.1 (gs_cls_ok (ci := 0) rfl).2.2.2 hown hK hP hD hS 0 rfl rfl 0 (by decide) (htb (.fieldLink "GrossSettlement" 12 "GrossSettlement" "now" "LGrossSettlement$Book;") (gs_ww 166 (by decide +kernel) rfl)) (fun _ h9 => h9) rfl hin rfl (by decide +kernel) rfl rfl (Nat.le_of_ble_eq_true rfl) d_Gi_12 (fun H locs hP hD hS => ?_)
  have hP : va_P D gs_CL ((h0, .inr (0, [.ref qa, .null, .null])) :: w_B qa ua) H := hP
  have hD : va_D A ((h0, .inr (0, [.ref qa, .null, .null])) :: w_B qa ua) := hD
  refine lv_aload_n hx hb d_Gi_15 rfl (lv_at hl 0 rfl) ?_
  refine gs_newc (y := y_Bi) hx hb hml hown htb hnw hao hl.1 hK hP hD hS hA (n_B l) rfl b_Bi (ci := 1) rfl (gs_ww 52 (by decide +kernel) rfl) (gs_ww 53 (by decide +kernel) rfl) (gs_ww 38 (by decide +kernel) rfl) (Or.inr ⟨"GrossSettlement", List.mem_filter.mpr ⟨List.mem_of_getElem? (i := 54) (by decide +kernel), rfl⟩⟩) (gs_ww 55 (by decide +kernel) rfl) ⟨rfl, by decide, by decide, by decide +kernel⟩ ⟨by decide, by decide⟩ (by decide) (by decide) (Nat.le_of_ble_eq_true rfl) d_Gi_16 d_Gi_19 d_Gi_20 (fun qb ub H locs hK hP hD hS => ?_)
  have hP : va_P D gs_CL ((h0, .inr (0, [.ref qa, .null, .null])) :: (w_B qa ua ++ w_B qb ub)) H := hP
  have hD : va_D A ((h0, .inr (0, [.ref qa, .null, .null])) :: (w_B qa ua ++ w_B qb ub)) := hD
  refine va_putF (D := D) (ci := 0) (v := .ref qb) (ty := .object "GrossSettlement$Book") (C := "GrossSettlement") (T := gs_T0) (N := 3) hx hb htb (gs_cls_ok (ci := 0) rfl).1 (gs_tyf 0) (gs_cls_ok (ci := 0) rfl).2.1 (gs_cls_ok (ci := 0) rfl).2.2.2 hown hK hP hD hS 0 rfl rfl 1 (by decide) (htb (.fieldLink "GrossSettlement" 16 "GrossSettlement" "sure" "LGrossSettlement$Book;") (gs_ww 167 (by decide +kernel) rfl)) (fun _ h9 => h9) rfl hin rfl (by decide +kernel) rfl rfl (Nat.le_of_ble_eq_true rfl) d_Gi_23 (fun H locs hP hD hS => ?_)
  have hP : va_P D gs_CL ((h0, .inr (0, [.ref qa, .ref qb, .null])) :: (w_B qa ua ++ w_B qb ub)) H := hP
  have hD : va_D A ((h0, .inr (0, [.ref qa, .ref qb, .null])) :: (w_B qa ua ++ w_B qb ub)) := hD
  refine lv_aload_n hx hb d_Gi_26 rfl (lv_at hl 0 rfl) ?_
  refine lv_bipush (v := 10) hx hb d_Gi_27 (by decide) ?_
  refine va_newa (atype := .boolean) (n := 10) (N' := 10) (a0 := (10, .inl fun _ => 0)) (ty := .boolean) hx hb (htb (.arrayClass .boolean) (gs_ww 176 (by decide +kernel) rfl)) rfl hK hP hD hS hA (fun _ => rfl) (by decide) (by decide +kernel) (by decide +kernel) (Nat.le_of_ble_eq_true rfl) (Nat.le_of_ble_eq_true rfl) d_Gi_29 (fun qc cb H hK hP hD hS => ?_)
  have hP : va_P D gs_CL ((h0, .inr (0, [.ref qa, .ref qb, .null])) :: ((w_B qa ua ++ w_B qb ub) ++ [(qc, .inl (cb, 10, .inl fun _ => 0))])) H := hP
  have hD : va_D A ((h0, .inr (0, [.ref qa, .ref qb, .null])) :: ((w_B qa ua ++ w_B qb ub) ++ [(qc, .inl (cb, 10, .inl fun _ => 0))])) := hD
  refine va_putF (D := D) (ci := 0) (v := .ref qc) (ty := .array .boolean) (C := "GrossSettlement") (T := gs_T0) (N := 3) hx hb htb (gs_cls_ok (ci := 0) rfl).1 (gs_tyf 0) (gs_cls_ok (ci := 0) rfl).2.1 (gs_cls_ok (ci := 0) rfl).2.2.2 hown hK hP hD hS 0 rfl rfl 2 (by decide) (htb (.fieldLink "GrossSettlement" 19 "GrossSettlement" "chosen" "[Z") (gs_ww 168 (by decide +kernel) rfl)) (fun _ h9 => h9) rfl hin rfl (by decide +kernel) rfl rfl (Nat.le_of_ble_eq_true rfl) d_Gi_31 (fun H locs hP hD hS => ?_)
  have hP : va_P D gs_CL ((h0, .inr (0, [.ref qa, .ref qb, .ref qc])) :: ((w_B qa ua ++ w_B qb ub) ++ [(qc, .inl (cb, 10, .inl fun _ => 0))])) H := hP
  have hD : va_D A ((h0, .inr (0, [.ref qa, .ref qb, .ref qc])) :: ((w_B qa ua ++ w_B qb ub) ++ [(qc, .inl (cb, 10, .inl fun _ => 0))])) := hD
  refine W.widen (k := 103) (n := 924) (by decide) (by decide) ?_
  exact fin (((qa, ua), (qb, ub)), (qc, cb)) 34 ls H locs d_Gi_34 hP hK hD hS
