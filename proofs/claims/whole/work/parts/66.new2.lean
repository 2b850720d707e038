-- constructors, walked
def w_I (h : Nat) (_ : Unit) : va_W := [(h, gs_bl 4)]
def t_I (_ : Unit) : List (ClassId × FieldType) := []
theorem n_I (l : Launch) : gs_N l y_Ii w_Ii r_Ii 4 w_I t_I := by
  refine gs_N_of (cc := prog_4_method_1_code) (maxL := 1) (by decide) rfl rfl (by decide) ?_
  intro p e s m args below meth c D h0 ls Q hx hb hml hown hin htb hnw hao hK hP hD hl fin
  have hA : ∀ q : Nat, s.heap.size ≤ q → va_A [(h0, gs_bl 4)] s.heap.size q := fun q h => Or.inr h
  generalize va_A [(h0, gs_bl 4)] s.heap.size = A at hD hA fin
  have hS : va_S A s.heap s.heap [] := va_S.rf
  refine lv_aload_n hx hb d_Ii_0 rfl (lv_at hl 0 rfl) ?_
  refine W.objInit hx hb hown (htb (.methodLink "GrossSettlement$Instruction" 3 objectInit) (gs_ww 101 (by decide +kernel) rfl)) (htb (.instanceMethod objectInit) (gs_ww 50 (by decide +kernel) rfl)) (htb (.code objectInit object_method_1_code 1 none) (gs_ww 51 (by decide +kernel) rfl)) rfl (by rw [hml]; exact hl.1) rfl d_Ii_1 (by decide) (Nat.le_of_ble_eq_true rfl) ?_
  refine W.eq (g2 := F0 m 4 ls []) rfl ?_
  exact fin () 4 ls s.heap [] d_Ii_4 hP hK hD hS
def gs_lim (k : Nat) : Nat → Int32 := fun j => if j < k then -1 else 0
theorem gs_lim_0 : gs_lim 0 = fun _ => 0 := funext fun j => if_neg (by omega)
theorem gs_lim_s {k : Nat} (hk : k < 36) : upd (gs_lim k) (gs_n k).toNatClampNeg (-1) = gs_lim (k + 1) := by
  rw [gs_n_c (by omega) (by omega), gs_tn]
  funext j
  show (if j = k then -1 else if j < k then -1 else 0) = (if j < k + 1 then -1 else 0)
  by_cases h1 : j = k
  · rw [if_pos h1, if_pos (by omega)]
  · rw [if_neg h1]
    by_cases h2 : j < k
    · rw [if_pos h2, if_pos (by omega)]
    · rw [if_neg h2, if_neg (by omega)]
theorem gs_vin {k N : Nat} (h : k < N) (h2 : k < 2147483648) : vp_in (gs_n k) N := by
  rintro (z | z)
  · rw [show (0 : Int32) = gs_n 0 by decide, gs_lt_iff (by omega) (by omega) (by omega) (by omega)] at z
    omega
  · rw [gs_n_c (by omega) (by omega), gs_tn] at z
    omega
theorem gs_nadd (k : Nat) : gs_n k + Int32.ofInt 1 = gs_n ((k + 1 : Nat) : Int) := by
  show gs_n k + gs_n 1 = _
  rw [gs_n_add]
  rfl
theorem gs_nge {k N : Nat} (h : k < N) (h2 : N < 2147483648) : ¬ gs_n N ≤ gs_n k := by
  rw [gs_le_iff (by omega) (by omega) (by omega) (by omega)]
  omega
abbrev gs_SA : Type := (Nat → Nat) × (Nat → ClassId)
def w_A (h : Nat) (u : gs_SA) : va_W := [(h, .inr (2, [.ref (u.1 5), .ref (u.1 6), .ref (u.1 7), .ref (u.1 8), .ref (u.1 9), .ref (u.1 10)])), (u.1 5, .inl (u.2 5, 18, .inr (.inl fun _ => 0))), (u.1 6, .inl (u.2 6, 18, .inr (.inl fun _ => 0))), (u.1 7, .inl (u.2 7, 3, .inl fun _ => 0)), (u.1 8, .inl (u.2 8, 3, .inl fun _ => 0)), (u.1 9, .inl (u.2 9, 36, .inl (gs_lim 36))), (u.1 10, .inl (u.2 10, 36, .inr (.inl fun _ => 0)))]
def t_A (u : gs_SA) : List (ClassId × FieldType) := [(u.2 5, .long), (u.2 6, .long), (u.2 7, .int), (u.2 8, .int), (u.2 9, .int), (u.2 10, .long)]
set_option maxHeartbeats 4000000 in
theorem n_A (l : Launch) : gs_N l y_Ai w_Ai r_Ai 2 w_A t_A := by
  refine gs_N_of (cc := prog_2_method_1_code) (maxL := 2) (by decide) rfl rfl (by decide) ?_
  intro p e s m args below meth c D h0 ls Q hx hb hml hown hin htb hnw hao hK hP hD hl fin
  have hA : ∀ q : Nat, s.heap.size ≤ q → va_A [(h0, gs_bl 2)] s.heap.size q := fun q h => Or.inr h
  generalize va_A [(h0, gs_bl 2)] s.heap.size = A at hD hA fin
  have hS : va_S A s.heap s.heap [] := va_S.rf
  refine lv_aload_n hx hb d_Ai_0 rfl (lv_at hl 0 rfl) ?_
  refine W.objInit hx hb hown (htb (.methodLink "GrossSettlement$Accounts" 3 objectInit) (gs_ww 63 (by decide +kernel) rfl)) (htb (.instanceMethod objectInit) (gs_ww 50 (by decide +kernel) rfl)) (htb (.code objectInit object_method_1_code 1 none) (gs_ww 51 (by decide +kernel) rfl)) rfl (by rw [hml]; exact hl.1) rfl d_Ai_1 (by decide) (Nat.le_of_ble_eq_true rfl) ?_
  refine W.eq (g2 := F0 m 4 ls []) rfl ?_
  have hP : va_P D gs_CL [(h0, .inr (2, [.null, .null, .null, .null, .null, .null]))] s.heap := hP
  have hD : va_D A [(h0, .inr (2, [.null, .null, .null, .null, .null, .null]))] := hD
  refine lv_aload_n hx hb d_Ai_4 rfl (lv_at hl 0 rfl) ?_
  refine lv_bipush (v := 18) hx hb d_Ai_5 (by decide) ?_
  refine va_newa (atype := .long) (n := 18) (N' := 18) (a0 := (18, .inr (.inl fun _ => 0))) (ty := .long) hx hb (htb (.arrayClass .long) (gs_ww 87 (by decide +kernel) rfl)) rfl hK hP hD hS hA (fun _ => rfl) (by decide) (by decide +kernel) (by decide +kernel) (Nat.le_of_ble_eq_true rfl) (Nat.le_of_ble_eq_true rfl) d_Ai_7 (fun q5 c5 H hK hP hD hS => ?_)
  have hP : va_P D gs_CL [(h0, .inr (2, [.null, .null, .null, .null, .null, .null])), (q5, .inl (c5, 18, .inr (.inl fun _ => 0)))] H := hP
  have hD : va_D A [(h0, .inr (2, [.null, .null, .null, .null, .null, .null])), (q5, .inl (c5, 18, .inr (.inl fun _ => 0)))] := hD
  have hK : va_K D gs_CL [(c5, .long)] s := hK
  refine va_putF (D := D) (ci := 2) (v := .ref q5) (ty := .array .long) (C := "GrossSettlement$Accounts") (T := gs_T2) (N := 6) hx hb htb (gs_cls_ok (ci := 2) rfl).1 (gs_tyf 2) (gs_cls_ok (ci := 2) rfl).2.1 (gs_cls_ok (ci := 2) rfl).2.2.2 hown hK hP hD hS 0 rfl rfl 0 (by decide) (htb (.fieldLink "GrossSettlement$Accounts" 9 "GrossSettlement$Accounts" "held" "[J") (gs_ww 64 (by decide +kernel) rfl)) (fun _ h9 => h9) rfl hin rfl (by decide +kernel) rfl rfl (Nat.le_of_ble_eq_true rfl) d_Ai_9 (fun H locs hP hD hS => ?_)
  have hP : va_P D gs_CL [(h0, .inr (2, [.ref q5, .null, .null, .null, .null, .null])), (q5, .inl (c5, 18, .inr (.inl fun _ => 0)))] H := hP
  have hD : va_D A [(h0, .inr (2, [.ref q5, .null, .null, .null, .null, .null])), (q5, .inl (c5, 18, .inr (.inl fun _ => 0)))] := hD
  refine lv_aload_n hx hb d_Ai_12 rfl (lv_at hl 0 rfl) ?_
  refine lv_bipush (v := 18) hx hb d_Ai_13 (by decide) ?_
  refine va_newa (atype := .long) (n := 18) (N' := 18) (a0 := (18, .inr (.inl fun _ => 0))) (ty := .long) hx hb (htb (.arrayClass .long) (gs_ww 87 (by decide +kernel) rfl)) rfl hK hP hD hS hA (fun _ => rfl) (by decide) (by decide +kernel) (by decide +kernel) (Nat.le_of_ble_eq_true rfl) (Nat.le_of_ble_eq_true rfl) d_Ai_15 (fun q6 c6 H hK hP hD hS => ?_)
  have hP : va_P D gs_CL [(h0, .inr (2, [.ref q5, .null, .null, .null, .null, .null])), (q5, .inl (c5, 18, .inr (.inl fun _ => 0))), (q6, .inl (c6, 18, .inr (.inl fun _ => 0)))] H := hP
  have hD : va_D A [(h0, .inr (2, [.ref q5, .null, .null, .null, .null, .null])), (q5, .inl (c5, 18, .inr (.inl fun _ => 0))), (q6, .inl (c6, 18, .inr (.inl fun _ => 0)))] := hD
  have hK : va_K D gs_CL [(c5, .long), (c6, .long)] s := hK
  refine va_putF (D := D) (ci := 2) (v := .ref q6) (ty := .array .long) (C := "GrossSettlement$Accounts") (T := gs_T2) (N := 6) hx hb htb (gs_cls_ok (ci := 2) rfl).1 (gs_tyf 2) (gs_cls_ok (ci := 2) rfl).2.1 (gs_cls_ok (ci := 2) rfl).2.2.2 hown hK hP hD hS 0 rfl rfl 1 (by decide) (htb (.fieldLink "GrossSettlement$Accounts" 15 "GrossSettlement$Accounts" "pledged" "[J") (gs_ww 66 (by decide +kernel) rfl)) (fun _ h9 => h9) rfl hin rfl (by decide +kernel) rfl rfl (Nat.le_of_ble_eq_true rfl) d_Ai_17 (fun H locs hP hD hS => ?_)
  have hP : va_P D gs_CL [(h0, .inr (2, [.ref q5, .ref q6, .null, .null, .null, .null])), (q5, .inl (c5, 18, .inr (.inl fun _ => 0))), (q6, .inl (c6, 18, .inr (.inl fun _ => 0)))] H := hP
  have hD : va_D A [(h0, .inr (2, [.ref q5, .ref q6, .null, .null, .null, .null])), (q5, .inl (c5, 18, .inr (.inl fun _ => 0))), (q6, .inl (c6, 18, .inr (.inl fun _ => 0)))] := hD
  refine lv_aload_n hx hb d_Ai_20 rfl (lv_at hl 0 rfl) ?_
  refine lv_iconst (v := 3) hx hb d_Ai_21 (by decide) ?_
  refine va_newa (atype := .int) (n := 3) (N' := 3) (a0 := (3, .inl fun _ => 0)) (ty := .int) hx hb (htb (.arrayClass .int) (gs_ww 88 (by decide +kernel) rfl)) rfl hK hP hD hS hA (fun _ => rfl) (by decide) (by decide +kernel) (by decide +kernel) (Nat.le_of_ble_eq_true rfl) (Nat.le_of_ble_eq_true rfl) d_Ai_22 (fun q7 c7 H hK hP hD hS => ?_)
  have hP : va_P D gs_CL [(h0, .inr (2, [.ref q5, .ref q6, .null, .null, .null, .null])), (q5, .inl (c5, 18, .inr (.inl fun _ => 0))), (q6, .inl (c6, 18, .inr (.inl fun _ => 0))), (q7, .inl (c7, 3, .inl fun _ => 0))] H := hP
  have hD : va_D A [(h0, .inr (2, [.ref q5, .ref q6, .null, .null, .null, .null])), (q5, .inl (c5, 18, .inr (.inl fun _ => 0))), (q6, .inl (c6, 18, .inr (.inl fun _ => 0))), (q7, .inl (c7, 3, .inl fun _ => 0))] := hD
  have hK : va_K D gs_CL [(c5, .long), (c6, .long), (c7, .int)] s := hK
  refine va_putF (D := D) (ci := 2) (v := .ref q7) (ty := .array .int) (C := "GrossSettlement$Accounts") (T := gs_T2) (N := 6) hx hb htb (gs_cls_ok (ci := 2) rfl).1 (gs_tyf 2) (gs_cls_ok (ci := 2) rfl).2.1 (gs_cls_ok (ci := 2) rfl).2.2.2 hown hK hP hD hS 0 rfl rfl 2 (by decide) (htb (.fieldLink "GrossSettlement$Accounts" 18 "GrossSettlement$Accounts" "prices" "[I") (gs_ww 68 (by decide +kernel) rfl)) (fun _ h9 => h9) rfl hin rfl (by decide +kernel) rfl rfl (Nat.le_of_ble_eq_true rfl) d_Ai_24 (fun H locs hP hD hS => ?_)
  have hP : va_P D gs_CL [(h0, .inr (2, [.ref q5, .ref q6, .ref q7, .null, .null, .null])), (q5, .inl (c5, 18, .inr (.inl fun _ => 0))), (q6, .inl (c6, 18, .inr (.inl fun _ => 0))), (q7, .inl (c7, 3, .inl fun _ => 0))] H := hP
  have hD : va_D A [(h0, .inr (2, [.ref q5, .ref q6, .ref q7, .null, .null, .null])), (q5, .inl (c5, 18, .inr (.inl fun _ => 0))), (q6, .inl (c6, 18, .inr (.inl fun _ => 0))), (q7, .inl (c7, 3, .inl fun _ => 0))] := hD
  refine lv_aload_n hx hb d_Ai_27 rfl (lv_at hl 0 rfl) ?_
  refine lv_iconst (v := 3) hx hb d_Ai_28 (by decide) ?_
  refine va_newa (atype := .int) (n := 3) (N' := 3) (a0 := (3, .inl fun _ => 0)) (ty := .int) hx hb (htb (.arrayClass .int) (gs_ww 88 (by decide +kernel) rfl)) rfl hK hP hD hS hA (fun _ => rfl) (by decide) (by decide +kernel) (by decide +kernel) (Nat.le_of_ble_eq_true rfl) (Nat.le_of_ble_eq_true rfl) d_Ai_29 (fun q8 c8 H hK hP hD hS => ?_)
  have hP : va_P D gs_CL [(h0, .inr (2, [.ref q5, .ref q6, .ref q7, .null, .null, .null])), (q5, .inl (c5, 18, .inr (.inl fun _ => 0))), (q6, .inl (c6, 18, .inr (.inl fun _ => 0))), (q7, .inl (c7, 3, .inl fun _ => 0)), (q8, .inl (c8, 3, .inl fun _ => 0))] H := hP
  have hD : va_D A [(h0, .inr (2, [.ref q5, .ref q6, .ref q7, .null, .null, .null])), (q5, .inl (c5, 18, .inr (.inl fun _ => 0))), (q6, .inl (c6, 18, .inr (.inl fun _ => 0))), (q7, .inl (c7, 3, .inl fun _ => 0)), (q8, .inl (c8, 3, .inl fun _ => 0))] := hD
  have hK : va_K D gs_CL [(c5, .long), (c6, .long), (c7, .int), (c8, .int)] s := hK
  refine va_putF (D := D) (ci := 2) (v := .ref q8) (ty := .array .int) (C := "GrossSettlement$Accounts") (T := gs_T2) (N := 6) hx hb htb (gs_cls_ok (ci := 2) rfl).1 (gs_tyf 2) (gs_cls_ok (ci := 2) rfl).2.1 (gs_cls_ok (ci := 2) rfl).2.2.2 hown hK hP hD hS 0 rfl rfl 3 (by decide) (htb (.fieldLink "GrossSettlement$Accounts" 22 "GrossSettlement$Accounts" "haircuts" "[I") (gs_ww 69 (by decide +kernel) rfl)) (fun _ h9 => h9) rfl hin rfl (by decide +kernel) rfl rfl (Nat.le_of_ble_eq_true rfl) d_Ai_31 (fun H locs hP hD hS => ?_)
  have hP : va_P D gs_CL [(h0, .inr (2, [.ref q5, .ref q6, .ref q7, .ref q8, .null, .null])), (q5, .inl (c5, 18, .inr (.inl fun _ => 0))), (q6, .inl (c6, 18, .inr (.inl fun _ => 0))), (q7, .inl (c7, 3, .inl fun _ => 0)), (q8, .inl (c8, 3, .inl fun _ => 0))] H := hP
  have hD : va_D A [(h0, .inr (2, [.ref q5, .ref q6, .ref q7, .ref q8, .null, .null])), (q5, .inl (c5, 18, .inr (.inl fun _ => 0))), (q6, .inl (c6, 18, .inr (.inl fun _ => 0))), (q7, .inl (c7, 3, .inl fun _ => 0)), (q8, .inl (c8, 3, .inl fun _ => 0))] := hD
  refine lv_aload_n hx hb d_Ai_34 rfl (lv_at hl 0 rfl) ?_
  refine lv_bipush (v := 36) hx hb d_Ai_35 (by decide) ?_
  refine va_newa (atype := .int) (n := 36) (N' := 36) (a0 := (36, .inl fun _ => 0)) (ty := .int) hx hb (htb (.arrayClass .int) (gs_ww 88 (by decide +kernel) rfl)) rfl hK hP hD hS hA (fun _ => rfl) (by decide) (by decide +kernel) (by decide +kernel) (Nat.le_of_ble_eq_true rfl) (Nat.le_of_ble_eq_true rfl) d_Ai_37 (fun q9 c9 H hK hP hD hS => ?_)
  have hP : va_P D gs_CL [(h0, .inr (2, [.ref q5, .ref q6, .ref q7, .ref q8, .null, .null])), (q5, .inl (c5, 18, .inr (.inl fun _ => 0))), (q6, .inl (c6, 18, .inr (.inl fun _ => 0))), (q7, .inl (c7, 3, .inl fun _ => 0)), (q8, .inl (c8, 3, .inl fun _ => 0)), (q9, .inl (c9, 36, .inl fun _ => 0))] H := hP
  have hD : va_D A [(h0, .inr (2, [.ref q5, .ref q6, .ref q7, .ref q8, .null, .null])), (q5, .inl (c5, 18, .inr (.inl fun _ => 0))), (q6, .inl (c6, 18, .inr (.inl fun _ => 0))), (q7, .inl (c7, 3, .inl fun _ => 0)), (q8, .inl (c8, 3, .inl fun _ => 0)), (q9, .inl (c9, 36, .inl fun _ => 0))] := hD
  have hK : va_K D gs_CL [(c5, .long), (c6, .long), (c7, .int), (c8, .int), (c9, .int)] s := hK
  refine va_putF (D := D) (ci := 2) (v := .ref q9) (ty := .array .int) (C := "GrossSettlement$Accounts") (T := gs_T2) (N := 6) hx hb htb (gs_cls_ok (ci := 2) rfl).1 (gs_tyf 2) (gs_cls_ok (ci := 2) rfl).2.1 (gs_cls_ok (ci := 2) rfl).2.2.2 hown hK hP hD hS 0 rfl rfl 4 (by decide) (htb (.fieldLink "GrossSettlement$Accounts" 25 "GrossSettlement$Accounts" "limits" "[I") (gs_ww 70 (by decide +kernel) rfl)) (fun _ h9 => h9) rfl hin rfl (by decide +kernel) rfl rfl (Nat.le_of_ble_eq_true rfl) d_Ai_39 (fun H locs hP hD hS => ?_)
  have hP : va_P D gs_CL [(h0, .inr (2, [.ref q5, .ref q6, .ref q7, .ref q8, .ref q9, .null])), (q5, .inl (c5, 18, .inr (.inl fun _ => 0))), (q6, .inl (c6, 18, .inr (.inl fun _ => 0))), (q7, .inl (c7, 3, .inl fun _ => 0)), (q8, .inl (c8, 3, .inl fun _ => 0)), (q9, .inl (c9, 36, .inl fun _ => 0))] H := hP
  have hD : va_D A [(h0, .inr (2, [.ref q5, .ref q6, .ref q7, .ref q8, .ref q9, .null])), (q5, .inl (c5, 18, .inr (.inl fun _ => 0))), (q6, .inl (c6, 18, .inr (.inl fun _ => 0))), (q7, .inl (c7, 3, .inl fun _ => 0)), (q8, .inl (c8, 3, .inl fun _ => 0)), (q9, .inl (c9, 36, .inl fun _ => 0))] := hD
  refine lv_aload_n hx hb d_Ai_42 rfl (lv_at hl 0 rfl) ?_
  refine lv_bipush (v := 36) hx hb d_Ai_43 (by decide) ?_
  refine va_newa (atype := .long) (n := 36) (N' := 36) (a0 := (36, .inr (.inl fun _ => 0))) (ty := .long) hx hb (htb (.arrayClass .long) (gs_ww 87 (by decide +kernel) rfl)) rfl hK hP hD hS hA (fun _ => rfl) (by decide) (by decide +kernel) (by decide +kernel) (Nat.le_of_ble_eq_true rfl) (Nat.le_of_ble_eq_true rfl) d_Ai_45 (fun q10 c10 H hK hP hD hS => ?_)
  have hP : va_P D gs_CL [(h0, .inr (2, [.ref q5, .ref q6, .ref q7, .ref q8, .ref q9, .null])), (q5, .inl (c5, 18, .inr (.inl fun _ => 0))), (q6, .inl (c6, 18, .inr (.inl fun _ => 0))), (q7, .inl (c7, 3, .inl fun _ => 0)), (q8, .inl (c8, 3, .inl fun _ => 0)), (q9, .inl (c9, 36, .inl fun _ => 0)), (q10, .inl (c10, 36, .inr (.inl fun _ => 0)))] H := hP
  have hD : va_D A [(h0, .inr (2, [.ref q5, .ref q6, .ref q7, .ref q8, .ref q9, .null])), (q5, .inl (c5, 18, .inr (.inl fun _ => 0))), (q6, .inl (c6, 18, .inr (.inl fun _ => 0))), (q7, .inl (c7, 3, .inl fun _ => 0)), (q8, .inl (c8, 3, .inl fun _ => 0)), (q9, .inl (c9, 36, .inl fun _ => 0)), (q10, .inl (c10, 36, .inr (.inl fun _ => 0)))] := hD
  have hK : va_K D gs_CL [(c5, .long), (c6, .long), (c7, .int), (c8, .int), (c9, .int), (c10, .long)] s := hK
  refine va_putF (D := D) (ci := 2) (v := .ref q10) (ty := .array .long) (C := "GrossSettlement$Accounts") (T := gs_T2) (N := 6) hx hb htb (gs_cls_ok (ci := 2) rfl).1 (gs_tyf 2) (gs_cls_ok (ci := 2) rfl).2.1 (gs_cls_ok (ci := 2) rfl).2.2.2 hown hK hP hD hS 0 rfl rfl 5 (by decide) (htb (.fieldLink "GrossSettlement$Accounts" 28 "GrossSettlement$Accounts" "nets" "[J") (gs_ww 72 (by decide +kernel) rfl)) (fun _ h9 => h9) rfl hin rfl (by decide +kernel) rfl rfl (Nat.le_of_ble_eq_true rfl) d_Ai_47 (fun H locs hP hD hS => ?_)
  have hP : va_P D gs_CL [(h0, .inr (2, [.ref q5, .ref q6, .ref q7, .ref q8, .ref q9, .ref q10])), (q5, .inl (c5, 18, .inr (.inl fun _ => 0))), (q6, .inl (c6, 18, .inr (.inl fun _ => 0))), (q7, .inl (c7, 3, .inl fun _ => 0)), (q8, .inl (c8, 3, .inl fun _ => 0)), (q9, .inl (c9, 36, .inl fun _ => 0)), (q10, .inl (c10, 36, .inr (.inl fun _ => 0)))] H := hP
  have hD : va_D A [(h0, .inr (2, [.ref q5, .ref q6, .ref q7, .ref q8, .ref q9, .ref q10])), (q5, .inl (c5, 18, .inr (.inl fun _ => 0))), (q6, .inl (c6, 18, .inr (.inl fun _ => 0))), (q7, .inl (c7, 3, .inl fun _ => 0)), (q8, .inl (c8, 3, .inl fun _ => 0)), (q9, .inl (c9, 36, .inl fun _ => 0)), (q10, .inl (c10, 36, .inr (.inl fun _ => 0)))] := hD
  refine W.widen (k := 6) (n := 114) (by decide) (by decide) ?_
  have key : ∀ (n k : Nat) (ls : Array Slot) (H : Heap) (locs : List Loc), k + n = 36 → lv_has ls 2 [(1, .int (gs_n k)), (0, .ref h0)] → va_P D gs_CL [(h0, .inr (2, [.ref q5, .ref q6, .ref q7, .ref q8, .ref q9, .ref q10])), (q5, .inl (c5, 18, .inr (.inl fun _ => 0))), (q6, .inl (c6, 18, .inr (.inl fun _ => 0))), (q7, .inl (c7, 3, .inl fun _ => 0)), (q8, .inl (c8, 3, .inl fun _ => 0)), (q9, .inl (c9, 36, .inl (gs_lim k))), (q10, .inl (c10, 36, .inr (.inl fun _ => 0)))] H → va_D A [(h0, .inr (2, [.ref q5, .ref q6, .ref q7, .ref q8, .ref q9, .ref q10])), (q5, .inl (c5, 18, .inr (.inl fun _ => 0))), (q6, .inl (c6, 18, .inr (.inl fun _ => 0))), (q7, .inl (c7, 3, .inl fun _ => 0)), (q8, .inl (c8, 3, .inl fun _ => 0)), (q9, .inl (c9, 36, .inl (gs_lim k))), (q10, .inl (c10, 36, .inr (.inl fun _ => 0)))] → va_S A s.heap H locs → W p l e r_Ai s m args below meth c H locs 6 114 Q (F0 m 52 ls []) := by
    intro n
    induction n with
    | zero =>
      intro k ls H locs hk hl hP hD hS
      have e : k = 36 := by omega
      subst e
      refine lv_iload_n hx hb d_Ai_52 rfl (lv_at hl 0 rfl) ?_
      refine lv_bipush (v := gs_n 36) hx hb d_Ai_53 (by decide) ?_
      refine lv_icmp_ge (tgt := 71) hx hb d_Ai_55 (by decide) (fun _ => ?_) (fun h => absurd (by decide) h)
      exact fin ((fun t => match t with | 5 => q5 | 6 => q6 | 7 => q7 | 8 => q8 | 9 => q9 | _ => q10), (fun t => match t with | 5 => c5 | 6 => c6 | 7 => c7 | 8 => c8 | 9 => c9 | _ => c10)) 71 ls H locs d_Ai_71 hP hK hD hS
    | succ n ih =>
      intro k ls H locs hk hl hP hD hS
      refine lv_iload_n hx hb d_Ai_52 rfl (lv_at hl 0 rfl) ?_
      refine lv_bipush (v := gs_n 36) hx hb d_Ai_53 (by decide) ?_
      refine lv_icmp_ge (tgt := 71) hx hb d_Ai_55 (by decide) (fun h => absurd h (gs_nge (N := 36) (by omega) (by omega))) (fun _ => ?_)
      refine lv_aload_n hx hb d_Ai_58 rfl (lv_at hl 1 rfl) ?_
      refine va_get (D := D) (ci := 2) (v := .ref q9) (C := "GrossSettlement$Accounts") (T := gs_T2) (N := 6) hx hb htb (gs_cls_ok (ci := 2) rfl).1 hown hK hP 0 rfl rfl 4 (by decide) (htb (.fieldLink "GrossSettlement$Accounts" 25 "GrossSettlement$Accounts" "limits" "[I") (gs_ww 70 (by decide +kernel) rfl)) (fun _ h9 => h9) rfl d_Ai_59 ?_
      refine lv_iload_n hx hb d_Ai_62 rfl (lv_at hl 0 rfl) ?_
      refine lv_iconst (v := -1) hx hb d_Ai_63 (by decide) ?_
      refine va_iast hx hb hK hP hD hS 5 4 rfl rfl (gs_vin (by omega) (by omega)) d_Ai_64 (fun H locs hP hD hS => ?_)
      rw [gs_lim_s (k := k) (by omega)] at hP hD
      refine lv_iinc (k := 0) hx hb d_Ai_65 hl rfl (gs_nadd k) (by decide) rfl (fun ls hl => ?_)
      refine lv_goto (tgt := 52) hx hb d_Ai_68 (by decide) ?_
      exact ih (k + 1) ls H locs (by omega) hl hP hD hS
  refine lv_iconst (v := gs_n 0) hx hb d_Ai_50 rfl ?_
  refine lv_istore_n hx hb d_Ai_51 rfl hl (by decide) rfl (fun ls hl => ?_)
  exact key 36 0 ls _ _ (by omega) hl (by rw [gs_lim_0]; exact hP) (by rw [gs_lim_0]; exact hD) hS
def gs_ro (k : Nat) : Nat → Int64 := fun j => if 34 ≤ j ∧ j < k then -1 else 0
theorem gs_ro_0 : gs_ro 34 = fun _ => 0 := funext fun j => if_neg (by omega)
theorem gs_ro_s {k : Nat} (h0 : 34 ≤ k) (hk : k < 70) : vp_updL (gs_ro k) (gs_n k).toNatClampNeg (-1) = gs_ro (k + 1) := by
  rw [gs_n_c (by omega) (by omega), gs_tn]
  funext j
  show (if j = k then -1 else if 34 ≤ j ∧ j < k then -1 else 0) = (if 34 ≤ j ∧ j < k + 1 then -1 else 0)
  by_cases h1 : j = k
  · rw [if_pos h1, if_pos (by omega)]
  · rw [if_neg h1]
    by_cases h2 : 34 ≤ j ∧ j < k
    · rw [if_pos h2, if_pos (by omega)]
    · rw [if_neg h2, if_neg (by omega)]
def w_M (h : Nat) (u : gs_SA) : va_W := [(h, .inr (5, [.ref (u.1 21), .ref (u.1 22), .ref (u.1 23), .int 0, .ref (u.1 24), .ref (u.1 25)])), (u.1 21, .inl (u.2 21, 430, .inr (.inl (gs_ro 70)))), (u.1 22, .inl (u.2 22, 430, .inr (.inl (gs_ro 70)))), (u.1 23, .inl (u.2 23, 10, .inl fun _ => 0)), (u.1 24, .inl (u.2 24, 540, .inr (.inl fun _ => 0))), (u.1 25, .inl (u.2 25, 10, .inl fun _ => 0))]
def t_M (u : gs_SA) : List (ClassId × FieldType) := [(u.2 21, .long), (u.2 22, .long), (u.2 23, .int), (u.2 24, .long), (u.2 25, .int)]
set_option maxHeartbeats 4000000 in
theorem n_M (l : Launch) : gs_N l y_Mi w_Mi r_Mi 5 w_M t_M := by
  refine gs_N_of (cc := prog_7_method_1_code) (maxL := 2) (by decide) rfl rfl (by decide) ?_
  intro p e s m args below meth c D h0 ls Q hx hb hml hown hin htb hnw hao hK hP hD hl fin
  have hA : ∀ q : Nat, s.heap.size ≤ q → va_A [(h0, gs_bl 5)] s.heap.size q := fun q h => Or.inr h
  generalize va_A [(h0, gs_bl 5)] s.heap.size = A at hD hA fin
  have hS : va_S A s.heap s.heap [] := va_S.rf
  refine lv_aload_n hx hb d_Mi_0 rfl (lv_at hl 0 rfl) ?_
  refine W.objInit hx hb hown (htb (.methodLink "GrossSettlementModel" 1 objectInit) (gs_ww 454 (by decide +kernel) rfl)) (htb (.instanceMethod objectInit) (gs_ww 50 (by decide +kernel) rfl)) (htb (.code objectInit object_method_1_code 1 none) (gs_ww 51 (by decide +kernel) rfl)) rfl (by rw [hml]; exact hl.1) rfl d_Mi_1 (by decide) (Nat.le_of_ble_eq_true rfl) ?_
  refine W.eq (g2 := F0 m 4 ls []) rfl ?_
  have hP : va_P D gs_CL [(h0, .inr (5, [.null, .null, .null, .int 0, .null, .null]))] s.heap := hP
  have hD : va_D A [(h0, .inr (5, [.null, .null, .null, .int 0, .null, .null]))] := hD
  refine lv_aload_n hx hb d_Mi_4 rfl (lv_at hl 0 rfl) ?_
  refine lv_sipush (v := 430) hx hb d_Mi_5 (by decide) ?_
  refine va_newa (atype := .long) (n := 430) (N' := 430) (a0 := (430, .inr (.inl fun _ => 0))) (ty := .long) hx hb (htb (.arrayClass .long) (gs_ww 87 (by decide +kernel) rfl)) rfl hK hP hD hS hA (fun _ => rfl) (by decide) (by decide +kernel) (by decide +kernel) (Nat.le_of_ble_eq_true rfl) (Nat.le_of_ble_eq_true rfl) d_Mi_8 (fun q21 c21 H hK hP hD hS => ?_)
  have hP : va_P D gs_CL [(h0, .inr (5, [.null, .null, .null, .int 0, .null, .null])), (q21, .inl (c21, 430, .inr (.inl fun _ => 0)))] H := hP
  have hD : va_D A [(h0, .inr (5, [.null, .null, .null, .int 0, .null, .null])), (q21, .inl (c21, 430, .inr (.inl fun _ => 0)))] := hD
  have hK : va_K D gs_CL [(c21, .long)] s := hK
  refine va_putF (D := D) (ci := 5) (v := .ref q21) (ty := .array .long) (C := "GrossSettlementModel") (T := gs_T5) (N := 6) hx hb htb (gs_cls_ok (ci := 5) rfl).1 (gs_tyf 5) (gs_cls_ok (ci := 5) rfl).2.1 (gs_cls_ok (ci := 5) rfl).2.2.2 hown hK hP hD hS 0 rfl rfl 0 (by decide) (htb (.fieldLink "GrossSettlementModel" 7 "GrossSettlementModel" "row" "[J") (gs_ww 456 (by decide +kernel) rfl)) (fun _ h9 => h9) rfl hin rfl (by decide +kernel) rfl rfl (Nat.le_of_ble_eq_true rfl) d_Mi_10 (fun H locs hP hD hS => ?_)
  have hP : va_P D gs_CL [(h0, .inr (5, [.ref q21, .null, .null, .int 0, .null, .null])), (q21, .inl (c21, 430, .inr (.inl fun _ => 0)))] H := hP
  have hD : va_D A [(h0, .inr (5, [.ref q21, .null, .null, .int 0, .null, .null])), (q21, .inl (c21, 430, .inr (.inl fun _ => 0)))] := hD
  refine lv_aload_n hx hb d_Mi_13 rfl (lv_at hl 0 rfl) ?_
  refine lv_sipush (v := 430) hx hb d_Mi_14 (by decide) ?_
  refine va_newa (atype := .long) (n := 430) (N' := 430) (a0 := (430, .inr (.inl fun _ => 0))) (ty := .long) hx hb (htb (.arrayClass .long) (gs_ww 87 (by decide +kernel) rfl)) rfl hK hP hD hS hA (fun _ => rfl) (by decide) (by decide +kernel) (by decide +kernel) (Nat.le_of_ble_eq_true rfl) (Nat.le_of_ble_eq_true rfl) d_Mi_17 (fun q22 c22 H hK hP hD hS => ?_)
  have hP : va_P D gs_CL [(h0, .inr (5, [.ref q21, .null, .null, .int 0, .null, .null])), (q21, .inl (c21, 430, .inr (.inl fun _ => 0))), (q22, .inl (c22, 430, .inr (.inl fun _ => 0)))] H := hP
  have hD : va_D A [(h0, .inr (5, [.ref q21, .null, .null, .int 0, .null, .null])), (q21, .inl (c21, 430, .inr (.inl fun _ => 0))), (q22, .inl (c22, 430, .inr (.inl fun _ => 0)))] := hD
  have hK : va_K D gs_CL [(c21, .long), (c22, .long)] s := hK
  refine va_putF (D := D) (ci := 5) (v := .ref q22) (ty := .array .long) (C := "GrossSettlementModel") (T := gs_T5) (N := 6) hx hb htb (gs_cls_ok (ci := 5) rfl).1 (gs_tyf 5) (gs_cls_ok (ci := 5) rfl).2.1 (gs_cls_ok (ci := 5) rfl).2.2.2 hown hK hP hD hS 0 rfl rfl 1 (by decide) (htb (.fieldLink "GrossSettlementModel" 13 "GrossSettlementModel" "sure" "[J") (gs_ww 457 (by decide +kernel) rfl)) (fun _ h9 => h9) rfl hin rfl (by decide +kernel) rfl rfl (Nat.le_of_ble_eq_true rfl) d_Mi_19 (fun H locs hP hD hS => ?_)
  have hP : va_P D gs_CL [(h0, .inr (5, [.ref q21, .ref q22, .null, .int 0, .null, .null])), (q21, .inl (c21, 430, .inr (.inl fun _ => 0))), (q22, .inl (c22, 430, .inr (.inl fun _ => 0)))] H := hP
  have hD : va_D A [(h0, .inr (5, [.ref q21, .ref q22, .null, .int 0, .null, .null])), (q21, .inl (c21, 430, .inr (.inl fun _ => 0))), (q22, .inl (c22, 430, .inr (.inl fun _ => 0)))] := hD
  refine lv_aload_n hx hb d_Mi_22 rfl (lv_at hl 0 rfl) ?_
  refine lv_bipush (v := 10) hx hb d_Mi_23 (by decide) ?_
  refine va_newa (atype := .int) (n := 10) (N' := 10) (a0 := (10, .inl fun _ => 0)) (ty := .int) hx hb (htb (.arrayClass .int) (gs_ww 88 (by decide +kernel) rfl)) rfl hK hP hD hS hA (fun _ => rfl) (by decide) (by decide +kernel) (by decide +kernel) (Nat.le_of_ble_eq_true rfl) (Nat.le_of_ble_eq_true rfl) d_Mi_25 (fun q23 c23 H hK hP hD hS => ?_)
  have hP : va_P D gs_CL [(h0, .inr (5, [.ref q21, .ref q22, .null, .int 0, .null, .null])), (q21, .inl (c21, 430, .inr (.inl fun _ => 0))), (q22, .inl (c22, 430, .inr (.inl fun _ => 0))), (q23, .inl (c23, 10, .inl fun _ => 0))] H := hP
  have hD : va_D A [(h0, .inr (5, [.ref q21, .ref q22, .null, .int 0, .null, .null])), (q21, .inl (c21, 430, .inr (.inl fun _ => 0))), (q22, .inl (c22, 430, .inr (.inl fun _ => 0))), (q23, .inl (c23, 10, .inl fun _ => 0))] := hD
  have hK : va_K D gs_CL [(c21, .long), (c22, .long), (c23, .int)] s := hK
  refine va_putF (D := D) (ci := 5) (v := .ref q23) (ty := .array .int) (C := "GrossSettlementModel") (T := gs_T5) (N := 6) hx hb htb (gs_cls_ok (ci := 5) rfl).1 (gs_tyf 5) (gs_cls_ok (ci := 5) rfl).2.1 (gs_cls_ok (ci := 5) rfl).2.2.2 hown hK hP hD hS 0 rfl rfl 2 (by decide) (htb (.fieldLink "GrossSettlementModel" 16 "GrossSettlementModel" "queue" "[I") (gs_ww 458 (by decide +kernel) rfl)) (fun _ h9 => h9) rfl hin rfl (by decide +kernel) rfl rfl (Nat.le_of_ble_eq_true rfl) d_Mi_27 (fun H locs hP hD hS => ?_)
  have hP : va_P D gs_CL [(h0, .inr (5, [.ref q21, .ref q22, .ref q23, .int 0, .null, .null])), (q21, .inl (c21, 430, .inr (.inl fun _ => 0))), (q22, .inl (c22, 430, .inr (.inl fun _ => 0))), (q23, .inl (c23, 10, .inl fun _ => 0))] H := hP
  have hD : va_D A [(h0, .inr (5, [.ref q21, .ref q22, .ref q23, .int 0, .null, .null])), (q21, .inl (c21, 430, .inr (.inl fun _ => 0))), (q22, .inl (c22, 430, .inr (.inl fun _ => 0))), (q23, .inl (c23, 10, .inl fun _ => 0))] := hD
  refine lv_aload_n hx hb d_Mi_30 rfl (lv_at hl 0 rfl) ?_
  refine lv_sipush (v := 540) hx hb d_Mi_31 (by decide) ?_
  refine va_newa (atype := .long) (n := 540) (N' := 540) (a0 := (540, .inr (.inl fun _ => 0))) (ty := .long) hx hb (htb (.arrayClass .long) (gs_ww 87 (by decide +kernel) rfl)) rfl hK hP hD hS hA (fun _ => rfl) (by decide) (by decide +kernel) (by decide +kernel) (Nat.le_of_ble_eq_true rfl) (Nat.le_of_ble_eq_true rfl) d_Mi_34 (fun q24 c24 H hK hP hD hS => ?_)
  have hP : va_P D gs_CL [(h0, .inr (5, [.ref q21, .ref q22, .ref q23, .int 0, .null, .null])), (q21, .inl (c21, 430, .inr (.inl fun _ => 0))), (q22, .inl (c22, 430, .inr (.inl fun _ => 0))), (q23, .inl (c23, 10, .inl fun _ => 0)), (q24, .inl (c24, 540, .inr (.inl fun _ => 0)))] H := hP
  have hD : va_D A [(h0, .inr (5, [.ref q21, .ref q22, .ref q23, .int 0, .null, .null])), (q21, .inl (c21, 430, .inr (.inl fun _ => 0))), (q22, .inl (c22, 430, .inr (.inl fun _ => 0))), (q23, .inl (c23, 10, .inl fun _ => 0)), (q24, .inl (c24, 540, .inr (.inl fun _ => 0)))] := hD
  have hK : va_K D gs_CL [(c21, .long), (c22, .long), (c23, .int), (c24, .long)] s := hK
  refine va_putF (D := D) (ci := 5) (v := .ref q24) (ty := .array .long) (C := "GrossSettlementModel") (T := gs_T5) (N := 6) hx hb htb (gs_cls_ok (ci := 5) rfl).1 (gs_tyf 5) (gs_cls_ok (ci := 5) rfl).2.1 (gs_cls_ok (ci := 5) rfl).2.2.2 hown hK hP hD hS 0 rfl rfl 4 (by decide) (htb (.fieldLink "GrossSettlementModel" 20 "GrossSettlementModel" "moves" "[J") (gs_ww 460 (by decide +kernel) rfl)) (fun _ h9 => h9) rfl hin rfl (by decide +kernel) rfl rfl (Nat.le_of_ble_eq_true rfl) d_Mi_36 (fun H locs hP hD hS => ?_)
  have hP : va_P D gs_CL [(h0, .inr (5, [.ref q21, .ref q22, .ref q23, .int 0, .ref q24, .null])), (q21, .inl (c21, 430, .inr (.inl fun _ => 0))), (q22, .inl (c22, 430, .inr (.inl fun _ => 0))), (q23, .inl (c23, 10, .inl fun _ => 0)), (q24, .inl (c24, 540, .inr (.inl fun _ => 0)))] H := hP
  have hD : va_D A [(h0, .inr (5, [.ref q21, .ref q22, .ref q23, .int 0, .ref q24, .null])), (q21, .inl (c21, 430, .inr (.inl fun _ => 0))), (q22, .inl (c22, 430, .inr (.inl fun _ => 0))), (q23, .inl (c23, 10, .inl fun _ => 0)), (q24, .inl (c24, 540, .inr (.inl fun _ => 0)))] := hD
  refine lv_aload_n hx hb d_Mi_39 rfl (lv_at hl 0 rfl) ?_
  refine lv_bipush (v := 10) hx hb d_Mi_40 (by decide) ?_
  refine va_newa (atype := .int) (n := 10) (N' := 10) (a0 := (10, .inl fun _ => 0)) (ty := .int) hx hb (htb (.arrayClass .int) (gs_ww 88 (by decide +kernel) rfl)) rfl hK hP hD hS hA (fun _ => rfl) (by decide) (by decide +kernel) (by decide +kernel) (Nat.le_of_ble_eq_true rfl) (Nat.le_of_ble_eq_true rfl) d_Mi_42 (fun q25 c25 H hK hP hD hS => ?_)
  have hP : va_P D gs_CL [(h0, .inr (5, [.ref q21, .ref q22, .ref q23, .int 0, .ref q24, .null])), (q21, .inl (c21, 430, .inr (.inl fun _ => 0))), (q22, .inl (c22, 430, .inr (.inl fun _ => 0))), (q23, .inl (c23, 10, .inl fun _ => 0)), (q24, .inl (c24, 540, .inr (.inl fun _ => 0))), (q25, .inl (c25, 10, .inl fun _ => 0))] H := hP
  have hD : va_D A [(h0, .inr (5, [.ref q21, .ref q22, .ref q23, .int 0, .ref q24, .null])), (q21, .inl (c21, 430, .inr (.inl fun _ => 0))), (q22, .inl (c22, 430, .inr (.inl fun _ => 0))), (q23, .inl (c23, 10, .inl fun _ => 0)), (q24, .inl (c24, 540, .inr (.inl fun _ => 0))), (q25, .inl (c25, 10, .inl fun _ => 0))] := hD
  have hK : va_K D gs_CL [(c21, .long), (c22, .long), (c23, .int), (c24, .long), (c25, .int)] s := hK
  refine va_putF (D := D) (ci := 5) (v := .ref q25) (ty := .array .int) (C := "GrossSettlementModel") (T := gs_T5) (N := 6) hx hb htb (gs_cls_ok (ci := 5) rfl).1 (gs_tyf 5) (gs_cls_ok (ci := 5) rfl).2.1 (gs_cls_ok (ci := 5) rfl).2.2.2 hown hK hP hD hS 0 rfl rfl 5 (by decide) (htb (.fieldLink "GrossSettlementModel" 23 "GrossSettlementModel" "after" "[I") (gs_ww 461 (by decide +kernel) rfl)) (fun _ h9 => h9) rfl hin rfl (by decide +kernel) rfl rfl (Nat.le_of_ble_eq_true rfl) d_Mi_44 (fun H locs hP hD hS => ?_)
  have hP : va_P D gs_CL [(h0, .inr (5, [.ref q21, .ref q22, .ref q23, .int 0, .ref q24, .ref q25])), (q21, .inl (c21, 430, .inr (.inl fun _ => 0))), (q22, .inl (c22, 430, .inr (.inl fun _ => 0))), (q23, .inl (c23, 10, .inl fun _ => 0)), (q24, .inl (c24, 540, .inr (.inl fun _ => 0))), (q25, .inl (c25, 10, .inl fun _ => 0))] H := hP
  have hD : va_D A [(h0, .inr (5, [.ref q21, .ref q22, .ref q23, .int 0, .ref q24, .ref q25])), (q21, .inl (c21, 430, .inr (.inl fun _ => 0))), (q22, .inl (c22, 430, .inr (.inl fun _ => 0))), (q23, .inl (c23, 10, .inl fun _ => 0)), (q24, .inl (c24, 540, .inr (.inl fun _ => 0))), (q25, .inl (c25, 10, .inl fun _ => 0))] := hD
  refine W.widen (k := 5) (n := 1420) (by decide) (by decide) ?_
  have key : ∀ (n k : Nat) (ls : Array Slot) (H : Heap) (locs : List Loc), k + n = 70 → 34 ≤ k → lv_has ls 2 [(1, .int (gs_n k)), (0, .ref h0)] → va_P D gs_CL [(h0, .inr (5, [.ref q21, .ref q22, .ref q23, .int 0, .ref q24, .ref q25])), (q21, .inl (c21, 430, .inr (.inl (gs_ro k)))), (q22, .inl (c22, 430, .inr (.inl (gs_ro k)))), (q23, .inl (c23, 10, .inl fun _ => 0)), (q24, .inl (c24, 540, .inr (.inl fun _ => 0))), (q25, .inl (c25, 10, .inl fun _ => 0))] H → va_D A [(h0, .inr (5, [.ref q21, .ref q22, .ref q23, .int 0, .ref q24, .ref q25])), (q21, .inl (c21, 430, .inr (.inl (gs_ro k)))), (q22, .inl (c22, 430, .inr (.inl (gs_ro k)))), (q23, .inl (c23, 10, .inl fun _ => 0)), (q24, .inl (c24, 540, .inr (.inl fun _ => 0))), (q25, .inl (c25, 10, .inl fun _ => 0))] → va_S A s.heap H locs → W p l e r_Mi s m args below meth c H locs 5 1420 Q (F0 m 50 ls []) := by
    intro n
    induction n with
    | zero =>
      intro k ls H locs hk hk0 hl hP hD hS
      have e : k = 70 := by omega
      subst e
      refine lv_iload_n hx hb d_Mi_50 rfl (lv_at hl 0 rfl) ?_
      refine lv_bipush (v := gs_n 70) hx hb d_Mi_51 (by decide) ?_
      refine lv_icmp_ge (tgt := 80) hx hb d_Mi_53 (by decide) (fun _ => ?_) (fun h => absurd (by decide) h)
      exact fin ((fun t => match t with | 21 => q21 | 22 => q22 | 23 => q23 | 24 => q24 | _ => q25), (fun t => match t with | 21 => c21 | 22 => c22 | 23 => c23 | 24 => c24 | _ => c25)) 80 ls H locs d_Mi_80 hP hK hD hS
    | succ n ih =>
      intro k ls H locs hk hk0 hl hP hD hS
      refine lv_iload_n hx hb d_Mi_50 rfl (lv_at hl 0 rfl) ?_
      refine lv_bipush (v := gs_n 70) hx hb d_Mi_51 (by decide) ?_
      refine lv_icmp_ge (tgt := 80) hx hb d_Mi_53 (by decide) (fun h => absurd h (gs_nge (N := 70) (by omega) (by omega))) (fun _ => ?_)
      refine lv_aload_n hx hb d_Mi_56 rfl (lv_at hl 1 rfl) ?_
      refine va_get (D := D) (ci := 5) (v := .ref q21) (C := "GrossSettlementModel") (T := gs_T5) (N := 6) hx hb htb (gs_cls_ok (ci := 5) rfl).1 hown hK hP 0 rfl rfl 0 (by decide) (htb (.fieldLink "GrossSettlementModel" 7 "GrossSettlementModel" "row" "[J") (gs_ww 456 (by decide +kernel) rfl)) (fun _ h9 => h9) rfl d_Mi_57 ?_
      refine lv_iload_n hx hb d_Mi_60 rfl (lv_at hl 0 rfl) ?_
      refine lv_ldc2 (v := -1) hx hb hown (htb (.constantLong "GrossSettlementModel" 26 (-1)) (gs_ww 455 (by decide +kernel) rfl)) d_Mi_61 ?_
      refine va_last hx hb hK hP hD hS 1 0 rfl rfl (gs_vin (by omega) (by omega)) d_Mi_64 (fun H locs hP hD hS => ?_)
      rw [gs_ro_s hk0 (by omega)] at hP hD
      have hP : va_P D gs_CL [(h0, .inr (5, [.ref q21, .ref q22, .ref q23, .int 0, .ref q24, .ref q25])), (q21, .inl (c21, 430, .inr (.inl (gs_ro (k + 1))))), (q22, .inl (c22, 430, .inr (.inl (gs_ro k)))), (q23, .inl (c23, 10, .inl fun _ => 0)), (q24, .inl (c24, 540, .inr (.inl fun _ => 0))), (q25, .inl (c25, 10, .inl fun _ => 0))] H := hP
      have hD : va_D A [(h0, .inr (5, [.ref q21, .ref q22, .ref q23, .int 0, .ref q24, .ref q25])), (q21, .inl (c21, 430, .inr (.inl (gs_ro (k + 1))))), (q22, .inl (c22, 430, .inr (.inl (gs_ro k)))), (q23, .inl (c23, 10, .inl fun _ => 0)), (q24, .inl (c24, 540, .inr (.inl fun _ => 0))), (q25, .inl (c25, 10, .inl fun _ => 0))] := hD
      refine lv_aload_n hx hb d_Mi_65 rfl (lv_at hl 1 rfl) ?_
      refine va_get (D := D) (ci := 5) (v := .ref q22) (C := "GrossSettlementModel") (T := gs_T5) (N := 6) hx hb htb (gs_cls_ok (ci := 5) rfl).1 hown hK hP 0 rfl rfl 1 (by decide) (htb (.fieldLink "GrossSettlementModel" 13 "GrossSettlementModel" "sure" "[J") (gs_ww 457 (by decide +kernel) rfl)) (fun _ h9 => h9) rfl d_Mi_66 ?_
      refine lv_iload_n hx hb d_Mi_69 rfl (lv_at hl 0 rfl) ?_
      refine lv_ldc2 (v := -1) hx hb hown (htb (.constantLong "GrossSettlementModel" 26 (-1)) (gs_ww 455 (by decide +kernel) rfl)) d_Mi_70 ?_
      refine va_last hx hb hK hP hD hS 2 1 rfl rfl (gs_vin (by omega) (by omega)) d_Mi_73 (fun H locs hP hD hS => ?_)
      rw [gs_ro_s hk0 (by omega)] at hP hD
      have hP : va_P D gs_CL [(h0, .inr (5, [.ref q21, .ref q22, .ref q23, .int 0, .ref q24, .ref q25])), (q21, .inl (c21, 430, .inr (.inl (gs_ro (k + 1))))), (q22, .inl (c22, 430, .inr (.inl (gs_ro (k + 1))))), (q23, .inl (c23, 10, .inl fun _ => 0)), (q24, .inl (c24, 540, .inr (.inl fun _ => 0))), (q25, .inl (c25, 10, .inl fun _ => 0))] H := hP
      have hD : va_D A [(h0, .inr (5, [.ref q21, .ref q22, .ref q23, .int 0, .ref q24, .ref q25])), (q21, .inl (c21, 430, .inr (.inl (gs_ro (k + 1))))), (q22, .inl (c22, 430, .inr (.inl (gs_ro (k + 1))))), (q23, .inl (c23, 10, .inl fun _ => 0)), (q24, .inl (c24, 540, .inr (.inl fun _ => 0))), (q25, .inl (c25, 10, .inl fun _ => 0))] := hD
      refine lv_iinc (k := 0) hx hb d_Mi_74 hl rfl (gs_nadd k) (by decide) rfl (fun ls hl => ?_)
      refine lv_goto (tgt := 50) hx hb d_Mi_77 (by decide) ?_
      exact ih (k + 1) ls H locs (by omega) (by omega) hl hP hD hS
  refine lv_bipush (v := gs_n 34) hx hb d_Mi_47 (by decide) ?_
  refine lv_istore_n hx hb d_Mi_49 rfl hl (by decide) rfl (fun ls hl => ?_)
  exact key 36 34 ls _ _ (by omega) (by omega) hl (by rw [gs_ro_0]; exact hP) (by rw [gs_ro_0]; exact hD) hS
