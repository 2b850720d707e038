/-! The model's row holds S. -/
def gs_ms (S : gs_S) (i c : Nat) : Int := match c with
  | 0 => if 0 < S.1 (10 + i) 4 then S.1 (10 + i) 1 else -1
  | 1 => if 0 < S.1 (10 + i) 4 then S.1 (10 + i) 0 else -1
  | 2 => if 0 < S.1 (10 + i) 3 then S.1 (10 + i) 0 else -1
  | 3 => if 0 < S.1 (10 + i) 3 then S.1 (10 + i) 1 else -1
  | 4 => S.1 (10 + i) 2
  | 5 => S.1 (10 + i) 4
  | 6 => S.1 (10 + i) 3
  | _ => S.1 (10 + i) 5 + 4 * S.1 (10 + i) 6
def gs_mr (S : gs_S) (n : Nat) : Int := if n < 18 then S.1 0 n else if n < 30 then S.1 1 (3 * ((n - 18) / 2) + 1 + (n - 18) % 2) else if n < 32 then S.1 2 (n - 29) else if n < 34 then S.1 3 (n - 31) else if n < 70 then S.1 4 (n - 34) else if n < 106 then S.1 5 (n - 70) else if n = 106 then S.1 6 0 else if n = 107 then S.1 6 1 else gs_ms S ((n - 110) / 8) ((n - 110) % 8)
def gs_Mo (t : Nat) (d : gs_D) (S : gs_S) : Prop := ∀ n : Nat, (n : Int) < 110 + 8 * S.1 6 1 → n ≠ 108 → n ≠ 109 → d.2 t 0 n = gs_m (gs_mr S n)
section MM
variable {d : gs_D} {S : gs_S} {B : Int}
theorem gs_mr_h {n : Nat} (h : n < 18) : gs_mr S n = S.1 0 n := if_pos h
theorem gs_mr_p {n : Nat} (h : 18 ≤ n) (h2 : n < 30) : gs_mr S n = S.1 1 (3 * ((n - 18) / 2) + 1 + (n - 18) % 2) := by
  unfold gs_mr
  rw [if_neg (by omega), if_pos h2]
theorem gs_mr_r {n : Nat} (h : 30 ≤ n) (h2 : n < 32) : gs_mr S n = S.1 2 (n - 29) := by
  unfold gs_mr
  rw [if_neg (by omega), if_neg (by omega), if_pos h2]
theorem gs_mr_c {n : Nat} (h : 32 ≤ n) (h2 : n < 34) : gs_mr S n = S.1 3 (n - 31) := by
  unfold gs_mr
  rw [if_neg (by omega), if_neg (by omega), if_neg (by omega), if_pos h2]
theorem gs_mr_l {n : Nat} (h : 34 ≤ n) (h2 : n < 70) : gs_mr S n = S.1 4 (n - 34) := by
  unfold gs_mr
  rw [if_neg (by omega), if_neg (by omega), if_neg (by omega), if_neg (by omega), if_pos h2]
theorem gs_mr_n {n : Nat} (h : 70 ≤ n) (h2 : n < 106) : gs_mr S n = S.1 5 (n - 70) := by
  unfold gs_mr
  rw [if_neg (by omega), if_neg (by omega), if_neg (by omega), if_neg (by omega), if_neg (by omega), if_pos h2]
theorem gs_mr_d : gs_mr S 106 = S.1 6 0 := by
  unfold gs_mr
  rw [if_neg (by omega), if_neg (by omega), if_neg (by omega), if_neg (by omega), if_neg (by omega), if_neg (by omega), if_pos rfl]
theorem gs_mr_k : gs_mr S 107 = S.1 6 1 := by
  unfold gs_mr
  rw [if_neg (by omega), if_neg (by omega), if_neg (by omega), if_neg (by omega), if_neg (by omega), if_neg (by omega), if_neg (by omega), if_pos rfl]
theorem gs_mr_i {n : Nat} (h : 110 ≤ n) : gs_mr S n = gs_ms S ((n - 110) / 8) ((n - 110) % 8) := by
  unfold gs_mr
  rw [if_neg (by omega), if_neg (by omega), if_neg (by omega), if_neg (by omega), if_neg (by omega), if_neg (by omega), if_neg (by omega), if_neg (by omega)]
theorem gs_Mo.i {t : Nat} (hM : gs_Mo t d S) (i : Nat) (hi : (i : Int) < S.1 6 1) (c : Int) (h0 : 0 ≤ c) (h1 : c < 8) : d.2 t 0 (110 + 8 * (i : Int) + c).toNat = gs_m (gs_ms S i c.toNat) := by
  rw [hM _ (by omega) (by omega) (by omega), gs_mr_i (by omega), show ((110 + 8 * (i : Int) + c).toNat - 110) / 8 = i by omega, show ((110 + 8 * (i : Int) + c).toNat - 110) % 8 = c.toNat by omega]
theorem gs_ms_4 {i : Nat} : gs_ms S i 4 = S.1 (10 + i) 2 := rfl
theorem gs_ms_5 {i : Nat} : gs_ms S i 5 = S.1 (10 + i) 4 := rfl
theorem gs_ms_6 {i : Nat} : gs_ms S i 6 = S.1 (10 + i) 3 := rfl
theorem gs_ms_7 {i : Nat} : gs_ms S i 7 = S.1 (10 + i) 5 + 4 * S.1 (10 + i) 6 := rfl
theorem gs_ms_0t {i : Nat} (h : 0 < S.1 (10 + i) 4) : gs_ms S i 0 = S.1 (10 + i) 1 := if_pos h
theorem gs_ms_0f {i : Nat} (h : S.1 (10 + i) 4 ≤ 0) : gs_ms S i 0 = -1 := if_neg (by omega)
theorem gs_ms_1t {i : Nat} (h : 0 < S.1 (10 + i) 4) : gs_ms S i 1 = S.1 (10 + i) 0 := if_pos h
theorem gs_ms_1f {i : Nat} (h : S.1 (10 + i) 4 ≤ 0) : gs_ms S i 1 = -1 := if_neg (by omega)
theorem gs_ms_2t {i : Nat} (h : 0 < S.1 (10 + i) 3) : gs_ms S i 2 = S.1 (10 + i) 0 := if_pos h
theorem gs_ms_2f {i : Nat} (h : S.1 (10 + i) 3 ≤ 0) : gs_ms S i 2 = -1 := if_neg (by omega)
theorem gs_ms_3t {i : Nat} (h : 0 < S.1 (10 + i) 3) : gs_ms S i 3 = S.1 (10 + i) 1 := if_pos h
theorem gs_ms_3f {i : Nat} (h : S.1 (10 + i) 3 ≤ 0) : gs_ms S i 3 = -1 := if_neg (by omega)
theorem s_M_day (hM : gs_Mo 21 d S) (hw : gs_wb B S) : f_M_day [gs_r 20 0] d = some (some (gs_i (gs_n (S.1 6 0))), d) := by
  have h1 := hM 106 (by have := hw.2.2.1.2.1; omega) (by omega) (by omega)
  rw [gs_mr_d] at h1
  simp (disch := omega) only [e_M_day, k_M_day_0, k_M_day_7, h1, ↓reduceIte, Int.reduceAdd, Int.reduceSub, Int.reduceMul, Int.reduceToNat, gs_00, gs_ofi, gs_k0_m, gs_k1_m, gs_n8, gs_n16, gs_n_add, gs_n_sub, gs_n_mul, gs_n_neg, gs_m_add, gs_m_sub, gs_m_mul, gs_m_neg, gs_n_l, gs_m_n, gs_n_c, gs_eq_t, gs_eq_f1, gs_eq_f2, gs_lt_t, gs_lt_f, gs_le_t, gs_le_f, gs_cmp_lt, gs_cmp_eq, gs_cmp_gt, gs_ix_n, gs_nz_n, gs_nzl_g, gs_n_div, gs_af1, gs_af0, gs_ck0, gs_ck1, gs_ck2t, gs_ck2f, gs_ck3, gs_ck4, gs_zd_t, gs_zd_f, gs_zt_t, gs_zt_f, gs_nar1, gs_nar0, gs_tn, if_true, if_false, not_true_eq_false, not_false_eq_true]
theorem s_M_count (hM : gs_Mo 21 d S) (hw : gs_wb B S) : f_M_count [gs_r 20 0] d = some (some (gs_i (gs_n (S.1 6 1))), d) := by
  have h1 := hM 107 (by have := hw.2.2.1.2.1; omega) (by omega) (by omega)
  rw [gs_mr_k] at h1
  simp (disch := omega) only [e_M_count, k_M_count_0, k_M_count_7, h1, ↓reduceIte, Int.reduceAdd, Int.reduceSub, Int.reduceMul, Int.reduceToNat, gs_00, gs_ofi, gs_k0_m, gs_k1_m, gs_n8, gs_n16, gs_n_add, gs_n_sub, gs_n_mul, gs_n_neg, gs_m_add, gs_m_sub, gs_m_mul, gs_m_neg, gs_n_l, gs_m_n, gs_n_c, gs_eq_t, gs_eq_f1, gs_eq_f2, gs_lt_t, gs_lt_f, gs_le_t, gs_le_f, gs_cmp_lt, gs_cmp_eq, gs_cmp_gt, gs_ix_n, gs_nz_n, gs_nzl_g, gs_n_div, gs_af1, gs_af0, gs_ck0, gs_ck1, gs_ck2t, gs_ck2f, gs_ck3, gs_ck4, gs_zd_t, gs_zd_f, gs_zt_t, gs_zt_f, gs_nar1, gs_nar0, gs_tn, if_true, if_false, not_true_eq_false, not_false_eq_true]
theorem s_M_of (hM : gs_Mo 21 d S) (hw : gs_wb B S) {i : Nat} (hi : (i : Int) < S.1 6 1) {c : Int} (h0 : 0 ≤ c) (h1 : c < 8) : f_M_of [gs_r 20 0, gs_i (gs_n i), gs_i (gs_n c)] d = some (some (gs_i (gs_n (gs_ms S i c.toNat))), d) := by
  have h2 := hM.i i hi c h0 h1
  have h3 := hw.2.2.1.2.1
  simp (disch := omega) only [e_M_of, k_M_of_0, k_M_of_14, h2, ↓reduceIte, Int.reduceAdd, Int.reduceSub, Int.reduceMul, Int.reduceToNat, gs_00, gs_ofi, gs_k0_m, gs_k1_m, gs_n8, gs_n16, gs_n_add, gs_n_sub, gs_n_mul, gs_n_neg, gs_m_add, gs_m_sub, gs_m_mul, gs_m_neg, gs_n_l, gs_m_n, gs_n_c, gs_eq_t, gs_eq_f1, gs_eq_f2, gs_lt_t, gs_lt_f, gs_le_t, gs_le_f, gs_cmp_lt, gs_cmp_eq, gs_cmp_gt, gs_ix_n, gs_nz_n, gs_nzl_g, gs_n_div, gs_af1, gs_af0, gs_ck0, gs_ck1, gs_ck2t, gs_ck2f, gs_ck3, gs_ck4, gs_zd_t, gs_zd_f, gs_zt_t, gs_zt_f, gs_nar1, gs_nar0, gs_tn, if_true, if_false, not_true_eq_false, not_false_eq_true]
theorem s_M_priority (hM : gs_Mo 21 d S) (hw : gs_wb B S) {i : Nat} (hi : (i : Int) < S.1 6 1) : f_M_priority [gs_r 20 0, gs_i (gs_n i)] d = some (some (gs_i (gs_n (S.1 (10 + i) 5))), d) := by
  have h2 := s_M_of hM hw hi (c := 7) (by omega) (by omega)
  have h3 := (hw.2.2.2 i hi).2.2
  have h4 : S.1 (10 + i) 5 + 4 * S.1 (10 + i) 6 - (S.1 (10 + i) 5 + 4 * S.1 (10 + i) 6) / 4 * 4 = S.1 (10 + i) 5 := by omega
  simp (disch := omega) only [e_M_priority, k_M_priority_0, k_M_priority_7, k_M_priority_9, h2, gs_ms_7, h4, ↓reduceIte, Int.reduceAdd, Int.reduceSub, Int.reduceMul, Int.reduceToNat, gs_00, gs_ofi, gs_k0_m, gs_k1_m, gs_n8, gs_n16, gs_n_add, gs_n_sub, gs_n_mul, gs_n_neg, gs_m_add, gs_m_sub, gs_m_mul, gs_m_neg, gs_n_l, gs_m_n, gs_n_c, gs_eq_t, gs_eq_f1, gs_eq_f2, gs_lt_t, gs_lt_f, gs_le_t, gs_le_f, gs_cmp_lt, gs_cmp_eq, gs_cmp_gt, gs_ix_n, gs_nz_n, gs_nzl_g, gs_n_div, gs_af1, gs_af0, gs_ck0, gs_ck1, gs_ck2t, gs_ck2f, gs_ck3, gs_ck4, gs_zd_t, gs_zd_f, gs_zt_t, gs_zt_f, gs_nar1, gs_nar0, gs_tn, if_true, if_false, not_true_eq_false, not_false_eq_true]
theorem s_M_fate (hM : gs_Mo 21 d S) (hw : gs_wb B S) {i : Nat} (hi : (i : Int) < S.1 6 1) : f_M_fate [gs_r 20 0, gs_i (gs_n i)] d = some (some (gs_i (gs_n (S.1 (10 + i) 6))), d) := by
  have h2 := s_M_of hM hw hi (c := 7) (by omega) (by omega)
  have h3 := (hw.2.2.2 i hi).2.2
  have h4 : (S.1 (10 + i) 5 + 4 * S.1 (10 + i) 6) / 4 = S.1 (10 + i) 6 := by omega
  simp (disch := omega) only [e_M_fate, k_M_fate_0, k_M_fate_7, k_M_fate_9, h2, gs_ms_7, h4, ↓reduceIte, Int.reduceAdd, Int.reduceSub, Int.reduceMul, Int.reduceToNat, gs_00, gs_ofi, gs_k0_m, gs_k1_m, gs_n8, gs_n16, gs_n_add, gs_n_sub, gs_n_mul, gs_n_neg, gs_m_add, gs_m_sub, gs_m_mul, gs_m_neg, gs_n_l, gs_m_n, gs_n_c, gs_eq_t, gs_eq_f1, gs_eq_f2, gs_lt_t, gs_lt_f, gs_le_t, gs_le_f, gs_cmp_lt, gs_cmp_eq, gs_cmp_gt, gs_ix_n, gs_nz_n, gs_nzl_g, gs_n_div, gs_af1, gs_af0, gs_ck0, gs_ck1, gs_ck2t, gs_ck2f, gs_ck3, gs_ck4, gs_zd_t, gs_zd_f, gs_zt_t, gs_zt_f, gs_nar1, gs_nar0, gs_tn, if_true, if_false, not_true_eq_false, not_false_eq_true]
theorem s_M_worth (hM : gs_Mo 21 d S) (hw : gs_wb B S) {p s : Int} (h0 : 0 ≤ p) (h1 : p < 6) (h2 : 0 ≤ s) (h3 : s < 2) : f_M_worth [gs_r 20 0, gs_i (gs_n p), gs_i (gs_n s)] d = some (some (gs_l (gs_m (S.1 1 (p * 3 + (s + 1)).toNat * S.1 2 (s + 1).toNat * (100 - S.1 3 (s + 1).toNat) / 100))), d) := by
  have hB := hw.2.2.1.2
  have a1 := gs_prod (hw.1.2.1 (p * 3 + (s + 1)).toNat (by omega)) (hw.2.1.1 (s + 1).toNat (by omega)) (hw.2.1.2.1 (s + 1).toNat (by omega)) hB.2
  have e1 := hM (18 + 2 * p + s).toNat (by omega) (by omega) (by omega)
  have e2 := hM (30 + s).toNat (by omega) (by omega) (by omega)
  have e3 := hM (32 + s).toNat (by omega) (by omega) (by omega)
  rw [gs_mr_p (by omega) (by omega), show 3 * (((18 + 2 * p + s).toNat - 18) / 2) + 1 + ((18 + 2 * p + s).toNat - 18) % 2 = (p * 3 + (s + 1)).toNat by omega] at e1
  rw [gs_mr_r (by omega) (by omega), show (30 + s).toNat - 29 = (s + 1).toNat by omega] at e2
  rw [gs_mr_c (by omega) (by omega), show (32 + s).toNat - 31 = (s + 1).toNat by omega] at e3
  simp (disch := omega) only [e_M_worth, k_M_worth_0, k_M_worth_13, k_M_worth_22, k_M_worth_35, k_M_worth_41, e1, e2, e3, gs_m_div, ↓reduceIte, Int.reduceAdd, Int.reduceSub, Int.reduceMul, Int.reduceToNat, gs_00, gs_ofi, gs_k0_m, gs_k1_m, gs_n8, gs_n16, gs_n_add, gs_n_sub, gs_n_mul, gs_n_neg, gs_m_add, gs_m_sub, gs_m_mul, gs_m_neg, gs_n_l, gs_m_n, gs_n_c, gs_eq_t, gs_eq_f1, gs_eq_f2, gs_lt_t, gs_lt_f, gs_le_t, gs_le_f, gs_cmp_lt, gs_cmp_eq, gs_cmp_gt, gs_ix_n, gs_nz_n, gs_nzl_g, gs_n_div, gs_af1, gs_af0, gs_ck0, gs_ck1, gs_ck2t, gs_ck2f, gs_ck3, gs_ck4, gs_zd_t, gs_zd_f, gs_zt_t, gs_zt_f, gs_nar1, gs_nar0, gs_tn, if_true, if_false, not_true_eq_false, not_false_eq_true]
theorem s_M_lineOf (hM : gs_Mo 21 d S) (hw : gs_wb B S) {p : Int} (h0 : 0 ≤ p) (h1 : p < 6) : f_M_lineOf [gs_r 20 0, gs_i (gs_n p)] d = some (some (gs_l (gs_m (gs_ln S p))), d) := by
  have e0 := s_M_worth hM hw h0 h1 (s := 0) (by omega) (by omega)
  have e1 := s_M_worth hM hw h0 h1 (s := 1) (by omega) (by omega)
  simp (disch := omega) only [e_M_lineOf, k_M_lineOf_0, k_M_lineOf_6, k_M_lineOf_12, e0, e1, ↓reduceIte, Int.reduceAdd, Int.reduceSub, Int.reduceMul, Int.reduceToNat, gs_00, gs_ofi, gs_k0_m, gs_k1_m, gs_n8, gs_n16, gs_n_add, gs_n_sub, gs_n_mul, gs_n_neg, gs_m_add, gs_m_sub, gs_m_mul, gs_m_neg, gs_n_l, gs_m_n, gs_n_c, gs_eq_t, gs_eq_f1, gs_eq_f2, gs_lt_t, gs_lt_f, gs_le_t, gs_le_f, gs_cmp_lt, gs_cmp_eq, gs_cmp_gt, gs_ix_n, gs_nz_n, gs_nzl_g, gs_n_div, gs_af1, gs_af0, gs_ck0, gs_ck1, gs_ck2t, gs_ck2f, gs_ck3, gs_ck4, gs_zd_t, gs_zd_f, gs_zt_t, gs_zt_f, gs_nar1, gs_nar0, gs_tn, if_true, if_false, not_true_eq_false, not_false_eq_true]
  rfl
/-- the model's number of a position, as the component's -/
def gs_cp (x : Int) : Int := if x < 6 then x * 3 else if x < 18 then (x - 6) / 2 * 3 + (1 + (x - 6) % 2) else x
theorem gs_cp_1 {x : Int} (h : x < 6) : gs_cp x = x * 3 := if_pos h
theorem gs_cp_2 {x : Int} (h : 6 ≤ x) (h2 : x < 18) : gs_cp x = (x - 6) / 2 * 3 + (1 + (x - 6) % 2) := by
  unfold gs_cp
  rw [if_neg (by omega), if_pos h2]
theorem gs_cp_3 {x : Int} (h : 18 ≤ x) : gs_cp x = x := by
  unfold gs_cp
  rw [if_neg (by omega), if_neg (by omega)]
theorem s_M_isThere (hM : gs_Mo 21 d S) (hw : gs_wb B S) {x : Int} (h0 : 0 ≤ x) (h1 : x < 54) : f_M_isThere [gs_r 20 0, gs_i (gs_n x)] d = some (some (gs_i (gs_n (gs_z (decide (x < 18 ∨ 0 ≤ S.1 4 (x - 18).toNat))))), d) := by
  have hB := hw.2.2.1.2
  by_cases c : x < 18
  · simp (disch := omega) only [e_M_isThere, k_M_isThere_0, k_M_isThere_6, k_M_isThere_15, k_M_isThere_20, k_M_isThere_24, ↓reduceIte, Int.reduceAdd, Int.reduceSub, Int.reduceMul, Int.reduceToNat, gs_00, gs_ofi, gs_k0_m, gs_k1_m, gs_n8, gs_n16, gs_n_add, gs_n_sub, gs_n_mul, gs_n_neg, gs_m_add, gs_m_sub, gs_m_mul, gs_m_neg, gs_n_l, gs_m_n, gs_n_c, gs_eq_t, gs_eq_f1, gs_eq_f2, gs_lt_t, gs_lt_f, gs_le_t, gs_le_f, gs_cmp_lt, gs_cmp_eq, gs_cmp_gt, gs_ix_n, gs_nz_n, gs_nzl_g, gs_n_div, gs_af1, gs_af0, gs_ck0, gs_ck1, gs_ck2t, gs_ck2f, gs_ck3, gs_ck4, gs_zd_t, gs_zd_f, gs_zt_t, gs_zt_f, gs_nar1, gs_nar0, gs_tn, if_true, if_false, not_true_eq_false, not_false_eq_true]
  · have e1 := hM (16 + x).toNat (by omega) (by omega) (by omega)
    rw [gs_mr_l (by omega) (by omega), show (16 + x).toNat - 34 = (x - 18).toNat by omega] at e1
    have a1 := hw.2.1.2.2 (x - 18).toNat (by omega)
    by_cases c2 : S.1 4 (x - 18).toNat < 0
    · simp (disch := omega) only [e_M_isThere, k_M_isThere_0, k_M_isThere_6, k_M_isThere_15, k_M_isThere_20, k_M_isThere_24, e1, ↓reduceIte, Int.reduceAdd, Int.reduceSub, Int.reduceMul, Int.reduceToNat, gs_00, gs_ofi, gs_k0_m, gs_k1_m, gs_n8, gs_n16, gs_n_add, gs_n_sub, gs_n_mul, gs_n_neg, gs_m_add, gs_m_sub, gs_m_mul, gs_m_neg, gs_n_l, gs_m_n, gs_n_c, gs_eq_t, gs_eq_f1, gs_eq_f2, gs_lt_t, gs_lt_f, gs_le_t, gs_le_f, gs_cmp_lt, gs_cmp_eq, gs_cmp_gt, gs_ix_n, gs_nz_n, gs_nzl_g, gs_n_div, gs_af1, gs_af0, gs_ck0, gs_ck1, gs_ck2t, gs_ck2f, gs_ck3, gs_ck4, gs_zd_t, gs_zd_f, gs_zt_t, gs_zt_f, gs_nar1, gs_nar0, gs_tn, if_true, if_false, not_true_eq_false, not_false_eq_true]
    · by_cases c3 : S.1 4 (x - 18).toNat = 0
      · simp (disch := omega) only [e_M_isThere, k_M_isThere_0, k_M_isThere_6, k_M_isThere_15, k_M_isThere_20, k_M_isThere_24, e1, ↓reduceIte, Int.reduceAdd, Int.reduceSub, Int.reduceMul, Int.reduceToNat, gs_00, gs_ofi, gs_k0_m, gs_k1_m, gs_n8, gs_n16, gs_n_add, gs_n_sub, gs_n_mul, gs_n_neg, gs_m_add, gs_m_sub, gs_m_mul, gs_m_neg, gs_n_l, gs_m_n, gs_n_c, gs_eq_t, gs_eq_f1, gs_eq_f2, gs_lt_t, gs_lt_f, gs_le_t, gs_le_f, gs_cmp_lt, gs_cmp_eq, gs_cmp_gt, gs_ix_n, gs_nz_n, gs_nzl_g, gs_n_div, gs_af1, gs_af0, gs_ck0, gs_ck1, gs_ck2t, gs_ck2f, gs_ck3, gs_ck4, gs_zd_t, gs_zd_f, gs_zt_t, gs_zt_f, gs_nar1, gs_nar0, gs_tn, if_true, if_false, not_true_eq_false, not_false_eq_true]
      · simp (disch := omega) only [e_M_isThere, k_M_isThere_0, k_M_isThere_6, k_M_isThere_15, k_M_isThere_20, k_M_isThere_24, e1, ↓reduceIte, Int.reduceAdd, Int.reduceSub, Int.reduceMul, Int.reduceToNat, gs_00, gs_ofi, gs_k0_m, gs_k1_m, gs_n8, gs_n16, gs_n_add, gs_n_sub, gs_n_mul, gs_n_neg, gs_m_add, gs_m_sub, gs_m_mul, gs_m_neg, gs_n_l, gs_m_n, gs_n_c, gs_eq_t, gs_eq_f1, gs_eq_f2, gs_lt_t, gs_lt_f, gs_le_t, gs_le_f, gs_cmp_lt, gs_cmp_eq, gs_cmp_gt, gs_ix_n, gs_nz_n, gs_nzl_g, gs_n_div, gs_af1, gs_af0, gs_ck0, gs_ck1, gs_ck2t, gs_ck2f, gs_ck3, gs_ck4, gs_zd_t, gs_zd_f, gs_zt_t, gs_zt_f, gs_nar1, gs_nar0, gs_tn, if_true, if_false, not_true_eq_false, not_false_eq_true]
/-- above its floor: what the model reckons -/
def gs_ab (S : gs_S) (x : Int) : Int := if 18 ≤ x then S.1 4 (x - 18).toNat - S.1 5 (x - 18).toNat else gs_rm S (gs_cp x)
theorem s_M_above (hM : gs_Mo 21 d S) (hw : gs_wb B S) {x : Int} (h0 : 0 ≤ x) (h1 : x < 54) : f_M_above [gs_r 20 0, gs_i (gs_n x)] d = some (some (gs_l (gs_m (gs_ab S x))), d) := by
  have hB := hw.2.2.1.2
  by_cases c1 : x < 6
  · have e1 := hM (3 * x).toNat (by omega) (by omega) (by omega)
    rw [gs_mr_h (by omega)] at e1
    have e2 := s_M_lineOf hM hw h0 c1
    have e3 : gs_ab S x = S.1 0 (3 * x).toNat + gs_ln S x := by
      unfold gs_ab gs_rm
      rw [if_neg (by omega), gs_cp_1 c1, if_neg (by omega), if_pos (by omega), show x * 3 / 3 = x by omega, show (x * 3).toNat = (3 * x).toNat by omega]
    simp (disch := omega) only [e_M_above, k_M_above_0, k_M_above_6, k_M_above_14, k_M_above_19, k_M_above_21, k_M_above_27, k_M_above_40, k_M_above_46, k_M_above_48, k_M_above_49, k_M_above_58, k_M_above_67, e1, e2, e3, ↓reduceIte, Int.reduceAdd, Int.reduceSub, Int.reduceMul, Int.reduceToNat, gs_00, gs_ofi, gs_k0_m, gs_k1_m, gs_n8, gs_n16, gs_n_add, gs_n_sub, gs_n_mul, gs_n_neg, gs_m_add, gs_m_sub, gs_m_mul, gs_m_neg, gs_n_l, gs_m_n, gs_n_c, gs_eq_t, gs_eq_f1, gs_eq_f2, gs_lt_t, gs_lt_f, gs_le_t, gs_le_f, gs_cmp_lt, gs_cmp_eq, gs_cmp_gt, gs_ix_n, gs_nz_n, gs_nzl_g, gs_n_div, gs_af1, gs_af0, gs_ck0, gs_ck1, gs_ck2t, gs_ck2f, gs_ck3, gs_ck4, gs_zd_t, gs_zd_f, gs_zt_t, gs_zt_f, gs_nar1, gs_nar0, gs_tn, if_true, if_false, not_true_eq_false, not_false_eq_true]
  · by_cases c2 : x < 18
    · have e1 := hM (3 * ((x - 6) / 2) + 1 + (x - 6 - (x - 6) / 2 * 2)).toNat (by omega) (by omega) (by omega)
      rw [gs_mr_h (by omega)] at e1
      have e3 : gs_ab S x = S.1 0 (3 * ((x - 6) / 2) + 1 + (x - 6 - (x - 6) / 2 * 2)).toNat := by
        unfold gs_ab gs_rm
        rw [if_neg (by omega), gs_cp_2 (by omega) c2, if_neg (by omega), if_neg (by omega), show ((x - 6) / 2 * 3 + (1 + (x - 6) % 2)).toNat = (3 * ((x - 6) / 2) + 1 + (x - 6 - (x - 6) / 2 * 2)).toNat by omega]
      simp (disch := omega) only [e_M_above, k_M_above_0, k_M_above_6, k_M_above_14, k_M_above_19, k_M_above_21, k_M_above_27, k_M_above_40, k_M_above_46, k_M_above_48, k_M_above_49, k_M_above_58, k_M_above_67, e1, e3, ↓reduceIte, Int.reduceAdd, Int.reduceSub, Int.reduceMul, Int.reduceToNat, gs_00, gs_ofi, gs_k0_m, gs_k1_m, gs_n8, gs_n16, gs_n_add, gs_n_sub, gs_n_mul, gs_n_neg, gs_m_add, gs_m_sub, gs_m_mul, gs_m_neg, gs_n_l, gs_m_n, gs_n_c, gs_eq_t, gs_eq_f1, gs_eq_f2, gs_lt_t, gs_lt_f, gs_le_t, gs_le_f, gs_cmp_lt, gs_cmp_eq, gs_cmp_gt, gs_ix_n, gs_nz_n, gs_nzl_g, gs_n_div, gs_af1, gs_af0, gs_ck0, gs_ck1, gs_ck2t, gs_ck2f, gs_ck3, gs_ck4, gs_zd_t, gs_zd_f, gs_zt_t, gs_zt_f, gs_nar1, gs_nar0, gs_tn, if_true, if_false, not_true_eq_false, not_false_eq_true]
    · have e1 := hM (16 + x).toNat (by omega) (by omega) (by omega)
      rw [gs_mr_l (by omega) (by omega), show (16 + x).toNat - 34 = (x - 18).toNat by omega] at e1
      have e2 := hM (52 + x).toNat (by omega) (by omega) (by omega)
      rw [gs_mr_n (by omega) (by omega), show (52 + x).toNat - 70 = (x - 18).toNat by omega] at e2
      have e3 : gs_ab S x = S.1 4 (x - 18).toNat - S.1 5 (x - 18).toNat := if_pos (by omega)
      simp (disch := omega) only [e_M_above, k_M_above_0, k_M_above_6, k_M_above_14, k_M_above_19, k_M_above_21, k_M_above_27, k_M_above_40, k_M_above_46, k_M_above_48, k_M_above_49, k_M_above_58, k_M_above_67, e1, e2, e3, ↓reduceIte, Int.reduceAdd, Int.reduceSub, Int.reduceMul, Int.reduceToNat, gs_00, gs_ofi, gs_k0_m, gs_k1_m, gs_n8, gs_n16, gs_n_add, gs_n_sub, gs_n_mul, gs_n_neg, gs_m_add, gs_m_sub, gs_m_mul, gs_m_neg, gs_n_l, gs_m_n, gs_n_c, gs_eq_t, gs_eq_f1, gs_eq_f2, gs_lt_t, gs_lt_f, gs_le_t, gs_le_f, gs_cmp_lt, gs_cmp_eq, gs_cmp_gt, gs_ix_n, gs_nz_n, gs_nzl_g, gs_n_div, gs_af1, gs_af0, gs_ck0, gs_ck1, gs_ck2t, gs_ck2f, gs_ck3, gs_ck4, gs_zd_t, gs_zd_f, gs_zt_t, gs_zt_f, gs_nar1, gs_nar0, gs_tn, if_true, if_false, not_true_eq_false, not_false_eq_true]
end MM
