-- lines, rooms, what an instruction does
def gs_ln (S : gs_S) (p : Int) : Int := S.1 1 (p * 3 + 1).toNat * S.1 2 1 * (100 - S.1 3 1) / 100 + S.1 1 (p * 3 + 2).toNat * S.1 2 2 * (100 - S.1 3 2) / 100
/-- how far position x is above its floor -/
def gs_rm (S : gs_S) (x : Int) : Int := if 18 ≤ x then (if S.1 4 (x - 18).toNat = -1 then 4611686018427387904 else S.1 4 (x - 18).toNat - S.1 5 (x - 18).toNat) else if x % 3 = 0 then S.1 0 x.toNat + gs_ln S (x / 3) else S.1 0 x.toNat
def gs_iok (S : gs_S) (i : Nat) : Prop := ((0 ≤ S.1 (10 + i) 0 ∧ S.1 (10 + i) 0 < 6) ∧ (0 ≤ S.1 (10 + i) 1 ∧ S.1 (10 + i) 1 < 6) ∧ ¬ S.1 (10 + i) 0 = S.1 (10 + i) 1) ∧ ((0 ≤ S.1 (10 + i) 2 ∧ S.1 (10 + i) 2 < 3) ∧ (0 ≤ S.1 (10 + i) 3 ∧ S.1 (10 + i) 3 ≤ 1000000) ∧ (0 ≤ S.1 (10 + i) 4 ∧ S.1 (10 + i) 4 ≤ 1000000) ∧ (0 < S.1 (10 + i) 3 → 1 ≤ S.1 (10 + i) 2)) ∧ ((0 ≤ S.1 (10 + i) 5 ∧ S.1 (10 + i) 5 < 3) ∧ (0 ≤ S.1 (10 + i) 6 ∧ S.1 (10 + i) 6 < 4))
/-- bounds -/
def gs_wb (B : Int) (S : gs_S) : Prop :=
  ((∀ j, j < 18 → -B ≤ S.1 0 j ∧ S.1 0 j ≤ B) ∧ (∀ j, j < 18 → 0 ≤ S.1 1 j ∧ S.1 1 j ≤ B) ∧ (∀ j, j < 36 → -B ≤ S.1 5 j ∧ S.1 5 j ≤ B))
  ∧ ((∀ j, j < 3 → 0 ≤ S.1 2 j ∧ S.1 2 j ≤ 1000) ∧ (∀ j, j < 3 → 0 ≤ S.1 3 j ∧ S.1 3 j ≤ 100) ∧ (∀ j, j < 36 → -1 ≤ S.1 4 j ∧ S.1 4 j ≤ 1000000))
  ∧ ((0 ≤ S.1 6 0 ∧ S.1 6 0 < 3) ∧ (0 ≤ S.1 6 1 ∧ S.1 6 1 ≤ 40) ∧ B ≤ 1000000000000)
  ∧ (∀ i : Nat, (i : Int) < S.1 6 1 → gs_iok S i)
/-- a product in its bounds -/
theorem gs_prod {B a b c : Int} (ha : 0 ≤ a ∧ a ≤ B) (hb : 0 ≤ b ∧ b ≤ 1000) (hc : 0 ≤ c ∧ c ≤ 100) (hB : B ≤ 1000000000000) : 0 ≤ a * b * (100 - c) ∧ a * b * (100 - c) ≤ 100000 * B := by
  have x1 : 0 ≤ a * b := Int.mul_nonneg ha.1 hb.1
  have x2 : a * b ≤ B * 1000 := Int.mul_le_mul ha.2 hb.2 hb.1 (by omega)
  refine ⟨Int.mul_nonneg x1 (by omega), ?_⟩
  have x3 : a * b * (100 - c) ≤ (B * 1000) * 100 := Int.mul_le_mul x2 (by omega) (by omega) (by omega)
  omega
section AC
variable {b : Nat} {d : gs_D} {S : gs_S} {B : Int}
theorem gs_ln_rg (hw : gs_wb B S) {p : Int} (h1 : 0 ≤ p) (h2 : p < 6) : 0 ≤ gs_ln S p ∧ gs_ln S p ≤ 2000 * B := by
  have a1 := gs_prod (hw.1.2.1 (p * 3 + 1).toNat (by omega)) (hw.2.1.1 1 (by omega)) (hw.2.1.2.1 1 (by omega)) hw.2.2.1.2.2
  have a2 := gs_prod (hw.1.2.1 (p * 3 + 2).toNat (by omega)) (hw.2.1.1 2 (by omega)) (hw.2.1.2.1 2 (by omega)) hw.2.2.1.2.2
  unfold gs_ln
  omega
theorem gs_rm_rg (hw : gs_wb B S) {x : Int} (h1 : 0 ≤ x) (h2 : x < 54) : -4611686018427387904 ≤ gs_rm S x ∧ gs_rm S x ≤ 4611686018427387904 := by
  have hB := hw.2.2.1.2.2
  unfold gs_rm
  split
  · have a1 := hw.2.1.2.2 (x - 18).toNat (by omega)
    have a2 := hw.1.2.2 (x - 18).toNat (by omega)
    split
    · omega
    · omega
  · have a1 := hw.1.1 x.toNat (by omega)
    have a2 := gs_ln_rg hw (p := x / 3) (by omega) (by omega)
    split
    · omega
    · omega
theorem s_A_creditOf (hC : gs_Cl b d S) (hw : gs_wb B S) {p : Int} (h1 : 0 ≤ p) (h2 : p < 6) : f_A_creditOf [gs_r 3 b, gs_i (gs_n p)] d = some (some (gs_l (gs_m (gs_ln S p))), d) := by
  have hB := hw.2.2.1.2.2
  have a1 := gs_prod (hw.1.2.1 (p * 3 + 1).toNat (by omega)) (hw.2.1.1 1 (by omega)) (hw.2.1.2.1 1 (by omega)) hB
  have a2 := gs_prod (hw.1.2.1 (p * 3 + 2).toNat (by omega)) (hw.2.1.1 2 (by omega)) (hw.2.1.2.1 2 (by omega)) hB
  have b1 := hw.2.1.1 1 (by omega)
  have b2 := hw.2.1.1 2 (by omega)
  have b3 := hw.2.1.2.1 1 (by omega)
  have b4 := hw.2.1.2.1 2 (by omega)
  have hp := hC.p
  have hpr := hC.pr
  have hhc := hC.hc
  simp (disch := omega) only [e_A_creditOf, k_A_creditOf_0, k_A_creditOf_9, k_A_creditOf_15, k_A_creditOf_25, k_A_creditOf_32, k_A_creditOf_43, k_A_creditOf_50, k_A_creditOf_58, hp, hpr, hhc, gs_m_div, Int.zero_add, ↓reduceIte, Int.reduceAdd, Int.reduceSub, Int.reduceMul, Int.reduceToNat, gs_00, gs_ofi, gs_k0_m, gs_k1_m, gs_n8, gs_n16, gs_n_add, gs_n_sub, gs_n_mul, gs_n_neg, gs_m_add, gs_m_sub, gs_m_mul, gs_m_neg, gs_n_l, gs_m_n, gs_n_c, gs_eq_t, gs_eq_f1, gs_eq_f2, gs_lt_t, gs_lt_f, gs_le_t, gs_le_f, gs_cmp_lt, gs_cmp_eq, gs_cmp_gt, gs_ix_n, gs_nz_n, gs_nzl_g, gs_n_div, gs_af1, gs_af0, gs_ck0, gs_ck1, gs_ck2t, gs_ck2f, gs_ck3, gs_ck4, gs_zd_t, gs_zd_f, gs_zt_t, gs_zt_f, gs_nar1, gs_nar0, gs_tn, if_true, if_false, not_true_eq_false, not_false_eq_true]
  rfl
theorem s_A_room (hC : gs_Cl b d S) (hw : gs_wb B S) {x : Int} (h1 : 0 ≤ x) (h2 : x < 54) : f_A_room [gs_r 3 b, gs_i (gs_n x)] d = some (some (gs_l (gs_m (gs_rm S x))), d) := by
  have hB := hw.2.2.1.2.2
  have hh := hC.h
  have hli := hC.li
  have hnt := hC.nt
  by_cases c1 : 18 ≤ x
  · have a1 := hw.2.1.2.2 (x - 18).toNat (by omega)
    have a2 := hw.1.2.2 (x - 18).toNat (by omega)
    by_cases c2 : S.1 4 (x - 18).toNat = -1
    · have e : gs_rm S x = 4611686018427387904 := by rw [gs_rm, if_pos c1, if_pos c2]
      simp (disch := omega) only [e_A_room, k_A_room_0, k_A_room_6, k_A_room_17, k_A_room_21, k_A_room_27, k_A_room_33, k_A_room_40, k_A_room_42, k_A_room_45, k_A_room_48, k_A_room_52, k_A_room_58, k_A_room_64, k_A_room_68, k_A_room_71, k_A_room_75, k_A_room_81, hli, hnt, e, ↓reduceIte, Int.reduceAdd, Int.reduceSub, Int.reduceMul, Int.reduceToNat, gs_00, gs_ofi, gs_k0_m, gs_k1_m, gs_n8, gs_n16, gs_n_add, gs_n_sub, gs_n_mul, gs_n_neg, gs_m_add, gs_m_sub, gs_m_mul, gs_m_neg, gs_n_l, gs_m_n, gs_n_c, gs_eq_t, gs_eq_f1, gs_eq_f2, gs_lt_t, gs_lt_f, gs_le_t, gs_le_f, gs_cmp_lt, gs_cmp_eq, gs_cmp_gt, gs_ix_n, gs_nz_n, gs_nzl_g, gs_n_div, gs_af1, gs_af0, gs_ck0, gs_ck1, gs_ck2t, gs_ck2f, gs_ck3, gs_ck4, gs_zd_t, gs_zd_f, gs_zt_t, gs_zt_f, gs_nar1, gs_nar0, gs_tn, if_true, if_false, not_true_eq_false, not_false_eq_true]
    · have e : gs_rm S x = S.1 4 (x - 18).toNat - S.1 5 (x - 18).toNat := by rw [gs_rm, if_pos c1, if_neg c2]
      simp (disch := omega) only [e_A_room, k_A_room_0, k_A_room_6, k_A_room_17, k_A_room_21, k_A_room_27, k_A_room_33, k_A_room_40, k_A_room_42, k_A_room_45, k_A_room_48, k_A_room_52, k_A_room_58, k_A_room_64, k_A_room_68, k_A_room_71, k_A_room_75, k_A_room_81, hli, hnt, e, ↓reduceIte, Int.reduceAdd, Int.reduceSub, Int.reduceMul, Int.reduceToNat, gs_00, gs_ofi, gs_k0_m, gs_k1_m, gs_n8, gs_n16, gs_n_add, gs_n_sub, gs_n_mul, gs_n_neg, gs_m_add, gs_m_sub, gs_m_mul, gs_m_neg, gs_n_l, gs_m_n, gs_n_c, gs_eq_t, gs_eq_f1, gs_eq_f2, gs_lt_t, gs_lt_f, gs_le_t, gs_le_f, gs_cmp_lt, gs_cmp_eq, gs_cmp_gt, gs_ix_n, gs_nz_n, gs_nzl_g, gs_n_div, gs_af1, gs_af0, gs_ck0, gs_ck1, gs_ck2t, gs_ck2f, gs_ck3, gs_ck4, gs_zd_t, gs_zd_f, gs_zt_t, gs_zt_f, gs_nar1, gs_nar0, gs_tn, if_true, if_false, not_true_eq_false, not_false_eq_true]
  · have a1 := hw.1.1 x.toNat (by omega)
    have cr := s_A_creditOf hC hw (p := x / 3) (by omega) (by omega)
    by_cases c2 : x % 3 = 0
    · have e : gs_rm S x = S.1 0 x.toNat + gs_ln S (x / 3) := by rw [gs_rm, if_neg c1, if_pos c2]
      simp (disch := omega) only [e_A_room, k_A_room_0, k_A_room_6, k_A_room_17, k_A_room_21, k_A_room_27, k_A_room_33, k_A_room_40, k_A_room_42, k_A_room_45, k_A_room_48, k_A_room_52, k_A_room_58, k_A_room_64, k_A_room_68, k_A_room_71, k_A_room_75, k_A_room_81, hh, cr, e, ↓reduceIte, Int.reduceAdd, Int.reduceSub, Int.reduceMul, Int.reduceToNat, gs_00, gs_ofi, gs_k0_m, gs_k1_m, gs_n8, gs_n16, gs_n_add, gs_n_sub, gs_n_mul, gs_n_neg, gs_m_add, gs_m_sub, gs_m_mul, gs_m_neg, gs_n_l, gs_m_n, gs_n_c, gs_eq_t, gs_eq_f1, gs_eq_f2, gs_lt_t, gs_lt_f, gs_le_t, gs_le_f, gs_cmp_lt, gs_cmp_eq, gs_cmp_gt, gs_ix_n, gs_nz_n, gs_nzl_g, gs_n_div, gs_af1, gs_af0, gs_ck0, gs_ck1, gs_ck2t, gs_ck2f, gs_ck3, gs_ck4, gs_zd_t, gs_zd_f, gs_zt_t, gs_zt_f, gs_nar1, gs_nar0, gs_tn, if_true, if_false, not_true_eq_false, not_false_eq_true]
    · have e : gs_rm S x = S.1 0 x.toNat := by rw [gs_rm, if_neg c1, if_neg c2]
      simp (disch := omega) only [e_A_room, k_A_room_0, k_A_room_6, k_A_room_17, k_A_room_21, k_A_room_27, k_A_room_33, k_A_room_40, k_A_room_42, k_A_room_45, k_A_room_48, k_A_room_52, k_A_room_58, k_A_room_64, k_A_room_68, k_A_room_71, k_A_room_75, k_A_room_81, hh, e, ↓reduceIte, Int.reduceAdd, Int.reduceSub, Int.reduceMul, Int.reduceToNat, gs_00, gs_ofi, gs_k0_m, gs_k1_m, gs_n8, gs_n16, gs_n_add, gs_n_sub, gs_n_mul, gs_n_neg, gs_m_add, gs_m_sub, gs_m_mul, gs_m_neg, gs_n_l, gs_m_n, gs_n_c, gs_eq_t, gs_eq_f1, gs_eq_f2, gs_lt_t, gs_lt_f, gs_le_t, gs_le_f, gs_cmp_lt, gs_cmp_eq, gs_cmp_gt, gs_ix_n, gs_nz_n, gs_nzl_g, gs_n_div, gs_af1, gs_af0, gs_ck0, gs_ck1, gs_ck2t, gs_ck2f, gs_ck3, gs_ck4, gs_zd_t, gs_zd_f, gs_zt_t, gs_zt_f, gs_nar1, gs_nar0, gs_tn, if_true, if_false, not_true_eq_false, not_false_eq_true]
/-- the first position below its floor, or -1 -/
def gs_fb (S : gs_S) (x : Int) : Prop := (x = -1 ∧ ∀ y : Int, 0 ≤ y → y < 54 → 0 ≤ gs_rm S y) ∨ (0 ≤ x ∧ x < 54 ∧ gs_rm S x < 0)
theorem s_A_firstBelowFloor (hC : gs_Cl b d S) (hw : gs_wb B S) : ∃ x, gs_fb S x ∧ f_A_firstBelowFloor [gs_r 3 b] d = some (some (gs_i (gs_n x)), d) := by
  have key : ∀ (n : Nat) (i : Int), 0 ≤ i → i + n = 54 → (∀ y : Int, 0 ≤ y → y < i → 0 ≤ gs_rm S y) → ∃ x, gs_fb S x ∧ gs_g Y0 P_A_firstBelowFloor 2 [some (gs_r 3 b), some (gs_i (gs_n i))] [] d = some (some (gs_i (gs_n x)), d) := by
    intro n
    induction n with
    | zero =>
      intro i h0 h1 h2
      refine ⟨-1, Or.inl ⟨rfl, fun y y0 y1 => h2 y y0 (by omega)⟩, ?_⟩
      simp (disch := omega) only [e_A_firstBelowFloor, k_A_firstBelowFloor_0, k_A_firstBelowFloor_2, k_A_firstBelowFloor_8, k_A_firstBelowFloor_13, k_A_firstBelowFloor_18, k_A_firstBelowFloor_20, k_A_firstBelowFloor_26, ↓reduceIte, Int.reduceAdd, Int.reduceSub, Int.reduceMul, Int.reduceToNat, gs_00, gs_ofi, gs_k0_m, gs_k1_m, gs_n8, gs_n16, gs_n_add, gs_n_sub, gs_n_mul, gs_n_neg, gs_m_add, gs_m_sub, gs_m_mul, gs_m_neg, gs_n_l, gs_m_n, gs_n_c, gs_eq_t, gs_eq_f1, gs_eq_f2, gs_lt_t, gs_lt_f, gs_le_t, gs_le_f, gs_cmp_lt, gs_cmp_eq, gs_cmp_gt, gs_ix_n, gs_nz_n, gs_nzl_g, gs_n_div, gs_af1, gs_af0, gs_ck0, gs_ck1, gs_ck2t, gs_ck2f, gs_ck3, gs_ck4, gs_zd_t, gs_zd_f, gs_zt_t, gs_zt_f, gs_nar1, gs_nar0, gs_tn, if_true, if_false, not_true_eq_false, not_false_eq_true]
    | succ n ih =>
      intro i h0 h1 h2
      have hr := s_A_room hC hw (x := i) h0 (by omega)
      have hg := gs_rm_rg hw (x := i) h0 (by omega)
      by_cases c : gs_rm S i < 0
      · refine ⟨i, Or.inr ⟨h0, by omega, c⟩, ?_⟩
        rw [k_A_firstBelowFloor_2]
        simp (disch := omega) only [e_A_firstBelowFloor, k_A_firstBelowFloor_0, k_A_firstBelowFloor_8, k_A_firstBelowFloor_13, k_A_firstBelowFloor_18, k_A_firstBelowFloor_20, k_A_firstBelowFloor_26, hr, ↓reduceIte, Int.reduceAdd, Int.reduceSub, Int.reduceMul, Int.reduceToNat, gs_00, gs_ofi, gs_k0_m, gs_k1_m, gs_n8, gs_n16, gs_n_add, gs_n_sub, gs_n_mul, gs_n_neg, gs_m_add, gs_m_sub, gs_m_mul, gs_m_neg, gs_n_l, gs_m_n, gs_n_c, gs_eq_t, gs_eq_f1, gs_eq_f2, gs_lt_t, gs_lt_f, gs_le_t, gs_le_f, gs_cmp_lt, gs_cmp_eq, gs_cmp_gt, gs_ix_n, gs_nz_n, gs_nzl_g, gs_n_div, gs_af1, gs_af0, gs_ck0, gs_ck1, gs_ck2t, gs_ck2f, gs_ck3, gs_ck4, gs_zd_t, gs_zd_f, gs_zt_t, gs_zt_f, gs_nar1, gs_nar0, gs_tn, if_true, if_false, not_true_eq_false, not_false_eq_true]
      · obtain ⟨x, hx, e⟩ := ih (i + 1) (by omega) (by omega) (fun y y0 y1 => by
          by_cases z : y = i
          · rw [z]; omega
          · exact h2 y y0 (by omega))
        refine ⟨x, hx, ?_⟩
        rw [k_A_firstBelowFloor_2]
        by_cases c2 : gs_rm S i = 0
        · simp (disch := omega) only [e_A_firstBelowFloor, k_A_firstBelowFloor_0, k_A_firstBelowFloor_8, k_A_firstBelowFloor_13, k_A_firstBelowFloor_18, k_A_firstBelowFloor_20, k_A_firstBelowFloor_26, hr, e, ↓reduceIte, Int.reduceAdd, Int.reduceSub, Int.reduceMul, Int.reduceToNat, gs_00, gs_ofi, gs_k0_m, gs_k1_m, gs_n8, gs_n16, gs_n_add, gs_n_sub, gs_n_mul, gs_n_neg, gs_m_add, gs_m_sub, gs_m_mul, gs_m_neg, gs_n_l, gs_m_n, gs_n_c, gs_eq_t, gs_eq_f1, gs_eq_f2, gs_lt_t, gs_lt_f, gs_le_t, gs_le_f, gs_cmp_lt, gs_cmp_eq, gs_cmp_gt, gs_ix_n, gs_nz_n, gs_nzl_g, gs_n_div, gs_af1, gs_af0, gs_ck0, gs_ck1, gs_ck2t, gs_ck2f, gs_ck3, gs_ck4, gs_zd_t, gs_zd_f, gs_zt_t, gs_zt_f, gs_nar1, gs_nar0, gs_tn, if_true, if_false, not_true_eq_false, not_false_eq_true]
        · simp (disch := omega) only [e_A_firstBelowFloor, k_A_firstBelowFloor_0, k_A_firstBelowFloor_8, k_A_firstBelowFloor_13, k_A_firstBelowFloor_18, k_A_firstBelowFloor_20, k_A_firstBelowFloor_26, hr, e, ↓reduceIte, Int.reduceAdd, Int.reduceSub, Int.reduceMul, Int.reduceToNat, gs_00, gs_ofi, gs_k0_m, gs_k1_m, gs_n8, gs_n16, gs_n_add, gs_n_sub, gs_n_mul, gs_n_neg, gs_m_add, gs_m_sub, gs_m_mul, gs_m_neg, gs_n_l, gs_m_n, gs_n_c, gs_eq_t, gs_eq_f1, gs_eq_f2, gs_lt_t, gs_lt_f, gs_le_t, gs_le_f, gs_cmp_lt, gs_cmp_eq, gs_cmp_gt, gs_ix_n, gs_nz_n, gs_nzl_g, gs_n_div, gs_af1, gs_af0, gs_ck0, gs_ck1, gs_ck2t, gs_ck2f, gs_ck3, gs_ck4, gs_zd_t, gs_zd_f, gs_zt_t, gs_zt_f, gs_nar1, gs_nar0, gs_tn, if_true, if_false, not_true_eq_false, not_false_eq_true]
  obtain ⟨x, hx, e⟩ := key 54 0 (by omega) (by omega) (fun y y0 y1 => by omega)
  refine ⟨x, hx, ?_⟩
  simp (disch := omega) only [e_A_firstBelowFloor, k_A_firstBelowFloor_0, e, ↓reduceIte, Int.reduceAdd, Int.reduceSub, Int.reduceMul, Int.reduceToNat, gs_00, gs_ofi, gs_k0_m, gs_k1_m, gs_n8, gs_n16, gs_n_add, gs_n_sub, gs_n_mul, gs_n_neg, gs_m_add, gs_m_sub, gs_m_mul, gs_m_neg, gs_n_l, gs_m_n, gs_n_c, gs_eq_t, gs_eq_f1, gs_eq_f2, gs_lt_t, gs_lt_f, gs_le_t, gs_le_f, gs_cmp_lt, gs_cmp_eq, gs_cmp_gt, gs_ix_n, gs_nz_n, gs_nzl_g, gs_n_div, gs_af1, gs_af0, gs_ck0, gs_ck1, gs_ck2t, gs_ck2f, gs_ck3, gs_ck4, gs_zd_t, gs_zd_f, gs_zt_t, gs_zt_f, gs_nar1, gs_nar0, gs_tn, if_true, if_false, not_true_eq_false, not_false_eq_true]
end AC
