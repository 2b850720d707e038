-- more of the model's calls
section MV
variable {d : gs_D} {S : gs_S} {B : Int}
theorem gs_wb.cg {S' : gs_S} (hw : gs_wb B S) (e : ∀ f j, S'.1 f j = S.1 f j) : gs_wb B S' := by
  have : S'.1 = S.1 := by
    funext f j
    exact e f j
  unfold gs_wb gs_iok
  rw [this]
  exact hw
theorem gs_rm_m {S : gs_S} {x : Int} (h : ¬ 18 ≤ x) (h2 : x % 3 = 0) : gs_rm S x = S.1 0 x.toNat + gs_ln S (x / 3) := by
  unfold gs_rm
  rw [if_neg h, if_pos h2]
theorem gs_Mo.sP {t : Nat} (hM : gs_Mo t d S) {j : Nat} (hj : j < 18) (h3 : j % 3 ≠ 0) (x : Int) : gs_Mo t (gs_wL d t 0 (17 + 2 * (j / 3) + j % 3) (gs_m (S.1 1 j - x))) (gs_sb S 1 j x) := hM.w (gs_u_o S 1 j _ 1 (by decide)) fun n => Or.inl (gs_mr_u1 S hj h3 _ n)
theorem s_M_release (hM : gs_Mo 21 d S) (hw : gs_wb B S) (hv : gs_wv S) (hB : B + 80000000 ≤ 1000000000000) {p s x : Int} (p1 : -2147483648 ≤ p) (p2 : p < 2147483648) (s1 : -2147483648 ≤ s) (s2 : s < 2147483648) (x1 : -2147483648 ≤ x) (x2 : x < 2147483648) : ∃ d', f_M_release [gs_r 20 0, gs_i (gs_n p), gs_i (gs_n s), gs_i (gs_n x)] d = some (some (gs_i (gs_n (o_release S p s x).1)), d') ∧ gs_Mo 21 d' (o_release S p s x).2 ∧ gs_mf d d' := by
  have h61 := hw.2.2.1.2.1
  unfold o_release
  by_cases c : (0 ≤ p ∧ p < 6) ∧ (1 ≤ s ∧ s < 3) ∧ (1 ≤ x ∧ x ≤ 1000000)
  · rw [if_pos c]
    have hr2 := hw.1.2.1 (p * 3 + s).toNat (by omega)
    have hp := hM.p (j := (p * 3 + s).toNat) h61.1 (by omega) (by omega)
    have i1 : (3 * p + s).toNat = (p * 3 + s).toNat := by omega
    have i2 : (17 + 2 * p + s).toNat = 17 + 2 * ((p * 3 + s).toNat / 3) + (p * 3 + s).toNat % 3 := by omega
    by_cases c2 : S.1 1 (p * 3 + s).toNat < x
    · rw [if_pos c2]
      refine ⟨d, ?_, hM, gs_mf.rf⟩
      simp (disch := omega) only [e_M_release, k_M_release_0, k_M_release_6, k_M_release_9, k_M_release_13, k_M_release_16, k_M_release_20, k_M_release_23, k_M_release_25, k_M_release_38, k_M_release_44, k_M_release_47, k_M_release_61, k_M_release_65, k_M_release_70, k_M_release_75, k_M_release_89, k_M_release_93, k_M_release_96, k_M_release_107, k_M_release_111, k_M_release_115, s_M_within, s_M_security, s_M_amountFits, i2, hp, ↓reduceIte, Int.reduceAdd, Int.reduceSub, Int.reduceMul, Int.reduceToNat, gs_00, gs_ofi, gs_k0_m, gs_k1_m, gs_n8, gs_n16, gs_n_add, gs_n_sub, gs_n_mul, gs_n_neg, gs_m_add, gs_m_sub, gs_m_mul, gs_m_neg, gs_n_l, gs_m_n, gs_n_c, gs_eq_t, gs_eq_f1, gs_eq_f2, gs_lt_t, gs_lt_f, gs_le_t, gs_le_f, gs_cmp_lt, gs_cmp_eq, gs_cmp_gt, gs_ix_n, gs_nz_n, gs_nzl_g, gs_n_div, gs_af1, gs_af0, gs_ck0, gs_ck1, gs_ck2t, gs_ck2f, gs_ck3, gs_ck4, gs_zd_t, gs_zd_f, gs_zt_t, gs_zt_f, gs_nar1, gs_nar0, gs_tn, if_true, if_false, not_true_eq_false, not_false_eq_true]
    · rw [if_neg c2]
      have c1 := hM.sP (j := (p * 3 + s).toNat) (by omega) (by omega) x
      have k1 := gs_sb_6 S (f := 1) (p * 3 + s).toNat x (by decide)
      have w0 := gs_wb_hp hw (j := (p * 3 + s).toNat) (x := 0) (y := -x) (by omega) (by omega) (by omega) (by omega) (by omega) (by omega)
      have w1 : gs_wb (B + 1000000) (gs_sb S 1 (p * 3 + s).toNat x) := w0.cg (fun f j => by
        rw [gs_sb_at, gs_ad_at, gs_sb_at]
        simp only [Int.neg_zero, ite_self]
        omega)
      have w2 := gs_wb_hp hw (j := (p * 3 + s).toNat) (x := -x) (y := -x) (by omega) (by omega) (by omega) (by omega) (by omega) (by omega)
      have ab := s_M_above c1 w1 (x := p) (by omega) (by omega)
      have er : gs_ab (gs_sb S 1 (p * 3 + s).toNat x) p = gs_rm (gs_ad (gs_sb S 0 (p * 3 + s).toNat (-x)) 1 (p * 3 + s).toNat (-x)) (p * 3 + 0) := by
        have el : ∀ q, gs_ln (gs_sb S 1 (p * 3 + s).toNat x) q = gs_ln (gs_ad (gs_sb S 0 (p * 3 + s).toNat (-x)) 1 (p * 3 + s).toNat (-x)) q := fun q => by
          have e1 : ∀ f j, f ≠ 0 → (gs_sb S 1 (p * 3 + s).toNat x).1 f j = (gs_ad (gs_sb S 0 (p * 3 + s).toNat (-x)) 1 (p * 3 + s).toNat (-x)).1 f j := fun f j hf => by
            rw [gs_sb_at, gs_ad_at, gs_sb_at, if_neg (show ¬ (f = 0 ∧ j = (p * 3 + s).toNat) from fun z => hf z.1), Int.add_zero]
          unfold gs_ln
          rw [e1 1 _ (by decide), e1 1 _ (by decide), e1 2 _ (by decide), e1 2 _ (by decide), e1 3 _ (by decide), e1 3 _ (by decide)]
        unfold gs_ab
        rw [if_neg (by omega), gs_cp_1 (by omega), Int.add_zero]
        rw [gs_rm_m (by omega) (by omega), gs_rm_m (by omega) (by omega), el]
        congr 1
        rw [gs_sb_at, gs_ad_at, gs_sb_at, if_neg (by omega), if_neg (by omega)]
        omega
      rw [er] at ab
      have rg := gs_rm_rg w2 (x := p * 3 + 0) (by omega) (by omega)
      by_cases c3 : gs_rm (gs_ad (gs_sb S 0 (p * 3 + s).toNat (-x)) 1 (p * 3 + s).toNat (-x)) (p * 3 + 0) < 0
      · rw [if_pos c3]
        have hp2 := c1.p (j := (p * 3 + s).toNat) (by omega) (by omega) (by omega)
        have c4 := c1.aP (j := (p * 3 + s).toNat) (by omega) (by omega) x
        refine ⟨_, ?_, c4.cg (fun f j => ?_), gs_rf.rf.w.w.mf⟩
        · by_cases c9 : S.1 1 (p * 3 + s).toNat = x
          · simp (disch := omega) only [e_M_release, k_M_release_0, k_M_release_6, k_M_release_9, k_M_release_13, k_M_release_16, k_M_release_20, k_M_release_23, k_M_release_25, k_M_release_38, k_M_release_44, k_M_release_47, k_M_release_61, k_M_release_65, k_M_release_70, k_M_release_75, k_M_release_89, k_M_release_93, k_M_release_96, k_M_release_107, k_M_release_111, k_M_release_115, s_M_within, s_M_security, s_M_amountFits, i2, hp, hp2, ab, ↓reduceIte, Int.reduceAdd, Int.reduceSub, Int.reduceMul, Int.reduceToNat, gs_00, gs_ofi, gs_k0_m, gs_k1_m, gs_n8, gs_n16, gs_n_add, gs_n_sub, gs_n_mul, gs_n_neg, gs_m_add, gs_m_sub, gs_m_mul, gs_m_neg, gs_n_l, gs_m_n, gs_n_c, gs_eq_t, gs_eq_f1, gs_eq_f2, gs_lt_t, gs_lt_f, gs_le_t, gs_le_f, gs_cmp_lt, gs_cmp_eq, gs_cmp_gt, gs_ix_n, gs_nz_n, gs_nzl_g, gs_n_div, gs_af1, gs_af0, gs_ck0, gs_ck1, gs_ck2t, gs_ck2f, gs_ck3, gs_ck4, gs_zd_t, gs_zd_f, gs_zt_t, gs_zt_f, gs_nar1, gs_nar0, gs_tn, if_true, if_false, not_true_eq_false, not_false_eq_true]
          · simp (disch := omega) only [e_M_release, k_M_release_0, k_M_release_6, k_M_release_9, k_M_release_13, k_M_release_16, k_M_release_20, k_M_release_23, k_M_release_25, k_M_release_38, k_M_release_44, k_M_release_47, k_M_release_61, k_M_release_65, k_M_release_70, k_M_release_75, k_M_release_89, k_M_release_93, k_M_release_96, k_M_release_107, k_M_release_111, k_M_release_115, s_M_within, s_M_security, s_M_amountFits, i2, hp, hp2, ab, ↓reduceIte, Int.reduceAdd, Int.reduceSub, Int.reduceMul, Int.reduceToNat, gs_00, gs_ofi, gs_k0_m, gs_k1_m, gs_n8, gs_n16, gs_n_add, gs_n_sub, gs_n_mul, gs_n_neg, gs_m_add, gs_m_sub, gs_m_mul, gs_m_neg, gs_n_l, gs_m_n, gs_n_c, gs_eq_t, gs_eq_f1, gs_eq_f2, gs_lt_t, gs_lt_f, gs_le_t, gs_le_f, gs_cmp_lt, gs_cmp_eq, gs_cmp_gt, gs_ix_n, gs_nz_n, gs_nzl_g, gs_n_div, gs_af1, gs_af0, gs_ck0, gs_ck1, gs_ck2t, gs_ck2f, gs_ck3, gs_ck4, gs_zd_t, gs_zd_f, gs_zt_t, gs_zt_f, gs_nar1, gs_nar0, gs_tn, if_true, if_false, not_true_eq_false, not_false_eq_true]
        · show S.1 f j = _
          rw [gs_ad_at, gs_sb_at]
          split <;> omega
      · rw [if_neg c3]
        have hh := c1.h (n := (p * 3 + s).toNat) (by omega) (by omega)
        have c4 := (c1.aH (j := (p * 3 + s).toNat) (by omega) x).cg (S' := gs_ad (gs_sb S 0 (p * 3 + s).toNat (-x)) 1 (p * 3 + s).toNat (-x)) (fun f j => by
          rw [gs_ad_at, gs_sb_at, gs_ad_at, gs_sb_at, Int.neg_neg]
          omega)
        obtain ⟨d2, e2, c5, f2⟩ := s_M_goThrough c4 w2 (gs_wv_hp hv _ _ _) (by omega)
        refine ⟨d2, ?_, c5, gs_rf.rf.w.w.mf.tr f2⟩
        by_cases c9 : S.1 1 (p * 3 + s).toNat = x
        · by_cases c8 : gs_rm (gs_ad (gs_sb S 0 (p * 3 + s).toNat (-x)) 1 (p * 3 + s).toNat (-x)) (p * 3 + 0) = 0
          · simp (disch := omega) only [e_M_release, k_M_release_0, k_M_release_6, k_M_release_9, k_M_release_13, k_M_release_16, k_M_release_20, k_M_release_23, k_M_release_25, k_M_release_38, k_M_release_44, k_M_release_47, k_M_release_61, k_M_release_65, k_M_release_70, k_M_release_75, k_M_release_89, k_M_release_93, k_M_release_96, k_M_release_107, k_M_release_111, k_M_release_115, s_M_within, s_M_security, s_M_amountFits, i1, i2, hp, hh, ab, e2, ↓reduceIte, Int.reduceAdd, Int.reduceSub, Int.reduceMul, Int.reduceToNat, gs_00, gs_ofi, gs_k0_m, gs_k1_m, gs_n8, gs_n16, gs_n_add, gs_n_sub, gs_n_mul, gs_n_neg, gs_m_add, gs_m_sub, gs_m_mul, gs_m_neg, gs_n_l, gs_m_n, gs_n_c, gs_eq_t, gs_eq_f1, gs_eq_f2, gs_lt_t, gs_lt_f, gs_le_t, gs_le_f, gs_cmp_lt, gs_cmp_eq, gs_cmp_gt, gs_ix_n, gs_nz_n, gs_nzl_g, gs_n_div, gs_af1, gs_af0, gs_ck0, gs_ck1, gs_ck2t, gs_ck2f, gs_ck3, gs_ck4, gs_zd_t, gs_zd_f, gs_zt_t, gs_zt_f, gs_nar1, gs_nar0, gs_tn, if_true, if_false, not_true_eq_false, not_false_eq_true]
          · simp (disch := omega) only [e_M_release, k_M_release_0, k_M_release_6, k_M_release_9, k_M_release_13, k_M_release_16, k_M_release_20, k_M_release_23, k_M_release_25, k_M_release_38, k_M_release_44, k_M_release_47, k_M_release_61, k_M_release_65, k_M_release_70, k_M_release_75, k_M_release_89, k_M_release_93, k_M_release_96, k_M_release_107, k_M_release_111, k_M_release_115, s_M_within, s_M_security, s_M_amountFits, i1, i2, hp, hh, ab, e2, ↓reduceIte, Int.reduceAdd, Int.reduceSub, Int.reduceMul, Int.reduceToNat, gs_00, gs_ofi, gs_k0_m, gs_k1_m, gs_n8, gs_n16, gs_n_add, gs_n_sub, gs_n_mul, gs_n_neg, gs_m_add, gs_m_sub, gs_m_mul, gs_m_neg, gs_n_l, gs_m_n, gs_n_c, gs_eq_t, gs_eq_f1, gs_eq_f2, gs_lt_t, gs_lt_f, gs_le_t, gs_le_f, gs_cmp_lt, gs_cmp_eq, gs_cmp_gt, gs_ix_n, gs_nz_n, gs_nzl_g, gs_n_div, gs_af1, gs_af0, gs_ck0, gs_ck1, gs_ck2t, gs_ck2f, gs_ck3, gs_ck4, gs_zd_t, gs_zd_f, gs_zt_t, gs_zt_f, gs_nar1, gs_nar0, gs_tn, if_true, if_false, not_true_eq_false, not_false_eq_true]
        · by_cases c8 : gs_rm (gs_ad (gs_sb S 0 (p * 3 + s).toNat (-x)) 1 (p * 3 + s).toNat (-x)) (p * 3 + 0) = 0
          · simp (disch := omega) only [e_M_release, k_M_release_0, k_M_release_6, k_M_release_9, k_M_release_13, k_M_release_16, k_M_release_20, k_M_release_23, k_M_release_25, k_M_release_38, k_M_release_44, k_M_release_47, k_M_release_61, k_M_release_65, k_M_release_70, k_M_release_75, k_M_release_89, k_M_release_93, k_M_release_96, k_M_release_107, k_M_release_111, k_M_release_115, s_M_within, s_M_security, s_M_amountFits, i1, i2, hp, hh, ab, e2, ↓reduceIte, Int.reduceAdd, Int.reduceSub, Int.reduceMul, Int.reduceToNat, gs_00, gs_ofi, gs_k0_m, gs_k1_m, gs_n8, gs_n16, gs_n_add, gs_n_sub, gs_n_mul, gs_n_neg, gs_m_add, gs_m_sub, gs_m_mul, gs_m_neg, gs_n_l, gs_m_n, gs_n_c, gs_eq_t, gs_eq_f1, gs_eq_f2, gs_lt_t, gs_lt_f, gs_le_t, gs_le_f, gs_cmp_lt, gs_cmp_eq, gs_cmp_gt, gs_ix_n, gs_nz_n, gs_nzl_g, gs_n_div, gs_af1, gs_af0, gs_ck0, gs_ck1, gs_ck2t, gs_ck2f, gs_ck3, gs_ck4, gs_zd_t, gs_zd_f, gs_zt_t, gs_zt_f, gs_nar1, gs_nar0, gs_tn, if_true, if_false, not_true_eq_false, not_false_eq_true]
          · simp (disch := omega) only [e_M_release, k_M_release_0, k_M_release_6, k_M_release_9, k_M_release_13, k_M_release_16, k_M_release_20, k_M_release_23, k_M_release_25, k_M_release_38, k_M_release_44, k_M_release_47, k_M_release_61, k_M_release_65, k_M_release_70, k_M_release_75, k_M_release_89, k_M_release_93, k_M_release_96, k_M_release_107, k_M_release_111, k_M_release_115, s_M_within, s_M_security, s_M_amountFits, i1, i2, hp, hh, ab, e2, ↓reduceIte, Int.reduceAdd, Int.reduceSub, Int.reduceMul, Int.reduceToNat, gs_00, gs_ofi, gs_k0_m, gs_k1_m, gs_n8, gs_n16, gs_n_add, gs_n_sub, gs_n_mul, gs_n_neg, gs_m_add, gs_m_sub, gs_m_mul, gs_m_neg, gs_n_l, gs_m_n, gs_n_c, gs_eq_t, gs_eq_f1, gs_eq_f2, gs_lt_t, gs_lt_f, gs_le_t, gs_le_f, gs_cmp_lt, gs_cmp_eq, gs_cmp_gt, gs_ix_n, gs_nz_n, gs_nzl_g, gs_n_div, gs_af1, gs_af0, gs_ck0, gs_ck1, gs_ck2t, gs_ck2f, gs_ck3, gs_ck4, gs_zd_t, gs_zd_f, gs_zt_t, gs_zt_f, gs_nar1, gs_nar0, gs_tn, if_true, if_false, not_true_eq_false, not_false_eq_true]
  · rw [if_neg c]
    refine ⟨d, ?_, hM, gs_mf.rf⟩
    simp (disch := omega) only [e_M_release, k_M_release_0, k_M_release_6, k_M_release_9, k_M_release_13, k_M_release_16, k_M_release_20, k_M_release_23, k_M_release_25, k_M_release_38, k_M_release_44, k_M_release_47, k_M_release_61, k_M_release_65, k_M_release_70, k_M_release_75, k_M_release_89, k_M_release_93, k_M_release_96, k_M_release_107, k_M_release_111, k_M_release_115, s_M_within, s_M_security, s_M_amountFits, gs_zd0, gs_00, gs_ofi, gs_k0_m, gs_k1_m, gs_n8, gs_n16, gs_n_add, gs_n_sub, gs_n_mul, gs_n_neg, gs_m_add, gs_m_sub, gs_m_mul, gs_m_neg, gs_n_l, gs_m_n, gs_n_c, gs_eq_iff, gs_lt_iff, gs_le_iff, gs_cge, gs_clt, gs_cle, gs_cgt, gs_ceq, gs_ix_n, gs_nz_n, gs_nzl_g, gs_n_div, gs_af1, gs_af0, gs_ck_ite, gs_ck0, gs_ck1, gs_ck2t, gs_ck2f, gs_ck3, gs_ck4, gs_nar1, gs_nar0, gs_tn, if_true, if_false, not_true_eq_false, not_false_eq_true]
    repeat' split
    all_goals first | rfl | (exfalso; omega)
theorem s_M_limit (hM : gs_Mo 21 d S) (hw : gs_wb B S) (hv : gs_wv S) (hB : B + 80000000 ≤ 1000000000000) {p q x : Int} (p1 : -2147483648 ≤ p) (p2 : p < 2147483648) (q1 : -2147483648 ≤ q) (q2 : q < 2147483648) (x1 : -2147483648 ≤ x) (x2 : x < 2147483648) : ∃ d', f_M_limit [gs_r 20 0, gs_i (gs_n p), gs_i (gs_n q), gs_i (gs_n x)] d = some (some (gs_i (gs_n (o_limit S p q x).1)), d') ∧ gs_Mo 21 d' (o_limit S p q x).2 ∧ gs_mf d d' := by
  have h61 := hw.2.2.1.2.1
  unfold o_limit
  by_cases c : ((0 ≤ p ∧ p < 6) ∧ (0 ≤ q ∧ q < 6) ∧ ¬ p = q) ∧ (-1 ≤ x ∧ x ≤ 1000000)
  · rw [if_pos c]
    have hn := hM.n (j := (p * 6 + q).toNat) h61.1 (by omega)
    have hr := hw.1.2.2 (p * 6 + q).toNat (by omega)
    have hbb := hw.2.2.1.2.2
    have i1 : (70 + 6 * p + q).toNat = 70 + (p * 6 + q).toNat := by omega
    have i2 : (34 + 6 * p + q).toNat = 34 + (p * 6 + q).toNat := by omega
    by_cases c2 : ¬ x = -1 ∧ x < S.1 5 (p * 6 + q).toNat
    · rw [if_pos c2]
      refine ⟨d, ?_, hM, gs_mf.rf⟩
      by_cases c9 : x < -1
      · omega
      · simp (disch := omega) only [e_M_limit, k_M_limit_0, k_M_limit_5, k_M_limit_8, k_M_limit_13, k_M_limit_19, k_M_limit_21, k_M_limit_26, k_M_limit_40, k_M_limit_46, k_M_limit_49, k_M_limit_65, k_M_limit_69, s_M_pair, i1, hn, ↓reduceIte, Int.reduceAdd, Int.reduceSub, Int.reduceMul, Int.reduceToNat, gs_00, gs_ofi, gs_k0_m, gs_k1_m, gs_n8, gs_n16, gs_n_add, gs_n_sub, gs_n_mul, gs_n_neg, gs_m_add, gs_m_sub, gs_m_mul, gs_m_neg, gs_n_l, gs_m_n, gs_n_c, gs_eq_t, gs_eq_f1, gs_eq_f2, gs_lt_t, gs_lt_f, gs_le_t, gs_le_f, gs_cmp_lt, gs_cmp_eq, gs_cmp_gt, gs_ix_n, gs_nz_n, gs_nzl_g, gs_n_div, gs_af1, gs_af0, gs_ck0, gs_ck1, gs_ck2t, gs_ck2f, gs_ck3, gs_ck4, gs_zd_t, gs_zd_f, gs_zt_t, gs_zt_f, gs_nar1, gs_nar0, gs_tn, if_true, if_false, not_true_eq_false, not_false_eq_true]
    · rw [if_neg c2]
      have c1 : gs_Mo 21 (gs_wL d 21 0 (34 + (p * 6 + q).toNat) (gs_m x)) (gs_u S 4 (p * 6 + q).toNat x) := hM.w (gs_u_o S 4 _ _ 1 (by decide)) fun n => Or.inl (gs_mr_u4 S (by omega) x n)
      have w1 := gs_wb_li hw (p * 6 + q).toNat (x := x) (by omega) (by omega)
      obtain ⟨d2, e2, c3, f2⟩ := s_M_goThrough c1 w1 (gs_wv_li hv _ _) (by omega)
      refine ⟨d2, ?_, c3, gs_rf.rf.w.mf.tr f2⟩
      by_cases c9 : x = -1
      · subst c9
        simp (disch := omega) only [e_M_limit, k_M_limit_0, k_M_limit_5, k_M_limit_8, k_M_limit_13, k_M_limit_19, k_M_limit_21, k_M_limit_26, k_M_limit_40, k_M_limit_46, k_M_limit_49, k_M_limit_65, k_M_limit_69, s_M_pair, i1, i2, hn, e2, ↓reduceIte, Int.reduceAdd, Int.reduceSub, Int.reduceMul, Int.reduceToNat, gs_00, gs_ofi, gs_k0_m, gs_k1_m, gs_n8, gs_n16, gs_n_add, gs_n_sub, gs_n_mul, gs_n_neg, gs_m_add, gs_m_sub, gs_m_mul, gs_m_neg, gs_n_l, gs_m_n, gs_n_c, gs_eq_t, gs_eq_f1, gs_eq_f2, gs_lt_t, gs_lt_f, gs_le_t, gs_le_f, gs_cmp_lt, gs_cmp_eq, gs_cmp_gt, gs_ix_n, gs_nz_n, gs_nzl_g, gs_n_div, gs_af1, gs_af0, gs_ck0, gs_ck1, gs_ck2t, gs_ck2f, gs_ck3, gs_ck4, gs_zd_t, gs_zd_f, gs_zt_t, gs_zt_f, gs_nar1, gs_nar0, gs_tn, if_true, if_false, not_true_eq_false, not_false_eq_true]
      · by_cases c8 : S.1 5 (p * 6 + q).toNat = x
        · simp (disch := omega) only [e_M_limit, k_M_limit_0, k_M_limit_5, k_M_limit_8, k_M_limit_13, k_M_limit_19, k_M_limit_21, k_M_limit_26, k_M_limit_40, k_M_limit_46, k_M_limit_49, k_M_limit_65, k_M_limit_69, s_M_pair, i1, i2, hn, e2, ↓reduceIte, Int.reduceAdd, Int.reduceSub, Int.reduceMul, Int.reduceToNat, gs_00, gs_ofi, gs_k0_m, gs_k1_m, gs_n8, gs_n16, gs_n_add, gs_n_sub, gs_n_mul, gs_n_neg, gs_m_add, gs_m_sub, gs_m_mul, gs_m_neg, gs_n_l, gs_m_n, gs_n_c, gs_eq_t, gs_eq_f1, gs_eq_f2, gs_lt_t, gs_lt_f, gs_le_t, gs_le_f, gs_cmp_lt, gs_cmp_eq, gs_cmp_gt, gs_ix_n, gs_nz_n, gs_nzl_g, gs_n_div, gs_af1, gs_af0, gs_ck0, gs_ck1, gs_ck2t, gs_ck2f, gs_ck3, gs_ck4, gs_zd_t, gs_zd_f, gs_zt_t, gs_zt_f, gs_nar1, gs_nar0, gs_tn, if_true, if_false, not_true_eq_false, not_false_eq_true]
        · simp (disch := omega) only [e_M_limit, k_M_limit_0, k_M_limit_5, k_M_limit_8, k_M_limit_13, k_M_limit_19, k_M_limit_21, k_M_limit_26, k_M_limit_40, k_M_limit_46, k_M_limit_49, k_M_limit_65, k_M_limit_69, s_M_pair, i1, i2, hn, e2, ↓reduceIte, Int.reduceAdd, Int.reduceSub, Int.reduceMul, Int.reduceToNat, gs_00, gs_ofi, gs_k0_m, gs_k1_m, gs_n8, gs_n16, gs_n_add, gs_n_sub, gs_n_mul, gs_n_neg, gs_m_add, gs_m_sub, gs_m_mul, gs_m_neg, gs_n_l, gs_m_n, gs_n_c, gs_eq_t, gs_eq_f1, gs_eq_f2, gs_lt_t, gs_lt_f, gs_le_t, gs_le_f, gs_cmp_lt, gs_cmp_eq, gs_cmp_gt, gs_ix_n, gs_nz_n, gs_nzl_g, gs_n_div, gs_af1, gs_af0, gs_ck0, gs_ck1, gs_ck2t, gs_ck2f, gs_ck3, gs_ck4, gs_zd_t, gs_zd_f, gs_zt_t, gs_zt_f, gs_nar1, gs_nar0, gs_tn, if_true, if_false, not_true_eq_false, not_false_eq_true]
  · rw [if_neg c]
    refine ⟨d, ?_, hM, gs_mf.rf⟩
    simp (disch := omega) only [e_M_limit, k_M_limit_0, k_M_limit_5, k_M_limit_8, k_M_limit_13, k_M_limit_19, k_M_limit_21, k_M_limit_26, k_M_limit_40, k_M_limit_46, k_M_limit_49, k_M_limit_65, k_M_limit_69, s_M_pair, gs_zd0, gs_00, gs_ofi, gs_k0_m, gs_k1_m, gs_n8, gs_n16, gs_n_add, gs_n_sub, gs_n_mul, gs_n_neg, gs_m_add, gs_m_sub, gs_m_mul, gs_m_neg, gs_n_l, gs_m_n, gs_n_c, gs_eq_iff, gs_lt_iff, gs_le_iff, gs_cge, gs_clt, gs_cle, gs_cgt, gs_ceq, gs_ix_n, gs_nz_n, gs_nzl_g, gs_n_div, gs_af1, gs_af0, gs_ck_ite, gs_ck0, gs_ck1, gs_ck2t, gs_ck2f, gs_ck3, gs_ck4, gs_nar1, gs_nar0, gs_tn, if_true, if_false, not_true_eq_false, not_false_eq_true]
    repeat' split
    all_goals first | rfl | (exfalso; omega)
theorem s_M_isWaiting (hM : gs_Mo 21 d S) (hw : gs_wb B S) {i : Int} (i1 : -2147483648 ≤ i) (i2 : i < 2147483648) : f_M_isWaiting [gs_r 20 0, gs_i (gs_n i)] d = some (some (gs_i (gs_n (gs_z (decide ((0 ≤ i ∧ i < S.1 6 1) ∧ S.1 (10 + i.toNat) 6 = 0))))), d) := by
  have h61 := hw.2.2.1.2.1
  have hc := s_M_count hM hw
  by_cases c : 0 ≤ i ∧ i < S.1 6 1
  · have hf := s_M_fate hM hw (i := i.toNat) (by omega)
    have hn : ((i.toNat : Nat) : Int) = i := by omega
    rw [hn] at hf
    have hs := (hw.2.2.2 i.toNat (by omega)).2.2.2
    by_cases c2 : S.1 (10 + i.toNat) 6 = 0
    · simp (disch := omega) only [e_M_isWaiting, k_M_isWaiting_0, k_M_isWaiting_5, k_M_isWaiting_8, k_M_isWaiting_11, k_M_isWaiting_16, k_M_isWaiting_19, k_M_isWaiting_23, s_M_within, hc, hf, ↓reduceIte, Int.reduceAdd, Int.reduceSub, Int.reduceMul, Int.reduceToNat, gs_00, gs_ofi, gs_k0_m, gs_k1_m, gs_n8, gs_n16, gs_n_add, gs_n_sub, gs_n_mul, gs_n_neg, gs_m_add, gs_m_sub, gs_m_mul, gs_m_neg, gs_n_l, gs_m_n, gs_n_c, gs_eq_t, gs_eq_f1, gs_eq_f2, gs_lt_t, gs_lt_f, gs_le_t, gs_le_f, gs_cmp_lt, gs_cmp_eq, gs_cmp_gt, gs_ix_n, gs_nz_n, gs_nzl_g, gs_n_div, gs_af1, gs_af0, gs_ck0, gs_ck1, gs_ck2t, gs_ck2f, gs_ck3, gs_ck4, gs_zd_t, gs_zd_f, gs_zt_t, gs_zt_f, gs_nar1, gs_nar0, gs_tn, if_true, if_false, not_true_eq_false, not_false_eq_true]
    · simp (disch := omega) only [e_M_isWaiting, k_M_isWaiting_0, k_M_isWaiting_5, k_M_isWaiting_8, k_M_isWaiting_11, k_M_isWaiting_16, k_M_isWaiting_19, k_M_isWaiting_23, s_M_within, hc, hf, ↓reduceIte, Int.reduceAdd, Int.reduceSub, Int.reduceMul, Int.reduceToNat, gs_00, gs_ofi, gs_k0_m, gs_k1_m, gs_n8, gs_n16, gs_n_add, gs_n_sub, gs_n_mul, gs_n_neg, gs_m_add, gs_m_sub, gs_m_mul, gs_m_neg, gs_n_l, gs_m_n, gs_n_c, gs_eq_t, gs_eq_f1, gs_eq_f2, gs_lt_t, gs_lt_f, gs_le_t, gs_le_f, gs_cmp_lt, gs_cmp_eq, gs_cmp_gt, gs_ix_n, gs_nz_n, gs_nzl_g, gs_n_div, gs_af1, gs_af0, gs_ck0, gs_ck1, gs_ck2t, gs_ck2f, gs_ck3, gs_ck4, gs_zd_t, gs_zd_f, gs_zt_t, gs_zt_f, gs_nar1, gs_nar0, gs_tn, if_true, if_false, not_true_eq_false, not_false_eq_true]
  · simp (disch := omega) only [e_M_isWaiting, k_M_isWaiting_0, k_M_isWaiting_5, k_M_isWaiting_8, k_M_isWaiting_11, k_M_isWaiting_16, k_M_isWaiting_19, k_M_isWaiting_23, s_M_within, hc, ↓reduceIte, Int.reduceAdd, Int.reduceSub, Int.reduceMul, Int.reduceToNat, gs_00, gs_ofi, gs_k0_m, gs_k1_m, gs_n8, gs_n16, gs_n_add, gs_n_sub, gs_n_mul, gs_n_neg, gs_m_add, gs_m_sub, gs_m_mul, gs_m_neg, gs_n_l, gs_m_n, gs_n_c, gs_eq_t, gs_eq_f1, gs_eq_f2, gs_lt_t, gs_lt_f, gs_le_t, gs_le_f, gs_cmp_lt, gs_cmp_eq, gs_cmp_gt, gs_ix_n, gs_nz_n, gs_nzl_g, gs_n_div, gs_af1, gs_af0, gs_ck0, gs_ck1, gs_ck2t, gs_ck2f, gs_ck3, gs_ck4, gs_zd_t, gs_zd_f, gs_zt_t, gs_zt_f, gs_nar1, gs_nar0, gs_tn, if_true, if_false, not_true_eq_false, not_false_eq_true]
theorem s_M_cancel (hM : gs_Mo 21 d S) (hw : gs_wb B S) (hv : gs_wv S) (hB : B + 80000000 ≤ 1000000000000) (hv2 : ∀ i : Int, 0 ≤ i → i < S.1 6 1 → S.1 (10 + i.toNat) 6 = 0 → gs_wv (gs_cl2 (gs_u S (10 + i.toNat) 6 2))) {i : Int} (i1 : -2147483648 ≤ i) (i2 : i < 2147483648) : ∃ d', f_M_cancel [gs_r 20 0, gs_i (gs_n i)] d = some (some (gs_i (gs_n (o_cancel S i).1)), d') ∧ gs_Mo 21 d' (o_cancel S i).2 ∧ gs_mf d d' := by
  have hi := s_M_isWaiting hM hw i1 i2
  unfold o_cancel
  by_cases c : (0 ≤ i ∧ i < S.1 6 1) ∧ S.1 (10 + i.toNat) 6 = 0
  · rw [if_pos c]
    rw [gs_zd_t c] at hi
    have hn : ((i.toNat : Nat) : Int) = i := by omega
    have sf := s_M_setFate hM hw (i := i.toNat) (by omega) (st := 2) (by omega) (by omega)
    rw [hn] at sf
    have c1 : gs_Mo 21 _ (gs_cl2 (gs_u S (10 + i.toNat) 6 2)) := (hM.st i.toNat 2).cg (fun _ _ => rfl)
    have w1 : gs_wb B (gs_cl2 (gs_u S (10 + i.toNat) 6 2)) := gs_wb_st hw i.toNat (by omega) (by omega)
    obtain ⟨d2, e2, c3, f2⟩ := s_M_goThrough c1 w1 (hv2 i c.1.1 c.1.2 c.2) (by omega)
    refine ⟨d2, ?_, c3, gs_rf.rf.w.mf.tr f2⟩
    simp (disch := omega) only [e_M_cancel, k_M_cancel_0, k_M_cancel_5, k_M_cancel_8, k_M_cancel_10, k_M_cancel_16, k_M_cancel_20, hi, sf, gs_eq_f1, gs_eq_f2, gs_00, gs_af1, gs_af0, if_true, if_false, ↓reduceIte, not_false_eq_true, e2, gs_ck1]
  · rw [if_neg c]
    rw [gs_zd_f c] at hi
    refine ⟨d, ?_, hM, gs_mf.rf⟩
    simp (disch := omega) only [e_M_cancel, k_M_cancel_0, k_M_cancel_5, k_M_cancel_8, k_M_cancel_10, k_M_cancel_16, k_M_cancel_20, hi, ↓reduceIte, Int.reduceAdd, Int.reduceSub, Int.reduceMul, Int.reduceToNat, gs_00, gs_ofi, gs_k0_m, gs_k1_m, gs_n8, gs_n16, gs_n_add, gs_n_sub, gs_n_mul, gs_n_neg, gs_m_add, gs_m_sub, gs_m_mul, gs_m_neg, gs_n_l, gs_m_n, gs_n_c, gs_eq_t, gs_eq_f1, gs_eq_f2, gs_lt_t, gs_lt_f, gs_le_t, gs_le_f, gs_cmp_lt, gs_cmp_eq, gs_cmp_gt, gs_ix_n, gs_nz_n, gs_nzl_g, gs_n_div, gs_af1, gs_af0, gs_ck0, gs_ck1, gs_ck2t, gs_ck2f, gs_ck3, gs_ck4, gs_zd_t, gs_zd_f, gs_zt_t, gs_zt_f, gs_nar1, gs_nar0, gs_tn, if_true, if_false, not_true_eq_false, not_false_eq_true]
theorem s_M_prefer (hM : gs_Mo 21 d S) (hw : gs_wb B S) (hB : B + 80000000 ≤ 1000000000000) (hv2 : ∀ i pr : Int, 0 ≤ i → i < S.1 6 1 → S.1 (10 + i.toNat) 6 = 0 → 0 ≤ pr → pr < 3 → gs_wv (gs_rp S i.toNat pr)) {i pr : Int} (i1 : -2147483648 ≤ i) (i2 : i < 2147483648) (r1 : -2147483648 ≤ pr) (r2 : pr < 2147483648) : ∃ d', f_M_prefer [gs_r 20 0, gs_i (gs_n i), gs_i (gs_n pr)] d = some (some (gs_i (gs_n (o_prefer S i pr).1)), d') ∧ gs_Mo 21 d' (o_prefer S i pr).2 ∧ gs_mf d d' := by
  have hi := s_M_isWaiting hM hw i1 i2
  have h61 := hw.2.2.1.2.1
  unfold o_prefer
  by_cases c : (0 ≤ i ∧ i < S.1 6 1) ∧ S.1 (10 + i.toNat) 6 = 0
  · rw [gs_zd_t c] at hi
    by_cases c2 : 0 ≤ pr ∧ pr < 3
    · rw [if_pos ⟨c, c2⟩]
      have i3 : (117 + 8 * i).toNat = 117 + 8 * i.toNat := by omega
      have c1 : gs_Mo 21 (gs_wL d 21 0 (117 + 8 * i.toNat) (gs_m pr)) (gs_u S (10 + i.toNat) 5 pr) := by
        have := hM.w (n0 := 117 + 8 * i.toNat) (x := pr + 4 * S.1 (10 + i.toNat) 6) (S' := gs_u S (10 + i.toNat) 5 pr) (gs_u_o S _ _ _ 1 (by omega)) (fun n => gs_mr_upr S i.toNat pr n)
        rw [c.2, Int.mul_zero, Int.add_zero] at this
        exact this
      have c1 : gs_Mo 21 _ (gs_rp S i.toNat pr) := c1.cg (fun _ _ => rfl)
      have w1 : gs_wb B (gs_rp S i.toNat pr) := gs_wb_pr hw i.toNat c2.1 c2.2
      obtain ⟨d2, e2, c3, f2⟩ := s_M_goThrough c1 w1 (hv2 i pr c.1.1 c.1.2 c.2 c2.1 c2.2) (by omega)
      refine ⟨d2, ?_, c3, gs_rf.rf.w.mf.tr f2⟩
      simp (disch := omega) only [e_M_prefer, k_M_prefer_0, k_M_prefer_5, k_M_prefer_8, k_M_prefer_13, k_M_prefer_16, k_M_prefer_18, k_M_prefer_32, k_M_prefer_36, s_M_within, hi, i3, e2, ↓reduceIte, Int.reduceAdd, Int.reduceSub, Int.reduceMul, Int.reduceToNat, gs_00, gs_ofi, gs_k0_m, gs_k1_m, gs_n8, gs_n16, gs_n_add, gs_n_sub, gs_n_mul, gs_n_neg, gs_m_add, gs_m_sub, gs_m_mul, gs_m_neg, gs_n_l, gs_m_n, gs_n_c, gs_eq_t, gs_eq_f1, gs_eq_f2, gs_lt_t, gs_lt_f, gs_le_t, gs_le_f, gs_cmp_lt, gs_cmp_eq, gs_cmp_gt, gs_ix_n, gs_nz_n, gs_nzl_g, gs_n_div, gs_af1, gs_af0, gs_ck0, gs_ck1, gs_ck2t, gs_ck2f, gs_ck3, gs_ck4, gs_zd_t, gs_zd_f, gs_zt_t, gs_zt_f, gs_nar1, gs_nar0, gs_tn, if_true, if_false, not_true_eq_false, not_false_eq_true]
    · rw [if_neg (fun z => c2 z.2)]
      refine ⟨d, ?_, hM, gs_mf.rf⟩
      simp (disch := omega) only [e_M_prefer, k_M_prefer_0, k_M_prefer_5, k_M_prefer_8, k_M_prefer_13, k_M_prefer_16, k_M_prefer_18, k_M_prefer_32, k_M_prefer_36, s_M_within, hi, ↓reduceIte, Int.reduceAdd, Int.reduceSub, Int.reduceMul, Int.reduceToNat, gs_00, gs_ofi, gs_k0_m, gs_k1_m, gs_n8, gs_n16, gs_n_add, gs_n_sub, gs_n_mul, gs_n_neg, gs_m_add, gs_m_sub, gs_m_mul, gs_m_neg, gs_n_l, gs_m_n, gs_n_c, gs_eq_t, gs_eq_f1, gs_eq_f2, gs_lt_t, gs_lt_f, gs_le_t, gs_le_f, gs_cmp_lt, gs_cmp_eq, gs_cmp_gt, gs_ix_n, gs_nz_n, gs_nzl_g, gs_n_div, gs_af1, gs_af0, gs_ck0, gs_ck1, gs_ck2t, gs_ck2f, gs_ck3, gs_ck4, gs_zd_t, gs_zd_f, gs_zt_t, gs_zt_f, gs_nar1, gs_nar0, gs_tn, if_true, if_false, not_true_eq_false, not_false_eq_true]
  · rw [if_neg (fun z => c z.1)]
    rw [gs_zd_f c] at hi
    refine ⟨d, ?_, hM, gs_mf.rf⟩
    simp (disch := omega) only [e_M_prefer, k_M_prefer_0, k_M_prefer_5, k_M_prefer_8, k_M_prefer_13, k_M_prefer_16, k_M_prefer_18, k_M_prefer_32, k_M_prefer_36, hi, ↓reduceIte, Int.reduceAdd, Int.reduceSub, Int.reduceMul, Int.reduceToNat, gs_00, gs_ofi, gs_k0_m, gs_k1_m, gs_n8, gs_n16, gs_n_add, gs_n_sub, gs_n_mul, gs_n_neg, gs_m_add, gs_m_sub, gs_m_mul, gs_m_neg, gs_n_l, gs_m_n, gs_n_c, gs_eq_t, gs_eq_f1, gs_eq_f2, gs_lt_t, gs_lt_f, gs_le_t, gs_le_f, gs_cmp_lt, gs_cmp_eq, gs_cmp_gt, gs_ix_n, gs_nz_n, gs_nzl_g, gs_n_div, gs_af1, gs_af0, gs_ck0, gs_ck1, gs_ck2t, gs_ck2f, gs_ck3, gs_ck4, gs_zd_t, gs_zd_f, gs_zt_t, gs_zt_f, gs_nar1, gs_nar0, gs_tn, if_true, if_false, not_true_eq_false, not_false_eq_true]
-- questions
theorem s_M_position (hM : gs_Mo 21 d S) (hw : gs_wb B S) (hz : ∀ p : Int, 0 ≤ p → p < 6 → S.1 1 (p * 3 + 0).toNat = 0) {p a w : Int} (p1 : -2147483648 ≤ p) (p2 : p < 2147483648) (a1 : -2147483648 ≤ a) (a2 : a < 2147483648) (w1 : -2147483648 ≤ w) (w2 : w < 2147483648) : f_M_position [gs_r 20 0, gs_i (gs_n p), gs_i (gs_n a), gs_i (gs_n w)] d = some (some (gs_l (gs_m (o_position S p a w))), d) := by
  have h61 := hw.2.2.1.2.1
  unfold o_position
  by_cases c : (0 ≤ p ∧ p < 6) ∧ (0 ≤ a ∧ a < 3) ∧ (0 ≤ w ∧ w < 2)
  · rw [if_pos c]
    have i1 : (3 * p + a).toNat = (p * 3 + a).toNat := by omega
    have i2 : (17 + 2 * p + a).toNat = 17 + 2 * ((p * 3 + a).toNat / 3) + (p * 3 + a).toNat % 3 ∨ a = 0 := by omega
    have hh := hM.h (n := (p * 3 + a).toNat) h61.1 (by omega)
    by_cases c2 : w = 0
    · rw [if_pos c2]
      simp (disch := omega) only [e_M_position, k_M_position_0, k_M_position_6, k_M_position_9, k_M_position_14, k_M_position_17, k_M_position_22, k_M_position_25, k_M_position_29, k_M_position_33, k_M_position_43, k_M_position_46, k_M_position_50, k_M_position_54, k_M_position_67, s_M_within, i1, hh, ↓reduceIte, Int.reduceAdd, Int.reduceSub, Int.reduceMul, Int.reduceToNat, gs_00, gs_ofi, gs_k0_m, gs_k1_m, gs_n8, gs_n16, gs_n_add, gs_n_sub, gs_n_mul, gs_n_neg, gs_m_add, gs_m_sub, gs_m_mul, gs_m_neg, gs_n_l, gs_m_n, gs_n_c, gs_eq_t, gs_eq_f1, gs_eq_f2, gs_lt_t, gs_lt_f, gs_le_t, gs_le_f, gs_cmp_lt, gs_cmp_eq, gs_cmp_gt, gs_ix_n, gs_nz_n, gs_nzl_g, gs_n_div, gs_af1, gs_af0, gs_ck0, gs_ck1, gs_ck2t, gs_ck2f, gs_ck3, gs_ck4, gs_zd_t, gs_zd_f, gs_zt_t, gs_zt_f, gs_nar1, gs_nar0, gs_tn, if_true, if_false, not_true_eq_false, not_false_eq_true]
    · rw [if_neg c2]
      by_cases c3 : a = 0
      · subst c3
        rw [hz p c.1.1 c.1.2]
        simp (disch := omega) only [e_M_position, k_M_position_0, k_M_position_6, k_M_position_9, k_M_position_14, k_M_position_17, k_M_position_22, k_M_position_25, k_M_position_29, k_M_position_33, k_M_position_43, k_M_position_46, k_M_position_50, k_M_position_54, k_M_position_67, s_M_within, ↓reduceIte, Int.reduceAdd, Int.reduceSub, Int.reduceMul, Int.reduceToNat, gs_00, gs_ofi, gs_k0_m, gs_k1_m, gs_n8, gs_n16, gs_n_add, gs_n_sub, gs_n_mul, gs_n_neg, gs_m_add, gs_m_sub, gs_m_mul, gs_m_neg, gs_n_l, gs_m_n, gs_n_c, gs_eq_t, gs_eq_f1, gs_eq_f2, gs_lt_t, gs_lt_f, gs_le_t, gs_le_f, gs_cmp_lt, gs_cmp_eq, gs_cmp_gt, gs_ix_n, gs_nz_n, gs_nzl_g, gs_n_div, gs_af1, gs_af0, gs_ck0, gs_ck1, gs_ck2t, gs_ck2f, gs_ck3, gs_ck4, gs_zd_t, gs_zd_f, gs_zt_t, gs_zt_f, gs_nar1, gs_nar0, gs_tn, if_true, if_false, not_true_eq_false, not_false_eq_true]
      · have i2 := i2.resolve_right c3
        have hp := hM.p (j := (p * 3 + a).toNat) h61.1 (by omega) (by omega)
        simp (disch := omega) only [e_M_position, k_M_position_0, k_M_position_6, k_M_position_9, k_M_position_14, k_M_position_17, k_M_position_22, k_M_position_25, k_M_position_29, k_M_position_33, k_M_position_43, k_M_position_46, k_M_position_50, k_M_position_54, k_M_position_67, s_M_within, i2, hp, ↓reduceIte, Int.reduceAdd, Int.reduceSub, Int.reduceMul, Int.reduceToNat, gs_00, gs_ofi, gs_k0_m, gs_k1_m, gs_n8, gs_n16, gs_n_add, gs_n_sub, gs_n_mul, gs_n_neg, gs_m_add, gs_m_sub, gs_m_mul, gs_m_neg, gs_n_l, gs_m_n, gs_n_c, gs_eq_t, gs_eq_f1, gs_eq_f2, gs_lt_t, gs_lt_f, gs_le_t, gs_le_f, gs_cmp_lt, gs_cmp_eq, gs_cmp_gt, gs_ix_n, gs_nz_n, gs_nzl_g, gs_n_div, gs_af1, gs_af0, gs_ck0, gs_ck1, gs_ck2t, gs_ck2f, gs_ck3, gs_ck4, gs_zd_t, gs_zd_f, gs_zt_t, gs_zt_f, gs_nar1, gs_nar0, gs_tn, if_true, if_false, not_true_eq_false, not_false_eq_true]
  · rw [if_neg c]
    simp (disch := omega) only [e_M_position, k_M_position_0, k_M_position_6, k_M_position_9, k_M_position_14, k_M_position_17, k_M_position_22, k_M_position_25, k_M_position_29, k_M_position_33, k_M_position_43, k_M_position_46, k_M_position_50, k_M_position_54, k_M_position_67, s_M_within, gs_zd0, gs_00, gs_ofi, gs_k0_m, gs_k1_m, gs_n8, gs_n16, gs_n_add, gs_n_sub, gs_n_mul, gs_n_neg, gs_m_add, gs_m_sub, gs_m_mul, gs_m_neg, gs_n_l, gs_m_n, gs_n_c, gs_eq_iff, gs_lt_iff, gs_le_iff, gs_cge, gs_clt, gs_cle, gs_cgt, gs_ceq, gs_ix_n, gs_nz_n, gs_nzl_g, gs_n_div, gs_af1, gs_af0, gs_ck_ite, gs_ck0, gs_ck1, gs_ck2t, gs_ck2f, gs_ck3, gs_ck4, gs_nar1, gs_nar0, gs_tn, if_true, if_false, not_true_eq_false, not_false_eq_true]
    repeat' split
    all_goals first | rfl | (exfalso; omega)
theorem s_M_line (hM : gs_Mo 21 d S) (hw : gs_wb B S) {p : Int} (p1 : -2147483648 ≤ p) (p2 : p < 2147483648) : f_M_line [gs_r 20 0, gs_i (gs_n p)] d = some (some (gs_l (gs_m (o_line S p))), d) := by
  unfold o_line
  by_cases c : 0 ≤ p ∧ p < 6
  · rw [if_pos c]
    have e := s_M_lineOf hM hw c.1 c.2
    simp (disch := omega) only [e_M_line, k_M_line_0, k_M_line_6, k_M_line_9, k_M_line_14, k_M_line_17, s_M_within, e, ↓reduceIte, Int.reduceAdd, Int.reduceSub, Int.reduceMul, Int.reduceToNat, gs_00, gs_ofi, gs_k0_m, gs_k1_m, gs_n8, gs_n16, gs_n_add, gs_n_sub, gs_n_mul, gs_n_neg, gs_m_add, gs_m_sub, gs_m_mul, gs_m_neg, gs_n_l, gs_m_n, gs_n_c, gs_eq_t, gs_eq_f1, gs_eq_f2, gs_lt_t, gs_lt_f, gs_le_t, gs_le_f, gs_cmp_lt, gs_cmp_eq, gs_cmp_gt, gs_ix_n, gs_nz_n, gs_nzl_g, gs_n_div, gs_af1, gs_af0, gs_ck0, gs_ck1, gs_ck2t, gs_ck2f, gs_ck3, gs_ck4, gs_zd_t, gs_zd_f, gs_zt_t, gs_zt_f, gs_nar1, gs_nar0, gs_tn, if_true, if_false, not_true_eq_false, not_false_eq_true]
  · rw [if_neg c]
    simp (disch := omega) only [e_M_line, k_M_line_0, k_M_line_6, k_M_line_9, k_M_line_14, k_M_line_17, s_M_within, ↓reduceIte, Int.reduceAdd, Int.reduceSub, Int.reduceMul, Int.reduceToNat, gs_00, gs_ofi, gs_k0_m, gs_k1_m, gs_n8, gs_n16, gs_n_add, gs_n_sub, gs_n_mul, gs_n_neg, gs_m_add, gs_m_sub, gs_m_mul, gs_m_neg, gs_n_l, gs_m_n, gs_n_c, gs_eq_t, gs_eq_f1, gs_eq_f2, gs_lt_t, gs_lt_f, gs_le_t, gs_le_f, gs_cmp_lt, gs_cmp_eq, gs_cmp_gt, gs_ix_n, gs_nz_n, gs_nzl_g, gs_n_div, gs_af1, gs_af0, gs_ck0, gs_ck1, gs_ck2t, gs_ck2f, gs_ck3, gs_ck4, gs_zd_t, gs_zd_f, gs_zt_t, gs_zt_f, gs_nar1, gs_nar0, gs_tn, if_true, if_false, not_true_eq_false, not_false_eq_true]
theorem s_M_net (hM : gs_Mo 21 d S) (hw : gs_wb B S) {p q : Int} (p1 : -2147483648 ≤ p) (p2 : p < 2147483648) (q1 : -2147483648 ≤ q) (q2 : q < 2147483648) : f_M_net [gs_r 20 0, gs_i (gs_n p), gs_i (gs_n q)] d = some (some (gs_l (gs_m (o_net S p q))), d) := by
  have h61 := hw.2.2.1.2.1
  unfold o_net
  by_cases c : (0 ≤ p ∧ p < 6) ∧ (0 ≤ q ∧ q < 6) ∧ ¬ p = q
  · rw [if_pos c]
    have hn := hM.n (j := (p * 6 + q).toNat) h61.1 (by omega)
    have i1 : (70 + 6 * p + q).toNat = 70 + (p * 6 + q).toNat := by omega
    simp (disch := omega) only [e_M_net, k_M_net_0, k_M_net_5, k_M_net_8, k_M_net_22, k_M_net_25, s_M_pair, i1, hn, ↓reduceIte, Int.reduceAdd, Int.reduceSub, Int.reduceMul, Int.reduceToNat, gs_00, gs_ofi, gs_k0_m, gs_k1_m, gs_n8, gs_n16, gs_n_add, gs_n_sub, gs_n_mul, gs_n_neg, gs_m_add, gs_m_sub, gs_m_mul, gs_m_neg, gs_n_l, gs_m_n, gs_n_c, gs_eq_t, gs_eq_f1, gs_eq_f2, gs_lt_t, gs_lt_f, gs_le_t, gs_le_f, gs_cmp_lt, gs_cmp_eq, gs_cmp_gt, gs_ix_n, gs_nz_n, gs_nzl_g, gs_n_div, gs_af1, gs_af0, gs_ck0, gs_ck1, gs_ck2t, gs_ck2f, gs_ck3, gs_ck4, gs_zd_t, gs_zd_f, gs_zt_t, gs_zt_f, gs_nar1, gs_nar0, gs_tn, if_true, if_false, not_true_eq_false, not_false_eq_true]
  · rw [if_neg c]
    simp (disch := omega) only [e_M_net, k_M_net_0, k_M_net_5, k_M_net_8, k_M_net_22, k_M_net_25, s_M_pair, ↓reduceIte, Int.reduceAdd, Int.reduceSub, Int.reduceMul, Int.reduceToNat, gs_00, gs_ofi, gs_k0_m, gs_k1_m, gs_n8, gs_n16, gs_n_add, gs_n_sub, gs_n_mul, gs_n_neg, gs_m_add, gs_m_sub, gs_m_mul, gs_m_neg, gs_n_l, gs_m_n, gs_n_c, gs_eq_t, gs_eq_f1, gs_eq_f2, gs_lt_t, gs_lt_f, gs_le_t, gs_le_f, gs_cmp_lt, gs_cmp_eq, gs_cmp_gt, gs_ix_n, gs_nz_n, gs_nzl_g, gs_n_div, gs_af1, gs_af0, gs_ck0, gs_ck1, gs_ck2t, gs_ck2f, gs_ck3, gs_ck4, gs_zd_t, gs_zd_f, gs_zt_t, gs_zt_f, gs_nar1, gs_nar0, gs_tn, if_true, if_false, not_true_eq_false, not_false_eq_true]
theorem s_M_status (hM : gs_Mo 21 d S) (hw : gs_wb B S) {i : Int} (i1 : -2147483648 ≤ i) (i2 : i < 2147483648) : f_M_status [gs_r 20 0, gs_i (gs_n i)] d = some (some (gs_i (gs_n (o_status S i))), d) := by
  unfold o_status
  have h61 := hw.2.2.1.2.1
  have hc := s_M_count hM hw
  by_cases c : 0 ≤ i ∧ i < S.1 6 1
  · rw [if_pos c]
    have hf := s_M_fate hM hw (i := i.toNat) (by omega)
    have hn : ((i.toNat : Nat) : Int) = i := by omega
    rw [hn] at hf
    simp (disch := omega) only [e_M_status, k_M_status_0, k_M_status_5, k_M_status_8, k_M_status_11, k_M_status_16, k_M_status_19, s_M_within, hc, hf, ↓reduceIte, Int.reduceAdd, Int.reduceSub, Int.reduceMul, Int.reduceToNat, gs_00, gs_ofi, gs_k0_m, gs_k1_m, gs_n8, gs_n16, gs_n_add, gs_n_sub, gs_n_mul, gs_n_neg, gs_m_add, gs_m_sub, gs_m_mul, gs_m_neg, gs_n_l, gs_m_n, gs_n_c, gs_eq_t, gs_eq_f1, gs_eq_f2, gs_lt_t, gs_lt_f, gs_le_t, gs_le_f, gs_cmp_lt, gs_cmp_eq, gs_cmp_gt, gs_ix_n, gs_nz_n, gs_nzl_g, gs_n_div, gs_af1, gs_af0, gs_ck0, gs_ck1, gs_ck2t, gs_ck2f, gs_ck3, gs_ck4, gs_zd_t, gs_zd_f, gs_zt_t, gs_zt_f, gs_nar1, gs_nar0, gs_tn, if_true, if_false, not_true_eq_false, not_false_eq_true]
  · rw [if_neg c]
    simp (disch := omega) only [e_M_status, k_M_status_0, k_M_status_5, k_M_status_8, k_M_status_11, k_M_status_16, k_M_status_19, s_M_within, hc, ↓reduceIte, Int.reduceAdd, Int.reduceSub, Int.reduceMul, Int.reduceToNat, gs_00, gs_ofi, gs_k0_m, gs_k1_m, gs_n8, gs_n16, gs_n_add, gs_n_sub, gs_n_mul, gs_n_neg, gs_m_add, gs_m_sub, gs_m_mul, gs_m_neg, gs_n_l, gs_m_n, gs_n_c, gs_eq_t, gs_eq_f1, gs_eq_f2, gs_lt_t, gs_lt_f, gs_le_t, gs_le_f, gs_cmp_lt, gs_cmp_eq, gs_cmp_gt, gs_ix_n, gs_nz_n, gs_nzl_g, gs_n_div, gs_af1, gs_af0, gs_ck0, gs_ck1, gs_ck2t, gs_ck2f, gs_ck3, gs_ck4, gs_zd_t, gs_zd_f, gs_zt_t, gs_zt_f, gs_nar1, gs_nar0, gs_tn, if_true, if_false, not_true_eq_false, not_false_eq_true]
theorem s_M_waiting (hM : gs_Mo 21 d S) (hw : gs_wb B S) (hv : gs_wv S) {k : Int} (k1 : -2147483648 ≤ k) (k2 : k < 2147483648) : ∃ d', f_M_waiting [gs_r 20 0, gs_i (gs_n k)] d = some (some (gs_i (gs_n (o_waiting S k))), d') ∧ gs_Mo 21 d' S ∧ gs_mf d d' := by
  have hl := hv.2
  obtain ⟨d1, e1, q1, f1⟩ := s_M_order hM hw (by rw [← hv.1]; exact hv.2)
  rw [← hv.1] at q1
  have hw0 := q1.1
  refine ⟨d1, ?_, f1.Mo hM, f1.mf⟩
  unfold o_waiting
  by_cases c : 0 ≤ k ∧ k < S.2.length
  · rw [if_pos c]
    have ha := q1.at c.1 c.2
    simp (disch := omega) only [e_M_waiting, k_M_waiting_0, k_M_waiting_4, k_M_waiting_12, k_M_waiting_15, k_M_waiting_21, k_M_waiting_24, s_M_within, e1, hw0, ha, ↓reduceIte, Int.reduceAdd, Int.reduceSub, Int.reduceMul, Int.reduceToNat, gs_00, gs_ofi, gs_k0_m, gs_k1_m, gs_n8, gs_n16, gs_n_add, gs_n_sub, gs_n_mul, gs_n_neg, gs_m_add, gs_m_sub, gs_m_mul, gs_m_neg, gs_n_l, gs_m_n, gs_n_c, gs_eq_t, gs_eq_f1, gs_eq_f2, gs_lt_t, gs_lt_f, gs_le_t, gs_le_f, gs_cmp_lt, gs_cmp_eq, gs_cmp_gt, gs_ix_n, gs_nz_n, gs_nzl_g, gs_n_div, gs_af1, gs_af0, gs_ck0, gs_ck1, gs_ck2t, gs_ck2f, gs_ck3, gs_ck4, gs_zd_t, gs_zd_f, gs_zt_t, gs_zt_f, gs_nar1, gs_nar0, gs_tn, if_true, if_false, not_true_eq_false, not_false_eq_true]
  · rw [if_neg c]
    simp (disch := omega) only [e_M_waiting, k_M_waiting_0, k_M_waiting_4, k_M_waiting_12, k_M_waiting_15, k_M_waiting_21, k_M_waiting_24, s_M_within, e1, hw0, ↓reduceIte, Int.reduceAdd, Int.reduceSub, Int.reduceMul, Int.reduceToNat, gs_00, gs_ofi, gs_k0_m, gs_k1_m, gs_n8, gs_n16, gs_n_add, gs_n_sub, gs_n_mul, gs_n_neg, gs_m_add, gs_m_sub, gs_m_mul, gs_m_neg, gs_n_l, gs_m_n, gs_n_c, gs_eq_t, gs_eq_f1, gs_eq_f2, gs_lt_t, gs_lt_f, gs_le_t, gs_le_f, gs_cmp_lt, gs_cmp_eq, gs_cmp_gt, gs_ix_n, gs_nz_n, gs_nzl_g, gs_n_div, gs_af1, gs_af0, gs_ck0, gs_ck1, gs_ck2t, gs_ck2f, gs_ck3, gs_ck4, gs_zd_t, gs_zd_f, gs_zt_t, gs_zt_f, gs_nar1, gs_nar0, gs_tn, if_true, if_false, not_true_eq_false, not_false_eq_true]
theorem s_M_behind (hM : gs_Mo 21 d S) (hw : gs_wb B S) (hv : gs_wv S) {k : Int} (k1 : -2147483648 ≤ k) (k2 : k < 2147483648) : ∃ d', f_M_behind [gs_r 20 0, gs_i (gs_n k)] d = some (some (gs_i (gs_n (o_behind S k))), d') ∧ gs_Mo 21 d' S ∧ gs_mf d d' := by
  have hl := hv.2
  obtain ⟨d1, e1, q1, f1⟩ := s_M_order hM hw (by rw [← hv.1]; exact hv.2)
  rw [← hv.1] at q1
  have hw0 := q1.1
  refine ⟨d1, ?_, f1.Mo hM, f1.mf⟩
  unfold o_behind
  by_cases c : 0 ≤ k ∧ k < S.2.length
  · rw [if_pos c]
    have ha := s_M_behindCount (f1.Mo hM) hw q1 (hv.q hw) c.1 c.2
    simp (disch := omega) only [e_M_behind, k_M_behind_0, k_M_behind_4, k_M_behind_12, k_M_behind_15, k_M_behind_20, k_M_behind_23, s_M_within, e1, hw0, ha, ↓reduceIte, Int.reduceAdd, Int.reduceSub, Int.reduceMul, Int.reduceToNat, gs_00, gs_ofi, gs_k0_m, gs_k1_m, gs_n8, gs_n16, gs_n_add, gs_n_sub, gs_n_mul, gs_n_neg, gs_m_add, gs_m_sub, gs_m_mul, gs_m_neg, gs_n_l, gs_m_n, gs_n_c, gs_eq_t, gs_eq_f1, gs_eq_f2, gs_lt_t, gs_lt_f, gs_le_t, gs_le_f, gs_cmp_lt, gs_cmp_eq, gs_cmp_gt, gs_ix_n, gs_nz_n, gs_nzl_g, gs_n_div, gs_af1, gs_af0, gs_ck0, gs_ck1, gs_ck2t, gs_ck2f, gs_ck3, gs_ck4, gs_zd_t, gs_zd_f, gs_zt_t, gs_zt_f, gs_nar1, gs_nar0, gs_tn, if_true, if_false, not_true_eq_false, not_false_eq_true]
  · rw [if_neg c]
    simp (disch := omega) only [e_M_behind, k_M_behind_0, k_M_behind_4, k_M_behind_12, k_M_behind_15, k_M_behind_20, k_M_behind_23, s_M_within, e1, hw0, ↓reduceIte, Int.reduceAdd, Int.reduceSub, Int.reduceMul, Int.reduceToNat, gs_00, gs_ofi, gs_k0_m, gs_k1_m, gs_n8, gs_n16, gs_n_add, gs_n_sub, gs_n_mul, gs_n_neg, gs_m_add, gs_m_sub, gs_m_mul, gs_m_neg, gs_n_l, gs_m_n, gs_n_c, gs_eq_t, gs_eq_f1, gs_eq_f2, gs_lt_t, gs_lt_f, gs_le_t, gs_le_f, gs_cmp_lt, gs_cmp_eq, gs_cmp_gt, gs_ix_n, gs_nz_n, gs_nzl_g, gs_n_div, gs_af1, gs_af0, gs_ck0, gs_ck1, gs_ck2t, gs_ck2f, gs_ck3, gs_ck4, gs_zd_t, gs_zd_f, gs_zt_t, gs_zt_f, gs_nar1, gs_nar0, gs_tn, if_true, if_false, not_true_eq_false, not_false_eq_true]
end MV
