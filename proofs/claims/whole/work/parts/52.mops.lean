-- the model's calls
section MU
variable {d : gs_D} {S : gs_S} {B : Int}
theorem gs_mr_u1 (S : gs_S) {j : Nat} (hj : j < 18) (h3 : j % 3 ≠ 0) (x : Int) (n : Nat) : gs_mr (gs_u S 1 j x) n = if n = 17 + 2 * (j / 3) + j % 3 then x else gs_mr S n := by
  have o : ∀ a c, a ≠ 1 → (gs_u S 1 j x).1 a c = S.1 a c := fun a c h => gs_u_o S 1 j x c h
  by_cases c : 18 ≤ n ∧ n < 30
  · rw [gs_mr_p c.1 c.2, gs_mr_p c.1 c.2]
    by_cases z : n = 17 + 2 * (j / 3) + j % 3
    · rw [if_pos z, show 3 * ((n - 18) / 2) + 1 + (n - 18) % 2 = j by omega, gs_u_s]
    · rw [if_neg z, gs_u_j _ _ (by omega)]
  · rw [if_neg (show ¬ n = 17 + 2 * (j / 3) + j % 3 by omega)]
    unfold gs_mr
    simp only [o 0 _ (by decide), o 2 _ (by decide), o 3 _ (by decide), o 4 _ (by decide), o 5 _ (by decide), o 6 _ (by decide), gs_ms_u S (show 1 < 10 by omega)]
    repeat' split
    all_goals first | rfl | (exfalso; omega)
theorem gs_mr_u2 (S : gs_S) {j : Nat} (h1 : 1 ≤ j) (h2 : j < 3) (x : Int) (n : Nat) : gs_mr (gs_u S 2 j x) n = if n = 29 + j then x else gs_mr S n := by
  have o : ∀ a c, a ≠ 2 → (gs_u S 2 j x).1 a c = S.1 a c := fun a c h => gs_u_o S 2 j x c h
  by_cases c : 30 ≤ n ∧ n < 32
  · rw [gs_mr_r c.1 c.2, gs_mr_r c.1 c.2]
    by_cases z : n = 29 + j
    · rw [if_pos z, show n - 29 = j by omega, gs_u_s]
    · rw [if_neg z, gs_u_j _ _ (by omega)]
  · rw [if_neg (show ¬ n = 29 + j by omega)]
    unfold gs_mr
    simp only [o 0 _ (by decide), o 1 _ (by decide), o 3 _ (by decide), o 4 _ (by decide), o 5 _ (by decide), o 6 _ (by decide), gs_ms_u S (show 2 < 10 by omega)]
    repeat' split
    all_goals first | rfl | (exfalso; omega)
theorem gs_mr_u3 (S : gs_S) {j : Nat} (h1 : 1 ≤ j) (h2 : j < 3) (x : Int) (n : Nat) : gs_mr (gs_u S 3 j x) n = if n = 31 + j then x else gs_mr S n := by
  have o : ∀ a c, a ≠ 3 → (gs_u S 3 j x).1 a c = S.1 a c := fun a c h => gs_u_o S 3 j x c h
  by_cases c : 32 ≤ n ∧ n < 34
  · rw [gs_mr_c c.1 c.2, gs_mr_c c.1 c.2]
    by_cases z : n = 31 + j
    · rw [if_pos z, show n - 31 = j by omega, gs_u_s]
    · rw [if_neg z, gs_u_j _ _ (by omega)]
  · rw [if_neg (show ¬ n = 31 + j by omega)]
    unfold gs_mr
    simp only [o 0 _ (by decide), o 1 _ (by decide), o 2 _ (by decide), o 4 _ (by decide), o 5 _ (by decide), o 6 _ (by decide), gs_ms_u S (show 3 < 10 by omega)]
    repeat' split
    all_goals first | rfl | (exfalso; omega)
theorem gs_mr_u4 (S : gs_S) {j : Nat} (hj : j < 36) (x : Int) (n : Nat) : gs_mr (gs_u S 4 j x) n = if n = 34 + j then x else gs_mr S n := by
  have o : ∀ a c, a ≠ 4 → (gs_u S 4 j x).1 a c = S.1 a c := fun a c h => gs_u_o S 4 j x c h
  by_cases c : 34 ≤ n ∧ n < 70
  · rw [gs_mr_l c.1 c.2, gs_mr_l c.1 c.2]
    by_cases z : n = 34 + j
    · rw [if_pos z, show n - 34 = j by omega, gs_u_s]
    · rw [if_neg z, gs_u_j _ _ (by omega)]
  · rw [if_neg (show ¬ n = 34 + j by omega)]
    unfold gs_mr
    simp only [o 0 _ (by decide), o 1 _ (by decide), o 2 _ (by decide), o 3 _ (by decide), o 5 _ (by decide), o 6 _ (by decide), gs_ms_u S (show 4 < 10 by omega)]
    repeat' split
    all_goals first | rfl | (exfalso; omega)
theorem gs_mr_u60 (S : gs_S) (x : Int) (n : Nat) : gs_mr (gs_u S 6 0 x) n = if n = 106 then x else gs_mr S n := by
  have o : ∀ a c, a ≠ 6 → (gs_u S 6 0 x).1 a c = S.1 a c := fun a c h => gs_u_o S 6 0 x c h
  by_cases c : n = 106
  · rw [c, gs_mr_d, if_pos rfl, gs_u_s]
  · rw [if_neg c]
    unfold gs_mr
    simp only [o 0 _ (by decide), o 1 _ (by decide), o 2 _ (by decide), o 3 _ (by decide), o 4 _ (by decide), o 5 _ (by decide), gs_ms_u S (show 6 < 10 by omega), gs_u_j S (f := 6) (j := 0) (a := 6) (c := 1) x (by omega)]
    repeat' split
    all_goals first | rfl | (exfalso; omega)
theorem gs_mr_upr (S : gs_S) (i : Nat) (pr : Int) (n : Nat) : gs_mr (gs_u S (10 + i) 5 pr) n = (if n = 117 + 8 * i then pr + 4 * S.1 (10 + i) 6 else gs_mr S n) ∨ n = 108 ∨ n = 109 := by
  have o : ∀ a c, a < 10 → (gs_u S (10 + i) 5 pr).1 a c = S.1 a c := fun a c h => gs_u_o S (10 + i) 5 pr c (by omega)
  by_cases c : n < 110
  · by_cases c8 : n = 108 ∨ n = 109
    · exact Or.inr c8
    · left
      rw [if_neg (show ¬ n = 117 + 8 * i by omega)]
      unfold gs_mr
      simp only [o 0 _ (by omega), o 1 _ (by omega), o 2 _ (by omega), o 3 _ (by omega), o 4 _ (by omega), o 5 _ (by omega), o 6 _ (by omega)]
      repeat' split
      all_goals first | rfl | (exfalso; omega)
  · left
    rw [gs_mr_i (by omega), gs_mr_i (by omega)]
    by_cases z : (n - 110) / 8 = i
    · have e : ∀ k, k ≠ 5 → (gs_u S (10 + i) 5 pr).1 (10 + i) k = S.1 (10 + i) k := fun k hk => gs_u_j S pr (fun y => hk y.2)
      have e5 : (gs_u S (10 + i) 5 pr).1 (10 + i) 5 = pr := gs_u_s S _ _ _
      rw [z]
      by_cases y : (n - 110) % 8 = 7
      · rw [if_pos (by omega), y]
        show (gs_u S (10 + i) 5 pr).1 (10 + i) 5 + 4 * (gs_u S (10 + i) 5 pr).1 (10 + i) 6 = _
        rw [e 6 (by omega), e5]
      · rw [if_neg (by omega)]
        have h8 : (n - 110) % 8 < 7 := by omega
        generalize (n - 110) % 8 = m at h8
        rcases m with _ | _ | _ | _ | _ | _ | _ | m
        · show (if 0 < (gs_u S (10 + i) 5 pr).1 (10 + i) 4 then (gs_u S (10 + i) 5 pr).1 (10 + i) 1 else -1) = _
          rw [e 4 (by omega), e 1 (by omega)]; rfl
        · show (if 0 < (gs_u S (10 + i) 5 pr).1 (10 + i) 4 then (gs_u S (10 + i) 5 pr).1 (10 + i) 0 else -1) = _
          rw [e 4 (by omega), e 0 (by omega)]; rfl
        · show (if 0 < (gs_u S (10 + i) 5 pr).1 (10 + i) 3 then (gs_u S (10 + i) 5 pr).1 (10 + i) 0 else -1) = _
          rw [e 3 (by omega), e 0 (by omega)]; rfl
        · show (if 0 < (gs_u S (10 + i) 5 pr).1 (10 + i) 3 then (gs_u S (10 + i) 5 pr).1 (10 + i) 1 else -1) = _
          rw [e 3 (by omega), e 1 (by omega)]; rfl
        · exact e 2 (by omega)
        · exact e 4 (by omega)
        · exact e 3 (by omega)
        · omega
    · rw [if_neg (by omega)]
      have e : ∀ k, (gs_u S (10 + i) 5 pr).1 (10 + (n - 110) / 8) k = S.1 (10 + (n - 110) / 8) k := fun k => gs_u_o S _ _ _ k (by omega)
      unfold gs_ms
      simp only [e]
theorem gs_Mo.aP {t : Nat} (hM : gs_Mo t d S) {j : Nat} (hj : j < 18) (h3 : j % 3 ≠ 0) (x : Int) : gs_Mo t (gs_wL d t 0 (17 + 2 * (j / 3) + j % 3) (gs_m (S.1 1 j + x))) (gs_ad S 1 j x) := hM.w (gs_u_o S 1 j _ 1 (by decide)) fun n => Or.inl (gs_mr_u1 S hj h3 _ n)
theorem gs_Mo.p {t : Nat} (hM : gs_Mo t d S) (hc : 0 ≤ S.1 6 1) {j : Nat} (hj : j < 18) (h3 : j % 3 ≠ 0) : d.2 t 0 (17 + 2 * (j / 3) + j % 3) = gs_m (S.1 1 j) := by
  rw [hM _ (by omega) (by omega) (by omega), gs_mr_p (by omega) (by omega), show 3 * ((17 + 2 * (j / 3) + j % 3 - 18) / 2) + 1 + (17 + 2 * (j / 3) + j % 3 - 18) % 2 = j by omega]
theorem s_M_issue (hM : gs_Mo 21 d S) (hw : gs_wb B S) {p a x : Int} (p1 : -2147483648 ≤ p) (p2 : p < 2147483648) (a1 : -2147483648 ≤ a) (a2 : a < 2147483648) (x1 : -2147483648 ≤ x) (x2 : x < 2147483648) : ∃ d', f_M_issue [gs_r 20 0, gs_i (gs_n p), gs_i (gs_n a), gs_i (gs_n x)] d = some (some (gs_i (gs_n (o_issue S p a x).1)), d') ∧ gs_Mo 21 d' (o_issue S p a x).2 ∧ gs_mf d d' := by
  have hd := s_M_day hM hw
  have h6 := hw.2.2.1.1
  have h61 := hw.2.2.1.2.1
  unfold o_issue
  by_cases c : ((0 ≤ p ∧ p < 6) ∧ (0 ≤ a ∧ a < 3) ∧ (1 ≤ x ∧ x ≤ 1000000)) ∧ S.1 6 0 = 0
  · rw [if_pos c]
    have hh := hM.h (n := (p * 3 + a).toNat) h61.1 (by omega)
    have i1 : (3 * p + a).toNat = (p * 3 + a).toNat := by omega
    refine ⟨_, ?_, hM.aH (j := (p * 3 + a).toNat) (by omega) x, gs_rf.rf.w.mf⟩
    simp (disch := omega) only [e_M_issue, k_M_issue_0, k_M_issue_6, k_M_issue_9, k_M_issue_14, k_M_issue_17, k_M_issue_21, k_M_issue_24, k_M_issue_28, k_M_issue_31, k_M_issue_33, k_M_issue_44, k_M_issue_48, s_M_within, s_M_amountFits, hd, i1, hh, ↓reduceIte, Int.reduceAdd, Int.reduceSub, Int.reduceMul, Int.reduceToNat, gs_00, gs_ofi, gs_k0_m, gs_k1_m, gs_n8, gs_n16, gs_n_add, gs_n_sub, gs_n_mul, gs_n_neg, gs_m_add, gs_m_sub, gs_m_mul, gs_m_neg, gs_n_l, gs_m_n, gs_n_c, gs_eq_t, gs_eq_f1, gs_eq_f2, gs_lt_t, gs_lt_f, gs_le_t, gs_le_f, gs_cmp_lt, gs_cmp_eq, gs_cmp_gt, gs_ix_n, gs_nz_n, gs_nzl_g, gs_n_div, gs_af1, gs_af0, gs_ck0, gs_ck1, gs_ck2t, gs_ck2f, gs_ck3, gs_ck4, gs_zd_t, gs_zd_f, gs_zt_t, gs_zt_f, gs_nar1, gs_nar0, gs_tn, if_true, if_false, not_true_eq_false, not_false_eq_true]
  · rw [if_neg c]
    refine ⟨d, ?_, hM, gs_mf.rf⟩
    simp (disch := omega) only [e_M_issue, k_M_issue_0, k_M_issue_6, k_M_issue_9, k_M_issue_14, k_M_issue_17, k_M_issue_21, k_M_issue_24, k_M_issue_28, k_M_issue_31, k_M_issue_33, k_M_issue_44, k_M_issue_48, s_M_within, s_M_amountFits, hd, gs_zd0, gs_00, gs_ofi, gs_k0_m, gs_k1_m, gs_n8, gs_n16, gs_n_add, gs_n_sub, gs_n_mul, gs_n_neg, gs_m_add, gs_m_sub, gs_m_mul, gs_m_neg, gs_n_l, gs_m_n, gs_n_c, gs_eq_iff, gs_lt_iff, gs_le_iff, gs_cge, gs_clt, gs_cle, gs_cgt, gs_ceq, gs_ix_n, gs_nz_n, gs_nzl_g, gs_n_div, gs_af1, gs_af0, gs_ck_ite, gs_ck0, gs_ck1, gs_ck2t, gs_ck2f, gs_ck3, gs_ck4, gs_nar1, gs_nar0, gs_tn, if_true, if_false, not_true_eq_false, not_false_eq_true]
    repeat' split
    all_goals first | rfl | (exfalso; omega)
theorem s_M_pledge (hM : gs_Mo 21 d S) (hw : gs_wb B S) (hv : gs_wv S) (hB : B + 80000000 ≤ 1000000000000) {p s x : Int} (p1 : -2147483648 ≤ p) (p2 : p < 2147483648) (s1 : -2147483648 ≤ s) (s2 : s < 2147483648) (x1 : -2147483648 ≤ x) (x2 : x < 2147483648) : ∃ d', f_M_pledge [gs_r 20 0, gs_i (gs_n p), gs_i (gs_n s), gs_i (gs_n x)] d = some (some (gs_i (gs_n (o_pledge S p s x).1)), d') ∧ gs_Mo 21 d' (o_pledge S p s x).2 ∧ gs_mf d d' := by
  have h61 := hw.2.2.1.2.1
  unfold o_pledge
  by_cases c : (0 ≤ p ∧ p < 6) ∧ (1 ≤ s ∧ s < 3) ∧ (1 ≤ x ∧ x ≤ 1000000)
  · rw [if_pos c]
    have hr := hw.1.1 (p * 3 + s).toNat (by omega)
    have hr2 := hw.1.2.1 (p * 3 + s).toNat (by omega)
    have hh := hM.h (n := (p * 3 + s).toNat) h61.1 (by omega)
    have i1 : (3 * p + s).toNat = (p * 3 + s).toNat := by omega
    have i2 : (17 + 2 * p + s).toNat = 17 + 2 * ((p * 3 + s).toNat / 3) + (p * 3 + s).toNat % 3 := by omega
    by_cases c2 : S.1 0 (p * 3 + s).toNat < x
    · rw [if_pos c2]
      refine ⟨d, ?_, hM, gs_mf.rf⟩
      simp (disch := omega) only [e_M_pledge, k_M_pledge_0, k_M_pledge_6, k_M_pledge_9, k_M_pledge_13, k_M_pledge_16, k_M_pledge_20, k_M_pledge_23, k_M_pledge_25, k_M_pledge_35, k_M_pledge_41, k_M_pledge_44, k_M_pledge_55, k_M_pledge_59, k_M_pledge_73, k_M_pledge_77, k_M_pledge_81, s_M_within, s_M_security, s_M_amountFits, i1, hh, ↓reduceIte, Int.reduceAdd, Int.reduceSub, Int.reduceMul, Int.reduceToNat, gs_00, gs_ofi, gs_k0_m, gs_k1_m, gs_n8, gs_n16, gs_n_add, gs_n_sub, gs_n_mul, gs_n_neg, gs_m_add, gs_m_sub, gs_m_mul, gs_m_neg, gs_n_l, gs_m_n, gs_n_c, gs_eq_t, gs_eq_f1, gs_eq_f2, gs_lt_t, gs_lt_f, gs_le_t, gs_le_f, gs_cmp_lt, gs_cmp_eq, gs_cmp_gt, gs_ix_n, gs_nz_n, gs_nzl_g, gs_n_div, gs_af1, gs_af0, gs_ck0, gs_ck1, gs_ck2t, gs_ck2f, gs_ck3, gs_ck4, gs_zd_t, gs_zd_f, gs_zt_t, gs_zt_f, gs_nar1, gs_nar0, gs_tn, if_true, if_false, not_true_eq_false, not_false_eq_true]
    · rw [if_neg c2]
      have c1 := hM.sH (j := (p * 3 + s).toNat) (by omega) x
      have k1 := gs_sb_6 S (f := 0) (p * 3 + s).toNat x (by decide)
      have hp := c1.p (j := (p * 3 + s).toNat) (by omega) (by omega) (by omega)
      have c3 := c1.aP (j := (p * 3 + s).toNat) (by omega) (by omega) x
      have w1 := gs_wb_hp hw (j := (p * 3 + s).toNat) (x := x) (y := x) (by omega) (by omega) (by omega) (by omega) (by omega) (by omega)
      obtain ⟨d2, e2, c4, f2⟩ := s_M_goThrough c3 w1 (gs_wv_hp hv _ _ _) (by omega)
      refine ⟨d2, ?_, c4, gs_rf.rf.w.w.mf.tr f2⟩
      by_cases c9 : S.1 0 (p * 3 + s).toNat = x
      · simp (disch := omega) only [e_M_pledge, k_M_pledge_0, k_M_pledge_6, k_M_pledge_9, k_M_pledge_13, k_M_pledge_16, k_M_pledge_20, k_M_pledge_23, k_M_pledge_25, k_M_pledge_35, k_M_pledge_41, k_M_pledge_44, k_M_pledge_55, k_M_pledge_59, k_M_pledge_73, k_M_pledge_77, k_M_pledge_81, s_M_within, s_M_security, s_M_amountFits, i1, i2, hh, hp, e2, ↓reduceIte, Int.reduceAdd, Int.reduceSub, Int.reduceMul, Int.reduceToNat, gs_00, gs_ofi, gs_k0_m, gs_k1_m, gs_n8, gs_n16, gs_n_add, gs_n_sub, gs_n_mul, gs_n_neg, gs_m_add, gs_m_sub, gs_m_mul, gs_m_neg, gs_n_l, gs_m_n, gs_n_c, gs_eq_t, gs_eq_f1, gs_eq_f2, gs_lt_t, gs_lt_f, gs_le_t, gs_le_f, gs_cmp_lt, gs_cmp_eq, gs_cmp_gt, gs_ix_n, gs_nz_n, gs_nzl_g, gs_n_div, gs_af1, gs_af0, gs_ck0, gs_ck1, gs_ck2t, gs_ck2f, gs_ck3, gs_ck4, gs_zd_t, gs_zd_f, gs_zt_t, gs_zt_f, gs_nar1, gs_nar0, gs_tn, if_true, if_false, not_true_eq_false, not_false_eq_true]
      · simp (disch := omega) only [e_M_pledge, k_M_pledge_0, k_M_pledge_6, k_M_pledge_9, k_M_pledge_13, k_M_pledge_16, k_M_pledge_20, k_M_pledge_23, k_M_pledge_25, k_M_pledge_35, k_M_pledge_41, k_M_pledge_44, k_M_pledge_55, k_M_pledge_59, k_M_pledge_73, k_M_pledge_77, k_M_pledge_81, s_M_within, s_M_security, s_M_amountFits, i1, i2, hh, hp, e2, ↓reduceIte, Int.reduceAdd, Int.reduceSub, Int.reduceMul, Int.reduceToNat, gs_00, gs_ofi, gs_k0_m, gs_k1_m, gs_n8, gs_n16, gs_n_add, gs_n_sub, gs_n_mul, gs_n_neg, gs_m_add, gs_m_sub, gs_m_mul, gs_m_neg, gs_n_l, gs_m_n, gs_n_c, gs_eq_t, gs_eq_f1, gs_eq_f2, gs_lt_t, gs_lt_f, gs_le_t, gs_le_f, gs_cmp_lt, gs_cmp_eq, gs_cmp_gt, gs_ix_n, gs_nz_n, gs_nzl_g, gs_n_div, gs_af1, gs_af0, gs_ck0, gs_ck1, gs_ck2t, gs_ck2f, gs_ck3, gs_ck4, gs_zd_t, gs_zd_f, gs_zt_t, gs_zt_f, gs_nar1, gs_nar0, gs_tn, if_true, if_false, not_true_eq_false, not_false_eq_true]
  · rw [if_neg c]
    refine ⟨d, ?_, hM, gs_mf.rf⟩
    simp (disch := omega) only [e_M_pledge, k_M_pledge_0, k_M_pledge_6, k_M_pledge_9, k_M_pledge_13, k_M_pledge_16, k_M_pledge_20, k_M_pledge_23, k_M_pledge_25, k_M_pledge_35, k_M_pledge_41, k_M_pledge_44, k_M_pledge_55, k_M_pledge_59, k_M_pledge_73, k_M_pledge_77, k_M_pledge_81, s_M_within, s_M_security, s_M_amountFits, gs_zd0, gs_00, gs_ofi, gs_k0_m, gs_k1_m, gs_n8, gs_n16, gs_n_add, gs_n_sub, gs_n_mul, gs_n_neg, gs_m_add, gs_m_sub, gs_m_mul, gs_m_neg, gs_n_l, gs_m_n, gs_n_c, gs_eq_iff, gs_lt_iff, gs_le_iff, gs_cge, gs_clt, gs_cle, gs_cgt, gs_ceq, gs_ix_n, gs_nz_n, gs_nzl_g, gs_n_div, gs_af1, gs_af0, gs_ck_ite, gs_ck0, gs_ck1, gs_ck2t, gs_ck2f, gs_ck3, gs_ck4, gs_nar1, gs_nar0, gs_tn, if_true, if_false, not_true_eq_false, not_false_eq_true]
    repeat' split
    all_goals first | rfl | (exfalso; omega)
end MU
