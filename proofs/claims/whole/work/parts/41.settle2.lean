-- the model settles one
section MT
variable {d : gs_D} {S : gs_S} {B : Int}
theorem gs_Mo.cg {t : Nat} {S' : gs_S} (hM : gs_Mo t d S) (e : ∀ f j, S'.1 f j = S.1 f j) : gs_Mo t d S' := by
  have : S'.1 = S.1 := by
    funext f j
    exact e f j
  intro n h1 h2 h3
  rw [this] at h1
  rw [hM n h1 h2 h3]
  unfold gs_mr gs_ms
  rw [this]
theorem gs_Mo.h {t : Nat} (hM : gs_Mo t d S) (hc : 0 ≤ S.1 6 1) {n : Nat} (h : n < 18) : d.2 t 0 n = gs_m (S.1 0 n) := by
  rw [hM n (by omega) (by omega) (by omega), gs_mr_h h]
theorem gs_Mo.n {t : Nat} (hM : gs_Mo t d S) (hc : 0 ≤ S.1 6 1) {j : Nat} (h : j < 36) : d.2 t 0 (70 + j) = gs_m (S.1 5 j) := by
  rw [hM (70 + j) (by omega) (by omega) (by omega), gs_mr_n (by omega) (by omega), show 70 + j - 70 = j by omega]
theorem gs_ad_6 (S : gs_S) {f : Nat} (j : Nat) (x : Int) (h : f ≠ 6) : (gs_ad S f j x).1 6 1 = S.1 6 1 := gs_u_o S f j _ 1 (fun z => h z.symm)
theorem gs_sb_6 (S : gs_S) {f : Nat} (j : Nat) (x : Int) (h : f ≠ 6) : (gs_sb S f j x).1 6 1 = S.1 6 1 := gs_u_o S f j _ 1 (fun z => h z.symm)
theorem gs_wL_i {j c : Nat} {x : Int64} (h : j < 110) (h2 : 110 ≤ c) : (gs_wL d 21 0 j x).2 21 0 c = d.2 21 0 c := gs_wL_o (by omega)
set_option maxHeartbeats 1000000 in
theorem s_M_settle (hM : gs_Mo 21 d S) (hw : gs_wb B S) {i : Nat} (hi : (i : Int) < S.1 6 1) (hB : B + 6000000 ≤ 1000000000000) : ∃ d', f_M_settle [gs_r 20 0, gs_i (gs_n i)] d = some (none, d') ∧ gs_Mo 21 d' (gs_u (gs_mvd S i 1) (10 + i) 6 1) ∧ gs_rf d d' := by
  have hk := hw.2.2.2 i hi
  obtain ⟨a0, a1, a2, a3, a4⟩ := hk.r
  have hne := hk.1.2.2
  have hsec := hk.2.1.2.2.2
  have hc := hw.2.2.1.2.1
  have w1 := gs_wb_mvd hw (i := i) (Or.inl rfl) hi hB
  have hi1 : (i : Int) < (gs_mvd S i 1).1 6 1 := by rw [gs_mvd_ins S i 1 1 (by decide) (by decide)]; exact hi
  have o0 := hM.i i hi 0 (by omega) (by omega)
  have o1 := hM.i i hi 1 (by omega) (by omega)
  have o2 := hM.i i hi 2 (by omega) (by omega)
  have o3 := hM.i i hi 3 (by omega) (by omega)
  have o4 := hM.i i hi 4 (by omega) (by omega)
  have o5 := hM.i i hi 5 (by omega) (by omega)
  have o6 := hM.i i hi 6 (by omega) (by omega)
  simp only [Int.reduceToNat, gs_ms_4, gs_ms_5, gs_ms_6] at o0 o1 o2 o3 o4 o5 o6
  have i1 : (3 * S.1 (10 + i) 1).toNat = (S.1 (10 + i) 1 * 3 + 0).toNat := by omega
  have i2 : (3 * S.1 (10 + i) 0).toNat = (S.1 (10 + i) 0 * 3 + 0).toNat := by omega
  have i3 : (70 + 6 * S.1 (10 + i) 1 + S.1 (10 + i) 0).toNat = 70 + (S.1 (10 + i) 1 * 6 + S.1 (10 + i) 0).toNat := by omega
  have i4 : (70 + 6 * S.1 (10 + i) 0 + S.1 (10 + i) 1).toNat = 70 + (S.1 (10 + i) 0 * 6 + S.1 (10 + i) 1).toNat := by omega
  have i5 : (3 * S.1 (10 + i) 0 + S.1 (10 + i) 2).toNat = (S.1 (10 + i) 0 * 3 + S.1 (10 + i) 2).toNat := by omega
  have i6 : (3 * S.1 (10 + i) 1 + S.1 (10 + i) 2).toNat = (S.1 (10 + i) 1 * 3 + S.1 (10 + i) 2).toNat := by omega
  by_cases m : 0 < S.1 (10 + i) 4
  · rw [gs_ms_0t m] at o0
    rw [gs_ms_1t m] at o1
    have c1 := hM.sH (j := (S.1 (10 + i) 1 * 3 + 0).toNat) (by omega) (S.1 (10 + i) 4)
    have k1 := gs_sb_6 S (f := 0) (S.1 (10 + i) 1 * 3 + 0).toNat (S.1 (10 + i) 4) (by decide)
    have c2 := c1.aH (j := (S.1 (10 + i) 0 * 3 + 0).toNat) (by omega) (S.1 (10 + i) 4)
    have k2 := (gs_ad_6 (gs_sb S 0 (S.1 (10 + i) 1 * 3 + 0).toNat (S.1 (10 + i) 4)) (f := 0) (S.1 (10 + i) 0 * 3 + 0).toNat (S.1 (10 + i) 4) (by decide)).trans k1
    have c3 := c2.aN (j := (S.1 (10 + i) 1 * 6 + S.1 (10 + i) 0).toNat) (by omega) (S.1 (10 + i) 4)
    have k3 := (gs_ad_6 (gs_ad (gs_sb S 0 (S.1 (10 + i) 1 * 3 + 0).toNat (S.1 (10 + i) 4)) 0 (S.1 (10 + i) 0 * 3 + 0).toNat (S.1 (10 + i) 4)) (f := 5) (S.1 (10 + i) 1 * 6 + S.1 (10 + i) 0).toNat (S.1 (10 + i) 4) (by decide)).trans k2
    have c4 := c3.sN (j := (S.1 (10 + i) 0 * 6 + S.1 (10 + i) 1).toNat) (by omega) (S.1 (10 + i) 4)
    have r0 := hM.h (n := (S.1 (10 + i) 1 * 3 + 0).toNat) (by omega) (by omega)
    have r1 := c1.h (n := (S.1 (10 + i) 0 * 3 + 0).toNat) (by omega) (by omega)
    have r2 := c2.n (j := (S.1 (10 + i) 1 * 6 + S.1 (10 + i) 0).toNat) (by omega) (by omega)
    have r3 := c3.n (j := (S.1 (10 + i) 0 * 6 + S.1 (10 + i) 1).toNat) (by omega) (by omega)
    by_cases a : 0 < S.1 (10 + i) 3
    · rw [gs_ms_2t a] at o2
      rw [gs_ms_3t a] at o3
      have k4 := (gs_sb_6 (gs_ad (gs_ad (gs_sb S 0 (S.1 (10 + i) 1 * 3 + 0).toNat (S.1 (10 + i) 4)) 0 (S.1 (10 + i) 0 * 3 + 0).toNat (S.1 (10 + i) 4)) 5 (S.1 (10 + i) 1 * 6 + S.1 (10 + i) 0).toNat (S.1 (10 + i) 4)) (f := 5) (S.1 (10 + i) 0 * 6 + S.1 (10 + i) 1).toNat (S.1 (10 + i) 4) (by decide)).trans k3
      have c5 := c4.sH (j := (S.1 (10 + i) 0 * 3 + S.1 (10 + i) 2).toNat) (by omega) (S.1 (10 + i) 3)
      have k5 := (gs_sb_6 (gs_sb (gs_ad (gs_ad (gs_sb S 0 (S.1 (10 + i) 1 * 3 + 0).toNat (S.1 (10 + i) 4)) 0 (S.1 (10 + i) 0 * 3 + 0).toNat (S.1 (10 + i) 4)) 5 (S.1 (10 + i) 1 * 6 + S.1 (10 + i) 0).toNat (S.1 (10 + i) 4)) 5 (S.1 (10 + i) 0 * 6 + S.1 (10 + i) 1).toNat (S.1 (10 + i) 4)) (f := 0) (S.1 (10 + i) 0 * 3 + S.1 (10 + i) 2).toNat (S.1 (10 + i) 3) (by decide)).trans k4
      have c6 := c5.aH (j := (S.1 (10 + i) 1 * 3 + S.1 (10 + i) 2).toNat) (by omega) (S.1 (10 + i) 3)
      have r4 := c4.h (n := (S.1 (10 + i) 0 * 3 + S.1 (10 + i) 2).toNat) (by omega) (by omega)
      have r5 := c5.h (n := (S.1 (10 + i) 1 * 3 + S.1 (10 + i) 2).toNat) (by omega) (by omega)
      have c7 := c6.cg (S' := gs_mvd S i 1) (fun f j => by
        rw [gs_ad_at, gs_sb_at, gs_sb_at, gs_ad_at, gs_ad_at, gs_sb_at]
        show S.1 f j + 1 * gs_dl S i f j = _
        unfold gs_dl
        omega)
      have sf := s_M_setFate c7 w1 hi1 (st := 1) (by omega) (by omega)
      refine ⟨_, ?_, c7.st i 1, gs_rf.rf.w.w.w.w.w.w.w⟩
      simp (disch := omega) only [e_M_settle, k_M_settle_0, k_M_settle_6, k_M_settle_13, k_M_settle_20, k_M_settle_27, k_M_settle_36, k_M_settle_40, k_M_settle_49, k_M_settle_53, k_M_settle_68, k_M_settle_72, k_M_settle_87, k_M_settle_91, k_M_settle_97, k_M_settle_100, k_M_settle_106, k_M_settle_119, k_M_settle_125, k_M_settle_132, k_M_settle_135, k_M_settle_146, k_M_settle_152, k_M_settle_159, k_M_settle_162, k_M_settle_168, e_M_of, k_M_of_0, k_M_of_14, o0, o1, o2, o3, o4, o5, o6, gs_wL_i, i1, i2, i3, i4, i5, i6, r0, r1, r2, r3, r4, r5, sf, ↓reduceIte, Int.reduceAdd, Int.reduceSub, Int.reduceMul, Int.reduceToNat, gs_00, gs_ofi, gs_k0_m, gs_k1_m, gs_n8, gs_n16, gs_n_add, gs_n_sub, gs_n_mul, gs_n_neg, gs_m_add, gs_m_sub, gs_m_mul, gs_m_neg, gs_n_l, gs_m_n, gs_n_c, gs_eq_t, gs_eq_f1, gs_eq_f2, gs_lt_t, gs_lt_f, gs_le_t, gs_le_f, gs_cmp_lt, gs_cmp_eq, gs_cmp_gt, gs_ix_n, gs_nz_n, gs_nzl_g, gs_n_div, gs_af1, gs_af0, gs_ck0, gs_ck1, gs_ck2t, gs_ck2f, gs_ck3, gs_ck4, gs_zd_t, gs_zd_f, gs_zt_t, gs_zt_f, gs_nar1, gs_nar0, gs_tn, if_true, if_false, not_true_eq_false, not_false_eq_true]
    · rw [gs_ms_2f (by omega)] at o2
      have c7 := c4.cg (S' := gs_mvd S i 1) (fun f j => by
        rw [gs_sb_at, gs_ad_at, gs_ad_at, gs_sb_at]
        show S.1 f j + 1 * gs_dl S i f j = _
        unfold gs_dl
        have z : S.1 (10 + i) 3 = 0 := by omega
        rw [z]
        simp only [Int.neg_zero, ite_self]
        omega)
      have sf := s_M_setFate c7 w1 hi1 (st := 1) (by omega) (by omega)
      refine ⟨_, ?_, c7.st i 1, gs_rf.rf.w.w.w.w.w⟩
      simp (disch := omega) only [e_M_settle, k_M_settle_0, k_M_settle_6, k_M_settle_13, k_M_settle_20, k_M_settle_27, k_M_settle_36, k_M_settle_40, k_M_settle_49, k_M_settle_53, k_M_settle_68, k_M_settle_72, k_M_settle_87, k_M_settle_91, k_M_settle_97, k_M_settle_100, k_M_settle_106, k_M_settle_119, k_M_settle_125, k_M_settle_132, k_M_settle_135, k_M_settle_146, k_M_settle_152, k_M_settle_159, k_M_settle_162, k_M_settle_168, e_M_of, k_M_of_0, k_M_of_14, o0, o1, o2, o5, gs_wL_i, i1, i2, i3, i4, r0, r1, r2, r3, sf, ↓reduceIte, Int.reduceAdd, Int.reduceSub, Int.reduceMul, Int.reduceToNat, gs_00, gs_ofi, gs_k0_m, gs_k1_m, gs_n8, gs_n16, gs_n_add, gs_n_sub, gs_n_mul, gs_n_neg, gs_m_add, gs_m_sub, gs_m_mul, gs_m_neg, gs_n_l, gs_m_n, gs_n_c, gs_eq_t, gs_eq_f1, gs_eq_f2, gs_lt_t, gs_lt_f, gs_le_t, gs_le_f, gs_cmp_lt, gs_cmp_eq, gs_cmp_gt, gs_ix_n, gs_nz_n, gs_nzl_g, gs_n_div, gs_af1, gs_af0, gs_ck0, gs_ck1, gs_ck2t, gs_ck2f, gs_ck3, gs_ck4, gs_zd_t, gs_zd_f, gs_zt_t, gs_zt_f, gs_nar1, gs_nar0, gs_tn, if_true, if_false, not_true_eq_false, not_false_eq_true]
  · rw [gs_ms_0f (by omega)] at o0
    have q1 : -1 ≤ gs_ms S i 1 ∧ gs_ms S i 1 < 6 := by
      rw [gs_ms_1f (by omega)]; omega
    by_cases a : 0 < S.1 (10 + i) 3
    · rw [gs_ms_2t a] at o2
      rw [gs_ms_3t a] at o3
      have c5 := hM.sH (j := (S.1 (10 + i) 0 * 3 + S.1 (10 + i) 2).toNat) (by omega) (S.1 (10 + i) 3)
      have k5 := gs_sb_6 S (f := 0) (S.1 (10 + i) 0 * 3 + S.1 (10 + i) 2).toNat (S.1 (10 + i) 3) (by decide)
      have c6 := c5.aH (j := (S.1 (10 + i) 1 * 3 + S.1 (10 + i) 2).toNat) (by omega) (S.1 (10 + i) 3)
      have r4 := hM.h (n := (S.1 (10 + i) 0 * 3 + S.1 (10 + i) 2).toNat) (by omega) (by omega)
      have r5 := c5.h (n := (S.1 (10 + i) 1 * 3 + S.1 (10 + i) 2).toNat) (by omega) (by omega)
      have c7 := c6.cg (S' := gs_mvd S i 1) (fun f j => by
        rw [gs_ad_at, gs_sb_at]
        show S.1 f j + 1 * gs_dl S i f j = _
        unfold gs_dl
        have z : S.1 (10 + i) 4 = 0 := by omega
        rw [z]
        simp only [Int.neg_zero, ite_self]
        omega)
      have sf := s_M_setFate c7 w1 hi1 (st := 1) (by omega) (by omega)
      refine ⟨_, ?_, c7.st i 1, gs_rf.rf.w.w.w⟩
      simp (disch := omega) only [e_M_settle, k_M_settle_0, k_M_settle_6, k_M_settle_13, k_M_settle_20, k_M_settle_27, k_M_settle_36, k_M_settle_40, k_M_settle_49, k_M_settle_53, k_M_settle_68, k_M_settle_72, k_M_settle_87, k_M_settle_91, k_M_settle_97, k_M_settle_100, k_M_settle_106, k_M_settle_119, k_M_settle_125, k_M_settle_132, k_M_settle_135, k_M_settle_146, k_M_settle_152, k_M_settle_159, k_M_settle_162, k_M_settle_168, e_M_of, k_M_of_0, k_M_of_14, o0, o1, o2, o3, o4, o5, o6, gs_wL_i, i5, i6, r4, r5, sf, ↓reduceIte, Int.reduceAdd, Int.reduceSub, Int.reduceMul, Int.reduceToNat, gs_00, gs_ofi, gs_k0_m, gs_k1_m, gs_n8, gs_n16, gs_n_add, gs_n_sub, gs_n_mul, gs_n_neg, gs_m_add, gs_m_sub, gs_m_mul, gs_m_neg, gs_n_l, gs_m_n, gs_n_c, gs_eq_t, gs_eq_f1, gs_eq_f2, gs_lt_t, gs_lt_f, gs_le_t, gs_le_f, gs_cmp_lt, gs_cmp_eq, gs_cmp_gt, gs_ix_n, gs_nz_n, gs_nzl_g, gs_n_div, gs_af1, gs_af0, gs_ck0, gs_ck1, gs_ck2t, gs_ck2f, gs_ck3, gs_ck4, gs_zd_t, gs_zd_f, gs_zt_t, gs_zt_f, gs_nar1, gs_nar0, gs_tn, if_true, if_false, not_true_eq_false, not_false_eq_true]
    · rw [gs_ms_2f (by omega)] at o2
      have c7 := hM.cg (S' := gs_mvd S i 1) (fun f j => by
        show S.1 f j + 1 * gs_dl S i f j = _
        unfold gs_dl
        have z : S.1 (10 + i) 4 = 0 := by omega
        have z2 : S.1 (10 + i) 3 = 0 := by omega
        rw [z, z2]
        simp only [Int.neg_zero, ite_self]
        omega)
      have sf := s_M_setFate c7 w1 hi1 (st := 1) (by omega) (by omega)
      refine ⟨_, ?_, c7.st i 1, gs_rf.rf.w⟩
      simp (disch := omega) only [e_M_settle, k_M_settle_0, k_M_settle_6, k_M_settle_13, k_M_settle_20, k_M_settle_27, k_M_settle_36, k_M_settle_40, k_M_settle_49, k_M_settle_53, k_M_settle_68, k_M_settle_72, k_M_settle_87, k_M_settle_91, k_M_settle_97, k_M_settle_100, k_M_settle_106, k_M_settle_119, k_M_settle_125, k_M_settle_132, k_M_settle_135, k_M_settle_146, k_M_settle_152, k_M_settle_159, k_M_settle_162, k_M_settle_168, e_M_of, k_M_of_0, k_M_of_14, o0, o1, o2, o5, sf, ↓reduceIte, Int.reduceAdd, Int.reduceSub, Int.reduceMul, Int.reduceToNat, gs_00, gs_ofi, gs_k0_m, gs_k1_m, gs_n8, gs_n16, gs_n_add, gs_n_sub, gs_n_mul, gs_n_neg, gs_m_add, gs_m_sub, gs_m_mul, gs_m_neg, gs_n_l, gs_m_n, gs_n_c, gs_eq_t, gs_eq_f1, gs_eq_f2, gs_lt_t, gs_lt_f, gs_le_t, gs_le_f, gs_cmp_lt, gs_cmp_eq, gs_cmp_gt, gs_ix_n, gs_nz_n, gs_nzl_g, gs_n_div, gs_af1, gs_af0, gs_ck0, gs_ck1, gs_ck2t, gs_ck2f, gs_ck3, gs_ck4, gs_zd_t, gs_zd_f, gs_zt_t, gs_zt_f, gs_nar1, gs_nar0, gs_tn, if_true, if_false, not_true_eq_false, not_false_eq_true]
end MT
