-- what an instruction takes, as the model reckons it
def gs_mtk (S : gs_S) (i : Nat) (x : Int) : Int := if x < 6 then (if S.1 (10 + i) 1 = x then S.1 (10 + i) 4 else if S.1 (10 + i) 0 = x then -S.1 (10 + i) 4 else 0) else if x < 18 then (if S.1 (10 + i) 2 = 1 + (x - 6) % 2 then (if S.1 (10 + i) 0 = (x - 6) / 2 then S.1 (10 + i) 3 else if S.1 (10 + i) 1 = (x - 6) / 2 then -S.1 (10 + i) 3 else 0) else 0) else if S.1 4 (x - 18).toNat < 0 then 0 else if S.1 (10 + i) 1 = (x - 18) / 6 ∧ S.1 (10 + i) 0 = (x - 18) % 6 then S.1 (10 + i) 4 else if S.1 (10 + i) 1 = (x - 18) % 6 ∧ S.1 (10 + i) 0 = (x - 18) / 6 then -S.1 (10 + i) 4 else 0
theorem gs_cg {a b : Int} {d : gs_D} (h : a = b) : some (some (gs_l (gs_m a)), d) = some (some (gs_l (gs_m b)), d) := by rw [h]
section MN
variable {d : gs_D} {S : gs_S} {B : Int}
theorem gs_mtk_rg (hw : gs_wb B S) {i : Nat} (hi : (i : Int) < S.1 6 1) {x : Int} : -1000000 ≤ gs_mtk S i x ∧ gs_mtk S i x ≤ 1000000 := by
  obtain ⟨a0, a1, a2, a3, a4⟩ := (hw.2.2.2 i hi).r
  unfold gs_mtk
  repeat' split
  all_goals omega
set_option maxHeartbeats 2000000 in
theorem s_M_takes (hM : gs_Mo 21 d S) (hw : gs_wb B S) {i : Nat} (hi : (i : Int) < S.1 6 1) {x : Int} (h0 : 0 ≤ x) (h1 : x < 54) : f_M_takes [gs_r 20 0, gs_i (gs_n i), gs_i (gs_n x)] d = some (some (gs_l (gs_m (gs_mtk S i x))), d) := by
  obtain ⟨a0, a1, a2, a3, a4⟩ := (hw.2.2.2 i hi).r
  have o0 := s_M_of hM hw hi (c := 0) (by omega) (by omega)
  have o1 := s_M_of hM hw hi (c := 1) (by omega) (by omega)
  have o2 := s_M_of hM hw hi (c := 2) (by omega) (by omega)
  have o3 := s_M_of hM hw hi (c := 3) (by omega) (by omega)
  have o4 := s_M_of hM hw hi (c := 4) (by omega) (by omega)
  have o5 := s_M_of hM hw hi (c := 5) (by omega) (by omega)
  have o6 := s_M_of hM hw hi (c := 6) (by omega) (by omega)
  simp only [Int.reduceToNat, gs_ms_4, gs_ms_5, gs_ms_6] at o0 o1 o2 o3 o4 o5 o6
  have th := s_M_isThere hM hw h0 h1
  by_cases c1 : x < 6
  · have e : gs_mtk S i x = if S.1 (10 + i) 1 = x then S.1 (10 + i) 4 else if S.1 (10 + i) 0 = x then -S.1 (10 + i) 4 else 0 := if_pos c1
    rw [e]
    by_cases m : 0 < S.1 (10 + i) 4
    · rw [gs_ms_0t m] at o0
      rw [gs_ms_1t m] at o1
      by_cases c2 : S.1 (10 + i) 1 = x
      · rw [if_pos c2]
        simp (disch := omega) only [e_M_takes, k_M_takes_0, k_M_takes_6, k_M_takes_15, k_M_takes_24, k_M_takes_32, k_M_takes_40, k_M_takes_46, k_M_takes_50, k_M_takes_56, k_M_takes_61, k_M_takes_63, k_M_takes_69, k_M_takes_75, k_M_takes_83, k_M_takes_90, k_M_takes_94, k_M_takes_98, k_M_takes_106, k_M_takes_110, k_M_takes_116, k_M_takes_121, k_M_takes_126, k_M_takes_132, k_M_takes_137, k_M_takes_143, k_M_takes_145, k_M_takes_152, k_M_takes_161, k_M_takes_168, k_M_takes_171, k_M_takes_175, k_M_takes_182, k_M_takes_189, k_M_takes_193, k_M_takes_200, k_M_takes_207, k_M_takes_212, o0, o1, o5, o6, ↓reduceIte, Int.reduceAdd, Int.reduceSub, Int.reduceMul, Int.reduceToNat, gs_00, gs_ofi, gs_k0_m, gs_k1_m, gs_n8, gs_n16, gs_n_add, gs_n_sub, gs_n_mul, gs_n_neg, gs_m_add, gs_m_sub, gs_m_mul, gs_m_neg, gs_n_l, gs_m_n, gs_n_c, gs_eq_t, gs_eq_f1, gs_eq_f2, gs_lt_t, gs_lt_f, gs_le_t, gs_le_f, gs_cmp_lt, gs_cmp_eq, gs_cmp_gt, gs_ix_n, gs_nz_n, gs_nzl_g, gs_n_div, gs_af1, gs_af0, gs_ck0, gs_ck1, gs_ck2t, gs_ck2f, gs_ck3, gs_ck4, gs_zd_t, gs_zd_f, gs_zt_t, gs_zt_f, gs_nar1, gs_nar0, gs_tn, if_true, if_false, not_true_eq_false, not_false_eq_true]
      · rw [if_neg c2]
        by_cases c3 : S.1 (10 + i) 0 = x
        · rw [if_pos c3]
          by_cases c4 : S.1 (10 + i) 1 < x
          · simp (disch := omega) only [e_M_takes, k_M_takes_0, k_M_takes_6, k_M_takes_15, k_M_takes_24, k_M_takes_32, k_M_takes_40, k_M_takes_46, k_M_takes_50, k_M_takes_56, k_M_takes_61, k_M_takes_63, k_M_takes_69, k_M_takes_75, k_M_takes_83, k_M_takes_90, k_M_takes_94, k_M_takes_98, k_M_takes_106, k_M_takes_110, k_M_takes_116, k_M_takes_121, k_M_takes_126, k_M_takes_132, k_M_takes_137, k_M_takes_143, k_M_takes_145, k_M_takes_152, k_M_takes_161, k_M_takes_168, k_M_takes_171, k_M_takes_175, k_M_takes_182, k_M_takes_189, k_M_takes_193, k_M_takes_200, k_M_takes_207, k_M_takes_212, o0, o1, o5, o6, ↓reduceIte, Int.reduceAdd, Int.reduceSub, Int.reduceMul, Int.reduceToNat, gs_00, gs_ofi, gs_k0_m, gs_k1_m, gs_n8, gs_n16, gs_n_add, gs_n_sub, gs_n_mul, gs_n_neg, gs_m_add, gs_m_sub, gs_m_mul, gs_m_neg, gs_n_l, gs_m_n, gs_n_c, gs_eq_t, gs_eq_f1, gs_eq_f2, gs_lt_t, gs_lt_f, gs_le_t, gs_le_f, gs_cmp_lt, gs_cmp_eq, gs_cmp_gt, gs_ix_n, gs_nz_n, gs_nzl_g, gs_n_div, gs_af1, gs_af0, gs_ck0, gs_ck1, gs_ck2t, gs_ck2f, gs_ck3, gs_ck4, gs_zd_t, gs_zd_f, gs_zt_t, gs_zt_f, gs_nar1, gs_nar0, gs_tn, if_true, if_false, not_true_eq_false, not_false_eq_true]
          · simp (disch := omega) only [e_M_takes, k_M_takes_0, k_M_takes_6, k_M_takes_15, k_M_takes_24, k_M_takes_32, k_M_takes_40, k_M_takes_46, k_M_takes_50, k_M_takes_56, k_M_takes_61, k_M_takes_63, k_M_takes_69, k_M_takes_75, k_M_takes_83, k_M_takes_90, k_M_takes_94, k_M_takes_98, k_M_takes_106, k_M_takes_110, k_M_takes_116, k_M_takes_121, k_M_takes_126, k_M_takes_132, k_M_takes_137, k_M_takes_143, k_M_takes_145, k_M_takes_152, k_M_takes_161, k_M_takes_168, k_M_takes_171, k_M_takes_175, k_M_takes_182, k_M_takes_189, k_M_takes_193, k_M_takes_200, k_M_takes_207, k_M_takes_212, o0, o1, o5, o6, ↓reduceIte, Int.reduceAdd, Int.reduceSub, Int.reduceMul, Int.reduceToNat, gs_00, gs_ofi, gs_k0_m, gs_k1_m, gs_n8, gs_n16, gs_n_add, gs_n_sub, gs_n_mul, gs_n_neg, gs_m_add, gs_m_sub, gs_m_mul, gs_m_neg, gs_n_l, gs_m_n, gs_n_c, gs_eq_t, gs_eq_f1, gs_eq_f2, gs_lt_t, gs_lt_f, gs_le_t, gs_le_f, gs_cmp_lt, gs_cmp_eq, gs_cmp_gt, gs_ix_n, gs_nz_n, gs_nzl_g, gs_n_div, gs_af1, gs_af0, gs_ck0, gs_ck1, gs_ck2t, gs_ck2f, gs_ck3, gs_ck4, gs_zd_t, gs_zd_f, gs_zt_t, gs_zt_f, gs_nar1, gs_nar0, gs_tn, if_true, if_false, not_true_eq_false, not_false_eq_true]
        · rw [if_neg c3]
          by_cases c4 : S.1 (10 + i) 1 < x <;> by_cases c5 : S.1 (10 + i) 0 < x <;> simp (disch := omega) only [e_M_takes, k_M_takes_0, k_M_takes_6, k_M_takes_15, k_M_takes_24, k_M_takes_32, k_M_takes_40, k_M_takes_46, k_M_takes_50, k_M_takes_56, k_M_takes_61, k_M_takes_63, k_M_takes_69, k_M_takes_75, k_M_takes_83, k_M_takes_90, k_M_takes_94, k_M_takes_98, k_M_takes_106, k_M_takes_110, k_M_takes_116, k_M_takes_121, k_M_takes_126, k_M_takes_132, k_M_takes_137, k_M_takes_143, k_M_takes_145, k_M_takes_152, k_M_takes_161, k_M_takes_168, k_M_takes_171, k_M_takes_175, k_M_takes_182, k_M_takes_189, k_M_takes_193, k_M_takes_200, k_M_takes_207, k_M_takes_212, o0, o1, o5, o6, ↓reduceIte, Int.reduceAdd, Int.reduceSub, Int.reduceMul, Int.reduceToNat, gs_00, gs_ofi, gs_k0_m, gs_k1_m, gs_n8, gs_n16, gs_n_add, gs_n_sub, gs_n_mul, gs_n_neg, gs_m_add, gs_m_sub, gs_m_mul, gs_m_neg, gs_n_l, gs_m_n, gs_n_c, gs_eq_t, gs_eq_f1, gs_eq_f2, gs_lt_t, gs_lt_f, gs_le_t, gs_le_f, gs_cmp_lt, gs_cmp_eq, gs_cmp_gt, gs_ix_n, gs_nz_n, gs_nzl_g, gs_n_div, gs_af1, gs_af0, gs_ck0, gs_ck1, gs_ck2t, gs_ck2f, gs_ck3, gs_ck4, gs_zd_t, gs_zd_f, gs_zt_t, gs_zt_f, gs_nar1, gs_nar0, gs_tn, if_true, if_false, not_true_eq_false, not_false_eq_true]
    · rw [gs_ms_0f (by omega)] at o0
      rw [gs_ms_1f (by omega)] at o1
      simp (disch := omega) only [e_M_takes, k_M_takes_0, k_M_takes_6, k_M_takes_15, k_M_takes_24, k_M_takes_32, k_M_takes_40, k_M_takes_46, k_M_takes_50, k_M_takes_56, k_M_takes_61, k_M_takes_63, k_M_takes_69, k_M_takes_75, k_M_takes_83, k_M_takes_90, k_M_takes_94, k_M_takes_98, k_M_takes_106, k_M_takes_110, k_M_takes_116, k_M_takes_121, k_M_takes_126, k_M_takes_132, k_M_takes_137, k_M_takes_143, k_M_takes_145, k_M_takes_152, k_M_takes_161, k_M_takes_168, k_M_takes_171, k_M_takes_175, k_M_takes_182, k_M_takes_189, k_M_takes_193, k_M_takes_200, k_M_takes_207, k_M_takes_212, o0, o1, o5, o6, ↓reduceIte, Int.reduceAdd, Int.reduceSub, Int.reduceMul, Int.reduceToNat, gs_00, gs_ofi, gs_k0_m, gs_k1_m, gs_n8, gs_n16, gs_n_add, gs_n_sub, gs_n_mul, gs_n_neg, gs_m_add, gs_m_sub, gs_m_mul, gs_m_neg, gs_n_l, gs_m_n, gs_n_c, gs_eq_t, gs_eq_f1, gs_eq_f2, gs_lt_t, gs_lt_f, gs_le_t, gs_le_f, gs_cmp_lt, gs_cmp_eq, gs_cmp_gt, gs_ix_n, gs_nz_n, gs_nzl_g, gs_n_div, gs_af1, gs_af0, gs_ck0, gs_ck1, gs_ck2t, gs_ck2f, gs_ck3, gs_ck4, gs_zd_t, gs_zd_f, gs_zt_t, gs_zt_f, gs_nar1, gs_nar0, gs_tn, if_true, if_false, not_true_eq_false, not_false_eq_true]
      repeat' split
      all_goals first | (exfalso; omega) | exact gs_cg (by omega)
  · by_cases c2 : x < 18
    · have e : gs_mtk S i x = if S.1 (10 + i) 2 = 1 + (x - 6) % 2 then (if S.1 (10 + i) 0 = (x - 6) / 2 then S.1 (10 + i) 3 else if S.1 (10 + i) 1 = (x - 6) / 2 then -S.1 (10 + i) 3 else 0) else 0 := by
        unfold gs_mtk
        rw [if_neg c1, if_pos c2]
      have q0 : -1 ≤ gs_ms S i 0 ∧ gs_ms S i 0 < 6 := by
        by_cases m : 0 < S.1 (10 + i) 4
        · rw [gs_ms_0t m]; omega
        · rw [gs_ms_0f (by omega)]; omega
      have q1 : -1 ≤ gs_ms S i 1 ∧ gs_ms S i 1 < 6 := by
        by_cases m : 0 < S.1 (10 + i) 4
        · rw [gs_ms_1t m]; omega
        · rw [gs_ms_1f (by omega)]; omega
      rw [e]
      by_cases m : 0 < S.1 (10 + i) 3
      · rw [gs_ms_2t m] at o2
        rw [gs_ms_3t m] at o3
        simp (disch := omega) only [e_M_takes, k_M_takes_0, k_M_takes_6, k_M_takes_15, k_M_takes_24, k_M_takes_32, k_M_takes_40, k_M_takes_46, k_M_takes_50, k_M_takes_56, k_M_takes_61, k_M_takes_63, k_M_takes_69, k_M_takes_75, k_M_takes_83, k_M_takes_90, k_M_takes_94, k_M_takes_98, k_M_takes_106, k_M_takes_110, k_M_takes_116, k_M_takes_121, k_M_takes_126, k_M_takes_132, k_M_takes_137, k_M_takes_143, k_M_takes_145, k_M_takes_152, k_M_takes_161, k_M_takes_168, k_M_takes_171, k_M_takes_175, k_M_takes_182, k_M_takes_189, k_M_takes_193, k_M_takes_200, k_M_takes_207, k_M_takes_212, o0, o1, o2, o3, o4, o5, o6, gs_00, gs_ofi, gs_k0_m, gs_k1_m, gs_n8, gs_n16, gs_n_add, gs_n_sub, gs_n_mul, gs_n_neg, gs_m_add, gs_m_sub, gs_m_mul, gs_m_neg, gs_n_l, gs_m_n, gs_n_c, gs_eq_iff, gs_lt_iff, gs_le_iff, gs_cge, gs_clt, gs_cle, gs_cgt, gs_ceq, gs_ix_n, gs_nz_n, gs_nzl_g, gs_n_div, gs_af1, gs_af0, gs_ck_ite, gs_ck0, gs_ck1, gs_ck2t, gs_ck2f, gs_ck3, gs_ck4, gs_nar1, gs_nar0, gs_tn, if_true, if_false, not_true_eq_false, not_false_eq_true]
        repeat' split
        all_goals first | (exfalso; omega) | exact gs_cg (by omega)
      · rw [gs_ms_2f (by omega)] at o2
        rw [gs_ms_3f (by omega)] at o3
        simp (disch := omega) only [e_M_takes, k_M_takes_0, k_M_takes_6, k_M_takes_15, k_M_takes_24, k_M_takes_32, k_M_takes_40, k_M_takes_46, k_M_takes_50, k_M_takes_56, k_M_takes_61, k_M_takes_63, k_M_takes_69, k_M_takes_75, k_M_takes_83, k_M_takes_90, k_M_takes_94, k_M_takes_98, k_M_takes_106, k_M_takes_110, k_M_takes_116, k_M_takes_121, k_M_takes_126, k_M_takes_132, k_M_takes_137, k_M_takes_143, k_M_takes_145, k_M_takes_152, k_M_takes_161, k_M_takes_168, k_M_takes_171, k_M_takes_175, k_M_takes_182, k_M_takes_189, k_M_takes_193, k_M_takes_200, k_M_takes_207, k_M_takes_212, o0, o1, o2, o3, o4, o5, o6, gs_00, gs_ofi, gs_k0_m, gs_k1_m, gs_n8, gs_n16, gs_n_add, gs_n_sub, gs_n_mul, gs_n_neg, gs_m_add, gs_m_sub, gs_m_mul, gs_m_neg, gs_n_l, gs_m_n, gs_n_c, gs_eq_iff, gs_lt_iff, gs_le_iff, gs_cge, gs_clt, gs_cle, gs_cgt, gs_ceq, gs_ix_n, gs_nz_n, gs_nzl_g, gs_n_div, gs_af1, gs_af0, gs_ck_ite, gs_ck0, gs_ck1, gs_ck2t, gs_ck2f, gs_ck3, gs_ck4, gs_nar1, gs_nar0, gs_tn, if_true, if_false, not_true_eq_false, not_false_eq_true]
        repeat' split
        all_goals first | (exfalso; omega) | exact gs_cg (by omega)
    · have e : gs_mtk S i x = if S.1 4 (x - 18).toNat < 0 then 0 else if S.1 (10 + i) 1 = (x - 18) / 6 ∧ S.1 (10 + i) 0 = (x - 18) % 6 then S.1 (10 + i) 4 else if S.1 (10 + i) 1 = (x - 18) % 6 ∧ S.1 (10 + i) 0 = (x - 18) / 6 then -S.1 (10 + i) 4 else 0 := by
        unfold gs_mtk
        rw [if_neg c1, if_neg c2]
      rw [e]
      by_cases t : S.1 4 (x - 18).toNat < 0
      · rw [if_pos t]
        have q0 : -1 ≤ gs_ms S i 0 ∧ gs_ms S i 0 < 6 := by
          by_cases m : 0 < S.1 (10 + i) 4
          · rw [gs_ms_0t m]; omega
          · rw [gs_ms_0f (by omega)]; omega
        have q1 : -1 ≤ gs_ms S i 1 ∧ gs_ms S i 1 < 6 := by
          by_cases m : 0 < S.1 (10 + i) 4
          · rw [gs_ms_1t m]; omega
          · rw [gs_ms_1f (by omega)]; omega
        simp (disch := omega) only [e_M_takes, k_M_takes_0, k_M_takes_6, k_M_takes_15, k_M_takes_24, k_M_takes_32, k_M_takes_40, k_M_takes_46, k_M_takes_50, k_M_takes_56, k_M_takes_61, k_M_takes_63, k_M_takes_69, k_M_takes_75, k_M_takes_83, k_M_takes_90, k_M_takes_94, k_M_takes_98, k_M_takes_106, k_M_takes_110, k_M_takes_116, k_M_takes_121, k_M_takes_126, k_M_takes_132, k_M_takes_137, k_M_takes_143, k_M_takes_145, k_M_takes_152, k_M_takes_161, k_M_takes_168, k_M_takes_171, k_M_takes_175, k_M_takes_182, k_M_takes_189, k_M_takes_193, k_M_takes_200, k_M_takes_207, k_M_takes_212, th, o0, o1, o2, o3, o4, o5, o6, ↓reduceIte, Int.reduceAdd, Int.reduceSub, Int.reduceMul, Int.reduceToNat, gs_00, gs_ofi, gs_k0_m, gs_k1_m, gs_n8, gs_n16, gs_n_add, gs_n_sub, gs_n_mul, gs_n_neg, gs_m_add, gs_m_sub, gs_m_mul, gs_m_neg, gs_n_l, gs_m_n, gs_n_c, gs_eq_t, gs_eq_f1, gs_eq_f2, gs_lt_t, gs_lt_f, gs_le_t, gs_le_f, gs_cmp_lt, gs_cmp_eq, gs_cmp_gt, gs_ix_n, gs_nz_n, gs_nzl_g, gs_n_div, gs_af1, gs_af0, gs_ck0, gs_ck1, gs_ck2t, gs_ck2f, gs_ck3, gs_ck4, gs_zd_t, gs_zd_f, gs_zt_t, gs_zt_f, gs_nar1, gs_nar0, gs_tn, if_true, if_false, not_true_eq_false, not_false_eq_true]
      · rw [if_neg t]
        rw [gs_zd_t (by omega)] at th
        by_cases m : 0 < S.1 (10 + i) 4
        · rw [gs_ms_0t m] at o0
          rw [gs_ms_1t m] at o1
          simp (disch := omega) only [e_M_takes, k_M_takes_0, k_M_takes_6, k_M_takes_15, k_M_takes_24, k_M_takes_32, k_M_takes_40, k_M_takes_46, k_M_takes_50, k_M_takes_56, k_M_takes_61, k_M_takes_63, k_M_takes_69, k_M_takes_75, k_M_takes_83, k_M_takes_90, k_M_takes_94, k_M_takes_98, k_M_takes_106, k_M_takes_110, k_M_takes_116, k_M_takes_121, k_M_takes_126, k_M_takes_132, k_M_takes_137, k_M_takes_143, k_M_takes_145, k_M_takes_152, k_M_takes_161, k_M_takes_168, k_M_takes_171, k_M_takes_175, k_M_takes_182, k_M_takes_189, k_M_takes_193, k_M_takes_200, k_M_takes_207, k_M_takes_212, th, o0, o1, o5, o6, gs_00, gs_ofi, gs_k0_m, gs_k1_m, gs_n8, gs_n16, gs_n_add, gs_n_sub, gs_n_mul, gs_n_neg, gs_m_add, gs_m_sub, gs_m_mul, gs_m_neg, gs_n_l, gs_m_n, gs_n_c, gs_eq_iff, gs_lt_iff, gs_le_iff, gs_cge, gs_clt, gs_cle, gs_cgt, gs_ceq, gs_ix_n, gs_nz_n, gs_nzl_g, gs_n_div, gs_af1, gs_af0, gs_ck_ite, gs_ck0, gs_ck1, gs_ck2t, gs_ck2f, gs_ck3, gs_ck4, gs_nar1, gs_nar0, gs_tn, if_true, if_false, not_true_eq_false, not_false_eq_true]
          repeat' split
          all_goals first | (exfalso; omega) | exact gs_cg (by omega)
        · rw [gs_ms_0f (by omega)] at o0
          rw [gs_ms_1f (by omega)] at o1
          simp (disch := omega) only [e_M_takes, k_M_takes_0, k_M_takes_6, k_M_takes_15, k_M_takes_24, k_M_takes_32, k_M_takes_40, k_M_takes_46, k_M_takes_50, k_M_takes_56, k_M_takes_61, k_M_takes_63, k_M_takes_69, k_M_takes_75, k_M_takes_83, k_M_takes_90, k_M_takes_94, k_M_takes_98, k_M_takes_106, k_M_takes_110, k_M_takes_116, k_M_takes_121, k_M_takes_126, k_M_takes_132, k_M_takes_137, k_M_takes_143, k_M_takes_145, k_M_takes_152, k_M_takes_161, k_M_takes_168, k_M_takes_171, k_M_takes_175, k_M_takes_182, k_M_takes_189, k_M_takes_193, k_M_takes_200, k_M_takes_207, k_M_takes_212, th, o0, o1, o5, o6, gs_00, gs_ofi, gs_k0_m, gs_k1_m, gs_n8, gs_n16, gs_n_add, gs_n_sub, gs_n_mul, gs_n_neg, gs_m_add, gs_m_sub, gs_m_mul, gs_m_neg, gs_n_l, gs_m_n, gs_n_c, gs_eq_iff, gs_lt_iff, gs_le_iff, gs_cge, gs_clt, gs_cle, gs_cgt, gs_ceq, gs_ix_n, gs_nz_n, gs_nzl_g, gs_n_div, gs_af1, gs_af0, gs_ck_ite, gs_ck0, gs_ck1, gs_ck2t, gs_ck2f, gs_ck3, gs_ck4, gs_nar1, gs_nar0, gs_tn, if_true, if_false, not_true_eq_false, not_false_eq_true]
          repeat' split
          all_goals first | (exfalso; omega) | exact gs_cg (by omega)
/-- one position that both take from -/
theorem gs_mt_iff (hw : gs_wb B S) {i j : Nat} (hi : (i : Int) < S.1 6 1) (hj : (j : Int) < S.1 6 1) : gs_mt S i j = true ↔ ∃ x : Int, 0 ≤ x ∧ x < 54 ∧ 0 < gs_mtk S i x ∧ 0 < gs_mtk S j x := by
  obtain ⟨a0, a1, a2, a3, a4⟩ := (hw.2.2.2 i hi).r
  obtain ⟨b0, b1, b2, b3, b4⟩ := (hw.2.2.2 j hj).r
  have ai := (hw.2.2.2 i hi).2.1.2.2.2
  have aj := (hw.2.2.2 j hj).2.1.2.2.2
  unfold gs_mt
  rw [decide_eq_true_iff]
  constructor
  · rintro (h | h)
    · refine ⟨S.1 (10 + i) 1, by omega, by omega, ?_, ?_⟩
      · unfold gs_mtk
        rw [if_pos (by omega), if_pos rfl]
        omega
      · unfold gs_mtk
        rw [if_pos (by omega), if_pos (by omega)]
        omega
    · refine ⟨6 + S.1 (10 + i) 0 * 2 + (S.1 (10 + i) 2 - 1), by omega, by omega, ?_, ?_⟩
      · unfold gs_mtk
        rw [if_neg (by omega), if_pos (by omega), if_pos (by omega), if_pos (by omega)]
        omega
      · unfold gs_mtk
        rw [if_neg (by omega), if_pos (by omega), if_pos (by omega), if_pos (by omega)]
        omega
  · rintro ⟨x, x0, x1, h1, h2⟩
    unfold gs_mtk at h1 h2
    by_cases c1 : x < 6
    · rw [if_pos c1] at h1 h2
      left
      repeat' split at h1
      all_goals repeat' split at h2
      all_goals omega
    · by_cases c2 : x < 18
      · rw [if_neg c1, if_pos c2] at h1 h2
        right
        repeat' split at h1
        all_goals repeat' split at h2
        all_goals omega
      · rw [if_neg c1, if_neg c2] at h1 h2
        left
        repeat' split at h1
        all_goals repeat' split at h2
        all_goals omega
theorem s_M_same (hM : gs_Mo 21 d S) (hw : gs_wb B S) {i j : Nat} (hi : (i : Int) < S.1 6 1) (hj : (j : Int) < S.1 6 1) : f_M_same [gs_r 20 0, gs_i (gs_n i), gs_i (gs_n j)] d = some (some (gs_i (gs_n (gs_z (gs_mt S i j)))), d) := by
  have key : ∀ (n : Nat) (x : Int) (a : Bool), 0 ≤ x → x + n = 54 → (a = true ↔ ∃ y : Int, 0 ≤ y ∧ y < x ∧ 0 < gs_mtk S i y ∧ 0 < gs_mtk S j y) → gs_g Y0 P_M_same 5 [some (gs_r 20 0), some (gs_i (gs_n i)), some (gs_i (gs_n j)), some (gs_i (gs_n (gs_z a))), some (gs_i (gs_n x))] [] d = some (some (gs_i (gs_n (gs_z (gs_mt S i j)))), d) := by
    intro n
    induction n with
    | zero =>
      intro x a h0 h1 ha
      have e : a = gs_mt S i j := by
        have x54 : x = 54 := by omega
        subst x54
        rw [Bool.eq_iff_iff, ha, gs_mt_iff hw hi hj]
      subst e
      simp (disch := omega) only [e_M_same, k_M_same_0, k_M_same_5, k_M_same_12, k_M_same_16, k_M_same_23, k_M_same_28, k_M_same_35, k_M_same_40, k_M_same_44, k_M_same_52, ↓reduceIte, Int.reduceAdd, Int.reduceSub, Int.reduceMul, Int.reduceToNat, gs_00, gs_ofi, gs_k0_m, gs_k1_m, gs_n8, gs_n16, gs_n_add, gs_n_sub, gs_n_mul, gs_n_neg, gs_m_add, gs_m_sub, gs_m_mul, gs_m_neg, gs_n_l, gs_m_n, gs_n_c, gs_eq_t, gs_eq_f1, gs_eq_f2, gs_lt_t, gs_lt_f, gs_le_t, gs_le_f, gs_cmp_lt, gs_cmp_eq, gs_cmp_gt, gs_ix_n, gs_nz_n, gs_nzl_g, gs_n_div, gs_af1, gs_af0, gs_ck0, gs_ck1, gs_ck2t, gs_ck2f, gs_ck3, gs_ck4, gs_zd_t, gs_zd_f, gs_zt_t, gs_zt_f, gs_nar1, gs_nar0, gs_tn, if_true, if_false, not_true_eq_false, not_false_eq_true]
    | succ n ih =>
      intro x a h0 h1 ha
      have t1 := s_M_takes hM hw hi h0 (x := x) (by omega)
      have t2 := s_M_takes hM hw hj h0 (x := x) (by omega)
      have r1 := gs_mtk_rg hw hi (x := x)
      have r2 := gs_mtk_rg hw hj (x := x)
      have go : ∀ a' : Bool, (a' = true ↔ (a = true ∨ (0 < gs_mtk S i x ∧ 0 < gs_mtk S j x))) → (a' = true ↔ ∃ y : Int, 0 ≤ y ∧ y < x + 1 ∧ 0 < gs_mtk S i y ∧ 0 < gs_mtk S j y) := by
        intro a' h
        rw [h, ha]
        constructor
        · rintro (⟨y, y0, y1, y2⟩ | z)
          · exact ⟨y, y0, by omega, y2⟩
          · exact ⟨x, h0, by omega, z⟩
        · rintro ⟨y, y0, y1, y2⟩
          by_cases c : y = x
          · subst c
            exact Or.inr y2
          · exact Or.inl ⟨y, y0, by omega, y2⟩
      rw [k_M_same_5]
      cases a with
      | true =>
        have e := ih (x + 1) true (by omega) (by omega) (go true (by simp))
        simp (disch := omega) only [e_M_same, k_M_same_0, k_M_same_12, k_M_same_16, k_M_same_23, k_M_same_28, k_M_same_35, k_M_same_40, k_M_same_44, k_M_same_52, ↓reduceIte, Int.reduceAdd, Int.reduceSub, Int.reduceMul, Int.reduceToNat, gs_00, gs_ofi, gs_k0_m, gs_k1_m, gs_n8, gs_n16, gs_n_add, gs_n_sub, gs_n_mul, gs_n_neg, gs_m_add, gs_m_sub, gs_m_mul, gs_m_neg, gs_n_l, gs_m_n, gs_n_c, gs_eq_t, gs_eq_f1, gs_eq_f2, gs_lt_t, gs_lt_f, gs_le_t, gs_le_f, gs_cmp_lt, gs_cmp_eq, gs_cmp_gt, gs_ix_n, gs_nz_n, gs_nzl_g, gs_n_div, gs_af1, gs_af0, gs_ck0, gs_ck1, gs_ck2t, gs_ck2f, gs_ck3, gs_ck4, gs_zd_t, gs_zd_f, gs_zt_t, gs_zt_f, gs_nar1, gs_nar0, gs_tn, if_true, if_false, not_true_eq_false, not_false_eq_true] at e ⊢
        exact e
      | false =>
        by_cases c1 : 0 < gs_mtk S i x
        · by_cases c2 : 0 < gs_mtk S j x
          · have e := ih (x + 1) true (by omega) (by omega) (go true (by simp [c1, c2]))
            simp (disch := omega) only [e_M_same, k_M_same_0, k_M_same_12, k_M_same_16, k_M_same_23, k_M_same_28, k_M_same_35, k_M_same_40, k_M_same_44, k_M_same_52, t1, t2, ↓reduceIte, Int.reduceAdd, Int.reduceSub, Int.reduceMul, Int.reduceToNat, gs_00, gs_ofi, gs_k0_m, gs_k1_m, gs_n8, gs_n16, gs_n_add, gs_n_sub, gs_n_mul, gs_n_neg, gs_m_add, gs_m_sub, gs_m_mul, gs_m_neg, gs_n_l, gs_m_n, gs_n_c, gs_eq_t, gs_eq_f1, gs_eq_f2, gs_lt_t, gs_lt_f, gs_le_t, gs_le_f, gs_cmp_lt, gs_cmp_eq, gs_cmp_gt, gs_ix_n, gs_nz_n, gs_nzl_g, gs_n_div, gs_af1, gs_af0, gs_ck0, gs_ck1, gs_ck2t, gs_ck2f, gs_ck3, gs_ck4, gs_zd_t, gs_zd_f, gs_zt_t, gs_zt_f, gs_nar1, gs_nar0, gs_tn, if_true, if_false, not_true_eq_false, not_false_eq_true] at e ⊢
            exact e
          · have e := ih (x + 1) false (by omega) (by omega) (go false (by simp [c2]))
            by_cases c3 : gs_mtk S j x = 0 <;> simp (disch := omega) only [e_M_same, k_M_same_0, k_M_same_12, k_M_same_16, k_M_same_23, k_M_same_28, k_M_same_35, k_M_same_40, k_M_same_44, k_M_same_52, t1, t2, ↓reduceIte, Int.reduceAdd, Int.reduceSub, Int.reduceMul, Int.reduceToNat, gs_00, gs_ofi, gs_k0_m, gs_k1_m, gs_n8, gs_n16, gs_n_add, gs_n_sub, gs_n_mul, gs_n_neg, gs_m_add, gs_m_sub, gs_m_mul, gs_m_neg, gs_n_l, gs_m_n, gs_n_c, gs_eq_t, gs_eq_f1, gs_eq_f2, gs_lt_t, gs_lt_f, gs_le_t, gs_le_f, gs_cmp_lt, gs_cmp_eq, gs_cmp_gt, gs_ix_n, gs_nz_n, gs_nzl_g, gs_n_div, gs_af1, gs_af0, gs_ck0, gs_ck1, gs_ck2t, gs_ck2f, gs_ck3, gs_ck4, gs_zd_t, gs_zd_f, gs_zt_t, gs_zt_f, gs_nar1, gs_nar0, gs_tn, if_true, if_false, not_true_eq_false, not_false_eq_true] at e ⊢ <;> exact e
        · have e := ih (x + 1) false (by omega) (by omega) (go false (by simp [c1]))
          by_cases c3 : gs_mtk S i x = 0 <;> simp (disch := omega) only [e_M_same, k_M_same_0, k_M_same_12, k_M_same_16, k_M_same_23, k_M_same_28, k_M_same_35, k_M_same_40, k_M_same_44, k_M_same_52, t1, t2, ↓reduceIte, Int.reduceAdd, Int.reduceSub, Int.reduceMul, Int.reduceToNat, gs_00, gs_ofi, gs_k0_m, gs_k1_m, gs_n8, gs_n16, gs_n_add, gs_n_sub, gs_n_mul, gs_n_neg, gs_m_add, gs_m_sub, gs_m_mul, gs_m_neg, gs_n_l, gs_m_n, gs_n_c, gs_eq_t, gs_eq_f1, gs_eq_f2, gs_lt_t, gs_lt_f, gs_le_t, gs_le_f, gs_cmp_lt, gs_cmp_eq, gs_cmp_gt, gs_ix_n, gs_nz_n, gs_nzl_g, gs_n_div, gs_af1, gs_af0, gs_ck0, gs_ck1, gs_ck2t, gs_ck2f, gs_ck3, gs_ck4, gs_zd_t, gs_zd_f, gs_zt_t, gs_zt_f, gs_nar1, gs_nar0, gs_tn, if_true, if_false, not_true_eq_false, not_false_eq_true] at e ⊢ <;> exact e
  have e := key 54 0 false (by omega) (by omega) (by
    constructor
    · intro z; cases z
    · rintro ⟨y, y0, y1, -⟩; omega)
  simp (disch := omega) only [e_M_same, k_M_same_0, ↓reduceIte, Int.reduceAdd, Int.reduceSub, Int.reduceMul, Int.reduceToNat, gs_00, gs_ofi, gs_k0_m, gs_k1_m, gs_n8, gs_n16, gs_n_add, gs_n_sub, gs_n_mul, gs_n_neg, gs_m_add, gs_m_sub, gs_m_mul, gs_m_neg, gs_n_l, gs_m_n, gs_n_c, gs_eq_t, gs_eq_f1, gs_eq_f2, gs_lt_t, gs_lt_f, gs_le_t, gs_le_f, gs_cmp_lt, gs_cmp_eq, gs_cmp_gt, gs_ix_n, gs_nz_n, gs_nzl_g, gs_n_div, gs_af1, gs_af0, gs_ck0, gs_ck1, gs_ck2t, gs_ck2f, gs_ck3, gs_ck4, gs_zd_t, gs_zd_f, gs_zt_t, gs_zt_f, gs_nar1, gs_nar0, gs_tn, if_true, if_false, not_true_eq_false, not_false_eq_true] at e ⊢
  rw [e]
  exact gs_ck2
end MN
