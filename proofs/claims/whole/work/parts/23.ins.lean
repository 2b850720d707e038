-- an instruction: does it meet another, does it debit, is it covered, what does it move
def gs_mt (S : gs_S) (i j : Nat) : Bool := decide ((0 < S.1 (10 + i) 4 ∧ 0 < S.1 (10 + j) 4 ∧ S.1 (10 + i) 1 = S.1 (10 + j) 1) ∨ (0 < S.1 (10 + i) 3 ∧ 0 < S.1 (10 + j) 3 ∧ S.1 (10 + i) 0 = S.1 (10 + j) 0 ∧ S.1 (10 + i) 2 = S.1 (10 + j) 2))
def gs_db (S : gs_S) (i : Nat) (x : Int) : Bool := decide ((0 < S.1 (10 + i) 3 ∧ x = S.1 (10 + i) 0 * 3 + S.1 (10 + i) 2) ∨ (0 < S.1 (10 + i) 4 ∧ (x = S.1 (10 + i) 1 * 3 + 0 ∨ x = 18 + (S.1 (10 + i) 1 * 6 + S.1 (10 + i) 0))))
def gs_cov (S : gs_S) (i : Nat) : Bool := decide ((S.1 (10 + i) 3 ≤ 0 ∨ S.1 (10 + i) 3 ≤ gs_rm S (S.1 (10 + i) 0 * 3 + S.1 (10 + i) 2)) ∧ (S.1 (10 + i) 4 = 0 ∨ (S.1 (10 + i) 4 ≤ gs_rm S (S.1 (10 + i) 1 * 3 + 0) ∧ S.1 (10 + i) 4 ≤ gs_rm S (18 + (S.1 (10 + i) 1 * 6 + S.1 (10 + i) 0)))))
def gs_ad (S : gs_S) (f j : Nat) (x : Int) : gs_S := gs_u S f j (S.1 f j + x)
def gs_sb (S : gs_S) (f j : Nat) (x : Int) : gs_S := gs_u S f j (S.1 f j - x)
def gs_mv (S : gs_S) (g t s am mo : Int) : gs_S := gs_sb (gs_ad (gs_ad (gs_sb (gs_ad (gs_sb S 0 (g * 3 + s).toNat am) 0 (t * 3 + s).toNat am) 0 (t * 3 + 0).toNat mo) 0 (g * 3 + 0).toNat mo) 5 (t * 6 + g).toNat mo) 5 (g * 6 + t).toNat mo
section IN
variable {b : Nat} {d : gs_D} {S : gs_S} {B : Int}
theorem gs_iok.r {i : Nat} (h : gs_iok S i) : (0 ≤ S.1 (10 + i) 0 ∧ S.1 (10 + i) 0 < 6) ∧ (0 ≤ S.1 (10 + i) 1 ∧ S.1 (10 + i) 1 < 6) ∧ (0 ≤ S.1 (10 + i) 2 ∧ S.1 (10 + i) 2 < 3) ∧ (0 ≤ S.1 (10 + i) 3 ∧ S.1 (10 + i) 3 ≤ 1000000) ∧ (0 ≤ S.1 (10 + i) 4 ∧ S.1 (10 + i) 4 ≤ 1000000) := ⟨h.1.1, h.1.2.1, h.2.1.1, h.2.1.2.1, h.2.1.2.2.1⟩
theorem s_I_meets (hC : gs_Cl b d S) (hw : gs_wb B S) {i j : Nat} (hi : (i : Int) < S.1 6 1) (hj : (j : Int) < S.1 6 1) : f_I_meets [gs_r 13 (gs_ii b i), gs_r 13 (gs_ii b j)] d = some (some (gs_i (gs_n (gs_z (gs_mt S i j)))), d) := by
  obtain ⟨a0, a1, a2, a3, a4⟩ := (hw.2.2.2 i hi).r
  obtain ⟨b0, b1, b2, b3, b4⟩ := (hw.2.2.2 j hj).r
  have hI := fun k => hC.is i k hi
  have hJ := fun k => hC.is j k hj
  simp (disch := omega) only [e_I_meets, k_I_meets_0, k_I_meets_7, k_I_meets_14, k_I_meets_25, k_I_meets_27, k_I_meets_34, k_I_meets_41, k_I_meets_52, k_I_meets_63, k_I_meets_67, hI, hJ, gs_00, gs_ofi, gs_k0_m, gs_k1_m, gs_n8, gs_n16, gs_n_add, gs_n_sub, gs_n_mul, gs_n_neg, gs_m_add, gs_m_sub, gs_m_mul, gs_m_neg, gs_n_l, gs_m_n, gs_n_c, gs_eq_iff, gs_lt_iff, gs_le_iff, gs_cge, gs_clt, gs_cle, gs_cgt, gs_ceq, gs_ix_n, gs_nz_n, gs_nzl_g, gs_n_div, gs_af1, gs_af0, gs_ck_ite, gs_ck0, gs_ck1, gs_ck2t, gs_ck2f, gs_ck3, gs_ck4, gs_nar1, gs_nar0, gs_tn, if_true, if_false, not_true_eq_false, not_false_eq_true]
  unfold gs_mt
  repeat' split
  all_goals simp (disch := omega) only [gs_zd_t, gs_zd_f]
theorem s_I_debits (hC : gs_Cl b d S) (hw : gs_wb B S) {i : Nat} {x : Int} (hi : (i : Int) < S.1 6 1) (h1 : 0 ≤ x) (h2 : x < 54) : f_I_debits [gs_r 13 (gs_ii b i), gs_i (gs_n x)] d = some (some (gs_i (gs_n (gs_z (gs_db S i x)))), d) := by
  obtain ⟨a0, a1, a2, a3, a4⟩ := (hw.2.2.2 i hi).r
  have hI := fun k => hC.is i k hi
  simp (disch := omega) only [e_I_debits, k_I_debits_0, k_I_debits_7, k_I_debits_19, k_I_debits_22, k_I_debits_24, k_I_debits_31, k_I_debits_40, k_I_debits_43, k_I_debits_55, k_I_debits_58, k_I_debits_62, s_G_holding, s_G_bilateral, hI, gs_00, gs_ofi, gs_k0_m, gs_k1_m, gs_n8, gs_n16, gs_n_add, gs_n_sub, gs_n_mul, gs_n_neg, gs_m_add, gs_m_sub, gs_m_mul, gs_m_neg, gs_n_l, gs_m_n, gs_n_c, gs_eq_iff, gs_lt_iff, gs_le_iff, gs_cge, gs_clt, gs_cle, gs_cgt, gs_ceq, gs_ix_n, gs_nz_n, gs_nzl_g, gs_n_div, gs_af1, gs_af0, gs_ck_ite, gs_ck0, gs_ck1, gs_ck2t, gs_ck2f, gs_ck3, gs_ck4, gs_nar1, gs_nar0, gs_tn, if_true, if_false, not_true_eq_false, not_false_eq_true]
  unfold gs_db
  repeat' split
  all_goals simp (disch := omega) only [gs_zd_t, gs_zd_f]
theorem s_A_covers (hC : gs_Cl b d S) (hw : gs_wb B S) {i : Nat} (hi : (i : Int) < S.1 6 1) : f_A_covers [gs_r 3 b, gs_r 13 (gs_ii b i)] d = some (some (gs_i (gs_n (gs_z (gs_cov S i)))), d) := by
  obtain ⟨a0, a1, a2, a3, a4⟩ := (hw.2.2.2 i hi).r
  have hI := fun k => hC.is i k hi
  have r1 := s_A_room hC hw (x := S.1 (10 + i) 0 * 3 + S.1 (10 + i) 2) (by omega) (by omega)
  have r2 := s_A_room hC hw (x := S.1 (10 + i) 1 * 3 + 0) (by omega) (by omega)
  have r3 := s_A_room hC hw (x := 18 + (S.1 (10 + i) 1 * 6 + S.1 (10 + i) 0)) (by omega) (by omega)
  have g1 := gs_rm_rg hw (x := S.1 (10 + i) 0 * 3 + S.1 (10 + i) 2) (by omega) (by omega)
  have g2 := gs_rm_rg hw (x := S.1 (10 + i) 1 * 3 + 0) (by omega) (by omega)
  have g3 := gs_rm_rg hw (x := 18 + (S.1 (10 + i) 1 * 6 + S.1 (10 + i) 0)) (by omega) (by omega)
  simp (disch := omega) only [e_A_covers, k_A_covers_0, k_A_covers_7, k_A_covers_19, k_A_covers_22, k_A_covers_31, k_A_covers_33, k_A_covers_40, k_A_covers_49, k_A_covers_52, k_A_covers_61, k_A_covers_73, k_A_covers_76, k_A_covers_85, k_A_covers_89, s_G_holding, s_G_bilateral, r1, r2, r3, hI, gs_00, gs_ofi, gs_k0_m, gs_k1_m, gs_n8, gs_n16, gs_n_add, gs_n_sub, gs_n_mul, gs_n_neg, gs_m_add, gs_m_sub, gs_m_mul, gs_m_neg, gs_n_l, gs_m_n, gs_n_c, gs_eq_iff, gs_lt_iff, gs_le_iff, gs_cge, gs_clt, gs_cle, gs_cgt, gs_ceq, gs_ix_n, gs_nz_n, gs_nzl_g, gs_n_div, gs_af1, gs_af0, gs_ck_ite, gs_ck0, gs_ck1, gs_ck2t, gs_ck2f, gs_ck3, gs_ck4, gs_nar1, gs_nar0, gs_tn, if_true, if_false, not_true_eq_false, not_false_eq_true]
  unfold gs_cov
  repeat' split
  all_goals simp (disch := omega) only [gs_zd_t, gs_zd_f]
theorem gs_Cl.aH (h : gs_Cl b d S) (j : Nat) (x : Int) : gs_Cl b (gs_wL d 5 b j (gs_m (S.1 0 j + x))) (gs_ad S 0 j x) := h.wH _ _
theorem gs_Cl.sH (h : gs_Cl b d S) (j : Nat) (x : Int) : gs_Cl b (gs_wL d 5 b j (gs_m (S.1 0 j - x))) (gs_sb S 0 j x) := h.wH _ _
theorem gs_Cl.aN (h : gs_Cl b d S) (j : Nat) (x : Int) : gs_Cl b (gs_wL d 10 b j (gs_m (S.1 5 j + x))) (gs_ad S 5 j x) := h.wN _ _
theorem gs_Cl.sN (h : gs_Cl b d S) (j : Nat) (x : Int) : gs_Cl b (gs_wL d 10 b j (gs_m (S.1 5 j - x))) (gs_sb S 5 j x) := h.wN _ _
theorem s_A_move (hC : gs_Cl 0 d S) (hw : gs_wb B S) {i : Nat} {sg : Int} (hi : (i : Int) < S.1 6 1) (hs : sg = 1 ∨ sg = -1) : ∃ d', f_A_move [gs_r 3 0, gs_r 13 (gs_ii 0 i), gs_i (gs_n sg)] d = some (none, d') ∧ gs_Cl 0 d' (gs_mv S (S.1 (10 + i) 0) (S.1 (10 + i) 1) (S.1 (10 + i) 2) (sg * S.1 (10 + i) 3) (sg * S.1 (10 + i) 4)) ∧ gs_fr d d' ∧ d'.1 = d.1 := by
  obtain ⟨a0, a1, a2, a3, a4⟩ := (hw.2.2.2 i hi).r
  have hI := fun k => hC.is i k hi
  have c1 := hC.sH (S.1 (10 + i) 0 * 3 + S.1 (10 + i) 2).toNat (sg * S.1 (10 + i) 3)
  have c2 := c1.aH (S.1 (10 + i) 1 * 3 + S.1 (10 + i) 2).toNat (sg * S.1 (10 + i) 3)
  have c3 := c2.sH (S.1 (10 + i) 1 * 3 + 0).toNat (sg * S.1 (10 + i) 4)
  have c4 := c3.aH (S.1 (10 + i) 0 * 3 + 0).toNat (sg * S.1 (10 + i) 4)
  have c5 := c4.aN (S.1 (10 + i) 1 * 6 + S.1 (10 + i) 0).toNat (sg * S.1 (10 + i) 4)
  have c6 := c5.sN (S.1 (10 + i) 0 * 6 + S.1 (10 + i) 1).toNat (sg * S.1 (10 + i) 4)
  refine ⟨_, ?_, c6, ((((gs_fr.L rfl).tr (gs_fr.L rfl)).tr (gs_fr.L rfl)).tr (gs_fr.L rfl)).tr ((gs_fr.L rfl).tr (gs_fr.L rfl)), rfl⟩
  have h0 := hC.h
  have h1 := c1.h
  have h2 := c2.h
  have h3 := c3.h
  have h4 := c4.nt
  have h5 := c5.nt
  simp (disch := omega) only [e_A_move, k_A_move_0, k_A_move_34, k_A_move_36, k_A_move_39, k_A_move_54, k_A_move_56, k_A_move_59, k_A_move_71, k_A_move_73, k_A_move_77, k_A_move_89, k_A_move_91, k_A_move_95, k_A_move_110, k_A_move_112, k_A_move_116, k_A_move_131, k_A_move_133, k_A_move_137, s_G_holding, s_G_pair, hI, gs_rLI, h0, h1, h2, h3, h4, h5, ↓reduceIte, Int.reduceAdd, Int.reduceSub, Int.reduceMul, Int.reduceToNat, gs_00, gs_ofi, gs_k0_m, gs_k1_m, gs_n8, gs_n16, gs_n_add, gs_n_sub, gs_n_mul, gs_n_neg, gs_m_add, gs_m_sub, gs_m_mul, gs_m_neg, gs_n_l, gs_m_n, gs_n_c, gs_eq_t, gs_eq_f1, gs_eq_f2, gs_lt_t, gs_lt_f, gs_le_t, gs_le_f, gs_cmp_lt, gs_cmp_eq, gs_cmp_gt, gs_ix_n, gs_nz_n, gs_nzl_g, gs_n_div, gs_af1, gs_af0, gs_ck0, gs_ck1, gs_ck2t, gs_ck2f, gs_ck3, gs_ck4, gs_zd_t, gs_zd_f, gs_zt_t, gs_zt_f, gs_nar1, gs_nar0, gs_tn, if_true, if_false, not_true_eq_false, not_false_eq_true]
end IN
