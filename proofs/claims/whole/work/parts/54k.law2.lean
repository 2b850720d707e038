-- the law, call by call
theorem gs_wrG0 (f : gs_F) (d : gs_D) : gs_wr f [gs_r 0 0] d = f [gs_r 0 0] d := rfl
theorem gs_wrM0 (f : gs_F) (d : gs_D) : gs_wr f [gs_r 20 0] d = f [gs_r 20 0] d := rfl
theorem gs_wrG1 (f : gs_F) (a : Int32) (d : gs_D) : gs_wr f [gs_r 0 0, gs_i a] d = f [gs_r 0 0, gs_i a] d := rfl
theorem gs_wrM1 (f : gs_F) (a : Int32) (d : gs_D) : gs_wr f [gs_r 20 0, gs_i a] d = f [gs_r 20 0, gs_i a] d := rfl
theorem gs_wrG2 (f : gs_F) (a b : Int32) (d : gs_D) : gs_wr f [gs_r 0 0, gs_i a, gs_i b] d = f [gs_r 0 0, gs_i a, gs_i b] d := rfl
theorem gs_wrM2 (f : gs_F) (a b : Int32) (d : gs_D) : gs_wr f [gs_r 20 0, gs_i a, gs_i b] d = f [gs_r 20 0, gs_i a, gs_i b] d := rfl
theorem gs_wrG3 (f : gs_F) (a b c : Int32) (d : gs_D) : gs_wr f [gs_r 0 0, gs_i a, gs_i b, gs_i c] d = f [gs_r 0 0, gs_i a, gs_i b, gs_i c] d := rfl
theorem gs_wrM3 (f : gs_F) (a b c : Int32) (d : gs_D) : gs_wr f [gs_r 20 0, gs_i a, gs_i b, gs_i c] d = f [gs_r 20 0, gs_i a, gs_i b, gs_i c] d := rfl
theorem gs_wrG4 (f : gs_F) (a b c x : Int32) (d : gs_D) : gs_wr f [gs_r 0 0, gs_i a, gs_i b, gs_i c, gs_i x] d = f [gs_r 0 0, gs_i a, gs_i b, gs_i c, gs_i x] d := rfl
theorem gs_wrM4 (f : gs_F) (a b c x : Int32) (d : gs_D) : gs_wr f [gs_r 20 0, gs_i a, gs_i b, gs_i c, gs_i x] d = f [gs_r 20 0, gs_i a, gs_i b, gs_i c, gs_i x] d := rfl
theorem gs_wrG5 (f : gs_F) (a b c x y : Int32) (d : gs_D) : gs_wr f [gs_r 0 0, gs_i a, gs_i b, gs_i c, gs_i x, gs_i y] d = f [gs_r 0 0, gs_i a, gs_i b, gs_i c, gs_i x, gs_i y] d := rfl
theorem gs_wrM5 (f : gs_F) (a b c x y : Int32) (d : gs_D) : gs_wr f [gs_r 20 0, gs_i a, gs_i b, gs_i c, gs_i x, gs_i y] d = f [gs_r 20 0, gs_i a, gs_i b, gs_i c, gs_i x, gs_i y] d := rfl
theorem gs_cmp_self (v : Int64) : lg_cmp v v = gs_n 0 := by
  rw [← gs_m_of v]
  exact gs_cmp_eq rfl
theorem gs_ofN (L : Nat) : Int32.ofNat L = gs_n L := by
  refine Int32.toBitVec_inj.mp ?_
  show BitVec.ofNat 32 L = BitVec.ofInt 32 (L : Int)
  rw [BitVec.ofInt_natCast]
theorem gs_b_31 : ∀ i, i < 32 → gs_bt (gs_n 31) i = decide (i < 5) := by decide +kernel
theorem gs_and31 (x : Int32) : ∃ j : Nat, j < 32 ∧ x &&& gs_n 31 = gs_n j := by
  refine ⟨x.toBitVec.toNat % 2 ^ 5, Nat.mod_lt _ (by decide), gs_bx fun i hi => ?_⟩
  rw [gs_b_and, gs_b_31 i hi, gs_b_n _ hi, Nat.testBit_mod_two_pow]
  show (x.toBitVec.getLsbD i && _) = _
  rw [← BitVec.testBit_toNat, Bool.and_comm]
theorem gs_ts_in {x : Int32} {lo hi : Int} {pc : Nat} {offs : Array Int} {a : gs_R} {k : Nat → gs_R} {o : Int} (h : ¬ (x.toInt < lo ∨ hi < x.toInt)) (h2 : offs[(x.toInt - lo).toNat]? = some o) (h3 : 0 ≤ (pc : Int) + o) : gs_ts x lo hi pc offs a k = k ((pc : Int) + o).toNat := by
  unfold gs_ts
  rw [if_neg h, h2]
  show gs_b (decide (0 ≤ (pc : Int) + o)) _ = _
  rw [decide_eq_true h3]
  rfl
theorem gs_ts_out {x : Int32} {lo hi : Int} {pc : Nat} {offs : Array Int} {a : gs_R} {k : Nat → gs_R} (h : x.toInt < lo ∨ hi < x.toInt) : gs_ts x lo hi pc offs a k = a := by
  unfold gs_ts
  rw [if_pos h]
def gs_lo (i : Int) : List (Option gs_V) := [some (gs_r 30 0), some (gs_r 0 0), some (gs_r 20 0), some (gs_i (gs_n i))]
section LW
variable {B : Int} {d : gs_D} {S T : gs_S} {L : Nat} {xs : Nat → Int32}
theorem lw_issue (h : gs_RR B d S T) (hB : B + 80000000 ≤ 1000000000000) {i : Int} (i0 : 0 ≤ i) (i1 : i + 6 ≤ L) (hL : L ≤ 3072) : ∃ (d2 : gs_D) (S2 T2 : gs_S), gs_g (Y1 L xs) P_L_law 128 (gs_lo i) [] d = gs_g (Y1 L xs) P_L_law 18 (gs_lo (i + 6)) [] d2 ∧ gs_RR (B + 80000000) d2 S2 T2 := by
  obtain ⟨v, d1, d2, S2, T2, e1, e2, r⟩ := l_issue h hB (xs (i + 1).toNat) (xs (i + 2).toNat) (xs (i + 3).toNat)
  refine ⟨d2, S2, T2, ?_, r⟩
  unfold gs_lo
  simp (disch := omega) only [k_L_law_128, k_L_law_134, k_L_law_139, k_L_law_144, k_L_law_147, k_L_law_153, k_L_law_158, k_L_law_163, k_L_law_166, k_L_law_169, k_L_law_787, gs_wrG3, gs_wrM3, e1, e2, eq_self, gs_cmp_self, ↓reduceIte, Int.reduceAdd, Int.reduceSub, Int.reduceMul, Int.reduceToNat, gs_00, gs_ofi, gs_k0_m, gs_k1_m, gs_n8, gs_n16, gs_n_add, gs_n_sub, gs_n_mul, gs_n_neg, gs_m_add, gs_m_sub, gs_m_mul, gs_m_neg, gs_n_l, gs_m_n, gs_n_c, gs_eq_t, gs_eq_f1, gs_eq_f2, gs_lt_t, gs_lt_f, gs_le_t, gs_le_f, gs_cmp_lt, gs_cmp_eq, gs_cmp_gt, gs_ix_n, gs_nz_n, gs_nzl_g, gs_n_div, gs_af1, gs_af0, gs_ck0, gs_ck1, gs_ck2t, gs_ck2f, gs_ck3, gs_ck4, gs_zd_t, gs_zd_f, gs_zt_t, gs_zt_f, gs_nar1, gs_nar0, gs_tn, if_true, if_false, not_true_eq_false, not_false_eq_true]
theorem lw_terms (h : gs_RR B d S T) (hB : B + 80000000 ≤ 1000000000000) {i : Int} (i0 : 0 ≤ i) (i1 : i + 6 ≤ L) (hL : L ≤ 3072) : ∃ (d2 : gs_D) (S2 T2 : gs_S), gs_g (Y1 L xs) P_L_law 171 (gs_lo i) [] d = gs_g (Y1 L xs) P_L_law 18 (gs_lo (i + 6)) [] d2 ∧ gs_RR (B + 80000000) d2 S2 T2 := by
  obtain ⟨v, d1, d2, S2, T2, e1, e2, r⟩ := l_terms h hB (xs (i + 1).toNat) (xs (i + 2).toNat) (xs (i + 3).toNat)
  refine ⟨d2, S2, T2, ?_, r⟩
  unfold gs_lo
  simp (disch := omega) only [k_L_law_171, k_L_law_177, k_L_law_182, k_L_law_187, k_L_law_190, k_L_law_196, k_L_law_201, k_L_law_206, k_L_law_209, k_L_law_212, k_L_law_787, gs_wrG3, gs_wrM3, e1, e2, eq_self, gs_cmp_self, ↓reduceIte, Int.reduceAdd, Int.reduceSub, Int.reduceMul, Int.reduceToNat, gs_00, gs_ofi, gs_k0_m, gs_k1_m, gs_n8, gs_n16, gs_n_add, gs_n_sub, gs_n_mul, gs_n_neg, gs_m_add, gs_m_sub, gs_m_mul, gs_m_neg, gs_n_l, gs_m_n, gs_n_c, gs_eq_t, gs_eq_f1, gs_eq_f2, gs_lt_t, gs_lt_f, gs_le_t, gs_le_f, gs_cmp_lt, gs_cmp_eq, gs_cmp_gt, gs_ix_n, gs_nz_n, gs_nzl_g, gs_n_div, gs_af1, gs_af0, gs_ck0, gs_ck1, gs_ck2t, gs_ck2f, gs_ck3, gs_ck4, gs_zd_t, gs_zd_f, gs_zt_t, gs_zt_f, gs_nar1, gs_nar0, gs_tn, if_true, if_false, not_true_eq_false, not_false_eq_true]
theorem lw_pledge (h : gs_RR B d S T) (hB : B + 80000000 ≤ 1000000000000) {i : Int} (i0 : 0 ≤ i) (i1 : i + 6 ≤ L) (hL : L ≤ 3072) : ∃ (d2 : gs_D) (S2 T2 : gs_S), gs_g (Y1 L xs) P_L_law 214 (gs_lo i) [] d = gs_g (Y1 L xs) P_L_law 18 (gs_lo (i + 6)) [] d2 ∧ gs_RR (B + 80000000) d2 S2 T2 := by
  obtain ⟨v, d1, d2, S2, T2, e1, e2, r⟩ := l_pledge h hB (xs (i + 1).toNat) (xs (i + 2).toNat) (xs (i + 3).toNat)
  refine ⟨d2, S2, T2, ?_, r⟩
  unfold gs_lo
  simp (disch := omega) only [k_L_law_214, k_L_law_220, k_L_law_225, k_L_law_230, k_L_law_233, k_L_law_239, k_L_law_244, k_L_law_249, k_L_law_252, k_L_law_255, k_L_law_787, gs_wrG3, gs_wrM3, e1, e2, eq_self, gs_cmp_self, ↓reduceIte, Int.reduceAdd, Int.reduceSub, Int.reduceMul, Int.reduceToNat, gs_00, gs_ofi, gs_k0_m, gs_k1_m, gs_n8, gs_n16, gs_n_add, gs_n_sub, gs_n_mul, gs_n_neg, gs_m_add, gs_m_sub, gs_m_mul, gs_m_neg, gs_n_l, gs_m_n, gs_n_c, gs_eq_t, gs_eq_f1, gs_eq_f2, gs_lt_t, gs_lt_f, gs_le_t, gs_le_f, gs_cmp_lt, gs_cmp_eq, gs_cmp_gt, gs_ix_n, gs_nz_n, gs_nzl_g, gs_n_div, gs_af1, gs_af0, gs_ck0, gs_ck1, gs_ck2t, gs_ck2f, gs_ck3, gs_ck4, gs_zd_t, gs_zd_f, gs_zt_t, gs_zt_f, gs_nar1, gs_nar0, gs_tn, if_true, if_false, not_true_eq_false, not_false_eq_true]
theorem lw_release (h : gs_RR B d S T) (hB : B + 80000000 ≤ 1000000000000) {i : Int} (i0 : 0 ≤ i) (i1 : i + 6 ≤ L) (hL : L ≤ 3072) : ∃ (d2 : gs_D) (S2 T2 : gs_S), gs_g (Y1 L xs) P_L_law 257 (gs_lo i) [] d = gs_g (Y1 L xs) P_L_law 18 (gs_lo (i + 6)) [] d2 ∧ gs_RR (B + 80000000) d2 S2 T2 := by
  obtain ⟨v, d1, d2, S2, T2, e1, e2, r⟩ := l_release h hB (xs (i + 1).toNat) (xs (i + 2).toNat) (xs (i + 3).toNat)
  refine ⟨d2, S2, T2, ?_, r⟩
  unfold gs_lo
  simp (disch := omega) only [k_L_law_257, k_L_law_263, k_L_law_268, k_L_law_273, k_L_law_276, k_L_law_282, k_L_law_287, k_L_law_292, k_L_law_295, k_L_law_298, k_L_law_787, gs_wrG3, gs_wrM3, e1, e2, eq_self, gs_cmp_self, ↓reduceIte, Int.reduceAdd, Int.reduceSub, Int.reduceMul, Int.reduceToNat, gs_00, gs_ofi, gs_k0_m, gs_k1_m, gs_n8, gs_n16, gs_n_add, gs_n_sub, gs_n_mul, gs_n_neg, gs_m_add, gs_m_sub, gs_m_mul, gs_m_neg, gs_n_l, gs_m_n, gs_n_c, gs_eq_t, gs_eq_f1, gs_eq_f2, gs_lt_t, gs_lt_f, gs_le_t, gs_le_f, gs_cmp_lt, gs_cmp_eq, gs_cmp_gt, gs_ix_n, gs_nz_n, gs_nzl_g, gs_n_div, gs_af1, gs_af0, gs_ck0, gs_ck1, gs_ck2t, gs_ck2f, gs_ck3, gs_ck4, gs_zd_t, gs_zd_f, gs_zt_t, gs_zt_f, gs_nar1, gs_nar0, gs_tn, if_true, if_false, not_true_eq_false, not_false_eq_true]
theorem lw_limit (h : gs_RR B d S T) (hB : B + 80000000 ≤ 1000000000000) {i : Int} (i0 : 0 ≤ i) (i1 : i + 6 ≤ L) (hL : L ≤ 3072) : ∃ (d2 : gs_D) (S2 T2 : gs_S), gs_g (Y1 L xs) P_L_law 300 (gs_lo i) [] d = gs_g (Y1 L xs) P_L_law 18 (gs_lo (i + 6)) [] d2 ∧ gs_RR (B + 80000000) d2 S2 T2 := by
  obtain ⟨v, d1, d2, S2, T2, e1, e2, r⟩ := l_limit h hB (xs (i + 1).toNat) (xs (i + 2).toNat) (xs (i + 3).toNat)
  refine ⟨d2, S2, T2, ?_, r⟩
  unfold gs_lo
  simp (disch := omega) only [k_L_law_300, k_L_law_306, k_L_law_311, k_L_law_316, k_L_law_319, k_L_law_325, k_L_law_330, k_L_law_335, k_L_law_338, k_L_law_341, k_L_law_787, gs_wrG3, gs_wrM3, e1, e2, eq_self, gs_cmp_self, ↓reduceIte, Int.reduceAdd, Int.reduceSub, Int.reduceMul, Int.reduceToNat, gs_00, gs_ofi, gs_k0_m, gs_k1_m, gs_n8, gs_n16, gs_n_add, gs_n_sub, gs_n_mul, gs_n_neg, gs_m_add, gs_m_sub, gs_m_mul, gs_m_neg, gs_n_l, gs_m_n, gs_n_c, gs_eq_t, gs_eq_f1, gs_eq_f2, gs_lt_t, gs_lt_f, gs_le_t, gs_le_f, gs_cmp_lt, gs_cmp_eq, gs_cmp_gt, gs_ix_n, gs_nz_n, gs_nzl_g, gs_n_div, gs_af1, gs_af0, gs_ck0, gs_ck1, gs_ck2t, gs_ck2f, gs_ck3, gs_ck4, gs_zd_t, gs_zd_f, gs_zt_t, gs_zt_f, gs_nar1, gs_nar0, gs_tn, if_true, if_false, not_true_eq_false, not_false_eq_true]
theorem lw_pay (h : gs_RR B d S T) (hB : B + 80000000 ≤ 1000000000000) {i : Int} (i0 : 0 ≤ i) (i1 : i + 6 ≤ L) (hL : L ≤ 3072) : ∃ (d2 : gs_D) (S2 T2 : gs_S), gs_g (Y1 L xs) P_L_law 343 (gs_lo i) [] d = gs_g (Y1 L xs) P_L_law 18 (gs_lo (i + 6)) [] d2 ∧ gs_RR (B + 80000000) d2 S2 T2 := by
  obtain ⟨v, d1, d2, S2, T2, e1, e2, r⟩ := l_pay h hB (xs (i + 1).toNat) (xs (i + 2).toNat) (xs (i + 3).toNat) (xs (i + 4).toNat)
  refine ⟨d2, S2, T2, ?_, r⟩
  unfold gs_lo
  simp (disch := omega) only [k_L_law_343, k_L_law_349, k_L_law_354, k_L_law_359, k_L_law_364, k_L_law_367, k_L_law_373, k_L_law_378, k_L_law_383, k_L_law_388, k_L_law_391, k_L_law_394, k_L_law_787, gs_wrG4, gs_wrM4, e1, e2, eq_self, gs_cmp_self, ↓reduceIte, Int.reduceAdd, Int.reduceSub, Int.reduceMul, Int.reduceToNat, gs_00, gs_ofi, gs_k0_m, gs_k1_m, gs_n8, gs_n16, gs_n_add, gs_n_sub, gs_n_mul, gs_n_neg, gs_m_add, gs_m_sub, gs_m_mul, gs_m_neg, gs_n_l, gs_m_n, gs_n_c, gs_eq_t, gs_eq_f1, gs_eq_f2, gs_lt_t, gs_lt_f, gs_le_t, gs_le_f, gs_cmp_lt, gs_cmp_eq, gs_cmp_gt, gs_ix_n, gs_nz_n, gs_nzl_g, gs_n_div, gs_af1, gs_af0, gs_ck0, gs_ck1, gs_ck2t, gs_ck2f, gs_ck3, gs_ck4, gs_zd_t, gs_zd_f, gs_zt_t, gs_zt_f, gs_nar1, gs_nar0, gs_tn, if_true, if_false, not_true_eq_false, not_false_eq_true]
theorem lw_deliver (h : gs_RR B d S T) (hB : B + 80000000 ≤ 1000000000000) {i : Int} (i0 : 0 ≤ i) (i1 : i + 6 ≤ L) (hL : L ≤ 3072) : ∃ (d2 : gs_D) (S2 T2 : gs_S), gs_g (Y1 L xs) P_L_law 396 (gs_lo i) [] d = gs_g (Y1 L xs) P_L_law 18 (gs_lo (i + 6)) [] d2 ∧ gs_RR (B + 80000000) d2 S2 T2 := by
  obtain ⟨v, d1, d2, S2, T2, e1, e2, r⟩ := l_deliver h hB (xs (i + 1).toNat) (xs (i + 2).toNat) (xs (i + 3).toNat) (xs (i + 4).toNat)
  refine ⟨d2, S2, T2, ?_, r⟩
  unfold gs_lo
  simp (disch := omega) only [k_L_law_396, k_L_law_402, k_L_law_407, k_L_law_412, k_L_law_417, k_L_law_420, k_L_law_426, k_L_law_431, k_L_law_436, k_L_law_441, k_L_law_444, k_L_law_447, k_L_law_787, gs_wrG4, gs_wrM4, e1, e2, eq_self, gs_cmp_self, ↓reduceIte, Int.reduceAdd, Int.reduceSub, Int.reduceMul, Int.reduceToNat, gs_00, gs_ofi, gs_k0_m, gs_k1_m, gs_n8, gs_n16, gs_n_add, gs_n_sub, gs_n_mul, gs_n_neg, gs_m_add, gs_m_sub, gs_m_mul, gs_m_neg, gs_n_l, gs_m_n, gs_n_c, gs_eq_t, gs_eq_f1, gs_eq_f2, gs_lt_t, gs_lt_f, gs_le_t, gs_le_f, gs_cmp_lt, gs_cmp_eq, gs_cmp_gt, gs_ix_n, gs_nz_n, gs_nzl_g, gs_n_div, gs_af1, gs_af0, gs_ck0, gs_ck1, gs_ck2t, gs_ck2f, gs_ck3, gs_ck4, gs_zd_t, gs_zd_f, gs_zt_t, gs_zt_f, gs_nar1, gs_nar0, gs_tn, if_true, if_false, not_true_eq_false, not_false_eq_true]
theorem lw_exchange (h : gs_RR B d S T) (hB : B + 80000000 ≤ 1000000000000) {i : Int} (i0 : 0 ≤ i) (i1 : i + 6 ≤ L) (hL : L ≤ 3072) : ∃ (d2 : gs_D) (S2 T2 : gs_S), gs_g (Y1 L xs) P_L_law 449 (gs_lo i) [] d = gs_g (Y1 L xs) P_L_law 18 (gs_lo (i + 6)) [] d2 ∧ gs_RR (B + 80000000) d2 S2 T2 := by
  obtain ⟨v, d1, d2, S2, T2, e1, e2, r⟩ := l_exchange h hB (xs (i + 1).toNat) (xs (i + 2).toNat) (xs (i + 3).toNat) (xs (i + 4).toNat) (xs (i + 5).toNat)
  refine ⟨d2, S2, T2, ?_, r⟩
  unfold gs_lo
  simp (disch := omega) only [k_L_law_449, k_L_law_455, k_L_law_460, k_L_law_465, k_L_law_470, k_L_law_475, k_L_law_478, k_L_law_484, k_L_law_489, k_L_law_494, k_L_law_499, k_L_law_504, k_L_law_507, k_L_law_510, k_L_law_787, gs_wrG5, gs_wrM5, e1, e2, eq_self, gs_cmp_self, ↓reduceIte, Int.reduceAdd, Int.reduceSub, Int.reduceMul, Int.reduceToNat, gs_00, gs_ofi, gs_k0_m, gs_k1_m, gs_n8, gs_n16, gs_n_add, gs_n_sub, gs_n_mul, gs_n_neg, gs_m_add, gs_m_sub, gs_m_mul, gs_m_neg, gs_n_l, gs_m_n, gs_n_c, gs_eq_t, gs_eq_f1, gs_eq_f2, gs_lt_t, gs_lt_f, gs_le_t, gs_le_f, gs_cmp_lt, gs_cmp_eq, gs_cmp_gt, gs_ix_n, gs_nz_n, gs_nzl_g, gs_n_div, gs_af1, gs_af0, gs_ck0, gs_ck1, gs_ck2t, gs_ck2f, gs_ck3, gs_ck4, gs_zd_t, gs_zd_f, gs_zt_t, gs_zt_f, gs_nar1, gs_nar0, gs_tn, if_true, if_false, not_true_eq_false, not_false_eq_true]
theorem lw_cancel (h : gs_RR B d S T) (hB : B + 80000000 ≤ 1000000000000) {i : Int} (i0 : 0 ≤ i) (i1 : i + 6 ≤ L) (hL : L ≤ 3072) : ∃ (d2 : gs_D) (S2 T2 : gs_S), gs_g (Y1 L xs) P_L_law 512 (gs_lo i) [] d = gs_g (Y1 L xs) P_L_law 18 (gs_lo (i + 6)) [] d2 ∧ gs_RR (B + 80000000) d2 S2 T2 := by
  obtain ⟨v, d1, d2, S2, T2, e1, e2, r⟩ := l_cancel h hB (xs (i + 1).toNat)
  refine ⟨d2, S2, T2, ?_, r⟩
  unfold gs_lo
  simp (disch := omega) only [k_L_law_512, k_L_law_518, k_L_law_521, k_L_law_527, k_L_law_530, k_L_law_533, k_L_law_787, gs_wrG1, gs_wrM1, e1, e2, eq_self, gs_cmp_self, ↓reduceIte, Int.reduceAdd, Int.reduceSub, Int.reduceMul, Int.reduceToNat, gs_00, gs_ofi, gs_k0_m, gs_k1_m, gs_n8, gs_n16, gs_n_add, gs_n_sub, gs_n_mul, gs_n_neg, gs_m_add, gs_m_sub, gs_m_mul, gs_m_neg, gs_n_l, gs_m_n, gs_n_c, gs_eq_t, gs_eq_f1, gs_eq_f2, gs_lt_t, gs_lt_f, gs_le_t, gs_le_f, gs_cmp_lt, gs_cmp_eq, gs_cmp_gt, gs_ix_n, gs_nz_n, gs_nzl_g, gs_n_div, gs_af1, gs_af0, gs_ck0, gs_ck1, gs_ck2t, gs_ck2f, gs_ck3, gs_ck4, gs_zd_t, gs_zd_f, gs_zt_t, gs_zt_f, gs_nar1, gs_nar0, gs_tn, if_true, if_false, not_true_eq_false, not_false_eq_true]
theorem lw_prefer (h : gs_RR B d S T) (hB : B + 80000000 ≤ 1000000000000) {i : Int} (i0 : 0 ≤ i) (i1 : i + 6 ≤ L) (hL : L ≤ 3072) : ∃ (d2 : gs_D) (S2 T2 : gs_S), gs_g (Y1 L xs) P_L_law 535 (gs_lo i) [] d = gs_g (Y1 L xs) P_L_law 18 (gs_lo (i + 6)) [] d2 ∧ gs_RR (B + 80000000) d2 S2 T2 := by
  obtain ⟨v, d1, d2, S2, T2, e1, e2, r⟩ := l_prefer h hB (xs (i + 1).toNat) (xs (i + 2).toNat)
  refine ⟨d2, S2, T2, ?_, r⟩
  unfold gs_lo
  simp (disch := omega) only [k_L_law_535, k_L_law_541, k_L_law_546, k_L_law_549, k_L_law_555, k_L_law_560, k_L_law_563, k_L_law_566, k_L_law_787, gs_wrG2, gs_wrM2, e1, e2, eq_self, gs_cmp_self, ↓reduceIte, Int.reduceAdd, Int.reduceSub, Int.reduceMul, Int.reduceToNat, gs_00, gs_ofi, gs_k0_m, gs_k1_m, gs_n8, gs_n16, gs_n_add, gs_n_sub, gs_n_mul, gs_n_neg, gs_m_add, gs_m_sub, gs_m_mul, gs_m_neg, gs_n_l, gs_m_n, gs_n_c, gs_eq_t, gs_eq_f1, gs_eq_f2, gs_lt_t, gs_lt_f, gs_le_t, gs_le_f, gs_cmp_lt, gs_cmp_eq, gs_cmp_gt, gs_ix_n, gs_nz_n, gs_nzl_g, gs_n_div, gs_af1, gs_af0, gs_ck0, gs_ck1, gs_ck2t, gs_ck2f, gs_ck3, gs_ck4, gs_zd_t, gs_zd_f, gs_zt_t, gs_zt_f, gs_nar1, gs_nar0, gs_tn, if_true, if_false, not_true_eq_false, not_false_eq_true]
theorem lw_resolve (h : gs_RR B d S T) (hB : B + 80000000 ≤ 1000000000000) {i : Int} (i0 : 0 ≤ i) (i1 : i + 6 ≤ L) (hL : L ≤ 3072) : ∃ (d2 : gs_D) (S2 T2 : gs_S), gs_g (Y1 L xs) P_L_law 568 (gs_lo i) [] d = gs_g (Y1 L xs) P_L_law 18 (gs_lo (i + 6)) [] d2 ∧ gs_RR (B + 80000000) d2 S2 T2 := by
  obtain ⟨v, d1, d2, S2, T2, e1, e2, r⟩ := l_resolve h hB
  refine ⟨d2, S2, T2, ?_, r⟩
  unfold gs_lo
  simp (disch := omega) only [k_L_law_568, k_L_law_572, k_L_law_576, k_L_law_579, k_L_law_787, gs_wrG0, gs_wrM0, e1, e2, eq_self, gs_cmp_self, ↓reduceIte, Int.reduceAdd, Int.reduceSub, Int.reduceMul, Int.reduceToNat, gs_00, gs_ofi, gs_k0_m, gs_k1_m, gs_n8, gs_n16, gs_n_add, gs_n_sub, gs_n_mul, gs_n_neg, gs_m_add, gs_m_sub, gs_m_mul, gs_m_neg, gs_n_l, gs_m_n, gs_n_c, gs_eq_t, gs_eq_f1, gs_eq_f2, gs_lt_t, gs_lt_f, gs_le_t, gs_le_f, gs_cmp_lt, gs_cmp_eq, gs_cmp_gt, gs_ix_n, gs_nz_n, gs_nzl_g, gs_n_div, gs_af1, gs_af0, gs_ck0, gs_ck1, gs_ck2t, gs_ck2f, gs_ck3, gs_ck4, gs_zd_t, gs_zd_f, gs_zt_t, gs_zt_f, gs_nar1, gs_nar0, gs_tn, if_true, if_false, not_true_eq_false, not_false_eq_true]
theorem lw_advance (h : gs_RR B d S T) (hB : B + 80000000 ≤ 1000000000000) {i : Int} (i0 : 0 ≤ i) (i1 : i + 6 ≤ L) (hL : L ≤ 3072) : ∃ (d2 : gs_D) (S2 T2 : gs_S), gs_g (Y1 L xs) P_L_law 581 (gs_lo i) [] d = gs_g (Y1 L xs) P_L_law 18 (gs_lo (i + 6)) [] d2 ∧ gs_RR (B + 80000000) d2 S2 T2 := by
  obtain ⟨v, d1, d2, S2, T2, e1, e2, r⟩ := l_advance h hB
  refine ⟨d2, S2, T2, ?_, r⟩
  unfold gs_lo
  simp (disch := omega) only [k_L_law_581, k_L_law_585, k_L_law_589, k_L_law_592, k_L_law_787, gs_wrG0, gs_wrM0, e1, e2, eq_self, gs_cmp_self, ↓reduceIte, Int.reduceAdd, Int.reduceSub, Int.reduceMul, Int.reduceToNat, gs_00, gs_ofi, gs_k0_m, gs_k1_m, gs_n8, gs_n16, gs_n_add, gs_n_sub, gs_n_mul, gs_n_neg, gs_m_add, gs_m_sub, gs_m_mul, gs_m_neg, gs_n_l, gs_m_n, gs_n_c, gs_eq_t, gs_eq_f1, gs_eq_f2, gs_lt_t, gs_lt_f, gs_le_t, gs_le_f, gs_cmp_lt, gs_cmp_eq, gs_cmp_gt, gs_ix_n, gs_nz_n, gs_nzl_g, gs_n_div, gs_af1, gs_af0, gs_ck0, gs_ck1, gs_ck2t, gs_ck2f, gs_ck3, gs_ck4, gs_zd_t, gs_zd_f, gs_zt_t, gs_zt_f, gs_nar1, gs_nar0, gs_tn, if_true, if_false, not_true_eq_false, not_false_eq_true]
theorem lw_sync (h : gs_RR B d S T) (hB : B + 80000000 ≤ 1000000000000) {i : Int} (i0 : 0 ≤ i) (i1 : i + 6 ≤ L) (hL : L ≤ 3072) : ∃ (d2 : gs_D) (S2 T2 : gs_S), gs_g (Y1 L xs) P_L_law 594 (gs_lo i) [] d = gs_g (Y1 L xs) P_L_law 18 (gs_lo (i + 6)) [] d2 ∧ gs_RR (B + 80000000) d2 S2 T2 := by
  obtain ⟨d1, d2, S2, T2, e1, e2, r⟩ := l_sync h hB
  refine ⟨d2, S2, T2, ?_, r⟩
  unfold gs_lo
  simp (disch := omega) only [k_L_law_594, k_L_law_598, k_L_law_602, k_L_law_787, gs_wrG0, gs_wrM0, e1, e2, eq_self, gs_cmp_self, ↓reduceIte, Int.reduceAdd, Int.reduceSub, Int.reduceMul, Int.reduceToNat, gs_00, gs_ofi, gs_k0_m, gs_k1_m, gs_n8, gs_n16, gs_n_add, gs_n_sub, gs_n_mul, gs_n_neg, gs_m_add, gs_m_sub, gs_m_mul, gs_m_neg, gs_n_l, gs_m_n, gs_n_c, gs_eq_t, gs_eq_f1, gs_eq_f2, gs_lt_t, gs_lt_f, gs_le_t, gs_le_f, gs_cmp_lt, gs_cmp_eq, gs_cmp_gt, gs_ix_n, gs_nz_n, gs_nzl_g, gs_n_div, gs_af1, gs_af0, gs_ck0, gs_ck1, gs_ck2t, gs_ck2f, gs_ck3, gs_ck4, gs_zd_t, gs_zd_f, gs_zt_t, gs_zt_f, gs_nar1, gs_nar0, gs_tn, if_true, if_false, not_true_eq_false, not_false_eq_true]
theorem lw_crash (h : gs_RR B d S T) (hB : B + 80000000 ≤ 1000000000000) {i : Int} (i0 : 0 ≤ i) (i1 : i + 6 ≤ L) (hL : L ≤ 3072) : ∃ (d2 : gs_D) (S2 T2 : gs_S), gs_g (Y1 L xs) P_L_law 605 (gs_lo i) [] d = gs_g (Y1 L xs) P_L_law 18 (gs_lo (i + 6)) [] d2 ∧ gs_RR (B + 80000000) d2 S2 T2 := by
  obtain ⟨d1, d2, S2, T2, e1, e2, r⟩ := l_crash h hB
  refine ⟨d2, S2, T2, ?_, r⟩
  unfold gs_lo
  simp (disch := omega) only [k_L_law_605, k_L_law_609, k_L_law_613, k_L_law_787, gs_wrG0, gs_wrM0, e1, e2, eq_self, gs_cmp_self, ↓reduceIte, Int.reduceAdd, Int.reduceSub, Int.reduceMul, Int.reduceToNat, gs_00, gs_ofi, gs_k0_m, gs_k1_m, gs_n8, gs_n16, gs_n_add, gs_n_sub, gs_n_mul, gs_n_neg, gs_m_add, gs_m_sub, gs_m_mul, gs_m_neg, gs_n_l, gs_m_n, gs_n_c, gs_eq_t, gs_eq_f1, gs_eq_f2, gs_lt_t, gs_lt_f, gs_le_t, gs_le_f, gs_cmp_lt, gs_cmp_eq, gs_cmp_gt, gs_ix_n, gs_nz_n, gs_nzl_g, gs_n_div, gs_af1, gs_af0, gs_ck0, gs_ck1, gs_ck2t, gs_ck2f, gs_ck3, gs_ck4, gs_zd_t, gs_zd_f, gs_zt_t, gs_zt_f, gs_nar1, gs_nar0, gs_tn, if_true, if_false, not_true_eq_false, not_false_eq_true]
theorem lw_position (h : gs_RR B d S T) (hB : B + 80000000 ≤ 1000000000000) {i : Int} (i0 : 0 ≤ i) (i1 : i + 6 ≤ L) (hL : L ≤ 3072) : ∃ (d2 : gs_D) (S2 T2 : gs_S), gs_g (Y1 L xs) P_L_law 616 (gs_lo i) [] d = gs_g (Y1 L xs) P_L_law 18 (gs_lo (i + 6)) [] d2 ∧ gs_RR (B + 80000000) d2 S2 T2 := by
  obtain ⟨v, d1, d2, S2, T2, e1, e2, r⟩ := l_position h hB (xs (i + 1).toNat) (xs (i + 2).toNat) (xs (i + 3).toNat)
  refine ⟨d2, S2, T2, ?_, r⟩
  unfold gs_lo
  simp (disch := omega) only [k_L_law_616, k_L_law_622, k_L_law_627, k_L_law_632, k_L_law_635, k_L_law_641, k_L_law_646, k_L_law_651, k_L_law_654, k_L_law_658, k_L_law_787, gs_wrG3, gs_wrM3, e1, e2, eq_self, gs_cmp_self, ↓reduceIte, Int.reduceAdd, Int.reduceSub, Int.reduceMul, Int.reduceToNat, gs_00, gs_ofi, gs_k0_m, gs_k1_m, gs_n8, gs_n16, gs_n_add, gs_n_sub, gs_n_mul, gs_n_neg, gs_m_add, gs_m_sub, gs_m_mul, gs_m_neg, gs_n_l, gs_m_n, gs_n_c, gs_eq_t, gs_eq_f1, gs_eq_f2, gs_lt_t, gs_lt_f, gs_le_t, gs_le_f, gs_cmp_lt, gs_cmp_eq, gs_cmp_gt, gs_ix_n, gs_nz_n, gs_nzl_g, gs_n_div, gs_af1, gs_af0, gs_ck0, gs_ck1, gs_ck2t, gs_ck2f, gs_ck3, gs_ck4, gs_zd_t, gs_zd_f, gs_zt_t, gs_zt_f, gs_nar1, gs_nar0, gs_tn, if_true, if_false, not_true_eq_false, not_false_eq_true]
theorem lw_line (h : gs_RR B d S T) (hB : B + 80000000 ≤ 1000000000000) {i : Int} (i0 : 0 ≤ i) (i1 : i + 6 ≤ L) (hL : L ≤ 3072) : ∃ (d2 : gs_D) (S2 T2 : gs_S), gs_g (Y1 L xs) P_L_law 660 (gs_lo i) [] d = gs_g (Y1 L xs) P_L_law 18 (gs_lo (i + 6)) [] d2 ∧ gs_RR (B + 80000000) d2 S2 T2 := by
  obtain ⟨v, d1, d2, S2, T2, e1, e2, r⟩ := l_line h hB (xs (i + 1).toNat)
  refine ⟨d2, S2, T2, ?_, r⟩
  unfold gs_lo
  simp (disch := omega) only [k_L_law_660, k_L_law_666, k_L_law_669, k_L_law_675, k_L_law_678, k_L_law_682, k_L_law_787, gs_wrG1, gs_wrM1, e1, e2, eq_self, gs_cmp_self, ↓reduceIte, Int.reduceAdd, Int.reduceSub, Int.reduceMul, Int.reduceToNat, gs_00, gs_ofi, gs_k0_m, gs_k1_m, gs_n8, gs_n16, gs_n_add, gs_n_sub, gs_n_mul, gs_n_neg, gs_m_add, gs_m_sub, gs_m_mul, gs_m_neg, gs_n_l, gs_m_n, gs_n_c, gs_eq_t, gs_eq_f1, gs_eq_f2, gs_lt_t, gs_lt_f, gs_le_t, gs_le_f, gs_cmp_lt, gs_cmp_eq, gs_cmp_gt, gs_ix_n, gs_nz_n, gs_nzl_g, gs_n_div, gs_af1, gs_af0, gs_ck0, gs_ck1, gs_ck2t, gs_ck2f, gs_ck3, gs_ck4, gs_zd_t, gs_zd_f, gs_zt_t, gs_zt_f, gs_nar1, gs_nar0, gs_tn, if_true, if_false, not_true_eq_false, not_false_eq_true]
theorem lw_net (h : gs_RR B d S T) (hB : B + 80000000 ≤ 1000000000000) {i : Int} (i0 : 0 ≤ i) (i1 : i + 6 ≤ L) (hL : L ≤ 3072) : ∃ (d2 : gs_D) (S2 T2 : gs_S), gs_g (Y1 L xs) P_L_law 684 (gs_lo i) [] d = gs_g (Y1 L xs) P_L_law 18 (gs_lo (i + 6)) [] d2 ∧ gs_RR (B + 80000000) d2 S2 T2 := by
  obtain ⟨v, d1, d2, S2, T2, e1, e2, r⟩ := l_net h hB (xs (i + 1).toNat) (xs (i + 2).toNat)
  refine ⟨d2, S2, T2, ?_, r⟩
  unfold gs_lo
  simp (disch := omega) only [k_L_law_684, k_L_law_690, k_L_law_695, k_L_law_698, k_L_law_704, k_L_law_709, k_L_law_712, k_L_law_716, k_L_law_787, gs_wrG2, gs_wrM2, e1, e2, eq_self, gs_cmp_self, ↓reduceIte, Int.reduceAdd, Int.reduceSub, Int.reduceMul, Int.reduceToNat, gs_00, gs_ofi, gs_k0_m, gs_k1_m, gs_n8, gs_n16, gs_n_add, gs_n_sub, gs_n_mul, gs_n_neg, gs_m_add, gs_m_sub, gs_m_mul, gs_m_neg, gs_n_l, gs_m_n, gs_n_c, gs_eq_t, gs_eq_f1, gs_eq_f2, gs_lt_t, gs_lt_f, gs_le_t, gs_le_f, gs_cmp_lt, gs_cmp_eq, gs_cmp_gt, gs_ix_n, gs_nz_n, gs_nzl_g, gs_n_div, gs_af1, gs_af0, gs_ck0, gs_ck1, gs_ck2t, gs_ck2f, gs_ck3, gs_ck4, gs_zd_t, gs_zd_f, gs_zt_t, gs_zt_f, gs_nar1, gs_nar0, gs_tn, if_true, if_false, not_true_eq_false, not_false_eq_true]
theorem lw_status (h : gs_RR B d S T) (hB : B + 80000000 ≤ 1000000000000) {i : Int} (i0 : 0 ≤ i) (i1 : i + 6 ≤ L) (hL : L ≤ 3072) : ∃ (d2 : gs_D) (S2 T2 : gs_S), gs_g (Y1 L xs) P_L_law 718 (gs_lo i) [] d = gs_g (Y1 L xs) P_L_law 18 (gs_lo (i + 6)) [] d2 ∧ gs_RR (B + 80000000) d2 S2 T2 := by
  obtain ⟨v, d1, d2, S2, T2, e1, e2, r⟩ := l_status h hB (xs (i + 1).toNat)
  refine ⟨d2, S2, T2, ?_, r⟩
  unfold gs_lo
  simp (disch := omega) only [k_L_law_718, k_L_law_724, k_L_law_727, k_L_law_733, k_L_law_736, k_L_law_739, k_L_law_787, gs_wrG1, gs_wrM1, e1, e2, eq_self, gs_cmp_self, ↓reduceIte, Int.reduceAdd, Int.reduceSub, Int.reduceMul, Int.reduceToNat, gs_00, gs_ofi, gs_k0_m, gs_k1_m, gs_n8, gs_n16, gs_n_add, gs_n_sub, gs_n_mul, gs_n_neg, gs_m_add, gs_m_sub, gs_m_mul, gs_m_neg, gs_n_l, gs_m_n, gs_n_c, gs_eq_t, gs_eq_f1, gs_eq_f2, gs_lt_t, gs_lt_f, gs_le_t, gs_le_f, gs_cmp_lt, gs_cmp_eq, gs_cmp_gt, gs_ix_n, gs_nz_n, gs_nzl_g, gs_n_div, gs_af1, gs_af0, gs_ck0, gs_ck1, gs_ck2t, gs_ck2f, gs_ck3, gs_ck4, gs_zd_t, gs_zd_f, gs_zt_t, gs_zt_f, gs_nar1, gs_nar0, gs_tn, if_true, if_false, not_true_eq_false, not_false_eq_true]
theorem lw_waiting (h : gs_RR B d S T) (hB : B + 80000000 ≤ 1000000000000) {i : Int} (i0 : 0 ≤ i) (i1 : i + 6 ≤ L) (hL : L ≤ 3072) : ∃ (d2 : gs_D) (S2 T2 : gs_S), gs_g (Y1 L xs) P_L_law 741 (gs_lo i) [] d = gs_g (Y1 L xs) P_L_law 18 (gs_lo (i + 6)) [] d2 ∧ gs_RR (B + 80000000) d2 S2 T2 := by
  obtain ⟨v, d1, d2, S2, T2, e1, e2, r⟩ := l_waiting h hB (xs (i + 1).toNat)
  refine ⟨d2, S2, T2, ?_, r⟩
  unfold gs_lo
  simp (disch := omega) only [k_L_law_741, k_L_law_747, k_L_law_750, k_L_law_756, k_L_law_759, k_L_law_762, k_L_law_787, gs_wrG1, gs_wrM1, e1, e2, eq_self, gs_cmp_self, ↓reduceIte, Int.reduceAdd, Int.reduceSub, Int.reduceMul, Int.reduceToNat, gs_00, gs_ofi, gs_k0_m, gs_k1_m, gs_n8, gs_n16, gs_n_add, gs_n_sub, gs_n_mul, gs_n_neg, gs_m_add, gs_m_sub, gs_m_mul, gs_m_neg, gs_n_l, gs_m_n, gs_n_c, gs_eq_t, gs_eq_f1, gs_eq_f2, gs_lt_t, gs_lt_f, gs_le_t, gs_le_f, gs_cmp_lt, gs_cmp_eq, gs_cmp_gt, gs_ix_n, gs_nz_n, gs_nzl_g, gs_n_div, gs_af1, gs_af0, gs_ck0, gs_ck1, gs_ck2t, gs_ck2f, gs_ck3, gs_ck4, gs_zd_t, gs_zd_f, gs_zt_t, gs_zt_f, gs_nar1, gs_nar0, gs_tn, if_true, if_false, not_true_eq_false, not_false_eq_true]
theorem lw_behind (h : gs_RR B d S T) (hB : B + 80000000 ≤ 1000000000000) {i : Int} (i0 : 0 ≤ i) (i1 : i + 6 ≤ L) (hL : L ≤ 3072) : ∃ (d2 : gs_D) (S2 T2 : gs_S), gs_g (Y1 L xs) P_L_law 764 (gs_lo i) [] d = gs_g (Y1 L xs) P_L_law 18 (gs_lo (i + 6)) [] d2 ∧ gs_RR (B + 80000000) d2 S2 T2 := by
  obtain ⟨v, d1, d2, S2, T2, e1, e2, r⟩ := l_behind h hB (xs (i + 1).toNat)
  refine ⟨d2, S2, T2, ?_, r⟩
  unfold gs_lo
  simp (disch := omega) only [k_L_law_764, k_L_law_770, k_L_law_773, k_L_law_779, k_L_law_782, k_L_law_785, k_L_law_787, gs_wrG1, gs_wrM1, e1, e2, eq_self, gs_cmp_self, ↓reduceIte, Int.reduceAdd, Int.reduceSub, Int.reduceMul, Int.reduceToNat, gs_00, gs_ofi, gs_k0_m, gs_k1_m, gs_n8, gs_n16, gs_n_add, gs_n_sub, gs_n_mul, gs_n_neg, gs_m_add, gs_m_sub, gs_m_mul, gs_m_neg, gs_n_l, gs_m_n, gs_n_c, gs_eq_t, gs_eq_f1, gs_eq_f2, gs_lt_t, gs_lt_f, gs_le_t, gs_le_f, gs_cmp_lt, gs_cmp_eq, gs_cmp_gt, gs_ix_n, gs_nz_n, gs_nzl_g, gs_n_div, gs_af1, gs_af0, gs_ck0, gs_ck1, gs_ck2t, gs_ck2f, gs_ck3, gs_ck4, gs_zd_t, gs_zd_f, gs_zt_t, gs_zt_f, gs_nar1, gs_nar0, gs_tn, if_true, if_false, not_true_eq_false, not_false_eq_true]
theorem lw_round (h : gs_RR B d S T) (hB : B + 80000000 ≤ 1000000000000) {i : Int} (i0 : 0 ≤ i) (i1 : i + 6 ≤ L) (hL : L ≤ 3072) : ∃ (d2 : gs_D) (S2 T2 : gs_S), gs_g (Y1 L xs) P_L_law 18 (gs_lo i) [] d = gs_g (Y1 L xs) P_L_law 18 (gs_lo (i + 6)) [] d2 ∧ gs_RR (B + 80000000) d2 S2 T2 := by
  obtain ⟨j, j1, hj⟩ := gs_and31 (xs i.toNat)
  have e : gs_g (Y1 L xs) P_L_law 18 (gs_lo i) [] d = gs_ts (gs_n j) 0 19 33 #[95, 138, 181, 224, 267, 310, 363, 416, 479, 502, 535, 548, 561, 572, 583, 627, 651, 685, 708, 731] (gs_g (Y1 L xs) P_L_law 787 (gs_lo i) [] d) (fun p9 => gs_g (Y1 L xs) P_L_law p9 (gs_lo i) [] d) := by
    unfold gs_lo
    rw [k_L_law_18]
    simp (disch := omega) only [gs_ofN, k_L_law_27, k_L_law_30, hj, ↓reduceIte, Int.reduceAdd, Int.reduceSub, Int.reduceMul, Int.reduceToNat, gs_00, gs_ofi, gs_k0_m, gs_k1_m, gs_n8, gs_n16, gs_n_add, gs_n_sub, gs_n_mul, gs_n_neg, gs_m_add, gs_m_sub, gs_m_mul, gs_m_neg, gs_n_l, gs_m_n, gs_n_c, gs_eq_t, gs_eq_f1, gs_eq_f2, gs_lt_t, gs_lt_f, gs_le_t, gs_le_f, gs_cmp_lt, gs_cmp_eq, gs_cmp_gt, gs_ix_n, gs_nz_n, gs_nzl_g, gs_n_div, gs_af1, gs_af0, gs_ck0, gs_ck1, gs_ck2t, gs_ck2f, gs_ck3, gs_ck4, gs_zd_t, gs_zd_f, gs_zt_t, gs_zt_f, gs_nar1, gs_nar0, gs_tn, if_true, if_false, not_true_eq_false, not_false_eq_true]
  rw [e]
  have : j = 0 ∨ j = 1 ∨ j = 2 ∨ j = 3 ∨ j = 4 ∨ j = 5 ∨ j = 6 ∨ j = 7 ∨ j = 8 ∨ j = 9 ∨ j = 10 ∨ j = 11 ∨ j = 12 ∨ j = 13 ∨ j = 14 ∨ j = 15 ∨ j = 16 ∨ j = 17 ∨ j = 18 ∨ j = 19 ∨ 20 ≤ j := by omega
  rcases this with rfl | rfl | rfl | rfl | rfl | rfl | rfl | rfl | rfl | rfl | rfl | rfl | rfl | rfl | rfl | rfl | rfl | rfl | rfl | rfl | hj2
  · rw [gs_ts_in (o := 95) (by decide) (by decide) (by decide)]
    exact lw_issue h hB i0 i1 hL
  · rw [gs_ts_in (o := 138) (by decide) (by decide) (by decide)]
    exact lw_terms h hB i0 i1 hL
  · rw [gs_ts_in (o := 181) (by decide) (by decide) (by decide)]
    exact lw_pledge h hB i0 i1 hL
  · rw [gs_ts_in (o := 224) (by decide) (by decide) (by decide)]
    exact lw_release h hB i0 i1 hL
  · rw [gs_ts_in (o := 267) (by decide) (by decide) (by decide)]
    exact lw_limit h hB i0 i1 hL
  · rw [gs_ts_in (o := 310) (by decide) (by decide) (by decide)]
    exact lw_pay h hB i0 i1 hL
  · rw [gs_ts_in (o := 363) (by decide) (by decide) (by decide)]
    exact lw_deliver h hB i0 i1 hL
  · rw [gs_ts_in (o := 416) (by decide) (by decide) (by decide)]
    exact lw_exchange h hB i0 i1 hL
  · rw [gs_ts_in (o := 479) (by decide) (by decide) (by decide)]
    exact lw_cancel h hB i0 i1 hL
  · rw [gs_ts_in (o := 502) (by decide) (by decide) (by decide)]
    exact lw_prefer h hB i0 i1 hL
  · rw [gs_ts_in (o := 535) (by decide) (by decide) (by decide)]
    exact lw_resolve h hB i0 i1 hL
  · rw [gs_ts_in (o := 548) (by decide) (by decide) (by decide)]
    exact lw_advance h hB i0 i1 hL
  · rw [gs_ts_in (o := 561) (by decide) (by decide) (by decide)]
    exact lw_sync h hB i0 i1 hL
  · rw [gs_ts_in (o := 572) (by decide) (by decide) (by decide)]
    exact lw_crash h hB i0 i1 hL
  · rw [gs_ts_in (o := 583) (by decide) (by decide) (by decide)]
    exact lw_position h hB i0 i1 hL
  · rw [gs_ts_in (o := 627) (by decide) (by decide) (by decide)]
    exact lw_line h hB i0 i1 hL
  · rw [gs_ts_in (o := 651) (by decide) (by decide) (by decide)]
    exact lw_net h hB i0 i1 hL
  · rw [gs_ts_in (o := 685) (by decide) (by decide) (by decide)]
    exact lw_status h hB i0 i1 hL
  · rw [gs_ts_in (o := 708) (by decide) (by decide) (by decide)]
    exact lw_waiting h hB i0 i1 hL
  · rw [gs_ts_in (o := 731) (by decide) (by decide) (by decide)]
    exact lw_behind h hB i0 i1 hL
  · rw [gs_ts_out (Or.inr (by rw [gs_n_i (by omega) (by omega)]; omega))]
    refine ⟨d, S, T, ?_, h.mono hB⟩
    unfold gs_lo
    simp (disch := omega) only [k_L_law_787, ↓reduceIte, Int.reduceAdd, Int.reduceSub, Int.reduceMul, Int.reduceToNat, gs_00, gs_ofi, gs_k0_m, gs_k1_m, gs_n8, gs_n16, gs_n_add, gs_n_sub, gs_n_mul, gs_n_neg, gs_m_add, gs_m_sub, gs_m_mul, gs_m_neg, gs_n_l, gs_m_n, gs_n_c, gs_eq_t, gs_eq_f1, gs_eq_f2, gs_lt_t, gs_lt_f, gs_le_t, gs_le_f, gs_cmp_lt, gs_cmp_eq, gs_cmp_gt, gs_ix_n, gs_nz_n, gs_nzl_g, gs_n_div, gs_af1, gs_af0, gs_ck0, gs_ck1, gs_ck2t, gs_ck2f, gs_ck3, gs_ck4, gs_zd_t, gs_zd_f, gs_zt_t, gs_zt_f, gs_nar1, gs_nar0, gs_tn, if_true, if_false, not_true_eq_false, not_false_eq_true]
theorem lw_loop (hL : L ≤ 3072) : ∀ (n c : Nat) (d : gs_D) (S T : gs_S), 6 * (c + n) ≤ L → L < 6 * (c + n) + 6 → gs_RR (80000000 * c) d S T → ∃ d', gs_g (Y1 L xs) P_L_law 18 (gs_lo (6 * c)) [] d = some (some (gs_i (gs_n 1)), d') := by
  intro n
  induction n with
  | zero =>
    intro c d S T h1 h2 h
    refine ⟨d, ?_⟩
    unfold gs_lo
    rw [k_L_law_18]
    simp (disch := omega) only [gs_ofN, k_L_law_793, ↓reduceIte, Int.reduceAdd, Int.reduceSub, Int.reduceMul, Int.reduceToNat, gs_00, gs_ofi, gs_k0_m, gs_k1_m, gs_n8, gs_n16, gs_n_add, gs_n_sub, gs_n_mul, gs_n_neg, gs_m_add, gs_m_sub, gs_m_mul, gs_m_neg, gs_n_l, gs_m_n, gs_n_c, gs_eq_t, gs_eq_f1, gs_eq_f2, gs_lt_t, gs_lt_f, gs_le_t, gs_le_f, gs_cmp_lt, gs_cmp_eq, gs_cmp_gt, gs_ix_n, gs_nz_n, gs_nzl_g, gs_n_div, gs_af1, gs_af0, gs_ck0, gs_ck1, gs_ck2t, gs_ck2f, gs_ck3, gs_ck4, gs_zd_t, gs_zd_f, gs_zt_t, gs_zt_f, gs_nar1, gs_nar0, gs_tn, if_true, if_false, not_true_eq_false, not_false_eq_true]
  | succ n ih =>
    intro c d S T h1 h2 h
    obtain ⟨d2, S2, T2, e, r⟩ := lw_round (xs := xs) h (by omega) (i := 6 * (c : Int)) (by omega) (by omega) hL
    have e1 : (80000000 : Int) * (c : Int) + 80000000 = 80000000 * ((c + 1 : Nat) : Int) := by omega
    have e2 : (6 : Int) * (c : Int) + 6 = 6 * ((c + 1 : Nat) : Int) := by omega
    rw [e1] at r
    rw [e2] at e
    obtain ⟨d', e3⟩ := ih (c + 1) d2 S2 T2 (by omega) (by omega) r
    exact ⟨d', e.trans e3⟩
/-- the law answers true -/
theorem lw_all (hL : L ≤ 3072) (h : gs_RR 0 d S T) : ∃ d', gs_g (Y1 L xs) P_L_law 16 [some (gs_r 30 0), some (gs_r 0 0), some (gs_r 20 0), none] [] d = some (some (gs_i (gs_n 1)), d') := by
  obtain ⟨d', e⟩ := lw_loop (xs := xs) hL (L / 6) 0 d S T (by omega) (by omega) h
  refine ⟨d', ?_⟩
  rw [k_L_law_16]
  exact e
end LW
