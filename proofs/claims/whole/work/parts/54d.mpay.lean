-- the model's three ways to be given an instruction
section MP
variable {d : gs_D} {S : gs_S} {B : Int}
theorem s_M_pay (hM : gs_Mo 21 d S) (hw : gs_wb B S) (hv : gs_wv S) (hB : B + 80000000 ≤ 1000000000000) (hv2 : ∀ g t s am mo pr : Int, gs_okn g t s am mo pr → S.2.length < 10 → S.1 6 1 < 40 → gs_wv (gs_cl2 (gs_nw S g t s am mo pr))) {p q x pr : Int} (p1 : -2147483648 ≤ p) (p2 : p < 2147483648) (q1 : -2147483648 ≤ q) (q2 : q < 2147483648) (x1 : -2147483648 ≤ x) (x2 : x < 2147483648) (r1 : -2147483648 ≤ pr) (r2 : pr < 2147483648) : ∃ d', f_M_pay [gs_r 20 0, gs_i (gs_n p), gs_i (gs_n q), gs_i (gs_n x), gs_i (gs_n pr)] d = some (some (gs_i (gs_n (o_pay S p q x pr).1)), d') ∧ gs_Mo 21 d' (o_pay S p q x pr).2 ∧ gs_mf d d' := by
  unfold o_pay
  by_cases c : ((0 ≤ p ∧ p < 6) ∧ (0 ≤ q ∧ q < 6) ∧ ¬ p = q) ∧ (1 ≤ x ∧ x ≤ 1000000) ∧ (0 ≤ pr ∧ pr < 3)
  · rw [if_pos c]
    obtain ⟨pn, rfl⟩ : ∃ n : Nat, p = n := ⟨p.toNat, by omega⟩
    obtain ⟨qn, rfl⟩ : ∃ n : Nat, q = n := ⟨q.toNat, by omega⟩
    obtain ⟨rn, rfl⟩ : ∃ n : Nat, pr = n := ⟨pr.toNat, by omega⟩
    obtain ⟨w0, w1, w2, w3, w4⟩ := gs_bits_p ⟨pn, by omega⟩ ⟨qn, by omega⟩ ⟨rn, by omega⟩
    have ho : gs_okn (qn : Int) (pn : Int) 0 0 x (rn : Int) := by unfold gs_okn; omega
    obtain ⟨d', e, r⟩ := s_M_accept hM hw hv hB ho (hv2 _ _ _ _ _ _ ho) (by omega) (by omega) (by omega) (by omega) w0 w1 w2 w3 w4 (by unfold gs_v7; rw [if_neg (by omega), if_pos (by omega)]) (by unfold gs_v7; rw [if_neg (by omega), if_pos (by omega)]) (by unfold gs_v7; rw [if_pos rfl, if_neg (by omega)]) (by unfold gs_v7; rw [if_pos rfl, if_neg (by omega)])
    refine ⟨d', ?_, r⟩
    simp (disch := omega) only [e_M_pay, k_M_pay_0, k_M_pay_5, k_M_pay_8, k_M_pay_12, k_M_pay_15, k_M_pay_21, k_M_pay_24, k_M_pay_26, k_M_pay_52, s_M_pair, s_M_amountFits, s_M_within, e, ↓reduceIte, Int.reduceAdd, Int.reduceSub, Int.reduceMul, Int.reduceToNat, gs_00, gs_ofi, gs_k0_m, gs_k1_m, gs_n8, gs_n16, gs_n_add, gs_n_sub, gs_n_mul, gs_n_neg, gs_m_add, gs_m_sub, gs_m_mul, gs_m_neg, gs_n_l, gs_m_n, gs_n_c, gs_eq_t, gs_eq_f1, gs_eq_f2, gs_lt_t, gs_lt_f, gs_le_t, gs_le_f, gs_cmp_lt, gs_cmp_eq, gs_cmp_gt, gs_ix_n, gs_nz_n, gs_nzl_g, gs_n_div, gs_af1, gs_af0, gs_ck0, gs_ck1, gs_ck2t, gs_ck2f, gs_ck3, gs_ck4, gs_zd_t, gs_zd_f, gs_zt_t, gs_zt_f, gs_nar1, gs_nar0, gs_tn, if_true, if_false, not_true_eq_false, not_false_eq_true]
  · rw [if_neg c]
    refine ⟨d, ?_, hM, gs_mf.rf⟩
    simp (disch := omega) only [e_M_pay, k_M_pay_0, k_M_pay_5, k_M_pay_8, k_M_pay_12, k_M_pay_15, k_M_pay_21, k_M_pay_24, k_M_pay_26, k_M_pay_52, s_M_pair, s_M_amountFits, s_M_within, gs_zd0, gs_00, gs_ofi, gs_k0_m, gs_k1_m, gs_n8, gs_n16, gs_n_add, gs_n_sub, gs_n_mul, gs_n_neg, gs_m_add, gs_m_sub, gs_m_mul, gs_m_neg, gs_n_l, gs_m_n, gs_n_c, gs_eq_iff, gs_lt_iff, gs_le_iff, gs_cge, gs_clt, gs_cle, gs_cgt, gs_ceq, gs_ix_n, gs_nz_n, gs_nzl_g, gs_n_div, gs_af1, gs_af0, gs_ck_ite, gs_ck0, gs_ck1, gs_ck2t, gs_ck2f, gs_ck3, gs_ck4, gs_nar1, gs_nar0, gs_tn, if_true, if_false, not_true_eq_false, not_false_eq_true]
    repeat' split
    all_goals first | rfl | (exfalso; omega)
theorem s_M_deliver (hM : gs_Mo 21 d S) (hw : gs_wb B S) (hv : gs_wv S) (hB : B + 80000000 ≤ 1000000000000) (hv2 : ∀ g t s am mo pr : Int, gs_okn g t s am mo pr → S.2.length < 10 → S.1 6 1 < 40 → gs_wv (gs_cl2 (gs_nw S g t s am mo pr))) {p q s x : Int} (p1 : -2147483648 ≤ p) (p2 : p < 2147483648) (q1 : -2147483648 ≤ q) (q2 : q < 2147483648) (s1 : -2147483648 ≤ s) (s2 : s < 2147483648) (x1 : -2147483648 ≤ x) (x2 : x < 2147483648) : ∃ d', f_M_deliver [gs_r 20 0, gs_i (gs_n p), gs_i (gs_n q), gs_i (gs_n s), gs_i (gs_n x)] d = some (some (gs_i (gs_n (o_deliver S p q s x).1)), d') ∧ gs_Mo 21 d' (o_deliver S p q s x).2 ∧ gs_mf d d' := by
  unfold o_deliver
  by_cases c : ((0 ≤ p ∧ p < 6) ∧ (0 ≤ q ∧ q < 6) ∧ ¬ p = q) ∧ (1 ≤ s ∧ s < 3) ∧ (1 ≤ x ∧ x ≤ 1000000)
  · rw [if_pos c]
    obtain ⟨pn, rfl⟩ : ∃ n : Nat, p = n := ⟨p.toNat, by omega⟩
    obtain ⟨qn, rfl⟩ : ∃ n : Nat, q = n := ⟨q.toNat, by omega⟩
    obtain ⟨w0, w1, w2, w3, w4⟩ := gs_bits_d ⟨pn, by omega⟩ ⟨qn, by omega⟩
    have ho : gs_okn (pn : Int) (qn : Int) s x 0 1 := by unfold gs_okn; omega
    obtain ⟨d', e, r⟩ := s_M_accept hM hw hv hB ho (hv2 _ _ _ _ _ _ ho) (by omega) (by omega) (by omega) (by omega) w0 w1 w2 w3 w4 (by unfold gs_v7; rw [if_pos rfl, if_neg (by omega)]) (by unfold gs_v7; rw [if_pos rfl, if_neg (by omega)]) (by unfold gs_v7; rw [if_neg (by omega), if_pos (by omega)]) (by unfold gs_v7; rw [if_neg (by omega), if_pos (by omega)])
    refine ⟨d', ?_, r⟩
    simp (disch := omega) only [e_M_deliver, k_M_deliver_0, k_M_deliver_5, k_M_deliver_8, k_M_deliver_12, k_M_deliver_15, k_M_deliver_20, k_M_deliver_23, k_M_deliver_25, k_M_deliver_49, s_M_pair, s_M_amountFits, s_M_security, e, ↓reduceIte, Int.reduceAdd, Int.reduceSub, Int.reduceMul, Int.reduceToNat, gs_00, gs_ofi, gs_k0_m, gs_k1_m, gs_n8, gs_n16, gs_n_add, gs_n_sub, gs_n_mul, gs_n_neg, gs_m_add, gs_m_sub, gs_m_mul, gs_m_neg, gs_n_l, gs_m_n, gs_n_c, gs_eq_t, gs_eq_f1, gs_eq_f2, gs_lt_t, gs_lt_f, gs_le_t, gs_le_f, gs_cmp_lt, gs_cmp_eq, gs_cmp_gt, gs_ix_n, gs_nz_n, gs_nzl_g, gs_n_div, gs_af1, gs_af0, gs_ck0, gs_ck1, gs_ck2t, gs_ck2f, gs_ck3, gs_ck4, gs_zd_t, gs_zd_f, gs_zt_t, gs_zt_f, gs_nar1, gs_nar0, gs_tn, if_true, if_false, not_true_eq_false, not_false_eq_true]
  · rw [if_neg c]
    refine ⟨d, ?_, hM, gs_mf.rf⟩
    simp (disch := omega) only [e_M_deliver, k_M_deliver_0, k_M_deliver_5, k_M_deliver_8, k_M_deliver_12, k_M_deliver_15, k_M_deliver_20, k_M_deliver_23, k_M_deliver_25, k_M_deliver_49, s_M_pair, s_M_amountFits, s_M_security, gs_zd0, gs_00, gs_ofi, gs_k0_m, gs_k1_m, gs_n8, gs_n16, gs_n_add, gs_n_sub, gs_n_mul, gs_n_neg, gs_m_add, gs_m_sub, gs_m_mul, gs_m_neg, gs_n_l, gs_m_n, gs_n_c, gs_eq_iff, gs_lt_iff, gs_le_iff, gs_cge, gs_clt, gs_cle, gs_cgt, gs_ceq, gs_ix_n, gs_nz_n, gs_nzl_g, gs_n_div, gs_af1, gs_af0, gs_ck_ite, gs_ck0, gs_ck1, gs_ck2t, gs_ck2f, gs_ck3, gs_ck4, gs_nar1, gs_nar0, gs_tn, if_true, if_false, not_true_eq_false, not_false_eq_true]
    repeat' split
    all_goals first | rfl | (exfalso; omega)
theorem s_M_exchange (hM : gs_Mo 21 d S) (hw : gs_wb B S) (hv : gs_wv S) (hB : B + 80000000 ≤ 1000000000000) (hv2 : ∀ g t s am mo pr : Int, gs_okn g t s am mo pr → S.2.length < 10 → S.1 6 1 < 40 → gs_wv (gs_cl2 (gs_nw S g t s am mo pr))) {p q s x m : Int} (p1 : -2147483648 ≤ p) (p2 : p < 2147483648) (q1 : -2147483648 ≤ q) (q2 : q < 2147483648) (s1 : -2147483648 ≤ s) (s2 : s < 2147483648) (x1 : -2147483648 ≤ x) (x2 : x < 2147483648) (m1 : -2147483648 ≤ m) (m2 : m < 2147483648) : ∃ d', f_M_exchange [gs_r 20 0, gs_i (gs_n p), gs_i (gs_n q), gs_i (gs_n s), gs_i (gs_n x), gs_i (gs_n m)] d = some (some (gs_i (gs_n (o_exchange S p q s x m).1)), d') ∧ gs_Mo 21 d' (o_exchange S p q s x m).2 ∧ gs_mf d d' := by
  unfold o_exchange
  by_cases c : ((0 ≤ p ∧ p < 6) ∧ (0 ≤ q ∧ q < 6) ∧ ¬ p = q) ∧ (1 ≤ s ∧ s < 3) ∧ (1 ≤ x ∧ x ≤ 1000000) ∧ (1 ≤ m ∧ m ≤ 1000000)
  · rw [if_pos c]
    obtain ⟨pn, rfl⟩ : ∃ n : Nat, p = n := ⟨p.toNat, by omega⟩
    obtain ⟨qn, rfl⟩ : ∃ n : Nat, q = n := ⟨q.toNat, by omega⟩
    obtain ⟨w0, w1, w2, w3, w4⟩ := gs_bits_x ⟨pn, by omega⟩ ⟨qn, by omega⟩
    have ho : gs_okn (pn : Int) (qn : Int) s x m 1 := by unfold gs_okn; omega
    obtain ⟨d', e, r⟩ := s_M_accept hM hw hv hB ho (hv2 _ _ _ _ _ _ ho) (by omega) (by omega) (by omega) (by omega) w0 w1 w2 w3 w4 (by unfold gs_v7; rw [if_neg (by omega), if_pos (by omega)]) (by unfold gs_v7; rw [if_neg (by omega), if_pos (by omega)]) (by unfold gs_v7; rw [if_neg (by omega), if_pos (by omega)]) (by unfold gs_v7; rw [if_neg (by omega), if_pos (by omega)])
    refine ⟨d', ?_, r⟩
    simp (disch := omega) only [e_M_exchange, k_M_exchange_0, k_M_exchange_5, k_M_exchange_8, k_M_exchange_12, k_M_exchange_15, k_M_exchange_20, k_M_exchange_23, k_M_exchange_28, k_M_exchange_31, k_M_exchange_33, k_M_exchange_61, s_M_pair, s_M_amountFits, s_M_security, e, ↓reduceIte, Int.reduceAdd, Int.reduceSub, Int.reduceMul, Int.reduceToNat, gs_00, gs_ofi, gs_k0_m, gs_k1_m, gs_n8, gs_n16, gs_n_add, gs_n_sub, gs_n_mul, gs_n_neg, gs_m_add, gs_m_sub, gs_m_mul, gs_m_neg, gs_n_l, gs_m_n, gs_n_c, gs_eq_t, gs_eq_f1, gs_eq_f2, gs_lt_t, gs_lt_f, gs_le_t, gs_le_f, gs_cmp_lt, gs_cmp_eq, gs_cmp_gt, gs_ix_n, gs_nz_n, gs_nzl_g, gs_n_div, gs_af1, gs_af0, gs_ck0, gs_ck1, gs_ck2t, gs_ck2f, gs_ck3, gs_ck4, gs_zd_t, gs_zd_f, gs_zt_t, gs_zt_f, gs_nar1, gs_nar0, gs_tn, if_true, if_false, not_true_eq_false, not_false_eq_true]
  · rw [if_neg c]
    refine ⟨d, ?_, hM, gs_mf.rf⟩
    simp (disch := omega) only [e_M_exchange, k_M_exchange_0, k_M_exchange_5, k_M_exchange_8, k_M_exchange_12, k_M_exchange_15, k_M_exchange_20, k_M_exchange_23, k_M_exchange_28, k_M_exchange_31, k_M_exchange_33, k_M_exchange_61, s_M_pair, s_M_amountFits, s_M_security, gs_zd0, gs_00, gs_ofi, gs_k0_m, gs_k1_m, gs_n8, gs_n16, gs_n_add, gs_n_sub, gs_n_mul, gs_n_neg, gs_m_add, gs_m_sub, gs_m_mul, gs_m_neg, gs_n_l, gs_m_n, gs_n_c, gs_eq_iff, gs_lt_iff, gs_le_iff, gs_cge, gs_clt, gs_cle, gs_cgt, gs_ceq, gs_ix_n, gs_nz_n, gs_nzl_g, gs_n_div, gs_af1, gs_af0, gs_ck_ite, gs_ck0, gs_ck1, gs_ck2t, gs_ck2f, gs_ck3, gs_ck4, gs_nar1, gs_nar0, gs_tn, if_true, if_false, not_true_eq_false, not_false_eq_true]
    repeat' split
    all_goals first | rfl | (exfalso; omega)
end MP
