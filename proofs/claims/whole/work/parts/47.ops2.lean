-- more calls of the component
def o_accept (S : gs_S) (g t s am mo pr : Int) : Int × gs_S := if ¬ S.1 6 0 = 1 then (-2, S) else if 10 ≤ S.2.length ∨ 40 ≤ S.1 6 1 then (-3, S) else (S.1 6 1, (gs_thr 10 (gs_cl2 (gs_nw S g t s am mo pr))).2)
def o_pay (S : gs_S) (p q x pr : Int) : Int × gs_S := if ((0 ≤ p ∧ p < 6) ∧ (0 ≤ q ∧ q < 6) ∧ ¬ p = q) ∧ (1 ≤ x ∧ x ≤ 1000000) ∧ (0 ≤ pr ∧ pr < 3) then o_accept S q p 0 0 x pr else (-1, S)
def o_deliver (S : gs_S) (p q s x : Int) : Int × gs_S := if ((0 ≤ p ∧ p < 6) ∧ (0 ≤ q ∧ q < 6) ∧ ¬ p = q) ∧ (1 ≤ s ∧ s < 3) ∧ (1 ≤ x ∧ x ≤ 1000000) then o_accept S p q s x 0 1 else (-1, S)
def o_exchange (S : gs_S) (p q s x m : Int) : Int × gs_S := if ((0 ≤ p ∧ p < 6) ∧ (0 ≤ q ∧ q < 6) ∧ ¬ p = q) ∧ (1 ≤ s ∧ s < 3) ∧ (1 ≤ x ∧ x ≤ 1000000) ∧ (1 ≤ m ∧ m ≤ 1000000) then o_accept S p q s x m 1 else (-1, S)
def o_cancel (S : gs_S) (i : Int) : Int × gs_S := if (0 ≤ i ∧ i < S.1 6 1) ∧ S.1 (10 + i.toNat) 6 = 0 then gs_thr 10 (gs_cl2 (gs_u S (10 + i.toNat) 6 2)) else (-1, S)
def o_prefer (S : gs_S) (i pr : Int) : Int × gs_S := if ((0 ≤ i ∧ i < S.1 6 1) ∧ S.1 (10 + i.toNat) 6 = 0) ∧ (0 ≤ pr ∧ pr < 3) then gs_thr 10 (gs_rp S i.toNat pr) else (-1, S)
def gs_flo (S : gs_S) : Bool := (List.range 54).all fun x => decide (0 ≤ gs_rm S (x : Nat))
theorem gs_flo_iff (S : gs_S) : gs_flo S = true ↔ gs_wg S := by
  unfold gs_flo gs_wg
  rw [List.all_eq_true]
  constructor
  · intro h x x0 x1
    have := of_decide_eq_true (h x.toNat (List.mem_range.mpr (by omega)))
    rw [show ((x.toNat : Nat) : Int) = x by omega] at this
    exact this
  · intro h x hx
    have := List.mem_range.mp hx
    exact decide_eq_true (h (x : Int) (by omega) (by omega))
def gs_tm (S : gs_S) (s pr hc : Int) : gs_S := gs_u (gs_u S 2 s.toNat pr) 3 s.toNat hc
def o_terms (S : gs_S) (s pr hc : Int) : Int × gs_S := if ((1 ≤ s ∧ s < 3) ∧ (0 ≤ pr ∧ pr ≤ 1000) ∧ (0 ≤ hc ∧ hc ≤ 100)) ∧ S.1 6 0 = 0 then (if gs_flo (gs_tm S s pr hc) = true then (1, gs_tm S s pr hc) else (0, S)) else (0, S)
def o_position (S : gs_S) (p a w : Int) : Int := if (0 ≤ p ∧ p < 6) ∧ (0 ≤ a ∧ a < 3) ∧ (0 ≤ w ∧ w < 2) then (if w = 0 then S.1 0 (p * 3 + a).toNat else S.1 1 (p * 3 + a).toNat) else -1
def o_line (S : gs_S) (p : Int) : Int := if 0 ≤ p ∧ p < 6 then gs_ln S p else -1
def o_net (S : gs_S) (p q : Int) : Int := if (0 ≤ p ∧ p < 6) ∧ (0 ≤ q ∧ q < 6) ∧ ¬ p = q then S.1 5 (p * 6 + q).toNat else 0
def o_status (S : gs_S) (i : Int) : Int := if 0 ≤ i ∧ i < S.1 6 1 then S.1 (10 + i.toNat) 6 else -1
def o_waiting (S : gs_S) (k : Int) : Int := if 0 ≤ k ∧ k < S.2.length then (gs_qa S k : Nat) else -1
def o_behind (S : gs_S) (k : Int) : Int := if 0 ≤ k ∧ k < S.2.length then gs_cah S k k.toNat else -1
section OD
variable {d : gs_D} {S : gs_S} {B : Int}
theorem s_G_accept (hC : gs_Cl 0 d S) (hw : gs_wb B S) (hv : gs_wv S) (hB : B + 70000000 ≤ 1000000000000) {g t s am mo pr : Int} (ho : gs_okn g t s am mo pr) : ∃ d', f_G_accept [gs_r 0 0, gs_i (gs_n g), gs_i (gs_n t), gs_i (gs_n s), gs_i (gs_n am), gs_i (gs_n mo), gs_i (gs_n pr)] d = some (some (gs_i (gs_n (o_accept S g t s am mo pr).1)), d') ∧ gs_Cl 0 d' (o_accept S g t s am mo pr).2 ∧ gs_fr d d' := by
  have hd := hC.dy
  have h6 := hw.2.2.1.1
  have hq := hv.q hw
  have hf := s_Q_isFull hC hw hq
  unfold o_accept
  by_cases c : ¬ S.1 6 0 = 1
  · rw [if_pos c]
    refine ⟨d, ?_, hC, gs_fr.rf⟩
    by_cases c2 : S.1 6 0 < 1
    · simp (disch := omega) only [e_G_accept, k_G_accept_0, k_G_accept_11, k_G_accept_14, k_G_accept_24, k_G_accept_27, k_G_accept_30, k_G_accept_49, k_G_accept_55, hd, ↓reduceIte, Int.reduceAdd, Int.reduceSub, Int.reduceMul, Int.reduceToNat, gs_00, gs_ofi, gs_k0_m, gs_k1_m, gs_n8, gs_n16, gs_n_add, gs_n_sub, gs_n_mul, gs_n_neg, gs_m_add, gs_m_sub, gs_m_mul, gs_m_neg, gs_n_l, gs_m_n, gs_n_c, gs_eq_t, gs_eq_f1, gs_eq_f2, gs_lt_t, gs_lt_f, gs_le_t, gs_le_f, gs_cmp_lt, gs_cmp_eq, gs_cmp_gt, gs_ix_n, gs_nz_n, gs_nzl_g, gs_n_div, gs_af1, gs_af0, gs_ck0, gs_ck1, gs_ck2t, gs_ck2f, gs_ck3, gs_ck4, gs_zd_t, gs_zd_f, gs_zt_t, gs_zt_f, gs_nar1, gs_nar0, gs_tn, if_true, if_false, not_true_eq_false, not_false_eq_true]
    · simp (disch := omega) only [e_G_accept, k_G_accept_0, k_G_accept_11, k_G_accept_14, k_G_accept_24, k_G_accept_27, k_G_accept_30, k_G_accept_49, k_G_accept_55, hd, ↓reduceIte, Int.reduceAdd, Int.reduceSub, Int.reduceMul, Int.reduceToNat, gs_00, gs_ofi, gs_k0_m, gs_k1_m, gs_n8, gs_n16, gs_n_add, gs_n_sub, gs_n_mul, gs_n_neg, gs_m_add, gs_m_sub, gs_m_mul, gs_m_neg, gs_n_l, gs_m_n, gs_n_c, gs_eq_t, gs_eq_f1, gs_eq_f2, gs_lt_t, gs_lt_f, gs_le_t, gs_le_f, gs_cmp_lt, gs_cmp_eq, gs_cmp_gt, gs_ix_n, gs_nz_n, gs_nzl_g, gs_n_div, gs_af1, gs_af0, gs_ck0, gs_ck1, gs_ck2t, gs_ck2f, gs_ck3, gs_ck4, gs_zd_t, gs_zd_f, gs_zt_t, gs_zt_f, gs_nar1, gs_nar0, gs_tn, if_true, if_false, not_true_eq_false, not_false_eq_true]
  · rw [if_neg c]
    by_cases c2 : 10 ≤ S.2.length ∨ 40 ≤ S.1 6 1
    · rw [if_pos c2]
      rw [gs_zd_t c2] at hf
      refine ⟨d, ?_, hC, gs_fr.rf⟩
      simp (disch := omega) only [e_G_accept, k_G_accept_0, k_G_accept_11, k_G_accept_14, k_G_accept_24, k_G_accept_27, k_G_accept_30, k_G_accept_49, k_G_accept_55, hd, hf, ↓reduceIte, Int.reduceAdd, Int.reduceSub, Int.reduceMul, Int.reduceToNat, gs_00, gs_ofi, gs_k0_m, gs_k1_m, gs_n8, gs_n16, gs_n_add, gs_n_sub, gs_n_mul, gs_n_neg, gs_m_add, gs_m_sub, gs_m_mul, gs_m_neg, gs_n_l, gs_m_n, gs_n_c, gs_eq_t, gs_eq_f1, gs_eq_f2, gs_lt_t, gs_lt_f, gs_le_t, gs_le_f, gs_cmp_lt, gs_cmp_eq, gs_cmp_gt, gs_ix_n, gs_nz_n, gs_nzl_g, gs_n_div, gs_af1, gs_af0, gs_ck0, gs_ck1, gs_ck2t, gs_ck2f, gs_ck3, gs_ck4, gs_zd_t, gs_zd_f, gs_zt_t, gs_zt_f, gs_nar1, gs_nar0, gs_tn, if_true, if_false, not_true_eq_false, not_false_eq_true]
    · rw [if_neg c2]
      rw [gs_zd_f c2] at hf
      obtain ⟨d1, e1, c1, f1, v1⟩ := s_Q_append hC hw hv ho (by omega) (by omega)
      have w1 : gs_wb B (gs_cl2 (gs_nw S g t s am mo pr)) := gs_wb_nw hw ho (by omega)
      obtain ⟨d2, e2, c3, f2⟩ := s_G_goThrough c1 w1 (v1.q w1) (by omega)
      refine ⟨d2, ?_, c3, f1.tr f2⟩
      simp (disch := omega) only [e_G_accept, k_G_accept_0, k_G_accept_11, k_G_accept_14, k_G_accept_24, k_G_accept_27, k_G_accept_30, k_G_accept_49, k_G_accept_55, hd, hf, e1, e2, ↓reduceIte, Int.reduceAdd, Int.reduceSub, Int.reduceMul, Int.reduceToNat, gs_00, gs_ofi, gs_k0_m, gs_k1_m, gs_n8, gs_n16, gs_n_add, gs_n_sub, gs_n_mul, gs_n_neg, gs_m_add, gs_m_sub, gs_m_mul, gs_m_neg, gs_n_l, gs_m_n, gs_n_c, gs_eq_t, gs_eq_f1, gs_eq_f2, gs_lt_t, gs_lt_f, gs_le_t, gs_le_f, gs_cmp_lt, gs_cmp_eq, gs_cmp_gt, gs_ix_n, gs_nz_n, gs_nzl_g, gs_n_div, gs_af1, gs_af0, gs_ck0, gs_ck1, gs_ck2t, gs_ck2f, gs_ck3, gs_ck4, gs_zd_t, gs_zd_f, gs_zt_t, gs_zt_f, gs_nar1, gs_nar0, gs_tn, if_true, if_false, not_true_eq_false, not_false_eq_true]
theorem s_G_pay (hC : gs_Cl 0 d S) (hw : gs_wb B S) (hv : gs_wv S) (hB : B + 70000000 ≤ 1000000000000) {p q x pr : Int} (p1 : -2147483648 ≤ p) (p2 : p < 2147483648) (q1 : -2147483648 ≤ q) (q2 : q < 2147483648) (x1 : -2147483648 ≤ x) (x2 : x < 2147483648) (r1 : -2147483648 ≤ pr) (r2 : pr < 2147483648) : ∃ d', f_G_pay [gs_r 0 0, gs_i (gs_n p), gs_i (gs_n q), gs_i (gs_n x), gs_i (gs_n pr)] d = some (some (gs_i (gs_n (o_pay S p q x pr).1)), d') ∧ gs_Cl 0 d' (o_pay S p q x pr).2 ∧ gs_fr d d' := by
  unfold o_pay
  by_cases c : ((0 ≤ p ∧ p < 6) ∧ (0 ≤ q ∧ q < 6) ∧ ¬ p = q) ∧ (1 ≤ x ∧ x ≤ 1000000) ∧ (0 ≤ pr ∧ pr < 3)
  · rw [if_pos c]
    obtain ⟨d', e, r⟩ := s_G_accept hC hw hv hB (g := q) (t := p) (s := 0) (am := 0) (mo := x) (pr := pr) (by unfold gs_okn; omega)
    refine ⟨d', ?_, r⟩
    simp (disch := omega) only [e_G_pay, k_G_pay_0, k_G_pay_5, k_G_pay_8, k_G_pay_12, k_G_pay_15, k_G_pay_20, k_G_pay_23, k_G_pay_25, k_G_pay_36, s_G_areTwo, s_G_isAmount, s_G_isPriority, e, ↓reduceIte, Int.reduceAdd, Int.reduceSub, Int.reduceMul, Int.reduceToNat, gs_00, gs_ofi, gs_k0_m, gs_k1_m, gs_n8, gs_n16, gs_n_add, gs_n_sub, gs_n_mul, gs_n_neg, gs_m_add, gs_m_sub, gs_m_mul, gs_m_neg, gs_n_l, gs_m_n, gs_n_c, gs_eq_t, gs_eq_f1, gs_eq_f2, gs_lt_t, gs_lt_f, gs_le_t, gs_le_f, gs_cmp_lt, gs_cmp_eq, gs_cmp_gt, gs_ix_n, gs_nz_n, gs_nzl_g, gs_n_div, gs_af1, gs_af0, gs_ck0, gs_ck1, gs_ck2t, gs_ck2f, gs_ck3, gs_ck4, gs_zd_t, gs_zd_f, gs_zt_t, gs_zt_f, gs_nar1, gs_nar0, gs_tn, if_true, if_false, not_true_eq_false, not_false_eq_true]
  · rw [if_neg c]
    refine ⟨d, ?_, hC, gs_fr.rf⟩
    simp (disch := omega) only [e_G_pay, k_G_pay_0, k_G_pay_5, k_G_pay_8, k_G_pay_12, k_G_pay_15, k_G_pay_20, k_G_pay_23, k_G_pay_25, k_G_pay_36, s_G_areTwo, s_G_isAmount, s_G_isPriority, gs_zd0, gs_00, gs_ofi, gs_k0_m, gs_k1_m, gs_n8, gs_n16, gs_n_add, gs_n_sub, gs_n_mul, gs_n_neg, gs_m_add, gs_m_sub, gs_m_mul, gs_m_neg, gs_n_l, gs_m_n, gs_n_c, gs_eq_iff, gs_lt_iff, gs_le_iff, gs_cge, gs_clt, gs_cle, gs_cgt, gs_ceq, gs_ix_n, gs_nz_n, gs_nzl_g, gs_n_div, gs_af1, gs_af0, gs_ck_ite, gs_ck0, gs_ck1, gs_ck2t, gs_ck2f, gs_ck3, gs_ck4, gs_nar1, gs_nar0, gs_tn, if_true, if_false, not_true_eq_false, not_false_eq_true]
    repeat' split
    all_goals first | rfl | (exfalso; omega)
theorem s_G_deliver (hC : gs_Cl 0 d S) (hw : gs_wb B S) (hv : gs_wv S) (hB : B + 70000000 ≤ 1000000000000) {p q s x : Int} (p1 : -2147483648 ≤ p) (p2 : p < 2147483648) (q1 : -2147483648 ≤ q) (q2 : q < 2147483648) (s1 : -2147483648 ≤ s) (s2 : s < 2147483648) (x1 : -2147483648 ≤ x) (x2 : x < 2147483648) : ∃ d', f_G_deliver [gs_r 0 0, gs_i (gs_n p), gs_i (gs_n q), gs_i (gs_n s), gs_i (gs_n x)] d = some (some (gs_i (gs_n (o_deliver S p q s x).1)), d') ∧ gs_Cl 0 d' (o_deliver S p q s x).2 ∧ gs_fr d d' := by
  unfold o_deliver
  by_cases c : ((0 ≤ p ∧ p < 6) ∧ (0 ≤ q ∧ q < 6) ∧ ¬ p = q) ∧ (1 ≤ s ∧ s < 3) ∧ (1 ≤ x ∧ x ≤ 1000000)
  · rw [if_pos c]
    obtain ⟨d', e, r⟩ := s_G_accept hC hw hv hB (g := p) (t := q) (s := s) (am := x) (mo := 0) (pr := 1) (by unfold gs_okn; omega)
    refine ⟨d', ?_, r⟩
    simp (disch := omega) only [e_G_deliver, k_G_deliver_0, k_G_deliver_5, k_G_deliver_8, k_G_deliver_12, k_G_deliver_15, k_G_deliver_20, k_G_deliver_23, k_G_deliver_25, k_G_deliver_36, s_G_areTwo, s_G_isAmount, s_G_isSecurity, e, ↓reduceIte, Int.reduceAdd, Int.reduceSub, Int.reduceMul, Int.reduceToNat, gs_00, gs_ofi, gs_k0_m, gs_k1_m, gs_n8, gs_n16, gs_n_add, gs_n_sub, gs_n_mul, gs_n_neg, gs_m_add, gs_m_sub, gs_m_mul, gs_m_neg, gs_n_l, gs_m_n, gs_n_c, gs_eq_t, gs_eq_f1, gs_eq_f2, gs_lt_t, gs_lt_f, gs_le_t, gs_le_f, gs_cmp_lt, gs_cmp_eq, gs_cmp_gt, gs_ix_n, gs_nz_n, gs_nzl_g, gs_n_div, gs_af1, gs_af0, gs_ck0, gs_ck1, gs_ck2t, gs_ck2f, gs_ck3, gs_ck4, gs_zd_t, gs_zd_f, gs_zt_t, gs_zt_f, gs_nar1, gs_nar0, gs_tn, if_true, if_false, not_true_eq_false, not_false_eq_true]
  · rw [if_neg c]
    refine ⟨d, ?_, hC, gs_fr.rf⟩
    simp (disch := omega) only [e_G_deliver, k_G_deliver_0, k_G_deliver_5, k_G_deliver_8, k_G_deliver_12, k_G_deliver_15, k_G_deliver_20, k_G_deliver_23, k_G_deliver_25, k_G_deliver_36, s_G_areTwo, s_G_isAmount, s_G_isSecurity, gs_zd0, gs_00, gs_ofi, gs_k0_m, gs_k1_m, gs_n8, gs_n16, gs_n_add, gs_n_sub, gs_n_mul, gs_n_neg, gs_m_add, gs_m_sub, gs_m_mul, gs_m_neg, gs_n_l, gs_m_n, gs_n_c, gs_eq_iff, gs_lt_iff, gs_le_iff, gs_cge, gs_clt, gs_cle, gs_cgt, gs_ceq, gs_ix_n, gs_nz_n, gs_nzl_g, gs_n_div, gs_af1, gs_af0, gs_ck_ite, gs_ck0, gs_ck1, gs_ck2t, gs_ck2f, gs_ck3, gs_ck4, gs_nar1, gs_nar0, gs_tn, if_true, if_false, not_true_eq_false, not_false_eq_true]
    repeat' split
    all_goals first | rfl | (exfalso; omega)
theorem s_G_exchange (hC : gs_Cl 0 d S) (hw : gs_wb B S) (hv : gs_wv S) (hB : B + 70000000 ≤ 1000000000000) {p q s x m : Int} (p1 : -2147483648 ≤ p) (p2 : p < 2147483648) (q1 : -2147483648 ≤ q) (q2 : q < 2147483648) (s1 : -2147483648 ≤ s) (s2 : s < 2147483648) (x1 : -2147483648 ≤ x) (x2 : x < 2147483648) (m1 : -2147483648 ≤ m) (m2 : m < 2147483648) : ∃ d', f_G_exchange [gs_r 0 0, gs_i (gs_n p), gs_i (gs_n q), gs_i (gs_n s), gs_i (gs_n x), gs_i (gs_n m)] d = some (some (gs_i (gs_n (o_exchange S p q s x m).1)), d') ∧ gs_Cl 0 d' (o_exchange S p q s x m).2 ∧ gs_fr d d' := by
  unfold o_exchange
  by_cases c : ((0 ≤ p ∧ p < 6) ∧ (0 ≤ q ∧ q < 6) ∧ ¬ p = q) ∧ (1 ≤ s ∧ s < 3) ∧ (1 ≤ x ∧ x ≤ 1000000) ∧ (1 ≤ m ∧ m ≤ 1000000)
  · rw [if_pos c]
    obtain ⟨d', e, r⟩ := s_G_accept hC hw hv hB (g := p) (t := q) (s := s) (am := x) (mo := m) (pr := 1) (by unfold gs_okn; omega)
    refine ⟨d', ?_, r⟩
    simp (disch := omega) only [e_G_exchange, k_G_exchange_0, k_G_exchange_5, k_G_exchange_8, k_G_exchange_12, k_G_exchange_15, k_G_exchange_20, k_G_exchange_23, k_G_exchange_28, k_G_exchange_31, k_G_exchange_33, k_G_exchange_45, s_G_areTwo, s_G_isAmount, s_G_isSecurity, e, ↓reduceIte, Int.reduceAdd, Int.reduceSub, Int.reduceMul, Int.reduceToNat, gs_00, gs_ofi, gs_k0_m, gs_k1_m, gs_n8, gs_n16, gs_n_add, gs_n_sub, gs_n_mul, gs_n_neg, gs_m_add, gs_m_sub, gs_m_mul, gs_m_neg, gs_n_l, gs_m_n, gs_n_c, gs_eq_t, gs_eq_f1, gs_eq_f2, gs_lt_t, gs_lt_f, gs_le_t, gs_le_f, gs_cmp_lt, gs_cmp_eq, gs_cmp_gt, gs_ix_n, gs_nz_n, gs_nzl_g, gs_n_div, gs_af1, gs_af0, gs_ck0, gs_ck1, gs_ck2t, gs_ck2f, gs_ck3, gs_ck4, gs_zd_t, gs_zd_f, gs_zt_t, gs_zt_f, gs_nar1, gs_nar0, gs_tn, if_true, if_false, not_true_eq_false, not_false_eq_true]
  · rw [if_neg c]
    refine ⟨d, ?_, hC, gs_fr.rf⟩
    simp (disch := omega) only [e_G_exchange, k_G_exchange_0, k_G_exchange_5, k_G_exchange_8, k_G_exchange_12, k_G_exchange_15, k_G_exchange_20, k_G_exchange_23, k_G_exchange_28, k_G_exchange_31, k_G_exchange_33, k_G_exchange_45, s_G_areTwo, s_G_isAmount, s_G_isSecurity, gs_zd0, gs_00, gs_ofi, gs_k0_m, gs_k1_m, gs_n8, gs_n16, gs_n_add, gs_n_sub, gs_n_mul, gs_n_neg, gs_m_add, gs_m_sub, gs_m_mul, gs_m_neg, gs_n_l, gs_m_n, gs_n_c, gs_eq_iff, gs_lt_iff, gs_le_iff, gs_cge, gs_clt, gs_cle, gs_cgt, gs_ceq, gs_ix_n, gs_nz_n, gs_nzl_g, gs_n_div, gs_af1, gs_af0, gs_ck_ite, gs_ck0, gs_ck1, gs_ck2t, gs_ck2f, gs_ck3, gs_ck4, gs_nar1, gs_nar0, gs_tn, if_true, if_false, not_true_eq_false, not_false_eq_true]
    repeat' split
    all_goals first | rfl | (exfalso; omega)
/-- the place of one that waits -/
theorem gs_place (hw : gs_wb B S) (hv : gs_wv S) {i k : Int} (h : (k = -1 ∧ ∀ j : Int, 0 ≤ j → j < S.2.length → ¬ (gs_qa S j : Int) = i) ∨ (0 ≤ k ∧ k < S.2.length ∧ (gs_qa S k : Int) = i)) : (k = -1 ∧ ¬ ((0 ≤ i ∧ i < S.1 6 1) ∧ S.1 (10 + i.toNat) 6 = 0)) ∨ ((0 ≤ k ∧ k < S.2.length) ∧ ((0 ≤ i ∧ i < S.1 6 1) ∧ S.1 (10 + i.toNat) 6 = 0) ∧ gs_qa S k = i.toNat) := by
  rcases h with ⟨h1, h2⟩ | ⟨h1, h2, h3⟩
  · left
    refine ⟨h1, fun z => ?_⟩
    have hm := (hv.mem hw i.toNat).mpr ⟨by omega, z.2⟩
    obtain ⟨j, hj, e⟩ := List.getElem_of_mem hm
    refine h2 (j : Int) (by omega) (by omega) ?_
    unfold gs_qa
    rw [gs_tn, gs_getD hj, e]
    omega
  · right
    have hk : k.toNat < S.2.length := by omega
    have hm : gs_qa S k ∈ S.2 := by
      unfold gs_qa
      rw [gs_getD hk]
      exact List.getElem_mem hk
    have := (hv.mem hw _).mp hm
    have e : gs_qa S k = i.toNat := by omega
    rw [e] at this
    exact ⟨⟨h1, h2⟩, ⟨⟨by omega, by omega⟩, this.2⟩, e⟩
theorem s_G_cancel (hC : gs_Cl 0 d S) (hw : gs_wb B S) (hv : gs_wv S) (hB : B + 70000000 ≤ 1000000000000) {i : Int} (i1 : -2147483648 ≤ i) (i2 : i < 2147483648) : ∃ d', f_G_cancel [gs_r 0 0, gs_i (gs_n i)] d = some (some (gs_i (gs_n (o_cancel S i).1)), d') ∧ gs_Cl 0 d' (o_cancel S i).2 ∧ gs_fr d d' := by
  have hq := hv.q hw
  have hl := hv.2
  obtain ⟨k, hk, e⟩ := s_Q_placeOf hC hw hq i1 i2
  unfold o_cancel
  rcases gs_place hw hv hk with ⟨z1, z2⟩ | ⟨z1, z2, z3⟩
  · rw [if_neg z2]
    subst z1
    refine ⟨d, ?_, hC, gs_fr.rf⟩
    simp (disch := omega) only [e_G_cancel, k_G_cancel_0, k_G_cancel_11, k_G_cancel_17, k_G_cancel_19, k_G_cancel_31, k_G_cancel_35, e, ↓reduceIte, Int.reduceAdd, Int.reduceSub, Int.reduceMul, Int.reduceToNat, gs_00, gs_ofi, gs_k0_m, gs_k1_m, gs_n8, gs_n16, gs_n_add, gs_n_sub, gs_n_mul, gs_n_neg, gs_m_add, gs_m_sub, gs_m_mul, gs_m_neg, gs_n_l, gs_m_n, gs_n_c, gs_eq_t, gs_eq_f1, gs_eq_f2, gs_lt_t, gs_lt_f, gs_le_t, gs_le_f, gs_cmp_lt, gs_cmp_eq, gs_cmp_gt, gs_ix_n, gs_nz_n, gs_nzl_g, gs_n_div, gs_af1, gs_af0, gs_ck0, gs_ck1, gs_ck2t, gs_ck2f, gs_ck3, gs_ck4, gs_zd_t, gs_zd_f, gs_zt_t, gs_zt_f, gs_nar1, gs_nar0, gs_tn, if_true, if_false, not_true_eq_false, not_false_eq_true]
  · rw [if_pos z2]
    obtain ⟨d1, e1, c1, f1, -⟩ := s_Q_leave hC hw hq (k := k) (st := 2) z1.1 z1.2
    have v1 := hv.lv hw (k := k.toNat) (by omega) (st := 2) (by omega) (by omega)
    have es : gs_lv S k.toNat 2 = gs_cl2 (gs_u S (10 + i.toNat) 6 2) := by
      have e1 : (gs_lv S k.toNat 2).1 = (gs_u S (10 + i.toNat) 6 2).1 := by
        show (gs_u S (10 + gs_qa S k) 6 2).1 = _
        rw [z3]
      have e2 := v1.1
      refine Prod.ext e1 ?_
      rw [e2]
      show gs_wl _ = gs_wl _
      unfold gs_wl gs_wp
      rw [e1]
    rw [es] at c1 v1
    have w1 : gs_wb B (gs_cl2 (gs_u S (10 + i.toNat) 6 2)) := gs_wb_st hw i.toNat (by omega) (by omega)
    obtain ⟨d2, e2, c3, f2⟩ := s_G_goThrough c1 w1 (v1.q w1) (by omega)
    refine ⟨d2, ?_, c3, f1.tr f2⟩
    simp (disch := omega) only [e_G_cancel, k_G_cancel_0, k_G_cancel_11, k_G_cancel_17, k_G_cancel_19, k_G_cancel_31, k_G_cancel_35, e, e1, e2, ↓reduceIte, Int.reduceAdd, Int.reduceSub, Int.reduceMul, Int.reduceToNat, gs_00, gs_ofi, gs_k0_m, gs_k1_m, gs_n8, gs_n16, gs_n_add, gs_n_sub, gs_n_mul, gs_n_neg, gs_m_add, gs_m_sub, gs_m_mul, gs_m_neg, gs_n_l, gs_m_n, gs_n_c, gs_eq_t, gs_eq_f1, gs_eq_f2, gs_lt_t, gs_lt_f, gs_le_t, gs_le_f, gs_cmp_lt, gs_cmp_eq, gs_cmp_gt, gs_ix_n, gs_nz_n, gs_nzl_g, gs_n_div, gs_af1, gs_af0, gs_ck0, gs_ck1, gs_ck2t, gs_ck2f, gs_ck3, gs_ck4, gs_zd_t, gs_zd_f, gs_zt_t, gs_zt_f, gs_nar1, gs_nar0, gs_tn, if_true, if_false, not_true_eq_false, not_false_eq_true]
theorem s_G_prefer (hC : gs_Cl 0 d S) (hw : gs_wb B S) (hv : gs_wv S) (hB : B + 70000000 ≤ 1000000000000) {i pr : Int} (i1 : -2147483648 ≤ i) (i2 : i < 2147483648) (r1 : -2147483648 ≤ pr) (r2 : pr < 2147483648) : ∃ d', f_G_prefer [gs_r 0 0, gs_i (gs_n i), gs_i (gs_n pr)] d = some (some (gs_i (gs_n (o_prefer S i pr).1)), d') ∧ gs_Cl 0 d' (o_prefer S i pr).2 ∧ gs_fr d d' := by
  have hq := hv.q hw
  have hl := hv.2
  obtain ⟨k, hk, e⟩ := s_Q_placeOf hC hw hq i1 i2
  unfold o_prefer
  rcases gs_place hw hv hk with ⟨z1, z2⟩ | ⟨z1, z2, z3⟩
  · rw [if_neg (fun z => z2 z.1)]
    subst z1
    refine ⟨d, ?_, hC, gs_fr.rf⟩
    simp (disch := omega) only [e_G_prefer, k_G_prefer_0, k_G_prefer_11, k_G_prefer_17, k_G_prefer_21, k_G_prefer_24, k_G_prefer_26, k_G_prefer_38, k_G_prefer_42, e, ↓reduceIte, Int.reduceAdd, Int.reduceSub, Int.reduceMul, Int.reduceToNat, gs_00, gs_ofi, gs_k0_m, gs_k1_m, gs_n8, gs_n16, gs_n_add, gs_n_sub, gs_n_mul, gs_n_neg, gs_m_add, gs_m_sub, gs_m_mul, gs_m_neg, gs_n_l, gs_m_n, gs_n_c, gs_eq_t, gs_eq_f1, gs_eq_f2, gs_lt_t, gs_lt_f, gs_le_t, gs_le_f, gs_cmp_lt, gs_cmp_eq, gs_cmp_gt, gs_ix_n, gs_nz_n, gs_nzl_g, gs_n_div, gs_af1, gs_af0, gs_ck0, gs_ck1, gs_ck2t, gs_ck2f, gs_ck3, gs_ck4, gs_zd_t, gs_zd_f, gs_zt_t, gs_zt_f, gs_nar1, gs_nar0, gs_tn, if_true, if_false, not_true_eq_false, not_false_eq_true]
  · by_cases c : 0 ≤ pr ∧ pr < 3
    · rw [if_pos ⟨z2, c⟩]
      obtain ⟨d1, e1, c1, f1, v1⟩ := s_Q_reorder hC hw hv (k := k) (pr := pr) z1.1 z1.2 c.1 c.2
      rw [z3] at c1 v1
      have w1 : gs_wb B (gs_rp S i.toNat pr) := gs_wb_pr hw i.toNat c.1 c.2
      obtain ⟨d2, e2, c3, f2⟩ := s_G_goThrough c1 w1 (v1.q w1) (by omega)
      refine ⟨d2, ?_, c3, f1.tr f2⟩
      simp (disch := omega) only [e_G_prefer, k_G_prefer_0, k_G_prefer_11, k_G_prefer_17, k_G_prefer_21, k_G_prefer_24, k_G_prefer_26, k_G_prefer_38, k_G_prefer_42, s_G_isPriority, e, e1, e2, ↓reduceIte, Int.reduceAdd, Int.reduceSub, Int.reduceMul, Int.reduceToNat, gs_00, gs_ofi, gs_k0_m, gs_k1_m, gs_n8, gs_n16, gs_n_add, gs_n_sub, gs_n_mul, gs_n_neg, gs_m_add, gs_m_sub, gs_m_mul, gs_m_neg, gs_n_l, gs_m_n, gs_n_c, gs_eq_t, gs_eq_f1, gs_eq_f2, gs_lt_t, gs_lt_f, gs_le_t, gs_le_f, gs_cmp_lt, gs_cmp_eq, gs_cmp_gt, gs_ix_n, gs_nz_n, gs_nzl_g, gs_n_div, gs_af1, gs_af0, gs_ck0, gs_ck1, gs_ck2t, gs_ck2f, gs_ck3, gs_ck4, gs_zd_t, gs_zd_f, gs_zt_t, gs_zt_f, gs_nar1, gs_nar0, gs_tn, if_true, if_false, not_true_eq_false, not_false_eq_true]
    · rw [if_neg (fun z => c z.2)]
      refine ⟨d, ?_, hC, gs_fr.rf⟩
      simp (disch := omega) only [e_G_prefer, k_G_prefer_0, k_G_prefer_11, k_G_prefer_17, k_G_prefer_21, k_G_prefer_24, k_G_prefer_26, k_G_prefer_38, k_G_prefer_42, s_G_isPriority, e, ↓reduceIte, Int.reduceAdd, Int.reduceSub, Int.reduceMul, Int.reduceToNat, gs_00, gs_ofi, gs_k0_m, gs_k1_m, gs_n8, gs_n16, gs_n_add, gs_n_sub, gs_n_mul, gs_n_neg, gs_m_add, gs_m_sub, gs_m_mul, gs_m_neg, gs_n_l, gs_m_n, gs_n_c, gs_eq_t, gs_eq_f1, gs_eq_f2, gs_lt_t, gs_lt_f, gs_le_t, gs_le_f, gs_cmp_lt, gs_cmp_eq, gs_cmp_gt, gs_ix_n, gs_nz_n, gs_nzl_g, gs_n_div, gs_af1, gs_af0, gs_ck0, gs_ck1, gs_ck2t, gs_ck2f, gs_ck3, gs_ck4, gs_zd_t, gs_zd_f, gs_zt_t, gs_zt_f, gs_nar1, gs_nar0, gs_tn, if_true, if_false, not_true_eq_false, not_false_eq_true]
theorem gs_wb_tm (hw : gs_wb B S) {s pr hc : Int} (h1 : 0 ≤ pr) (h2 : pr ≤ 1000) (h3 : 0 ≤ hc) (h4 : hc ≤ 100) : gs_wb B (gs_tm S s pr hc) := by
  have o : ∀ a c, a ≠ 2 → a ≠ 3 → (gs_tm S s pr hc).1 a c = S.1 a c := fun a c h h' => by
    unfold gs_tm
    rw [gs_u_o _ _ _ _ c h', gs_u_o _ _ _ _ c h]
  refine ⟨⟨fun k hk => ?_, fun k hk => ?_, fun k hk => ?_⟩, ⟨fun k hk => ?_, fun k hk => ?_, fun k hk => ?_⟩, ⟨?_, ?_, hw.2.2.1.2.2⟩, fun k hk => ?_⟩
  · rw [o 0 k (by omega) (by omega)]; exact hw.1.1 k hk
  · rw [o 1 k (by omega) (by omega)]; exact hw.1.2.1 k hk
  · rw [o 5 k (by omega) (by omega)]; exact hw.1.2.2 k hk
  · unfold gs_tm
    rw [gs_u_o _ _ _ _ k (by decide)]
    by_cases z : k = s.toNat
    · rw [z, gs_u_s]; exact ⟨h1, h2⟩
    · rw [gs_u_j _ _ (by omega)]; exact hw.2.1.1 k hk
  · unfold gs_tm
    by_cases z : k = s.toNat
    · rw [z, gs_u_s]; exact ⟨h3, h4⟩
    · rw [gs_u_j _ _ (by omega), gs_u_o _ _ _ _ k (by decide)]; exact hw.2.1.2.1 k hk
  · rw [o 4 k (by omega) (by omega)]; exact hw.2.1.2.2 k hk
  · rw [o 6 0 (by omega) (by omega)]; exact hw.2.2.1.1
  · rw [o 6 1 (by omega) (by omega)]; exact hw.2.2.1.2.1
  · rw [o 6 1 (by omega) (by omega)] at hk
    exact gs_iok_cg (hw.2.2.2 k hk) fun c _ => o _ c (by omega) (by omega)
theorem s_A_reprice (hC : gs_Cl 0 d S) (hw : gs_wb B S) {s pr hc : Int} (s1 : 1 ≤ s) (s2 : s < 3) (h1 : 0 ≤ pr) (h2 : pr ≤ 1000) (h3 : 0 ≤ hc) (h4 : hc ≤ 100) : ∃ d', f_A_reprice [gs_r 3 0, gs_i (gs_n s), gs_i (gs_n pr), gs_i (gs_n hc)] d = some (some (gs_i (gs_n (gs_z (gs_flo (gs_tm S s pr hc))))), d') ∧ gs_Cl 0 d' (if gs_flo (gs_tm S s pr hc) = true then gs_tm S s pr hc else S) ∧ gs_fr d d' := by
  have c1 := hC.wI (t := 7) (f := 2) (by omega) s.toNat pr
  have c2 := c1.wI (t := 8) (f := 3) (by omega) s.toNat hc
  have hp := hC.pr s.toNat (by omega)
  have hh := hC.hc s.toNat (by omega)
  obtain ⟨x, hx, e⟩ := s_A_firstBelowFloor c2 (gs_wb_tm hw h1 h2 h3 h4)
  rcases hx with ⟨z1, z2⟩ | ⟨z1, z2, z3⟩
  · subst z1
    have hf : gs_flo (gs_tm S s pr hc) = true := (gs_flo_iff _).mpr z2
    rw [hf, if_pos rfl]
    refine ⟨_, ?_, c2, (gs_fr.I rfl).tr (gs_fr.I rfl)⟩
    simp (disch := omega) only [e_A_reprice, k_A_reprice_0, k_A_reprice_6, k_A_reprice_14, k_A_reprice_23, k_A_reprice_30, k_A_reprice_34, k_A_reprice_38, k_A_reprice_40, k_A_reprice_48, k_A_reprice_56, hp, hh, e, ↓reduceIte, Int.reduceAdd, Int.reduceSub, Int.reduceMul, Int.reduceToNat, gs_00, gs_ofi, gs_k0_m, gs_k1_m, gs_n8, gs_n16, gs_n_add, gs_n_sub, gs_n_mul, gs_n_neg, gs_m_add, gs_m_sub, gs_m_mul, gs_m_neg, gs_n_l, gs_m_n, gs_n_c, gs_eq_t, gs_eq_f1, gs_eq_f2, gs_lt_t, gs_lt_f, gs_le_t, gs_le_f, gs_cmp_lt, gs_cmp_eq, gs_cmp_gt, gs_ix_n, gs_nz_n, gs_nzl_g, gs_n_div, gs_af1, gs_af0, gs_ck0, gs_ck1, gs_ck2t, gs_ck2f, gs_ck3, gs_ck4, gs_zd_t, gs_zd_f, gs_zt_t, gs_zt_f, gs_nar1, gs_nar0, gs_tn, if_true, if_false, not_true_eq_false, not_false_eq_true]
  · have hf : gs_flo (gs_tm S s pr hc) = false := by
      cases hb : gs_flo (gs_tm S s pr hc)
      · rfl
      · have := (gs_flo_iff _).mp hb x z1 z2
        have z3 : gs_rm (gs_tm S s pr hc) x < 0 := z3
        omega
    rw [hf, if_neg (by decide)]
    have c3 := c2.wI (t := 7) (f := 2) (by omega) s.toNat (S.1 2 s.toNat)
    have c4 := c3.wI (t := 8) (f := 3) (by omega) s.toNat (S.1 3 s.toNat)
    have hh2 : (gs_wI d 7 0 s.toNat (gs_n pr)).1 8 0 s.toNat = gs_n (S.1 3 s.toNat) := by rw [gs_wI_o (by omega)]; exact hh
    refine ⟨_, ?_, c4.cg (fun f j => ?_) rfl, (((gs_fr.I rfl).tr (gs_fr.I rfl)).tr (gs_fr.I rfl)).tr (gs_fr.I rfl)⟩
    · simp (disch := omega) only [e_A_reprice, k_A_reprice_0, k_A_reprice_6, k_A_reprice_14, k_A_reprice_23, k_A_reprice_30, k_A_reprice_34, k_A_reprice_38, k_A_reprice_40, k_A_reprice_48, k_A_reprice_56, hp, hh, hh2, e, ↓reduceIte, Int.reduceAdd, Int.reduceSub, Int.reduceMul, Int.reduceToNat, gs_00, gs_ofi, gs_k0_m, gs_k1_m, gs_n8, gs_n16, gs_n_add, gs_n_sub, gs_n_mul, gs_n_neg, gs_m_add, gs_m_sub, gs_m_mul, gs_m_neg, gs_n_l, gs_m_n, gs_n_c, gs_eq_t, gs_eq_f1, gs_eq_f2, gs_lt_t, gs_lt_f, gs_le_t, gs_le_f, gs_cmp_lt, gs_cmp_eq, gs_cmp_gt, gs_ix_n, gs_nz_n, gs_nzl_g, gs_n_div, gs_af1, gs_af0, gs_ck0, gs_ck1, gs_ck2t, gs_ck2f, gs_ck3, gs_ck4, gs_zd_t, gs_zd_f, gs_zt_t, gs_zt_f, gs_nar1, gs_nar0, gs_tn, if_true, if_false, not_true_eq_false, not_false_eq_true]
    · by_cases y3 : f = 3 ∧ j = s.toNat
      · rw [y3.1, y3.2, gs_u_s]
      · rw [gs_u_j _ _ y3]
        by_cases y2 : f = 2 ∧ j = s.toNat
        · rw [y2.1, y2.2, gs_u_s]
        · rw [gs_u_j _ _ y2, gs_u_j _ _ y3, gs_u_j _ _ y2]
theorem s_G_terms (hC : gs_Cl 0 d S) (hw : gs_wb B S) {s pr hc : Int} (s1 : -2147483648 ≤ s) (s2 : s < 2147483648) (r1 : -2147483648 ≤ pr) (r2 : pr < 2147483648) (h1 : -2147483648 ≤ hc) (h2 : hc < 2147483648) : ∃ d', f_G_terms [gs_r 0 0, gs_i (gs_n s), gs_i (gs_n pr), gs_i (gs_n hc)] d = some (some (gs_i (gs_n (o_terms S s pr hc).1)), d') ∧ gs_Cl 0 d' (o_terms S s pr hc).2 ∧ gs_fr d d' := by
  have hd := hC.dy
  have h6 := hw.2.2.1.1
  unfold o_terms
  by_cases c : ((1 ≤ s ∧ s < 3) ∧ (0 ≤ pr ∧ pr ≤ 1000) ∧ (0 ≤ hc ∧ hc ≤ 100)) ∧ S.1 6 0 = 0
  · rw [if_pos c]
    obtain ⟨d', e, c1, f1⟩ := s_A_reprice hC hw (s := s) (pr := pr) (hc := hc) (by omega) (by omega) (by omega) (by omega) (by omega) (by omega)
    cases hf : gs_flo (gs_tm S s pr hc)
    · rw [hf] at e c1
      rw [if_neg (by decide)] at c1 ⊢
      refine ⟨d', ?_, c1, f1⟩
      simp (disch := omega) only [e_G_terms, k_G_terms_0, k_G_terms_4, k_G_terms_7, k_G_terms_11, k_G_terms_18, k_G_terms_20, k_G_terms_24, k_G_terms_30, k_G_terms_40, k_G_terms_42, k_G_terms_55, s_G_isSecurity, hd, e, ↓reduceIte, Int.reduceAdd, Int.reduceSub, Int.reduceMul, Int.reduceToNat, gs_00, gs_ofi, gs_k0_m, gs_k1_m, gs_n8, gs_n16, gs_n_add, gs_n_sub, gs_n_mul, gs_n_neg, gs_m_add, gs_m_sub, gs_m_mul, gs_m_neg, gs_n_l, gs_m_n, gs_n_c, gs_eq_t, gs_eq_f1, gs_eq_f2, gs_lt_t, gs_lt_f, gs_le_t, gs_le_f, gs_cmp_lt, gs_cmp_eq, gs_cmp_gt, gs_ix_n, gs_nz_n, gs_nzl_g, gs_n_div, gs_af1, gs_af0, gs_ck0, gs_ck1, gs_ck2t, gs_ck2f, gs_ck3, gs_ck4, gs_zd_t, gs_zd_f, gs_zt_t, gs_zt_f, gs_nar1, gs_nar0, gs_tn, if_true, if_false, not_true_eq_false, not_false_eq_true]
    · rw [hf] at e c1
      rw [if_pos rfl] at c1 ⊢
      refine ⟨d', ?_, c1, f1⟩
      simp (disch := omega) only [e_G_terms, k_G_terms_0, k_G_terms_4, k_G_terms_7, k_G_terms_11, k_G_terms_18, k_G_terms_20, k_G_terms_24, k_G_terms_30, k_G_terms_40, k_G_terms_42, k_G_terms_55, s_G_isSecurity, hd, e, ↓reduceIte, Int.reduceAdd, Int.reduceSub, Int.reduceMul, Int.reduceToNat, gs_00, gs_ofi, gs_k0_m, gs_k1_m, gs_n8, gs_n16, gs_n_add, gs_n_sub, gs_n_mul, gs_n_neg, gs_m_add, gs_m_sub, gs_m_mul, gs_m_neg, gs_n_l, gs_m_n, gs_n_c, gs_eq_t, gs_eq_f1, gs_eq_f2, gs_lt_t, gs_lt_f, gs_le_t, gs_le_f, gs_cmp_lt, gs_cmp_eq, gs_cmp_gt, gs_ix_n, gs_nz_n, gs_nzl_g, gs_n_div, gs_af1, gs_af0, gs_ck0, gs_ck1, gs_ck2t, gs_ck2f, gs_ck3, gs_ck4, gs_zd_t, gs_zd_f, gs_zt_t, gs_zt_f, gs_nar1, gs_nar0, gs_tn, if_true, if_false, not_true_eq_false, not_false_eq_true]
  · rw [if_neg c]
    refine ⟨d, ?_, hC, gs_fr.rf⟩
    simp (disch := omega) only [e_G_terms, k_G_terms_0, k_G_terms_4, k_G_terms_7, k_G_terms_11, k_G_terms_18, k_G_terms_20, k_G_terms_24, k_G_terms_30, k_G_terms_40, k_G_terms_42, k_G_terms_55, s_G_isSecurity, hd, gs_zd0, gs_00, gs_ofi, gs_k0_m, gs_k1_m, gs_n8, gs_n16, gs_n_add, gs_n_sub, gs_n_mul, gs_n_neg, gs_m_add, gs_m_sub, gs_m_mul, gs_m_neg, gs_n_l, gs_m_n, gs_n_c, gs_eq_iff, gs_lt_iff, gs_le_iff, gs_cge, gs_clt, gs_cle, gs_cgt, gs_ceq, gs_ix_n, gs_nz_n, gs_nzl_g, gs_n_div, gs_af1, gs_af0, gs_ck_ite, gs_ck0, gs_ck1, gs_ck2t, gs_ck2f, gs_ck3, gs_ck4, gs_nar1, gs_nar0, gs_tn, if_true, if_false, not_true_eq_false, not_false_eq_true]
    repeat' split
    all_goals first | rfl | (exfalso; omega)
-- questions
theorem s_G_position (hC : gs_Cl 0 d S) {p a w : Int} (p1 : -2147483648 ≤ p) (p2 : p < 2147483648) (a1 : -2147483648 ≤ a) (a2 : a < 2147483648) (w1 : -2147483648 ≤ w) (w2 : w < 2147483648) : f_G_position [gs_r 0 0, gs_i (gs_n p), gs_i (gs_n a), gs_i (gs_n w)] d = some (some (gs_l (gs_m (o_position S p a w))), d) := by
  unfold o_position
  by_cases c : (0 ≤ p ∧ p < 6) ∧ (0 ≤ a ∧ a < 3) ∧ (0 ≤ w ∧ w < 2)
  · rw [if_pos c]
    have hh := hC.h
    have hp := hC.p
    by_cases c2 : w = 0
    · rw [if_pos c2]
      simp (disch := omega) only [e_G_position, k_G_position_0, k_G_position_4, k_G_position_7, k_G_position_11, k_G_position_14, k_G_position_18, k_G_position_23, k_G_position_27, k_G_position_31, k_G_position_44, k_G_position_63a, k_G_position_63b, k_G_position_64a, k_G_position_64b, s_G_isParticipant, s_G_isAsset, s_G_holding, hh, ↓reduceIte, Int.reduceAdd, Int.reduceSub, Int.reduceMul, Int.reduceToNat, gs_00, gs_ofi, gs_k0_m, gs_k1_m, gs_n8, gs_n16, gs_n_add, gs_n_sub, gs_n_mul, gs_n_neg, gs_m_add, gs_m_sub, gs_m_mul, gs_m_neg, gs_n_l, gs_m_n, gs_n_c, gs_eq_t, gs_eq_f1, gs_eq_f2, gs_lt_t, gs_lt_f, gs_le_t, gs_le_f, gs_cmp_lt, gs_cmp_eq, gs_cmp_gt, gs_ix_n, gs_nz_n, gs_nzl_g, gs_n_div, gs_af1, gs_af0, gs_ck0, gs_ck1, gs_ck2t, gs_ck2f, gs_ck3, gs_ck4, gs_zd_t, gs_zd_f, gs_zt_t, gs_zt_f, gs_nar1, gs_nar0, gs_tn, if_true, if_false, not_true_eq_false, not_false_eq_true]
    · rw [if_neg c2]
      simp (disch := omega) only [e_G_position, k_G_position_0, k_G_position_4, k_G_position_7, k_G_position_11, k_G_position_14, k_G_position_18, k_G_position_23, k_G_position_27, k_G_position_31, k_G_position_44, k_G_position_63a, k_G_position_63b, k_G_position_64a, k_G_position_64b, s_G_isParticipant, s_G_isAsset, s_G_holding, hp, ↓reduceIte, Int.reduceAdd, Int.reduceSub, Int.reduceMul, Int.reduceToNat, gs_00, gs_ofi, gs_k0_m, gs_k1_m, gs_n8, gs_n16, gs_n_add, gs_n_sub, gs_n_mul, gs_n_neg, gs_m_add, gs_m_sub, gs_m_mul, gs_m_neg, gs_n_l, gs_m_n, gs_n_c, gs_eq_t, gs_eq_f1, gs_eq_f2, gs_lt_t, gs_lt_f, gs_le_t, gs_le_f, gs_cmp_lt, gs_cmp_eq, gs_cmp_gt, gs_ix_n, gs_nz_n, gs_nzl_g, gs_n_div, gs_af1, gs_af0, gs_ck0, gs_ck1, gs_ck2t, gs_ck2f, gs_ck3, gs_ck4, gs_zd_t, gs_zd_f, gs_zt_t, gs_zt_f, gs_nar1, gs_nar0, gs_tn, if_true, if_false, not_true_eq_false, not_false_eq_true]
  · rw [if_neg c]
    simp (disch := omega) only [e_G_position, k_G_position_0, k_G_position_4, k_G_position_7, k_G_position_11, k_G_position_14, k_G_position_18, k_G_position_23, k_G_position_27, k_G_position_31, k_G_position_44, k_G_position_63a, k_G_position_63b, k_G_position_64a, k_G_position_64b, s_G_isParticipant, s_G_isAsset, s_G_holding, gs_zd0, gs_00, gs_ofi, gs_k0_m, gs_k1_m, gs_n8, gs_n16, gs_n_add, gs_n_sub, gs_n_mul, gs_n_neg, gs_m_add, gs_m_sub, gs_m_mul, gs_m_neg, gs_n_l, gs_m_n, gs_n_c, gs_eq_iff, gs_lt_iff, gs_le_iff, gs_cge, gs_clt, gs_cle, gs_cgt, gs_ceq, gs_ix_n, gs_nz_n, gs_nzl_g, gs_n_div, gs_af1, gs_af0, gs_ck_ite, gs_ck0, gs_ck1, gs_ck2t, gs_ck2f, gs_ck3, gs_ck4, gs_nar1, gs_nar0, gs_tn, if_true, if_false, not_true_eq_false, not_false_eq_true]
    repeat' split
    all_goals first | rfl | (exfalso; omega)
theorem s_G_line (hC : gs_Cl 0 d S) (hw : gs_wb B S) {p : Int} (p1 : -2147483648 ≤ p) (p2 : p < 2147483648) : f_G_line [gs_r 0 0, gs_i (gs_n p)] d = some (some (gs_l (gs_m (o_line S p))), d) := by
  unfold o_line
  by_cases c : 0 ≤ p ∧ p < 6
  · rw [if_pos c]
    have e := s_A_creditOf hC hw c.1 c.2
    simp (disch := omega) only [e_G_line, k_G_line_0, k_G_line_4, k_G_line_7, k_G_line_18, k_G_line_21, s_G_isParticipant, e, ↓reduceIte, Int.reduceAdd, Int.reduceSub, Int.reduceMul, Int.reduceToNat, gs_00, gs_ofi, gs_k0_m, gs_k1_m, gs_n8, gs_n16, gs_n_add, gs_n_sub, gs_n_mul, gs_n_neg, gs_m_add, gs_m_sub, gs_m_mul, gs_m_neg, gs_n_l, gs_m_n, gs_n_c, gs_eq_t, gs_eq_f1, gs_eq_f2, gs_lt_t, gs_lt_f, gs_le_t, gs_le_f, gs_cmp_lt, gs_cmp_eq, gs_cmp_gt, gs_ix_n, gs_nz_n, gs_nzl_g, gs_n_div, gs_af1, gs_af0, gs_ck0, gs_ck1, gs_ck2t, gs_ck2f, gs_ck3, gs_ck4, gs_zd_t, gs_zd_f, gs_zt_t, gs_zt_f, gs_nar1, gs_nar0, gs_tn, if_true, if_false, not_true_eq_false, not_false_eq_true]
  · rw [if_neg c]
    simp (disch := omega) only [e_G_line, k_G_line_0, k_G_line_4, k_G_line_7, k_G_line_18, k_G_line_21, s_G_isParticipant, ↓reduceIte, Int.reduceAdd, Int.reduceSub, Int.reduceMul, Int.reduceToNat, gs_00, gs_ofi, gs_k0_m, gs_k1_m, gs_n8, gs_n16, gs_n_add, gs_n_sub, gs_n_mul, gs_n_neg, gs_m_add, gs_m_sub, gs_m_mul, gs_m_neg, gs_n_l, gs_m_n, gs_n_c, gs_eq_t, gs_eq_f1, gs_eq_f2, gs_lt_t, gs_lt_f, gs_le_t, gs_le_f, gs_cmp_lt, gs_cmp_eq, gs_cmp_gt, gs_ix_n, gs_nz_n, gs_nzl_g, gs_n_div, gs_af1, gs_af0, gs_ck0, gs_ck1, gs_ck2t, gs_ck2f, gs_ck3, gs_ck4, gs_zd_t, gs_zd_f, gs_zt_t, gs_zt_f, gs_nar1, gs_nar0, gs_tn, if_true, if_false, not_true_eq_false, not_false_eq_true]
theorem s_G_net (hC : gs_Cl 0 d S) {p q : Int} (p1 : -2147483648 ≤ p) (p2 : p < 2147483648) (q1 : -2147483648 ≤ q) (q2 : q < 2147483648) : f_G_net [gs_r 0 0, gs_i (gs_n p), gs_i (gs_n q)] d = some (some (gs_l (gs_m (o_net S p q))), d) := by
  unfold o_net
  by_cases c : (0 ≤ p ∧ p < 6) ∧ (0 ≤ q ∧ q < 6) ∧ ¬ p = q
  · rw [if_pos c]
    have hn := hC.nt
    simp (disch := omega) only [e_G_net, k_G_net_0, k_G_net_5, k_G_net_8, k_G_net_23, k_G_net_24, k_G_net_27, s_G_areTwo, s_G_pair, hn, ↓reduceIte, Int.reduceAdd, Int.reduceSub, Int.reduceMul, Int.reduceToNat, gs_00, gs_ofi, gs_k0_m, gs_k1_m, gs_n8, gs_n16, gs_n_add, gs_n_sub, gs_n_mul, gs_n_neg, gs_m_add, gs_m_sub, gs_m_mul, gs_m_neg, gs_n_l, gs_m_n, gs_n_c, gs_eq_t, gs_eq_f1, gs_eq_f2, gs_lt_t, gs_lt_f, gs_le_t, gs_le_f, gs_cmp_lt, gs_cmp_eq, gs_cmp_gt, gs_ix_n, gs_nz_n, gs_nzl_g, gs_n_div, gs_af1, gs_af0, gs_ck0, gs_ck1, gs_ck2t, gs_ck2f, gs_ck3, gs_ck4, gs_zd_t, gs_zd_f, gs_zt_t, gs_zt_f, gs_nar1, gs_nar0, gs_tn, if_true, if_false, not_true_eq_false, not_false_eq_true]
  · rw [if_neg c]
    simp (disch := omega) only [e_G_net, k_G_net_0, k_G_net_5, k_G_net_8, k_G_net_23, k_G_net_24, k_G_net_27, s_G_areTwo, ↓reduceIte, Int.reduceAdd, Int.reduceSub, Int.reduceMul, Int.reduceToNat, gs_00, gs_ofi, gs_k0_m, gs_k1_m, gs_n8, gs_n16, gs_n_add, gs_n_sub, gs_n_mul, gs_n_neg, gs_m_add, gs_m_sub, gs_m_mul, gs_m_neg, gs_n_l, gs_m_n, gs_n_c, gs_eq_t, gs_eq_f1, gs_eq_f2, gs_lt_t, gs_lt_f, gs_le_t, gs_le_f, gs_cmp_lt, gs_cmp_eq, gs_cmp_gt, gs_ix_n, gs_nz_n, gs_nzl_g, gs_n_div, gs_af1, gs_af0, gs_ck0, gs_ck1, gs_ck2t, gs_ck2f, gs_ck3, gs_ck4, gs_zd_t, gs_zd_f, gs_zt_t, gs_zt_f, gs_nar1, gs_nar0, gs_tn, if_true, if_false, not_true_eq_false, not_false_eq_true]
theorem s_G_status (hC : gs_Cl 0 d S) (hw : gs_wb B S) {i : Int} (i1 : -2147483648 ≤ i) (i2 : i < 2147483648) : f_G_status [gs_r 0 0, gs_i (gs_n i)] d = some (some (gs_i (gs_n (o_status S i))), d) := by
  unfold o_status
  have h6 := hw.2.2.1.2.1
  have e := s_Q_isNumber hC hw i1 i2
  by_cases c : 0 ≤ i ∧ i < S.1 6 1
  · rw [if_pos c]
    have hI := hC.is i.toNat 6 (by omega) (by omega)
    simp (disch := omega) only [e_G_status, k_G_status_0, k_G_status_11, k_G_status_14, k_G_status_26, k_G_status_32, e, hI, ↓reduceIte, Int.reduceAdd, Int.reduceSub, Int.reduceMul, Int.reduceToNat, gs_00, gs_ofi, gs_k0_m, gs_k1_m, gs_n8, gs_n16, gs_n_add, gs_n_sub, gs_n_mul, gs_n_neg, gs_m_add, gs_m_sub, gs_m_mul, gs_m_neg, gs_n_l, gs_m_n, gs_n_c, gs_eq_t, gs_eq_f1, gs_eq_f2, gs_lt_t, gs_lt_f, gs_le_t, gs_le_f, gs_cmp_lt, gs_cmp_eq, gs_cmp_gt, gs_ix_n, gs_nz_n, gs_nzl_g, gs_n_div, gs_af1, gs_af0, gs_ck0, gs_ck1, gs_ck2t, gs_ck2f, gs_ck3, gs_ck4, gs_zd_t, gs_zd_f, gs_zt_t, gs_zt_f, gs_nar1, gs_nar0, gs_tn, if_true, if_false, not_true_eq_false, not_false_eq_true]
  · rw [if_neg c]
    simp (disch := omega) only [e_G_status, k_G_status_0, k_G_status_11, k_G_status_14, k_G_status_26, k_G_status_32, e, ↓reduceIte, Int.reduceAdd, Int.reduceSub, Int.reduceMul, Int.reduceToNat, gs_00, gs_ofi, gs_k0_m, gs_k1_m, gs_n8, gs_n16, gs_n_add, gs_n_sub, gs_n_mul, gs_n_neg, gs_m_add, gs_m_sub, gs_m_mul, gs_m_neg, gs_n_l, gs_m_n, gs_n_c, gs_eq_t, gs_eq_f1, gs_eq_f2, gs_lt_t, gs_lt_f, gs_le_t, gs_le_f, gs_cmp_lt, gs_cmp_eq, gs_cmp_gt, gs_ix_n, gs_nz_n, gs_nzl_g, gs_n_div, gs_af1, gs_af0, gs_ck0, gs_ck1, gs_ck2t, gs_ck2f, gs_ck3, gs_ck4, gs_zd_t, gs_zd_f, gs_zt_t, gs_zt_f, gs_nar1, gs_nar0, gs_tn, if_true, if_false, not_true_eq_false, not_false_eq_true]
theorem s_G_waiting (hC : gs_Cl 0 d S) (hw : gs_wb B S) (hv : gs_wv S) {k : Int} (k1 : -2147483648 ≤ k) (k2 : k < 2147483648) : f_G_waiting [gs_r 0 0, gs_i (gs_n k)] d = some (some (gs_i (gs_n (o_waiting S k))), d) := by
  unfold o_waiting
  have hl := hv.2
  have e := s_Q_isPlace hC (hv.q hw) k1 k2
  by_cases c : 0 ≤ k ∧ k < S.2.length
  · rw [if_pos c]
    have ho := hC.oi k c.1 c.2
    simp (disch := omega) only [e_G_waiting, k_G_waiting_0, k_G_waiting_11, k_G_waiting_14, k_G_waiting_26, k_G_waiting_29, e, ho, ↓reduceIte, Int.reduceAdd, Int.reduceSub, Int.reduceMul, Int.reduceToNat, gs_00, gs_ofi, gs_k0_m, gs_k1_m, gs_n8, gs_n16, gs_n_add, gs_n_sub, gs_n_mul, gs_n_neg, gs_m_add, gs_m_sub, gs_m_mul, gs_m_neg, gs_n_l, gs_m_n, gs_n_c, gs_eq_t, gs_eq_f1, gs_eq_f2, gs_lt_t, gs_lt_f, gs_le_t, gs_le_f, gs_cmp_lt, gs_cmp_eq, gs_cmp_gt, gs_ix_n, gs_nz_n, gs_nzl_g, gs_n_div, gs_af1, gs_af0, gs_ck0, gs_ck1, gs_ck2t, gs_ck2f, gs_ck3, gs_ck4, gs_zd_t, gs_zd_f, gs_zt_t, gs_zt_f, gs_nar1, gs_nar0, gs_tn, if_true, if_false, not_true_eq_false, not_false_eq_true]
  · rw [if_neg c]
    simp (disch := omega) only [e_G_waiting, k_G_waiting_0, k_G_waiting_11, k_G_waiting_14, k_G_waiting_26, k_G_waiting_29, e, ↓reduceIte, Int.reduceAdd, Int.reduceSub, Int.reduceMul, Int.reduceToNat, gs_00, gs_ofi, gs_k0_m, gs_k1_m, gs_n8, gs_n16, gs_n_add, gs_n_sub, gs_n_mul, gs_n_neg, gs_m_add, gs_m_sub, gs_m_mul, gs_m_neg, gs_n_l, gs_m_n, gs_n_c, gs_eq_t, gs_eq_f1, gs_eq_f2, gs_lt_t, gs_lt_f, gs_le_t, gs_le_f, gs_cmp_lt, gs_cmp_eq, gs_cmp_gt, gs_ix_n, gs_nz_n, gs_nzl_g, gs_n_div, gs_af1, gs_af0, gs_ck0, gs_ck1, gs_ck2t, gs_ck2f, gs_ck3, gs_ck4, gs_zd_t, gs_zd_f, gs_zt_t, gs_zt_f, gs_nar1, gs_nar0, gs_tn, if_true, if_false, not_true_eq_false, not_false_eq_true]
theorem s_G_behind (hC : gs_Cl 0 d S) (hw : gs_wb B S) (hv : gs_wv S) {k : Int} (k1 : -2147483648 ≤ k) (k2 : k < 2147483648) : f_G_behind [gs_r 0 0, gs_i (gs_n k)] d = some (some (gs_i (gs_n (o_behind S k))), d) := by
  unfold o_behind
  have hl := hv.2
  have e := s_Q_isPlace hC (hv.q hw) k1 k2
  by_cases c : 0 ≤ k ∧ k < S.2.length
  · rw [if_pos c]
    have ho := s_Q_countAhead hC hw (hv.q hw) c.1 c.2
    simp (disch := omega) only [e_G_behind, k_G_behind_0, k_G_behind_11, k_G_behind_14, k_G_behind_25, k_G_behind_28, e, ho, ↓reduceIte, Int.reduceAdd, Int.reduceSub, Int.reduceMul, Int.reduceToNat, gs_00, gs_ofi, gs_k0_m, gs_k1_m, gs_n8, gs_n16, gs_n_add, gs_n_sub, gs_n_mul, gs_n_neg, gs_m_add, gs_m_sub, gs_m_mul, gs_m_neg, gs_n_l, gs_m_n, gs_n_c, gs_eq_t, gs_eq_f1, gs_eq_f2, gs_lt_t, gs_lt_f, gs_le_t, gs_le_f, gs_cmp_lt, gs_cmp_eq, gs_cmp_gt, gs_ix_n, gs_nz_n, gs_nzl_g, gs_n_div, gs_af1, gs_af0, gs_ck0, gs_ck1, gs_ck2t, gs_ck2f, gs_ck3, gs_ck4, gs_zd_t, gs_zd_f, gs_zt_t, gs_zt_f, gs_nar1, gs_nar0, gs_tn, if_true, if_false, not_true_eq_false, not_false_eq_true]
  · rw [if_neg c]
    simp (disch := omega) only [e_G_behind, k_G_behind_0, k_G_behind_11, k_G_behind_14, k_G_behind_25, k_G_behind_28, e, ↓reduceIte, Int.reduceAdd, Int.reduceSub, Int.reduceMul, Int.reduceToNat, gs_00, gs_ofi, gs_k0_m, gs_k1_m, gs_n8, gs_n16, gs_n_add, gs_n_sub, gs_n_mul, gs_n_neg, gs_m_add, gs_m_sub, gs_m_mul, gs_m_neg, gs_n_l, gs_m_n, gs_n_c, gs_eq_t, gs_eq_f1, gs_eq_f2, gs_lt_t, gs_lt_f, gs_le_t, gs_le_f, gs_cmp_lt, gs_cmp_eq, gs_cmp_gt, gs_ix_n, gs_nz_n, gs_nzl_g, gs_n_div, gs_af1, gs_af0, gs_ck0, gs_ck1, gs_ck2t, gs_ck2f, gs_ck3, gs_ck4, gs_zd_t, gs_zd_f, gs_zt_t, gs_zt_f, gs_nar1, gs_nar0, gs_tn, if_true, if_false, not_true_eq_false, not_false_eq_true]
end OD
