-- the queue
def gs_qa (S : gs_S) (k : Int) : Nat := S.2.getD k.toNat 0
def gs_wq (S : gs_S) : Prop := (∀ k : Int, 0 ≤ k → k < S.2.length → (gs_qa S k : Int) < S.1 6 1) ∧ S.2.length ≤ 10
/-- how many of the first n the k-th meets -/
def gs_cah (S : gs_S) (k : Int) : Nat → Int
  | 0 => 0
  | n + 1 => gs_cah S k n + gs_z (gs_mt S (gs_qa S k) (gs_qa S n))
theorem gs_cah_rg (S : gs_S) (k : Int) : ∀ n : Nat, 0 ≤ gs_cah S k n ∧ gs_cah S k n ≤ n
  | 0 => by simp [gs_cah]
  | n + 1 => by
    have := gs_cah_rg S k n
    have : gs_z (gs_mt S (gs_qa S k) (gs_qa S n)) = 0 ∨ gs_z (gs_mt S (gs_qa S k) (gs_qa S n)) = 1 := by
      cases gs_mt S (gs_qa S k) (gs_qa S n)
      · exact Or.inl rfl
      · exact Or.inr rfl
    simp only [gs_cah]
    omega
section QU
variable {b : Nat} {d : gs_D} {S : gs_S} {B : Int}
theorem s_Q_isFull (hC : gs_Cl b d S) (hw : gs_wb B S) (hq : gs_wq S) : f_Q_isFull [gs_r 4 b] d = some (some (gs_i (gs_n (gs_z (decide (10 ≤ S.2.length ∨ 40 ≤ S.1 6 1))))), d) := by
  have h1 := hC.ct
  have h2 := hC.wt
  have h3 := hq.2
  have h4 := hw.2.2.1.2.1
  simp (disch := omega) only [e_Q_isFull, k_Q_isFull_0, k_Q_isFull_9, k_Q_isFull_18, k_Q_isFull_22, h1, h2, gs_00, gs_ofi, gs_k0_m, gs_k1_m, gs_n8, gs_n16, gs_n_add, gs_n_sub, gs_n_mul, gs_n_neg, gs_m_add, gs_m_sub, gs_m_mul, gs_m_neg, gs_n_l, gs_m_n, gs_n_c, gs_eq_iff, gs_lt_iff, gs_le_iff, gs_cge, gs_clt, gs_cle, gs_cgt, gs_ceq, gs_ix_n, gs_nz_n, gs_nzl_g, gs_n_div, gs_af1, gs_af0, gs_ck_ite, gs_ck0, gs_ck1, gs_ck2t, gs_ck2f, gs_ck3, gs_ck4, gs_nar1, gs_nar0, gs_tn, if_true, if_false, not_true_eq_false, not_false_eq_true]
  repeat' split
  all_goals simp (disch := omega) only [gs_zd_t, gs_zd_f]
theorem s_Q_isNumber (hC : gs_Cl b d S) (hw : gs_wb B S) {i : Int} (h5 : -2147483648 ≤ i) (h6 : i < 2147483648) : f_Q_isNumber [gs_r 4 b, gs_i (gs_n i)] d = some (some (gs_i (gs_n (gs_z (decide (0 ≤ i ∧ i < S.1 6 1))))), d) := by
  have h1 := hC.ct
  have h4 := hw.2.2.1.2.1
  simp (disch := omega) only [e_Q_isNumber, k_Q_isNumber_0, k_Q_isNumber_4, k_Q_isNumber_12, k_Q_isNumber_16, h1, gs_00, gs_ofi, gs_k0_m, gs_k1_m, gs_n8, gs_n16, gs_n_add, gs_n_sub, gs_n_mul, gs_n_neg, gs_m_add, gs_m_sub, gs_m_mul, gs_m_neg, gs_n_l, gs_m_n, gs_n_c, gs_eq_iff, gs_lt_iff, gs_le_iff, gs_cge, gs_clt, gs_cle, gs_cgt, gs_ceq, gs_ix_n, gs_nz_n, gs_nzl_g, gs_n_div, gs_af1, gs_af0, gs_ck_ite, gs_ck0, gs_ck1, gs_ck2t, gs_ck2f, gs_ck3, gs_ck4, gs_nar1, gs_nar0, gs_tn, if_true, if_false, not_true_eq_false, not_false_eq_true]
  repeat' split
  all_goals simp (disch := omega) only [gs_zd_t, gs_zd_f]
theorem s_Q_isPlace (hC : gs_Cl b d S) (hq : gs_wq S) {i : Int} (h5 : -2147483648 ≤ i) (h6 : i < 2147483648) : f_Q_isPlace [gs_r 4 b, gs_i (gs_n i)] d = some (some (gs_i (gs_n (gs_z (decide (0 ≤ i ∧ i < S.2.length))))), d) := by
  have h1 := hC.wt
  have h4 := hq.2
  simp (disch := omega) only [e_Q_isPlace, k_Q_isPlace_0, k_Q_isPlace_4, k_Q_isPlace_12, k_Q_isPlace_16, h1, gs_00, gs_ofi, gs_k0_m, gs_k1_m, gs_n8, gs_n16, gs_n_add, gs_n_sub, gs_n_mul, gs_n_neg, gs_m_add, gs_m_sub, gs_m_mul, gs_m_neg, gs_n_l, gs_m_n, gs_n_c, gs_eq_iff, gs_lt_iff, gs_le_iff, gs_cge, gs_clt, gs_cle, gs_cgt, gs_ceq, gs_ix_n, gs_nz_n, gs_nzl_g, gs_n_div, gs_af1, gs_af0, gs_ck_ite, gs_ck0, gs_ck1, gs_ck2t, gs_ck2f, gs_ck3, gs_ck4, gs_nar1, gs_nar0, gs_tn, if_true, if_false, not_true_eq_false, not_false_eq_true]
  repeat' split
  all_goals simp (disch := omega) only [gs_zd_t, gs_zd_f]
theorem gs_Cl.oi (hC : gs_Cl b d S) : ∀ k : Int, 0 ≤ k → k < S.2.length → d.1 12 b k.toNat = gs_n (gs_qa S k : Nat) := fun k h0 h1 => hC.od k.toNat (by omega)
theorem s_Q_at (hC : gs_Cl b d S) (hw : gs_wb B S) (hq : gs_wq S) {k : Int} (h0 : 0 ≤ k) (h1 : k < S.2.length) : f_Q_at [gs_r 4 b, gs_i (gs_n k)] d = some (some (gs_r 13 (gs_ii b (gs_qa S k))), d) := by
  have h2 := hC.oi k h0 h1
  have h3 := hq.1 k h0 h1
  have h4 := hw.2.2.1.2.1
  have h5 := hq.2
  simp (disch := omega) only [e_Q_at, k_Q_at_0, k_Q_at_10, k_Q_at_11, h2, ↓reduceIte, Int.reduceAdd, Int.reduceSub, Int.reduceMul, Int.reduceToNat, gs_00, gs_ofi, gs_k0_m, gs_k1_m, gs_n8, gs_n16, gs_n_add, gs_n_sub, gs_n_mul, gs_n_neg, gs_m_add, gs_m_sub, gs_m_mul, gs_m_neg, gs_n_l, gs_m_n, gs_n_c, gs_eq_t, gs_eq_f1, gs_eq_f2, gs_lt_t, gs_lt_f, gs_le_t, gs_le_f, gs_cmp_lt, gs_cmp_eq, gs_cmp_gt, gs_ix_n, gs_nz_n, gs_nzl_g, gs_n_div, gs_af1, gs_af0, gs_ck0, gs_ck1, gs_ck2t, gs_ck2f, gs_ck3, gs_ck4, gs_zd_t, gs_zd_f, gs_zt_t, gs_zt_f, gs_nar1, gs_nar0, gs_tn, if_true, if_false, not_true_eq_false, not_false_eq_true]
theorem s_Q_countAhead (hC : gs_Cl b d S) (hw : gs_wb B S) (hq : gs_wq S) {k : Int} (h0 : 0 ≤ k) (h1 : k < S.2.length) : f_Q_countAhead [gs_r 4 b, gs_i (gs_n k)] d = some (some (gs_i (gs_n (gs_cah S k k.toNat))), d) := by
  have h5 := hq.2
  have ak := s_Q_at hC hw hq h0 h1
  have key : ∀ (n : Nat) (j : Int), 0 ≤ j → j + n = k → gs_g Y0 P_Q_countAhead 4 [some (gs_r 4 b), some (gs_i (gs_n k)), some (gs_i (gs_n (gs_cah S k j.toNat))), some (gs_i (gs_n j))] [] d = some (some (gs_i (gs_n (gs_cah S k k.toNat))), d) := by
    intro n
    induction n with
    | zero =>
      intro j j0 j1
      have e : j = k := by omega
      subst e
      simp (disch := omega) only [e_Q_countAhead, k_Q_countAhead_0, k_Q_countAhead_4, k_Q_countAhead_9, k_Q_countAhead_14, k_Q_countAhead_19, k_Q_countAhead_22, k_Q_countAhead_25, k_Q_countAhead_28, k_Q_countAhead_34, ↓reduceIte, Int.reduceAdd, Int.reduceSub, Int.reduceMul, Int.reduceToNat, gs_00, gs_ofi, gs_k0_m, gs_k1_m, gs_n8, gs_n16, gs_n_add, gs_n_sub, gs_n_mul, gs_n_neg, gs_m_add, gs_m_sub, gs_m_mul, gs_m_neg, gs_n_l, gs_m_n, gs_n_c, gs_eq_t, gs_eq_f1, gs_eq_f2, gs_lt_t, gs_lt_f, gs_le_t, gs_le_f, gs_cmp_lt, gs_cmp_eq, gs_cmp_gt, gs_ix_n, gs_nz_n, gs_nzl_g, gs_n_div, gs_af1, gs_af0, gs_ck0, gs_ck1, gs_ck2t, gs_ck2f, gs_ck3, gs_ck4, gs_zd_t, gs_zd_f, gs_zt_t, gs_zt_f, gs_nar1, gs_nar0, gs_tn, if_true, if_false, not_true_eq_false, not_false_eq_true]
    | succ n ih =>
      intro j j0 j1
      have aj := s_Q_at hC hw hq j0 (by omega)
      have mt := s_I_meets hC hw (hq.1 k h0 h1) (hq.1 j j0 (by omega))
      have e := ih (j + 1) (by omega) (by omega)
      have cr := gs_cah_rg S k j.toNat
      have es : gs_cah S k (j + 1).toNat = gs_cah S k j.toNat + gs_z (gs_mt S (gs_qa S k) (gs_qa S j)) := by
        have : (j + 1).toNat = j.toNat + 1 := by omega
        rw [this]
        have : ((j.toNat : Nat) : Int) = j := by omega
        simp only [gs_cah, this]
      rw [es] at e
      rw [k_Q_countAhead_4]
      cases hm : gs_mt S (gs_qa S k) (gs_qa S j)
      · rw [hm] at mt e
        simp (disch := omega) only [e_Q_countAhead, k_Q_countAhead_0, k_Q_countAhead_9, k_Q_countAhead_14, k_Q_countAhead_19, k_Q_countAhead_22, k_Q_countAhead_25, k_Q_countAhead_28, k_Q_countAhead_34, ak, aj, mt, ↓reduceIte, Int.reduceAdd, Int.reduceSub, Int.reduceMul, Int.reduceToNat, gs_00, gs_ofi, gs_k0_m, gs_k1_m, gs_n8, gs_n16, gs_n_add, gs_n_sub, gs_n_mul, gs_n_neg, gs_m_add, gs_m_sub, gs_m_mul, gs_m_neg, gs_n_l, gs_m_n, gs_n_c, gs_eq_t, gs_eq_f1, gs_eq_f2, gs_lt_t, gs_lt_f, gs_le_t, gs_le_f, gs_cmp_lt, gs_cmp_eq, gs_cmp_gt, gs_ix_n, gs_nz_n, gs_nzl_g, gs_n_div, gs_af1, gs_af0, gs_ck0, gs_ck1, gs_ck2t, gs_ck2f, gs_ck3, gs_ck4, gs_zd_t, gs_zd_f, gs_zt_t, gs_zt_f, gs_nar1, gs_nar0, gs_tn, if_true, if_false, not_true_eq_false, not_false_eq_true]
        simpa only [gs_zt_f, Int.add_zero] using e
      · rw [hm] at mt e
        simp (disch := omega) only [e_Q_countAhead, k_Q_countAhead_0, k_Q_countAhead_9, k_Q_countAhead_14, k_Q_countAhead_19, k_Q_countAhead_22, k_Q_countAhead_25, k_Q_countAhead_28, k_Q_countAhead_34, ak, aj, mt, ↓reduceIte, Int.reduceAdd, Int.reduceSub, Int.reduceMul, Int.reduceToNat, gs_00, gs_ofi, gs_k0_m, gs_k1_m, gs_n8, gs_n16, gs_n_add, gs_n_sub, gs_n_mul, gs_n_neg, gs_m_add, gs_m_sub, gs_m_mul, gs_m_neg, gs_n_l, gs_m_n, gs_n_c, gs_eq_t, gs_eq_f1, gs_eq_f2, gs_lt_t, gs_lt_f, gs_le_t, gs_le_f, gs_cmp_lt, gs_cmp_eq, gs_cmp_gt, gs_ix_n, gs_nz_n, gs_nzl_g, gs_n_div, gs_af1, gs_af0, gs_ck0, gs_ck1, gs_ck2t, gs_ck2f, gs_ck3, gs_ck4, gs_zd_t, gs_zd_f, gs_zt_t, gs_zt_f, gs_nar1, gs_nar0, gs_tn, if_true, if_false, not_true_eq_false, not_false_eq_true]
        simpa only [gs_zt_t] using e
  have e := key k.toNat 0 (by omega) (by omega)
  simp (disch := omega) only [e_Q_countAhead, k_Q_countAhead_0, ↓reduceIte, Int.reduceAdd, Int.reduceSub, Int.reduceMul, Int.reduceToNat, gs_00, gs_ofi, gs_k0_m, gs_k1_m, gs_n8, gs_n16, gs_n_add, gs_n_sub, gs_n_mul, gs_n_neg, gs_m_add, gs_m_sub, gs_m_mul, gs_m_neg, gs_n_l, gs_m_n, gs_n_c, gs_eq_t, gs_eq_f1, gs_eq_f2, gs_lt_t, gs_lt_f, gs_le_t, gs_le_f, gs_cmp_lt, gs_cmp_eq, gs_cmp_gt, gs_ix_n, gs_nz_n, gs_nzl_g, gs_n_div, gs_af1, gs_af0, gs_ck0, gs_ck1, gs_ck2t, gs_ck2f, gs_ck3, gs_ck4, gs_zd_t, gs_zd_f, gs_zt_t, gs_zt_f, gs_nar1, gs_nar0, gs_tn, if_true, if_false, not_true_eq_false, not_false_eq_true]
  have e0 : gs_cah S k (0 : Int).toNat = 0 := rfl
  rw [e0] at e
  rw [e]
  rfl
theorem s_Q_placeOf (hC : gs_Cl b d S) (hw : gs_wb B S) (hq : gs_wq S) {i : Int} (h5 : -2147483648 ≤ i) (h6 : i < 2147483648) : ∃ k : Int, ((k = -1 ∧ ∀ j : Int, 0 ≤ j → j < S.2.length → ¬ (gs_qa S j : Int) = i) ∨ (0 ≤ k ∧ k < S.2.length ∧ (gs_qa S k : Int) = i)) ∧ f_Q_placeOf [gs_r 4 b, gs_i (gs_n i)] d = some (some (gs_i (gs_n k)), d) := by
  have h7 := hq.2
  have hwt := hC.wt
  have h4 := hw.2.2.1.2.1
  have key : ∀ (n : Nat) (j : Int), 0 ≤ j → j + n = S.2.length → (∀ y : Int, 0 ≤ y → y < j → ¬ (gs_qa S y : Int) = i) → ∃ k : Int, ((k = -1 ∧ ∀ j : Int, 0 ≤ j → j < S.2.length → ¬ (gs_qa S j : Int) = i) ∨ (0 ≤ k ∧ k < S.2.length ∧ (gs_qa S k : Int) = i)) ∧ gs_g Y0 P_Q_placeOf 2 [some (gs_r 4 b), some (gs_i (gs_n i)), some (gs_i (gs_n j))] [] d = some (some (gs_i (gs_n k)), d) := by
    intro n
    induction n with
    | zero =>
      intro j j0 j1 hj
      refine ⟨-1, Or.inl ⟨rfl, fun y y0 y1 => hj y y0 (by omega)⟩, ?_⟩
      simp (disch := omega) only [e_Q_placeOf, k_Q_placeOf_0, k_Q_placeOf_2, k_Q_placeOf_10, k_Q_placeOf_16, k_Q_placeOf_20, k_Q_placeOf_22, k_Q_placeOf_28, hwt, ↓reduceIte, Int.reduceAdd, Int.reduceSub, Int.reduceMul, Int.reduceToNat, gs_00, gs_ofi, gs_k0_m, gs_k1_m, gs_n8, gs_n16, gs_n_add, gs_n_sub, gs_n_mul, gs_n_neg, gs_m_add, gs_m_sub, gs_m_mul, gs_m_neg, gs_n_l, gs_m_n, gs_n_c, gs_eq_t, gs_eq_f1, gs_eq_f2, gs_lt_t, gs_lt_f, gs_le_t, gs_le_f, gs_cmp_lt, gs_cmp_eq, gs_cmp_gt, gs_ix_n, gs_nz_n, gs_nzl_g, gs_n_div, gs_af1, gs_af0, gs_ck0, gs_ck1, gs_ck2t, gs_ck2f, gs_ck3, gs_ck4, gs_zd_t, gs_zd_f, gs_zt_t, gs_zt_f, gs_nar1, gs_nar0, gs_tn, if_true, if_false, not_true_eq_false, not_false_eq_true]
    | succ n ih =>
      intro j j0 j1 hj
      have h2 := hC.oi j j0 (by omega)
      have h3 := hq.1 j j0 (by omega)
      by_cases c : (gs_qa S j : Int) = i
      · refine ⟨j, Or.inr ⟨j0, by omega, c⟩, ?_⟩
        rw [k_Q_placeOf_2]
        simp (disch := omega) only [e_Q_placeOf, k_Q_placeOf_0, k_Q_placeOf_10, k_Q_placeOf_16, k_Q_placeOf_20, k_Q_placeOf_22, k_Q_placeOf_28, hwt, h2, ↓reduceIte, Int.reduceAdd, Int.reduceSub, Int.reduceMul, Int.reduceToNat, gs_00, gs_ofi, gs_k0_m, gs_k1_m, gs_n8, gs_n16, gs_n_add, gs_n_sub, gs_n_mul, gs_n_neg, gs_m_add, gs_m_sub, gs_m_mul, gs_m_neg, gs_n_l, gs_m_n, gs_n_c, gs_eq_t, gs_eq_f1, gs_eq_f2, gs_lt_t, gs_lt_f, gs_le_t, gs_le_f, gs_cmp_lt, gs_cmp_eq, gs_cmp_gt, gs_ix_n, gs_nz_n, gs_nzl_g, gs_n_div, gs_af1, gs_af0, gs_ck0, gs_ck1, gs_ck2t, gs_ck2f, gs_ck3, gs_ck4, gs_zd_t, gs_zd_f, gs_zt_t, gs_zt_f, gs_nar1, gs_nar0, gs_tn, if_true, if_false, not_true_eq_false, not_false_eq_true]
      · obtain ⟨k, hk, e⟩ := ih (j + 1) (by omega) (by omega) (fun y y0 y1 => by
          by_cases z : y = j
          · rw [z]; exact c
          · exact hj y y0 (by omega))
        refine ⟨k, hk, ?_⟩
        rw [k_Q_placeOf_2]
        by_cases c2 : (gs_qa S j : Int) < i
        · simp (disch := omega) only [e_Q_placeOf, k_Q_placeOf_0, k_Q_placeOf_10, k_Q_placeOf_16, k_Q_placeOf_20, k_Q_placeOf_22, k_Q_placeOf_28, hwt, h2, e, ↓reduceIte, Int.reduceAdd, Int.reduceSub, Int.reduceMul, Int.reduceToNat, gs_00, gs_ofi, gs_k0_m, gs_k1_m, gs_n8, gs_n16, gs_n_add, gs_n_sub, gs_n_mul, gs_n_neg, gs_m_add, gs_m_sub, gs_m_mul, gs_m_neg, gs_n_l, gs_m_n, gs_n_c, gs_eq_t, gs_eq_f1, gs_eq_f2, gs_lt_t, gs_lt_f, gs_le_t, gs_le_f, gs_cmp_lt, gs_cmp_eq, gs_cmp_gt, gs_ix_n, gs_nz_n, gs_nzl_g, gs_n_div, gs_af1, gs_af0, gs_ck0, gs_ck1, gs_ck2t, gs_ck2f, gs_ck3, gs_ck4, gs_zd_t, gs_zd_f, gs_zt_t, gs_zt_f, gs_nar1, gs_nar0, gs_tn, if_true, if_false, not_true_eq_false, not_false_eq_true]
        · simp (disch := omega) only [e_Q_placeOf, k_Q_placeOf_0, k_Q_placeOf_10, k_Q_placeOf_16, k_Q_placeOf_20, k_Q_placeOf_22, k_Q_placeOf_28, hwt, h2, e, ↓reduceIte, Int.reduceAdd, Int.reduceSub, Int.reduceMul, Int.reduceToNat, gs_00, gs_ofi, gs_k0_m, gs_k1_m, gs_n8, gs_n16, gs_n_add, gs_n_sub, gs_n_mul, gs_n_neg, gs_m_add, gs_m_sub, gs_m_mul, gs_m_neg, gs_n_l, gs_m_n, gs_n_c, gs_eq_t, gs_eq_f1, gs_eq_f2, gs_lt_t, gs_lt_f, gs_le_t, gs_le_f, gs_cmp_lt, gs_cmp_eq, gs_cmp_gt, gs_ix_n, gs_nz_n, gs_nzl_g, gs_n_div, gs_af1, gs_af0, gs_ck0, gs_ck1, gs_ck2t, gs_ck2f, gs_ck3, gs_ck4, gs_zd_t, gs_zd_f, gs_zt_t, gs_zt_f, gs_nar1, gs_nar0, gs_tn, if_true, if_false, not_true_eq_false, not_false_eq_true]
  obtain ⟨k, hk, e⟩ := key S.2.length 0 (by omega) (by omega) (fun y y0 y1 => by omega)
  refine ⟨k, hk, ?_⟩
  simp (disch := omega) only [e_Q_placeOf, k_Q_placeOf_0, e, ↓reduceIte, Int.reduceAdd, Int.reduceSub, Int.reduceMul, Int.reduceToNat, gs_00, gs_ofi, gs_k0_m, gs_k1_m, gs_n8, gs_n16, gs_n_add, gs_n_sub, gs_n_mul, gs_n_neg, gs_m_add, gs_m_sub, gs_m_mul, gs_m_neg, gs_n_l, gs_m_n, gs_n_c, gs_eq_t, gs_eq_f1, gs_eq_f2, gs_lt_t, gs_lt_f, gs_le_t, gs_le_f, gs_cmp_lt, gs_cmp_eq, gs_cmp_gt, gs_ix_n, gs_nz_n, gs_nzl_g, gs_n_div, gs_af1, gs_af0, gs_ck0, gs_ck1, gs_ck2t, gs_ck2f, gs_ck3, gs_ck4, gs_zd_t, gs_zd_f, gs_zt_t, gs_zt_f, gs_nar1, gs_nar0, gs_tn, if_true, if_false, not_true_eq_false, not_false_eq_true]
theorem s_Q_comesBefore (hI0 : ∀ i k : Nat, (i : Int) < S.1 6 1 → k < 7 → d.1 13 (gs_ii b i) k = gs_n (S.1 (10 + i) k)) (hw : gs_wb B S) {i j : Nat} (hi : (i : Int) < S.1 6 1) (hj : (j : Int) < S.1 6 1) : f_Q_comesBefore [gs_r 4 b, gs_i (gs_n i), gs_i (gs_n j)] d = some (some (gs_i (gs_n (gs_z (decide (gs_key S i < gs_key S j))))), d) := by
  have p1 := (hw.2.2.2 i hi).2.2.1
  have p2 := (hw.2.2.2 j hj).2.2.1
  have hI := fun k => hI0 i k hi
  have hJ := fun k => hI0 j k hj
  have h4 := hw.2.2.1.2.1
  simp (disch := omega) only [e_Q_comesBefore, k_Q_comesBefore_0, k_Q_comesBefore_6, k_Q_comesBefore_16, k_Q_comesBefore_27, k_Q_comesBefore_33, k_Q_comesBefore_38, k_Q_comesBefore_42, hI, hJ, gs_00, gs_ofi, gs_k0_m, gs_k1_m, gs_n8, gs_n16, gs_n_add, gs_n_sub, gs_n_mul, gs_n_neg, gs_m_add, gs_m_sub, gs_m_mul, gs_m_neg, gs_n_l, gs_m_n, gs_n_c, gs_eq_iff, gs_lt_iff, gs_le_iff, gs_cge, gs_clt, gs_cle, gs_cgt, gs_ceq, gs_ix_n, gs_nz_n, gs_nzl_g, gs_n_div, gs_af1, gs_af0, gs_ck_ite, gs_ck0, gs_ck1, gs_ck2t, gs_ck2f, gs_ck3, gs_ck4, gs_nar1, gs_nar0, gs_tn, if_true, if_false, not_true_eq_false, not_false_eq_true]
  unfold gs_key
  repeat' split
  all_goals simp (disch := omega) only [gs_zd_t, gs_zd_f]
/-- another list -/
theorem gs_Cl.ls {d' : gs_D} {l : List Nat} (h : gs_Cl b d S) (h2 : d'.2 = d.2) (h1 : ∀ t i, ¬ (t = 12 ∧ i = b) → ¬ (t = 4 ∧ i = b) → d'.1 t i = d.1 t i) (h4 : d'.1 4 b 1 = d.1 4 b 1) (h3 : d'.1 4 b 3 = gs_n l.length) (ho : ∀ k : Nat, k < l.length → d'.1 12 b k = gs_n (l.getD k 0 : Nat)) : gs_Cl b d' (S.1, l) := by
  have e : ∀ t i, t ≠ 12 → t ≠ 4 → d'.1 t i = d.1 t i := fun t i a c => h1 t i (fun z => a z.1) (fun z => c z.1)
  refine ⟨⟨fun k hk => ?_, fun k hk => ?_⟩, ⟨fun k hk => ?_, fun k hk => ?_⟩, ⟨fun k hk => ?_, fun k hk => ?_⟩, ⟨?_, ?_, h3⟩, fun i k hi hk => ?_, ho⟩
  · rw [h2]; exact h.h k hk
  · rw [h2]; exact h.p k hk
  · rw [e 7 b (by decide) (by decide)]; exact h.pr k hk
  · rw [e 8 b (by decide) (by decide)]; exact h.hc k hk
  · rw [e 9 b (by decide) (by decide)]; exact h.li k hk
  · rw [h2]; exact h.nt k hk
  · rw [e 1 b (by decide) (by decide)]; exact h.dy
  · rw [h4]; exact h.ct
  · rw [e 13 _ (by decide) (by decide)]; exact h.is i k hi hk
end QU
