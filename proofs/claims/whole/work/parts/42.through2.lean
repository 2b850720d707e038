-- the model goes through
def gs_mf (d d' : gs_D) : Prop := (∀ t, t ≠ 20 → t ≠ 23 → t ≠ 25 → d'.1 t = d.1 t) ∧ (∀ t, t ≠ 21 → t ≠ 24 → d'.2 t = d.2 t)
theorem gs_mf.rf {d : gs_D} : gs_mf d d := ⟨fun _ _ _ _ => rfl, fun _ _ _ => rfl⟩
theorem gs_mf.tr {d d' d'' : gs_D} (h : gs_mf d d') (h2 : gs_mf d' d'') : gs_mf d d'' := ⟨fun t a b c => (h2.1 t a b c).trans (h.1 t a b c), fun t a b => (h2.2 t a b).trans (h.2 t a b)⟩
theorem gs_rf.mf {d d' : gs_D} (h : gs_rf d d') : gs_mf d d' := ⟨fun t _ _ _ => by rw [h.1], fun t a _ => h.2 t a⟩
theorem gs_qf.mf {d d' : gs_D} (h : gs_qf d d') : gs_mf d d' := ⟨fun t a b _ => h.2 t a b, fun t _ _ => by rw [h.1]⟩
theorem gs_rf.Qu {d d' : gs_D} {l : List Nat} (h : gs_rf d d') (hq : gs_Qu d l) : gs_Qu d' l := by
  unfold gs_Qu
  rw [h.1]
  exact hq
section MG
variable {d : gs_D} {S : gs_S} {B : Int}
theorem s_M_goThrough_in (hM : gs_Mo 21 d S) (hw : gs_wb B S) (hv : gs_wv S) (hq : gs_Qu d S.2) (hB : B + 6000000 ≤ 1000000000000) {c : Int} (c0 : 0 ≤ c) (c1 : c < 1000) : ∀ (m k : Nat), k + m = S.2.length →
    (gs_fst S m k = none → gs_g Y0 P_M_goThrough 16 [some (gs_r 20 0), some (gs_i (gs_n c)), some (gs_i (gs_n 0)), some (gs_i (gs_n k))] [] d = gs_g Y0 P_M_goThrough 4 [some (gs_r 20 0), some (gs_i (gs_n c)), some (gs_i (gs_n 0)), some (gs_i (gs_n S.2.length))] [] d)
    ∧ (∀ p, gs_fst S m k = some p → ∃ d', gs_g Y0 P_M_goThrough 16 [some (gs_r 20 0), some (gs_i (gs_n c)), some (gs_i (gs_n 0)), some (gs_i (gs_n k))] [] d = gs_g Y0 P_M_goThrough 4 [some (gs_r 20 0), some (gs_i (gs_n (c + 1))), some (gs_i (gs_n 1)), some (gs_i (gs_n ((p : Int) + 1)))] [] d' ∧ gs_Mo 21 d' (gs_stl S p) ∧ gs_rf d d') := by
  have hl := hv.2
  have hQ := hv.q hw
  have hw0 := hq.1
  intro m
  induction m with
  | zero =>
    intro k hk
    refine ⟨fun _ => ?_, fun p h => by cases h⟩
    have e : k = S.2.length := by omega
    subst e
    rw [k_M_goThrough_16]
    simp (disch := omega) only [k_M_goThrough_70, hw0, ↓reduceIte, Int.reduceAdd, Int.reduceSub, Int.reduceMul, Int.reduceToNat, gs_00, gs_ofi, gs_k0_m, gs_k1_m, gs_n8, gs_n16, gs_n_add, gs_n_sub, gs_n_mul, gs_n_neg, gs_m_add, gs_m_sub, gs_m_mul, gs_m_neg, gs_n_l, gs_m_n, gs_n_c, gs_eq_t, gs_eq_f1, gs_eq_f2, gs_lt_t, gs_lt_f, gs_le_t, gs_le_f, gs_cmp_lt, gs_cmp_eq, gs_cmp_gt, gs_ix_n, gs_nz_n, gs_nzl_g, gs_n_div, gs_af1, gs_af0, gs_ck0, gs_ck1, gs_ck2t, gs_ck2f, gs_ck3, gs_ck4, gs_zd_t, gs_zd_f, gs_zt_t, gs_zt_f, gs_nar1, gs_nar0, gs_tn, if_true, if_false, not_true_eq_false, not_false_eq_true]
  | succ m ih =>
    intro k hk
    obtain ⟨i1, i2⟩ := ih (k + 1) (by omega)
    rw [show ((k + 1 : Nat) : Int) = (k : Int) + 1 by omega] at i1 i2
    have hb := s_M_behindCount hM hw hq hQ (k := (k : Int)) (by omega) (by omega)
    have hm := hQ.1 (k : Int) (by omega) (by omega)
    have he := s_M_enough hM hw hm
    have ha := hq.at (k := (k : Int)) (by omega) (by omega)
    have cr := gs_cah_rg S k k
    have hc := hw.2.2.1.2.1
    have ek : gs_qa S (k : Int) = S.2.getD k 0 := by unfold gs_qa; rw [gs_tn]
    rw [gs_tn] at hb ha
    by_cases c1 : gs_cah S k k = 0
    · rw [c1] at hb
      cases hcv : gs_cov S (S.2.getD k 0)
      · have er : gs_rdy S k = false := by unfold gs_rdy; rw [hcv, Bool.and_false]
        rw [ek] at he
        rw [ek] at ha
        rw [hcv] at he
        have st : gs_g Y0 P_M_goThrough 16 [some (gs_r 20 0), some (gs_i (gs_n c)), some (gs_i (gs_n 0)), some (gs_i (gs_n k))] [] d = gs_g Y0 P_M_goThrough 16 [some (gs_r 20 0), some (gs_i (gs_n c)), some (gs_i (gs_n 0)), some (gs_i (gs_n ((k : Int) + 1)))] [] d := by
          rw [k_M_goThrough_16]
          simp (disch := omega) only [e_M_goThrough, k_M_goThrough_0, k_M_goThrough_8, k_M_goThrough_14, k_M_goThrough_24, k_M_goThrough_28, k_M_goThrough_33, k_M_goThrough_36, k_M_goThrough_43, k_M_goThrough_46, k_M_goThrough_49, k_M_goThrough_56, k_M_goThrough_59, k_M_goThrough_64, k_M_goThrough_70, k_M_goThrough_73, hw0, hb, ha, he, ↓reduceIte, Int.reduceAdd, Int.reduceSub, Int.reduceMul, Int.reduceToNat, gs_00, gs_ofi, gs_k0_m, gs_k1_m, gs_n8, gs_n16, gs_n_add, gs_n_sub, gs_n_mul, gs_n_neg, gs_m_add, gs_m_sub, gs_m_mul, gs_m_neg, gs_n_l, gs_m_n, gs_n_c, gs_eq_t, gs_eq_f1, gs_eq_f2, gs_lt_t, gs_lt_f, gs_le_t, gs_le_f, gs_cmp_lt, gs_cmp_eq, gs_cmp_gt, gs_ix_n, gs_nz_n, gs_nzl_g, gs_n_div, gs_af1, gs_af0, gs_ck0, gs_ck1, gs_ck2t, gs_ck2f, gs_ck3, gs_ck4, gs_zd_t, gs_zd_f, gs_zt_t, gs_zt_f, gs_nar1, gs_nar0, gs_tn, if_true, if_false, not_true_eq_false, not_false_eq_true]
        have ef : gs_fst S (m + 1) k = gs_fst S m (k + 1) := by simp only [gs_fst, er]
        rw [st, ef]
        exact ⟨i1, i2⟩
      · have er : gs_rdy S k = true := by unfold gs_rdy; rw [hcv, Bool.and_true]; exact decide_eq_true c1
        have ef : gs_fst S (m + 1) k = some k := by simp only [gs_fst, er]
        refine ⟨fun h => (by rw [ef] at h; cases h), fun p h => ?_⟩
        rw [ef] at h
        cases h
        obtain ⟨d', e', c', r'⟩ := s_M_settle hM hw hm hB
        rw [ek] at he ha e' c'
        rw [hcv] at he
        refine ⟨d', ?_, c', r'⟩
        have hw1 : d'.1 20 0 3 = gs_n S.2.length := by rw [r'.1]; exact hw0
        rw [k_M_goThrough_16]
        simp (disch := omega) only [e_M_goThrough, k_M_goThrough_0, k_M_goThrough_8, k_M_goThrough_14, k_M_goThrough_24, k_M_goThrough_28, k_M_goThrough_33, k_M_goThrough_36, k_M_goThrough_43, k_M_goThrough_46, k_M_goThrough_49, k_M_goThrough_56, k_M_goThrough_59, k_M_goThrough_64, k_M_goThrough_70, k_M_goThrough_73, hw0, hb, ha, he, e', ↓reduceIte, Int.reduceAdd, Int.reduceSub, Int.reduceMul, Int.reduceToNat, gs_00, gs_ofi, gs_k0_m, gs_k1_m, gs_n8, gs_n16, gs_n_add, gs_n_sub, gs_n_mul, gs_n_neg, gs_m_add, gs_m_sub, gs_m_mul, gs_m_neg, gs_n_l, gs_m_n, gs_n_c, gs_eq_t, gs_eq_f1, gs_eq_f2, gs_lt_t, gs_lt_f, gs_le_t, gs_le_f, gs_cmp_lt, gs_cmp_eq, gs_cmp_gt, gs_ix_n, gs_nz_n, gs_nzl_g, gs_n_div, gs_af1, gs_af0, gs_ck0, gs_ck1, gs_ck2t, gs_ck2f, gs_ck3, gs_ck4, gs_zd_t, gs_zd_f, gs_zt_t, gs_zt_f, gs_nar1, gs_nar0, gs_tn, if_true, if_false, not_true_eq_false, not_false_eq_true]
        rw [k_M_goThrough_16]
        by_cases c9 : (S.2.length : Int) ≤ (k : Int) + 1
        · simp (disch := omega) only [k_M_goThrough_70, k_M_goThrough_24, hw1, ↓reduceIte, Int.reduceAdd, Int.reduceSub, Int.reduceMul, Int.reduceToNat, gs_00, gs_ofi, gs_k0_m, gs_k1_m, gs_n8, gs_n16, gs_n_add, gs_n_sub, gs_n_mul, gs_n_neg, gs_m_add, gs_m_sub, gs_m_mul, gs_m_neg, gs_n_l, gs_m_n, gs_n_c, gs_eq_t, gs_eq_f1, gs_eq_f2, gs_lt_t, gs_lt_f, gs_le_t, gs_le_f, gs_cmp_lt, gs_cmp_eq, gs_cmp_gt, gs_ix_n, gs_nz_n, gs_nzl_g, gs_n_div, gs_af1, gs_af0, gs_ck0, gs_ck1, gs_ck2t, gs_ck2f, gs_ck3, gs_ck4, gs_zd_t, gs_zd_f, gs_zt_t, gs_zt_f, gs_nar1, gs_nar0, gs_tn, if_true, if_false, not_true_eq_false, not_false_eq_true]
        · simp (disch := omega) only [k_M_goThrough_70, k_M_goThrough_24, hw1, ↓reduceIte, Int.reduceAdd, Int.reduceSub, Int.reduceMul, Int.reduceToNat, gs_00, gs_ofi, gs_k0_m, gs_k1_m, gs_n8, gs_n16, gs_n_add, gs_n_sub, gs_n_mul, gs_n_neg, gs_m_add, gs_m_sub, gs_m_mul, gs_m_neg, gs_n_l, gs_m_n, gs_n_c, gs_eq_t, gs_eq_f1, gs_eq_f2, gs_lt_t, gs_lt_f, gs_le_t, gs_le_f, gs_cmp_lt, gs_cmp_eq, gs_cmp_gt, gs_ix_n, gs_nz_n, gs_nzl_g, gs_n_div, gs_af1, gs_af0, gs_ck0, gs_ck1, gs_ck2t, gs_ck2f, gs_ck3, gs_ck4, gs_zd_t, gs_zd_f, gs_zt_t, gs_zt_f, gs_nar1, gs_nar0, gs_tn, if_true, if_false, not_true_eq_false, not_false_eq_true]
    · have er : gs_rdy S k = false := by unfold gs_rdy; rw [decide_eq_false c1, Bool.false_and]
      have st : gs_g Y0 P_M_goThrough 16 [some (gs_r 20 0), some (gs_i (gs_n c)), some (gs_i (gs_n 0)), some (gs_i (gs_n k))] [] d = gs_g Y0 P_M_goThrough 16 [some (gs_r 20 0), some (gs_i (gs_n c)), some (gs_i (gs_n 0)), some (gs_i (gs_n ((k : Int) + 1)))] [] d := by
        rw [k_M_goThrough_16]
        simp (disch := omega) only [e_M_goThrough, k_M_goThrough_0, k_M_goThrough_8, k_M_goThrough_14, k_M_goThrough_24, k_M_goThrough_28, k_M_goThrough_33, k_M_goThrough_36, k_M_goThrough_43, k_M_goThrough_46, k_M_goThrough_49, k_M_goThrough_56, k_M_goThrough_59, k_M_goThrough_64, k_M_goThrough_70, k_M_goThrough_73, hw0, hb, ↓reduceIte, Int.reduceAdd, Int.reduceSub, Int.reduceMul, Int.reduceToNat, gs_00, gs_ofi, gs_k0_m, gs_k1_m, gs_n8, gs_n16, gs_n_add, gs_n_sub, gs_n_mul, gs_n_neg, gs_m_add, gs_m_sub, gs_m_mul, gs_m_neg, gs_n_l, gs_m_n, gs_n_c, gs_eq_t, gs_eq_f1, gs_eq_f2, gs_lt_t, gs_lt_f, gs_le_t, gs_le_f, gs_cmp_lt, gs_cmp_eq, gs_cmp_gt, gs_ix_n, gs_nz_n, gs_nzl_g, gs_n_div, gs_af1, gs_af0, gs_ck0, gs_ck1, gs_ck2t, gs_ck2f, gs_ck3, gs_ck4, gs_zd_t, gs_zd_f, gs_zt_t, gs_zt_f, gs_nar1, gs_nar0, gs_tn, if_true, if_false, not_true_eq_false, not_false_eq_true]
      have ef : gs_fst S (m + 1) k = gs_fst S m (k + 1) := by simp only [gs_fst, er]
      rw [st, ef]
      exact ⟨i1, i2⟩
theorem s_M_goThrough (hM : gs_Mo 21 d S) (hw : gs_wb B S) (hv : gs_wv S) (hB : B + 70000000 ≤ 1000000000000) : ∃ d', f_M_goThrough [gs_r 20 0] d = some (some (gs_i (gs_n (gs_thr 10 S).1)), d') ∧ gs_Mo 21 d' (gs_thr 10 S).2 ∧ gs_mf d d' := by
  have key : ∀ (n : Nat) (c : Int) (S : gs_S) (B : Int) (dk : gs_D) (o : Option gs_V), c + n = 10 → 0 ≤ c → S.2.length ≤ n → B + 6000000 * (n + 1) ≤ 1000000000000 → gs_Mo 21 dk S → gs_wb B S → gs_wv S → ∃ d', gs_g Y0 P_M_goThrough 4 [some (gs_r 20 0), some (gs_i (gs_n c)), some (gs_i (gs_n 1)), o] [] dk = some (some (gs_i (gs_n (c + (gs_thr n S).1))), d') ∧ gs_Mo 21 d' (gs_thr n S).2 ∧ gs_mf dk d' := by
    have one : ∀ (c : Int) (S : gs_S) (B : Int) (dk : gs_D) (o : Option gs_V), 0 ≤ c → c ≤ 10 → gs_Mo 21 dk S → gs_wb B S → gs_wv S → ∃ d1, gs_g Y0 P_M_goThrough 4 [some (gs_r 20 0), some (gs_i (gs_n c)), some (gs_i (gs_n 1)), o] [] dk = gs_g Y0 P_M_goThrough 16 [some (gs_r 20 0), some (gs_i (gs_n c)), some (gs_i (gs_n 0)), some (gs_i (gs_n (0 : Nat)))] [] d1 ∧ gs_qf dk d1 ∧ gs_Qu d1 S.2 := by
      intro c S B dk o c0 c1 hM hw hv
      obtain ⟨d1, e1, q1, f1⟩ := s_M_order hM hw (by rw [← hv.1]; exact hv.2)
      rw [← hv.1] at q1
      refine ⟨d1, ?_, f1, q1⟩
      rw [k_M_goThrough_4]
      simp (disch := omega) only [k_M_goThrough_8, k_M_goThrough_14, e1, ↓reduceIte, Int.reduceAdd, Int.reduceSub, Int.reduceMul, Int.reduceToNat, gs_00, gs_ofi, gs_k0_m, gs_k1_m, gs_n8, gs_n16, gs_n_add, gs_n_sub, gs_n_mul, gs_n_neg, gs_m_add, gs_m_sub, gs_m_mul, gs_m_neg, gs_n_l, gs_m_n, gs_n_c, gs_eq_t, gs_eq_f1, gs_eq_f2, gs_lt_t, gs_lt_f, gs_le_t, gs_le_f, gs_cmp_lt, gs_cmp_eq, gs_cmp_gt, gs_ix_n, gs_nz_n, gs_nzl_g, gs_n_div, gs_af1, gs_af0, gs_ck0, gs_ck1, gs_ck2t, gs_ck2f, gs_ck3, gs_ck4, gs_zd_t, gs_zd_f, gs_zt_t, gs_zt_f, gs_nar1, gs_nar0, gs_tn, if_true, if_false, not_true_eq_false, not_false_eq_true]
      rfl
    have fin : ∀ (c : Int) (o : Option gs_V) (dk : gs_D), 0 ≤ c → c ≤ 10 → gs_g Y0 P_M_goThrough 4 [some (gs_r 20 0), some (gs_i (gs_n c)), some (gs_i (gs_n 0)), o] [] dk = some (some (gs_i (gs_n c)), dk) := by
      intro c o dk c0 c1
      rw [k_M_goThrough_4]
      simp (disch := omega) only [k_M_goThrough_73, ↓reduceIte, Int.reduceAdd, Int.reduceSub, Int.reduceMul, Int.reduceToNat, gs_00, gs_ofi, gs_k0_m, gs_k1_m, gs_n8, gs_n16, gs_n_add, gs_n_sub, gs_n_mul, gs_n_neg, gs_m_add, gs_m_sub, gs_m_mul, gs_m_neg, gs_n_l, gs_m_n, gs_n_c, gs_eq_t, gs_eq_f1, gs_eq_f2, gs_lt_t, gs_lt_f, gs_le_t, gs_le_f, gs_cmp_lt, gs_cmp_eq, gs_cmp_gt, gs_ix_n, gs_nz_n, gs_nzl_g, gs_n_div, gs_af1, gs_af0, gs_ck0, gs_ck1, gs_ck2t, gs_ck2f, gs_ck3, gs_ck4, gs_zd_t, gs_zd_f, gs_zt_t, gs_zt_f, gs_nar1, gs_nar0, gs_tn, if_true, if_false, not_true_eq_false, not_false_eq_true]
    intro n
    induction n with
    | zero =>
      intro c S B dk o h1 h2 hln h3 hM hw hv
      obtain ⟨d1, e1, f1, q1⟩ := one c S B dk o h2 (by omega) hM hw hv
      have hi := (s_M_goThrough_in (f1.Mo hM) hw hv q1 (by omega) h2 (by omega) S.2.length 0 (by omega)).1 (by rw [show S.2.length = 0 by omega]; rfl)
      refine ⟨d1, ?_, f1.Mo hM, f1.mf⟩
      rw [e1, hi, fin c _ d1 h2 (by omega)]
      simp only [gs_thr, Int.add_zero]
    | succ n ih =>
      intro c S B dk o h1 h2 hln h3 hM hw hv
      obtain ⟨d1, e1, f1, q1⟩ := one c S B dk o h2 (by omega) hM hw hv
      have hin := s_M_goThrough_in (f1.Mo hM) hw hv q1 (by omega) h2 (by omega) S.2.length 0 (by omega)
      cases hf : gs_fst S S.2.length 0 with
      | none =>
        refine ⟨d1, ?_, by simp only [gs_thr, hf]; exact f1.Mo hM, f1.mf⟩
        rw [e1, hin.1 hf, fin c _ d1 h2 (by omega)]
        simp only [gs_thr, hf, Int.add_zero]
      | some k =>
        have hk := gs_fst_lt hf
        have hm := (hv.q hw).1 (k : Int) (by omega) (by omega)
        have ek : gs_qa S (k : Int) = S.2.getD k 0 := by unfold gs_qa; rw [gs_tn]
        rw [ek] at hm
        obtain ⟨d2, e2, c2, r2⟩ := hin.2 k hf
        have hl := gs_stl_len (S := S) (k := k) (by omega)
        obtain ⟨d3, e3, c3, f3⟩ := ih (c + 1) (gs_stl S k) (B + 6000000) d2 (some (gs_i (gs_n ((k : Int) + 1)))) (by omega) (by omega) (by omega) (by omega) c2 (gs_wb_st (gs_wb_mvd hw (Or.inl rfl) hm (by omega)) _ (by omega) (by omega)) (hv.stl hw (by omega) (by omega))
        refine ⟨d3, ?_, by simp only [gs_thr, hf]; exact c3, (f1.mf.tr r2.mf).tr f3⟩
        rw [e1, e2, e3]
        simp only [gs_thr, hf]
        rw [show c + 1 + (gs_thr n (gs_stl S k)).1 = c + ((gs_thr n (gs_stl S k)).1 + 1) by omega]
  obtain ⟨d', e, c, f⟩ := key 10 0 S B d none (by omega) (by omega) hv.2 (by omega) hM hw hv
  refine ⟨d', ?_, c, f⟩
  rw [Int.zero_add] at e
  simp (disch := omega) only [e_M_goThrough, k_M_goThrough_0, e, ↓reduceIte, Int.reduceAdd, Int.reduceSub, Int.reduceMul, Int.reduceToNat, gs_00, gs_ofi, gs_k0_m, gs_k1_m, gs_n8, gs_n16, gs_n_add, gs_n_sub, gs_n_mul, gs_n_neg, gs_m_add, gs_m_sub, gs_m_mul, gs_m_neg, gs_n_l, gs_m_n, gs_n_c, gs_eq_t, gs_eq_f1, gs_eq_f2, gs_lt_t, gs_lt_f, gs_le_t, gs_le_f, gs_cmp_lt, gs_cmp_eq, gs_cmp_gt, gs_ix_n, gs_nz_n, gs_nzl_g, gs_n_div, gs_af1, gs_af0, gs_ck0, gs_ck1, gs_ck2t, gs_ck2f, gs_ck3, gs_ck4, gs_zd_t, gs_zd_f, gs_zt_t, gs_zt_f, gs_nar1, gs_nar0, gs_tn, if_true, if_false, not_true_eq_false, not_false_eq_true]
end MG
