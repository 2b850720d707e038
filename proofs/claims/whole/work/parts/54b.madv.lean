-- the model's day
def gs_rtm (S : gs_S) (k : Nat) : gs_S := (fun f j => if j = 6 ∧ 10 ≤ f ∧ f < 10 + k ∧ S.1 f 6 = 0 then 3 else S.1 f j, S.2)
theorem gs_rtm_o (S : gs_S) (k : Nat) {a c : Nat} (h : c ≠ 6) : (gs_rtm S k).1 a c = S.1 a c := if_neg fun z => h z.1
section MY
variable {d : gs_D} {S : gs_S} {B : Int}
theorem s_M_adv1 (hc0 : 0 ≤ S.1 6 1) (hc1 : S.1 6 1 ≤ 40) : ∀ (n k : Nat) (dk : gs_D), (k : Int) + n = S.1 6 1 → gs_Mo 21 dk (gs_rtm S k) → gs_wb B (gs_rtm S k) → ∃ d', gs_g Y0 P_M_advance 29 [some (gs_r 20 0), some (gs_i (gs_n k))] [] dk = gs_g Y0 P_M_advance 60 [some (gs_r 20 0), some (gs_i (gs_n 70))] [] d' ∧ gs_Mo 21 d' (gs_rtm S (S.1 6 1).toNat) ∧ gs_wb B (gs_rtm S (S.1 6 1).toNat) ∧ gs_rf dk d' := by
  have o6 : ∀ k, (gs_rtm S k).1 6 1 = S.1 6 1 := fun k => gs_rtm_o S k (by decide)
  intro n
  induction n with
  | zero =>
    intro k dk hk hM hw
    have hc := s_M_count hM hw
    rw [o6] at hc
    have e : (S.1 6 1).toNat = k := by omega
    rw [e]
    refine ⟨dk, ?_, hM, hw, gs_rf.rf⟩
    rw [k_M_advance_29]
    simp (disch := omega) only [k_M_advance_34, k_M_advance_57, hc, ↓reduceIte, Int.reduceAdd, Int.reduceSub, Int.reduceMul, Int.reduceToNat, gs_00, gs_ofi, gs_k0_m, gs_k1_m, gs_n8, gs_n16, gs_n_add, gs_n_sub, gs_n_mul, gs_n_neg, gs_m_add, gs_m_sub, gs_m_mul, gs_m_neg, gs_n_l, gs_m_n, gs_n_c, gs_eq_t, gs_eq_f1, gs_eq_f2, gs_lt_t, gs_lt_f, gs_le_t, gs_le_f, gs_cmp_lt, gs_cmp_eq, gs_cmp_gt, gs_ix_n, gs_nz_n, gs_nzl_g, gs_n_div, gs_af1, gs_af0, gs_ck0, gs_ck1, gs_ck2t, gs_ck2f, gs_ck3, gs_ck4, gs_zd_t, gs_zd_f, gs_zt_t, gs_zt_f, gs_nar1, gs_nar0, gs_tn, if_true, if_false, not_true_eq_false, not_false_eq_true]
  | succ n ih =>
    intro k dk hk hM hw
    have hc := s_M_count hM hw
    rw [o6] at hc
    have hi : (k : Int) < (gs_rtm S k).1 6 1 := by rw [o6]; omega
    have hf := s_M_fate hM hw hi
    have es : (gs_rtm S k).1 (10 + k) 6 = S.1 (10 + k) 6 := if_neg (by omega)
    rw [es] at hf
    have hs := (hw.2.2.2 k hi).2.2.2
    rw [es] at hs
    rw [k_M_advance_29]
    by_cases c : S.1 (10 + k) 6 = 0
    · have sf := s_M_setFate hM hw hi (st := 3) (by omega) (by omega)
      have eq : ∀ f j, (gs_rtm S (k + 1)).1 f j = (gs_u (gs_rtm S k) (10 + k) 6 3).1 f j := fun f j => by
        show (if j = 6 ∧ 10 ≤ f ∧ f < 10 + (k + 1) ∧ S.1 f 6 = 0 then 3 else S.1 f j) = (if f = 10 + k ∧ j = 6 then 3 else if j = 6 ∧ 10 ≤ f ∧ f < 10 + k ∧ S.1 f 6 = 0 then 3 else S.1 f j)
        by_cases z1 : f = 10 + k ∧ j = 6
        · rw [if_pos z1, if_pos ⟨z1.2, by omega, by omega, by rw [z1.1]; exact c⟩]
        · rw [if_neg z1]
          by_cases z2 : j = 6 ∧ 10 ≤ f ∧ f < 10 + k ∧ S.1 f 6 = 0
          · rw [if_pos z2, if_pos ⟨z2.1, z2.2.1, by omega, z2.2.2.2⟩]
          · rw [if_neg z2, if_neg fun z => z2 ⟨z.1, z.2.1, by omega, z.2.2.2⟩]
      obtain ⟨d', e, r1, r2, r3⟩ := ih (k + 1) _ (by omega) ((hM.st k 3).cg eq) ((gs_wb_st hw k (by omega) (by omega)).cg eq)
      refine ⟨d', ?_, r1, r2, gs_rf.rf.w.tr r3⟩
      rw [show ((k + 1 : Nat) : Int) = (k : Int) + 1 by omega] at e
      simp (disch := omega) only [k_M_advance_34, k_M_advance_37, k_M_advance_42, k_M_advance_45, k_M_advance_51, hc, hf, sf, ↓reduceIte, Int.reduceAdd, Int.reduceSub, Int.reduceMul, Int.reduceToNat, gs_00, gs_ofi, gs_k0_m, gs_k1_m, gs_n8, gs_n16, gs_n_add, gs_n_sub, gs_n_mul, gs_n_neg, gs_m_add, gs_m_sub, gs_m_mul, gs_m_neg, gs_n_l, gs_m_n, gs_n_c, gs_eq_t, gs_eq_f1, gs_eq_f2, gs_lt_t, gs_lt_f, gs_le_t, gs_le_f, gs_cmp_lt, gs_cmp_eq, gs_cmp_gt, gs_ix_n, gs_nz_n, gs_nzl_g, gs_n_div, gs_af1, gs_af0, gs_ck0, gs_ck1, gs_ck2t, gs_ck2f, gs_ck3, gs_ck4, gs_zd_t, gs_zd_f, gs_zt_t, gs_zt_f, gs_nar1, gs_nar0, gs_tn, if_true, if_false, not_true_eq_false, not_false_eq_true]
      exact e
    · have eq : ∀ f j, (gs_rtm S (k + 1)).1 f j = (gs_rtm S k).1 f j := fun f j => by
        show (if j = 6 ∧ 10 ≤ f ∧ f < 10 + (k + 1) ∧ S.1 f 6 = 0 then 3 else S.1 f j) = (if j = 6 ∧ 10 ≤ f ∧ f < 10 + k ∧ S.1 f 6 = 0 then 3 else S.1 f j)
        by_cases z2 : j = 6 ∧ 10 ≤ f ∧ f < 10 + k ∧ S.1 f 6 = 0
        · rw [if_pos z2, if_pos ⟨z2.1, z2.2.1, by omega, z2.2.2.2⟩]
        · rw [if_neg z2, if_neg]
          rintro ⟨y1, y2, y3, y4⟩
          by_cases y : f = 10 + k
          · rw [y] at y4; exact c y4
          · exact z2 ⟨y1, y2, by omega, y4⟩
      obtain ⟨d', e, r⟩ := ih (k + 1) dk (by omega) (hM.cg eq) (hw.cg eq)
      refine ⟨d', ?_, r⟩
      rw [show ((k + 1 : Nat) : Int) = (k : Int) + 1 by omega] at e
      simp (disch := omega) only [k_M_advance_34, k_M_advance_37, k_M_advance_42, k_M_advance_51, hc, hf, ↓reduceIte, Int.reduceAdd, Int.reduceSub, Int.reduceMul, Int.reduceToNat, gs_00, gs_ofi, gs_k0_m, gs_k1_m, gs_n8, gs_n16, gs_n_add, gs_n_sub, gs_n_mul, gs_n_neg, gs_m_add, gs_m_sub, gs_m_mul, gs_m_neg, gs_n_l, gs_m_n, gs_n_c, gs_eq_t, gs_eq_f1, gs_eq_f2, gs_lt_t, gs_lt_f, gs_le_t, gs_le_f, gs_cmp_lt, gs_cmp_eq, gs_cmp_gt, gs_ix_n, gs_nz_n, gs_nzl_g, gs_n_div, gs_af1, gs_af0, gs_ck0, gs_ck1, gs_ck2t, gs_ck2f, gs_ck3, gs_ck4, gs_zd_t, gs_zd_f, gs_zt_t, gs_zt_f, gs_nar1, gs_nar0, gs_tn, if_true, if_false, not_true_eq_false, not_false_eq_true]
      exact e
theorem s_M_adv2 : ∀ (n : Nat) (k : Int) (dk : gs_D), 0 ≤ k → k + n = 36 → gs_Mo 21 dk (gs_clk S k) → ∃ d', gs_g Y0 P_M_advance 60 [some (gs_r 20 0), some (gs_i (gs_n (70 + k)))] [] dk = gs_g Y0 P_M_advance 79 [some (gs_r 20 0), some (gs_i (gs_n 106))] [] d' ∧ gs_Mo 21 d' (gs_clk S 36) ∧ gs_rf dk d' := by
  intro n
  induction n with
  | zero =>
    intro k dk k0 k1 hM
    have e : k = 36 := by omega
    subst e
    refine ⟨dk, ?_, hM, gs_rf.rf⟩
    rw [k_M_advance_60]
    simp (disch := omega) only [↓reduceIte, Int.reduceAdd, Int.reduceSub, Int.reduceMul, Int.reduceToNat, gs_00, gs_ofi, gs_k0_m, gs_k1_m, gs_n8, gs_n16, gs_n_add, gs_n_sub, gs_n_mul, gs_n_neg, gs_m_add, gs_m_sub, gs_m_mul, gs_m_neg, gs_n_l, gs_m_n, gs_n_c, gs_eq_t, gs_eq_f1, gs_eq_f2, gs_lt_t, gs_lt_f, gs_le_t, gs_le_f, gs_cmp_lt, gs_cmp_eq, gs_cmp_gt, gs_ix_n, gs_nz_n, gs_nzl_g, gs_n_div, gs_af1, gs_af0, gs_ck0, gs_ck1, gs_ck2t, gs_ck2f, gs_ck3, gs_ck4, gs_zd_t, gs_zd_f, gs_zt_t, gs_zt_f, gs_nar1, gs_nar0, gs_tn, if_true, if_false, not_true_eq_false, not_false_eq_true]
  | succ n ih =>
    intro k dk k0 k1 hM
    have i1 : (70 + k).toNat = 70 + k.toNat := by omega
    have c1 : gs_Mo 21 (gs_wL dk 21 0 (70 + k.toNat) (gs_m 0)) (gs_u (gs_clk S k) 5 k.toNat 0) := hM.w (gs_u_o _ 5 _ _ 1 (by decide)) fun m => Or.inl (gs_mr_u5 _ (by omega) 0 m)
    obtain ⟨d', e, r1, r2⟩ := ih (k + 1) _ (by omega) (by omega) (c1.cg (fun f j => by
      show (if f = 5 ∧ (j : Int) < k + 1 then 0 else S.1 f j) = (if f = 5 ∧ j = k.toNat then 0 else if f = 5 ∧ (j : Int) < k then 0 else S.1 f j)
      by_cases z1 : f = 5 ∧ j = k.toNat
      · rw [if_pos z1, if_pos (by omega)]
      · rw [if_neg z1]
        by_cases z2 : f = 5 ∧ (j : Int) < k
        · rw [if_pos z2, if_pos (by omega)]
        · rw [if_neg z2, if_neg (by omega)]))
    refine ⟨d', ?_, r1, gs_rf.rf.w.tr r2⟩
    rw [show 70 + (k + 1) = 70 + k + 1 by omega] at e
    rw [k_M_advance_60]
    simp (disch := omega) only [k_M_advance_66, k_M_advance_73, i1, ↓reduceIte, Int.reduceAdd, Int.reduceSub, Int.reduceMul, Int.reduceToNat, gs_00, gs_ofi, gs_k0_m, gs_k1_m, gs_n8, gs_n16, gs_n_add, gs_n_sub, gs_n_mul, gs_n_neg, gs_m_add, gs_m_sub, gs_m_mul, gs_m_neg, gs_n_l, gs_m_n, gs_n_c, gs_eq_t, gs_eq_f1, gs_eq_f2, gs_lt_t, gs_lt_f, gs_le_t, gs_le_f, gs_cmp_lt, gs_cmp_eq, gs_cmp_gt, gs_ix_n, gs_nz_n, gs_nzl_g, gs_n_div, gs_af1, gs_af0, gs_ck0, gs_ck1, gs_ck2t, gs_ck2f, gs_ck3, gs_ck4, gs_zd_t, gs_zd_f, gs_zt_t, gs_zt_f, gs_nar1, gs_nar0, gs_tn, if_true, if_false, not_true_eq_false, not_false_eq_true]
    exact e
theorem s_M_advance (hM : gs_Mo 21 d S) (hw : gs_wb B S) : ∃ d', f_M_advance [gs_r 20 0] d = some (some (gs_i (gs_n (o_advance S).1)), d') ∧ gs_Mo 21 d' (o_advance S).2 ∧ gs_mf d d' := by
  have h6 := hw.2.2.1.1
  have h61 := hw.2.2.1.2.1
  have q1 : d.2 21 0 106 = gs_m (S.1 6 0) := by
    rw [hM 106 (by omega) (by omega) (by omega), gs_mr_d]
  have i1 : (106 : Int).toNat = 106 := rfl
  unfold o_advance
  by_cases c : S.1 6 0 = 2
  · rw [if_pos c]
    have ev : S.1 6 0 + 1 - (S.1 6 0 + 1) / 3 * 3 = 0 := by omega
    have c1 : gs_Mo 21 (gs_wL d 21 0 106 (gs_m 0)) (gs_u S 6 0 0) := hM.w (gs_u_j S 0 (by omega)) fun n => Or.inl (gs_mr_u60 S 0 n)
    have w1 := gs_wb_dy hw (x := 0) (by omega) (by omega)
    have e61 : (gs_u S 6 0 0).1 6 1 = S.1 6 1 := gs_u_j S 0 (by omega)
    have e60 : (gs_u S 6 0 0).1 6 0 = 0 := gs_u_s S 6 0 0
    have hd := s_M_day c1 w1
    rw [e60] at hd
    obtain ⟨d1, e1, m1, w2, f1⟩ := s_M_adv1 (S := gs_u S 6 0 0) (B := B) (by rw [e61]; omega) (by rw [e61]; omega) (S.1 6 1).toNat 0 _ (by rw [e61]; omega) (c1.cg (fun f j => if_neg (by omega))) (w1.cg (fun f j => if_neg (by omega)))
    have m2 : gs_Mo 21 d1 (gs_rta (gs_u S 6 0 0)) := m1.cg (fun f j => by
      show (if j = 6 ∧ 10 ≤ f ∧ (f : Int) - 10 < (gs_u S 6 0 0).1 6 1 ∧ (gs_u S 6 0 0).1 f 6 = 0 then 3 else (gs_u S 6 0 0).1 f j) = (if j = 6 ∧ 10 ≤ f ∧ f < 10 + ((gs_u S 6 0 0).1 6 1).toNat ∧ (gs_u S 6 0 0).1 f 6 = 0 then 3 else (gs_u S 6 0 0).1 f j)
      rw [e61]
      by_cases z2 : j = 6 ∧ 10 ≤ f ∧ (f : Int) - 10 < S.1 6 1 ∧ (gs_u S 6 0 0).1 f 6 = 0
      · rw [if_pos z2, if_pos ⟨z2.1, z2.2.1, by omega, z2.2.2.2⟩]
      · rw [if_neg z2, if_neg fun z => z2 ⟨z.1, z.2.1, by omega, z.2.2.2⟩])
    obtain ⟨d2, e2, m3, f2⟩ := s_M_adv2 (S := gs_rta (gs_u S 6 0 0)) 36 0 d1 (by omega) (by omega) (m2.cg (fun f j => if_neg (by omega)))
    have q3 : d2.2 21 0 106 = gs_m 0 := by
      have ez : (gs_clk (gs_rta (gs_u S 6 0 0)) 36).1 6 1 = S.1 6 1 := by
        rw [gs_clk_o _ (by omega), gs_rta_o _ (by omega), e61]
      rw [m3 106 (by rw [ez]; omega) (by omega) (by omega), gs_mr_d, gs_clk_o _ (by omega), gs_rta_o _ (by omega), e60]
    refine ⟨d2, ?_, m3, (gs_rf.rf.w.tr (f1.tr f2)).mf⟩
    rw [show ((0 : Nat) : Int) = 0 from rfl] at e1
    rw [show (70 : Int) + 0 = 70 from rfl] at e2
    have step : f_M_advance [gs_r 20 0] d = gs_ck 1 (gs_g Y0 P_M_advance 29 [some (gs_r 20 0), some (gs_i (gs_n 0))] [] (gs_wL d 21 0 106 (gs_m 0))) := by
      simp (disch := omega) only [e_M_advance, k_M_advance_0, k_M_advance_13, k_M_advance_19, k_M_advance_20, k_M_advance_24, k_M_advance_27, q1, ev, hd, gs_m_div, ↓reduceIte, Int.reduceAdd, Int.reduceSub, Int.reduceMul, Int.reduceToNat, gs_00, gs_ofi, gs_k0_m, gs_k1_m, gs_n8, gs_n16, gs_n_add, gs_n_sub, gs_n_mul, gs_n_neg, gs_m_add, gs_m_sub, gs_m_mul, gs_m_neg, gs_n_l, gs_m_n, gs_n_c, gs_eq_t, gs_eq_f1, gs_eq_f2, gs_lt_t, gs_lt_f, gs_le_t, gs_le_f, gs_cmp_lt, gs_cmp_eq, gs_cmp_gt, gs_ix_n, gs_nz_n, gs_nzl_g, gs_n_div, gs_af1, gs_af0, gs_ck0, gs_ck1, gs_ck2t, gs_ck2f, gs_ck3, gs_ck4, gs_zd_t, gs_zd_f, gs_zt_t, gs_zt_f, gs_nar1, gs_nar0, gs_tn, if_true, if_false, not_true_eq_false, not_false_eq_true]
    rw [step, e1, e2]
    simp (disch := omega) only [k_M_advance_79, k_M_advance_83, e_M_day, k_M_day_0, k_M_day_7, q3, ↓reduceIte, Int.reduceAdd, Int.reduceSub, Int.reduceMul, Int.reduceToNat, gs_00, gs_ofi, gs_k0_m, gs_k1_m, gs_n8, gs_n16, gs_n_add, gs_n_sub, gs_n_mul, gs_n_neg, gs_m_add, gs_m_sub, gs_m_mul, gs_m_neg, gs_n_l, gs_m_n, gs_n_c, gs_eq_t, gs_eq_f1, gs_eq_f2, gs_lt_t, gs_lt_f, gs_le_t, gs_le_f, gs_cmp_lt, gs_cmp_eq, gs_cmp_gt, gs_ix_n, gs_nz_n, gs_nzl_g, gs_n_div, gs_af1, gs_af0, gs_ck0, gs_ck1, gs_ck2t, gs_ck2f, gs_ck3, gs_ck4, gs_zd_t, gs_zd_f, gs_zt_t, gs_zt_f, gs_nar1, gs_nar0, gs_tn, if_true, if_false, not_true_eq_false, not_false_eq_true]
  · rw [if_neg c]
    have ev : S.1 6 0 + 1 - (S.1 6 0 + 1) / 3 * 3 = S.1 6 0 + 1 := by omega
    have c1 : gs_Mo 21 (gs_wL d 21 0 106 (gs_m (S.1 6 0 + 1))) (gs_u S 6 0 (S.1 6 0 + 1)) := hM.w (gs_u_j S _ (by omega)) fun n => Or.inl (gs_mr_u60 S _ n)
    have w1 := gs_wb_dy hw (x := S.1 6 0 + 1) (by omega) (by omega)
    have hd := s_M_day c1 w1
    rw [gs_u_s] at hd
    refine ⟨_, ?_, c1, gs_rf.rf.w.mf⟩
    simp (disch := omega) only [e_M_advance, k_M_advance_0, k_M_advance_13, k_M_advance_19, k_M_advance_20, k_M_advance_24, k_M_advance_79, k_M_advance_83, q1, ev, hd, gs_m_div, ↓reduceIte, Int.reduceAdd, Int.reduceSub, Int.reduceMul, Int.reduceToNat, gs_00, gs_ofi, gs_k0_m, gs_k1_m, gs_n8, gs_n16, gs_n_add, gs_n_sub, gs_n_mul, gs_n_neg, gs_m_add, gs_m_sub, gs_m_mul, gs_m_neg, gs_n_l, gs_m_n, gs_n_c, gs_eq_t, gs_eq_f1, gs_eq_f2, gs_lt_t, gs_lt_f, gs_le_t, gs_le_f, gs_cmp_lt, gs_cmp_eq, gs_cmp_gt, gs_ix_n, gs_nz_n, gs_nzl_g, gs_n_div, gs_af1, gs_af0, gs_ck0, gs_ck1, gs_ck2t, gs_ck2f, gs_ck3, gs_ck4, gs_zd_t, gs_zd_f, gs_zt_t, gs_zt_f, gs_nar1, gs_nar0, gs_tn, if_true, if_false, not_true_eq_false, not_false_eq_true]
end MY
