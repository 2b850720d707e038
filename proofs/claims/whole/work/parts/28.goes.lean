-- bounds are kept
section WB
variable {S : gs_S} {B : Int}
theorem gs_u_o (S : gs_S) (f j : Nat) (x : Int) {a : Nat} (c : Nat) (h : a ≠ f) : (gs_u S f j x).1 a c = S.1 a c := if_neg fun z => h z.1
theorem gs_iok_cg {S' : gs_S} {i : Nat} (h : gs_iok S i) (e : ∀ k, k < 7 → S'.1 (10 + i) k = S.1 (10 + i) k) : gs_iok S' i := by
  unfold gs_iok at h ⊢
  rw [e 0 (by omega), e 1 (by omega), e 2 (by omega), e 3 (by omega), e 4 (by omega), e 5 (by omega), e 6 (by omega)]
  exact h
theorem gs_wb_mvd (hw : gs_wb B S) {i : Nat} {sg : Int} (hs : sg = 1 ∨ sg = -1) (hi : (i : Int) < S.1 6 1) (hB : B + 6000000 ≤ 1000000000000) : gs_wb (B + 6000000) (gs_mvd S i sg) := by
  have o : ∀ f j, f ≠ 0 → f ≠ 5 → (gs_mvd S i sg).1 f j = S.1 f j := fun f j a c => gs_mvd_ins S i sg j a c
  have ch : ∀ f j, -6000000 ≤ sg * gs_dl S i f j ∧ sg * gs_dl S i f j ≤ 6000000 := fun f j => by
    have := gs_dl_rg (hw.2.2.2 i hi) f j
    rcases hs with rfl | rfl
    · omega
    · omega
  refine ⟨⟨fun j hj => ?_, fun j hj => ?_, fun j hj => ?_⟩, ⟨fun j hj => ?_, fun j hj => ?_, fun j hj => ?_⟩, ⟨?_, ?_, hB⟩, fun k hk => ?_⟩
  · have a := hw.1.1 j hj
    have c := ch 0 j
    show -(B + 6000000) ≤ S.1 0 j + sg * gs_dl S i 0 j ∧ S.1 0 j + sg * gs_dl S i 0 j ≤ B + 6000000
    omega
  · rw [o 1 j (by decide) (by decide)]
    have := hw.1.2.1 j hj
    omega
  · have a := hw.1.2.2 j hj
    have c := ch 5 j
    show -(B + 6000000) ≤ S.1 5 j + sg * gs_dl S i 5 j ∧ S.1 5 j + sg * gs_dl S i 5 j ≤ B + 6000000
    omega
  · rw [o 2 j (by decide) (by decide)]
    exact hw.2.1.1 j hj
  · rw [o 3 j (by decide) (by decide)]
    exact hw.2.1.2.1 j hj
  · rw [o 4 j (by decide) (by decide)]
    exact hw.2.1.2.2 j hj
  · rw [o 6 0 (by decide) (by decide)]
    exact hw.2.2.1.1
  · rw [o 6 1 (by decide) (by decide)]
    exact hw.2.2.1.2.1
  · rw [o 6 1 (by decide) (by decide)] at hk
    exact gs_iok_cg (hw.2.2.2 k hk) fun c _ => o _ c (by omega) (by omega)
theorem gs_wb_st (hw : gs_wb B S) (i : Nat) {st : Int} (h0 : 0 ≤ st) (h1 : st < 4) : gs_wb B (gs_u S (10 + i) 6 st) := by
  have o : ∀ f j, f < 10 → (gs_u S (10 + i) 6 st).1 f j = S.1 f j := fun f j h => gs_u_o S _ _ _ j (by omega)
  refine ⟨⟨fun j hj => ?_, fun j hj => ?_, fun j hj => ?_⟩, ⟨fun j hj => ?_, fun j hj => ?_, fun j hj => ?_⟩, ⟨?_, ?_, hw.2.2.1.2.2⟩, fun k hk => ?_⟩
  · rw [o 0 j (by omega)]; exact hw.1.1 j hj
  · rw [o 1 j (by omega)]; exact hw.1.2.1 j hj
  · rw [o 5 j (by omega)]; exact hw.1.2.2 j hj
  · rw [o 2 j (by omega)]; exact hw.2.1.1 j hj
  · rw [o 3 j (by omega)]; exact hw.2.1.2.1 j hj
  · rw [o 4 j (by omega)]; exact hw.2.1.2.2 j hj
  · rw [o 6 0 (by omega)]; exact hw.2.2.1.1
  · rw [o 6 1 (by omega)]; exact hw.2.2.1.2.1
  · rw [o 6 1 (by omega)] at hk
    have hk' := hw.2.2.2 k hk
    have e : ∀ c, c ≠ 6 → (gs_u S (10 + i) 6 st).1 (10 + k) c = S.1 (10 + k) c := fun c hc => if_neg fun z => hc z.2
    have e6 : (gs_u S (10 + i) 6 st).1 (10 + k) 6 = st ∨ (gs_u S (10 + i) 6 st).1 (10 + k) 6 = S.1 (10 + k) 6 := by
      by_cases z : k = i
      · left
        exact if_pos ⟨by omega, rfl⟩
      · right
        exact if_neg fun y => by omega
    unfold gs_iok at hk' ⊢
    rw [e 0 (by omega), e 1 (by omega), e 2 (by omega), e 3 (by omega), e 4 (by omega), e 5 (by omega)]
    refine ⟨hk'.1, hk'.2.1, hk'.2.2.1, ?_⟩
    have := hk'.2.2.2
    rcases e6 with z | z <;> rw [z] <;> omega
theorem gs_wq_lv (hq : gs_wq S) {k : Nat} (hk : k < S.2.length) (st : Int) : gs_wq (gs_lv S k st) := by
  have hl : (gs_lv S k st).2.length = S.2.length - 1 := List.length_eraseIdx_of_lt hk
  refine ⟨fun j j0 j1 => ?_, by have := hq.2; omega⟩
  have e6 : (gs_lv S k st).1 6 1 = S.1 6 1 := gs_u_o S _ _ _ 1 (by omega)
  rw [e6]
  show (((S.2.eraseIdx k).getD j.toNat 0 : Nat) : Int) < S.1 6 1
  rw [gs_er]
  split
  · have := hq.1 j j0 (by omega)
    exact this
  · have := hq.1 (j + 1) (by omega) (by omega)
    unfold gs_qa at this
    rw [show (j + 1).toNat = j.toNat + 1 by omega] at this
    exact this
theorem gs_wq_mvd (hq : gs_wq S) (i : Nat) (sg : Int) : gs_wq (gs_mvd S i sg) := by
  refine ⟨fun k k0 k1 => ?_, hq.2⟩
  rw [gs_mvd_ins S i sg 1 (by decide) (by decide)]
  exact hq.1 k k0 k1
end WB
section GO
variable {d : gs_D} {S : gs_S} {B : Int}
theorem gs_now13 {i : Nat} (h : i < 40) : gs_now 13 (gs_ii 0 i) = true := by
  have e : gs_ii 0 i = i := by unfold gs_ii; omega
  rw [e]
  exact gs_fr.i13 h
theorem s_Q_leave (hC : gs_Cl 0 d S) (hw : gs_wb B S) (hq : gs_wq S) {k st : Int} (h0 : 0 ≤ k) (h1 : k < S.2.length) : ∃ d', f_Q_leave [gs_r 4 0, gs_i (gs_n k), gs_i (gs_n st)] d = some (none, d') ∧ gs_Cl 0 d' (gs_lv S k.toNat st) ∧ gs_fr d d' ∧ d'.1 2 0 = d.1 2 0 := by
  have hm := hq.1 k h0 h1
  have hc := hw.2.2.1.2.1
  have ha := s_Q_at hC hw hq h0 h1
  have c1 := hC.wS (gs_qa S k) 6 st (by omega)
  have q1 : gs_wq (gs_u S (10 + gs_qa S k) 6 st) := ⟨fun j j0 j1 => by
    rw [gs_u_o S _ _ _ 1 (by omega)]
    exact hq.1 j j0 j1, hq.2⟩
  obtain ⟨d', e, c2, hf⟩ := s_Q_removeAt c1 q1 (p := k) h0 h1
  refine ⟨d', ?_, c2, (gs_fr.I (gs_now13 (by omega))).tr hf.fr, ?_⟩
  · simp (disch := omega) only [e_Q_leave, k_Q_leave_0, k_Q_leave_5, k_Q_leave_14, ha, e, ↓reduceIte, Int.reduceAdd, Int.reduceSub, Int.reduceMul, Int.reduceToNat, gs_00, gs_ofi, gs_k0_m, gs_k1_m, gs_n8, gs_n16, gs_n_add, gs_n_sub, gs_n_mul, gs_n_neg, gs_m_add, gs_m_sub, gs_m_mul, gs_m_neg, gs_n_l, gs_m_n, gs_n_c, gs_eq_t, gs_eq_f1, gs_eq_f2, gs_lt_t, gs_lt_f, gs_le_t, gs_le_f, gs_cmp_lt, gs_cmp_eq, gs_cmp_gt, gs_ix_n, gs_nz_n, gs_nzl_g, gs_n_div, gs_af1, gs_af0, gs_ck0, gs_ck1, gs_ck2t, gs_ck2f, gs_ck3, gs_ck4, gs_zd_t, gs_zd_f, gs_zt_t, gs_zt_f, gs_nar1, gs_nar0, gs_tn, if_true, if_false, not_true_eq_false, not_false_eq_true]
  · rw [hf.2.1 2 0 (by omega) (by omega)]
    funext j
    exact gs_wI_o (by omega)
theorem s_A_mvd (hC : gs_Cl 0 d S) (hw : gs_wb B S) {i : Nat} {sg : Int} (hi : (i : Int) < S.1 6 1) (hs : sg = 1 ∨ sg = -1) : ∃ d', f_A_move [gs_r 3 0, gs_r 13 (gs_ii 0 i), gs_i (gs_n sg)] d = some (none, d') ∧ gs_Cl 0 d' (gs_mvd S i sg) ∧ gs_fr d d' ∧ d'.1 = d.1 := by
  have h := s_A_move hC hw hi hs
  rw [gs_mv_eq S i hs] at h
  exact h
/-- the number of an answer: -1 for none -/
def gs_on (o : Option Nat) : Int := match o with
  | none => -1
  | some k => k
theorem s_G_firstReady (hC : gs_Cl 0 d S) (hw : gs_wb B S) (hq : gs_wq S) : f_G_firstReady [gs_r 0 0] d = some (some (gs_i (gs_n (gs_on (gs_fst S S.2.length 0)))), d) := by
  have hl := hq.2
  have hwt := hC.wt
  have key : ∀ (n k : Nat), k + n = S.2.length → gs_g Y0 P_G_firstReady 2 [some (gs_r 0 0), some (gs_i (gs_n k))] [] d = some (some (gs_i (gs_n (gs_on (gs_fst S n k)))), d) := by
    intro n
    induction n with
    | zero =>
      intro k hk
      simp (disch := omega) only [e_G_firstReady, k_G_firstReady_0, k_G_firstReady_2, k_G_firstReady_16, k_G_firstReady_27, k_G_firstReady_30, k_G_firstReady_48, k_G_firstReady_51, k_G_firstReady_54, k_G_firstReady_56, k_G_firstReady_62, hwt, ↓reduceIte, Int.reduceAdd, Int.reduceSub, Int.reduceMul, Int.reduceToNat, gs_00, gs_ofi, gs_k0_m, gs_k1_m, gs_n8, gs_n16, gs_n_add, gs_n_sub, gs_n_mul, gs_n_neg, gs_m_add, gs_m_sub, gs_m_mul, gs_m_neg, gs_n_l, gs_m_n, gs_n_c, gs_eq_t, gs_eq_f1, gs_eq_f2, gs_lt_t, gs_lt_f, gs_le_t, gs_le_f, gs_cmp_lt, gs_cmp_eq, gs_cmp_gt, gs_ix_n, gs_nz_n, gs_nzl_g, gs_n_div, gs_af1, gs_af0, gs_ck0, gs_ck1, gs_ck2t, gs_ck2f, gs_ck3, gs_ck4, gs_zd_t, gs_zd_f, gs_zt_t, gs_zt_f, gs_nar1, gs_nar0, gs_tn, if_true, if_false, not_true_eq_false, not_false_eq_true]
      rfl
    | succ n ih =>
      intro k hk
      have ha := s_Q_at hC hw hq (k := (k : Int)) (by omega) (by omega)
      have hca := s_Q_countAhead hC hw hq (k := (k : Int)) (by omega) (by omega)
      have hcv := s_A_covers hC hw (hq.1 (k : Int) (by omega) (by omega))
      have cr := gs_cah_rg S k k
      have ek : gs_qa S (k : Int) = S.2.getD k 0 := by unfold gs_qa; rw [gs_tn]
      rw [gs_tn] at hca
      have e := ih (k + 1) (by omega)
      rw [show ((k + 1 : Nat) : Int) = (k : Int) + 1 by omega] at e
      rw [k_G_firstReady_2]
      by_cases c1 : gs_cah S k k = 0
      · rw [c1] at hca
        cases hb : gs_cov S (S.2.getD k 0)
        · have er : gs_rdy S k = false := by unfold gs_rdy; rw [hb, Bool.and_false]
          rw [ek] at hcv ha
          rw [hb] at hcv
          simp (disch := omega) only [e_G_firstReady, k_G_firstReady_0, k_G_firstReady_16, k_G_firstReady_27, k_G_firstReady_30, k_G_firstReady_48, k_G_firstReady_51, k_G_firstReady_54, k_G_firstReady_56, k_G_firstReady_62, hwt, hca, ha, hcv, ↓reduceIte, Int.reduceAdd, Int.reduceSub, Int.reduceMul, Int.reduceToNat, gs_00, gs_ofi, gs_k0_m, gs_k1_m, gs_n8, gs_n16, gs_n_add, gs_n_sub, gs_n_mul, gs_n_neg, gs_m_add, gs_m_sub, gs_m_mul, gs_m_neg, gs_n_l, gs_m_n, gs_n_c, gs_eq_t, gs_eq_f1, gs_eq_f2, gs_lt_t, gs_lt_f, gs_le_t, gs_le_f, gs_cmp_lt, gs_cmp_eq, gs_cmp_gt, gs_ix_n, gs_nz_n, gs_nzl_g, gs_n_div, gs_af1, gs_af0, gs_ck0, gs_ck1, gs_ck2t, gs_ck2f, gs_ck3, gs_ck4, gs_zd_t, gs_zd_f, gs_zt_t, gs_zt_f, gs_nar1, gs_nar0, gs_tn, if_true, if_false, not_true_eq_false, not_false_eq_true]
          simp only [gs_fst, er]
          exact e
        · have er : gs_rdy S k = true := by unfold gs_rdy; rw [hb, Bool.and_true]; exact decide_eq_true c1
          rw [ek] at hcv ha
          rw [hb] at hcv
          simp (disch := omega) only [e_G_firstReady, k_G_firstReady_0, k_G_firstReady_16, k_G_firstReady_27, k_G_firstReady_30, k_G_firstReady_48, k_G_firstReady_51, k_G_firstReady_54, k_G_firstReady_56, k_G_firstReady_62, hwt, hca, ha, hcv, ↓reduceIte, Int.reduceAdd, Int.reduceSub, Int.reduceMul, Int.reduceToNat, gs_00, gs_ofi, gs_k0_m, gs_k1_m, gs_n8, gs_n16, gs_n_add, gs_n_sub, gs_n_mul, gs_n_neg, gs_m_add, gs_m_sub, gs_m_mul, gs_m_neg, gs_n_l, gs_m_n, gs_n_c, gs_eq_t, gs_eq_f1, gs_eq_f2, gs_lt_t, gs_lt_f, gs_le_t, gs_le_f, gs_cmp_lt, gs_cmp_eq, gs_cmp_gt, gs_ix_n, gs_nz_n, gs_nzl_g, gs_n_div, gs_af1, gs_af0, gs_ck0, gs_ck1, gs_ck2t, gs_ck2f, gs_ck3, gs_ck4, gs_zd_t, gs_zd_f, gs_zt_t, gs_zt_f, gs_nar1, gs_nar0, gs_tn, if_true, if_false, not_true_eq_false, not_false_eq_true]
          simp only [gs_fst, er]
          rfl
      · have er : gs_rdy S k = false := by unfold gs_rdy; rw [decide_eq_false c1, Bool.false_and]
        simp (disch := omega) only [e_G_firstReady, k_G_firstReady_0, k_G_firstReady_16, k_G_firstReady_27, k_G_firstReady_30, k_G_firstReady_48, k_G_firstReady_51, k_G_firstReady_54, k_G_firstReady_56, k_G_firstReady_62, hwt, hca, ↓reduceIte, Int.reduceAdd, Int.reduceSub, Int.reduceMul, Int.reduceToNat, gs_00, gs_ofi, gs_k0_m, gs_k1_m, gs_n8, gs_n16, gs_n_add, gs_n_sub, gs_n_mul, gs_n_neg, gs_m_add, gs_m_sub, gs_m_mul, gs_m_neg, gs_n_l, gs_m_n, gs_n_c, gs_eq_t, gs_eq_f1, gs_eq_f2, gs_lt_t, gs_lt_f, gs_le_t, gs_le_f, gs_cmp_lt, gs_cmp_eq, gs_cmp_gt, gs_ix_n, gs_nz_n, gs_nzl_g, gs_n_div, gs_af1, gs_af0, gs_ck0, gs_ck1, gs_ck2t, gs_ck2f, gs_ck3, gs_ck4, gs_zd_t, gs_zd_f, gs_zt_t, gs_zt_f, gs_nar1, gs_nar0, gs_tn, if_true, if_false, not_true_eq_false, not_false_eq_true]
        simp only [gs_fst, er]
        exact e
  have e := key S.2.length 0 (by omega)
  rw [show ((0 : Nat) : Int) = 0 from rfl] at e
  simp (disch := omega) only [e_G_firstReady, k_G_firstReady_0, e, ↓reduceIte, Int.reduceAdd, Int.reduceSub, Int.reduceMul, Int.reduceToNat, gs_00, gs_ofi, gs_k0_m, gs_k1_m, gs_n8, gs_n16, gs_n_add, gs_n_sub, gs_n_mul, gs_n_neg, gs_m_add, gs_m_sub, gs_m_mul, gs_m_neg, gs_n_l, gs_m_n, gs_n_c, gs_eq_t, gs_eq_f1, gs_eq_f2, gs_lt_t, gs_lt_f, gs_le_t, gs_le_f, gs_cmp_lt, gs_cmp_eq, gs_cmp_gt, gs_ix_n, gs_nz_n, gs_nzl_g, gs_n_div, gs_af1, gs_af0, gs_ck0, gs_ck1, gs_ck2t, gs_ck2f, gs_ck3, gs_ck4, gs_zd_t, gs_zd_f, gs_zt_t, gs_zt_f, gs_nar1, gs_nar0, gs_tn, if_true, if_false, not_true_eq_false, not_false_eq_true]
theorem s_G_goThrough (hC : gs_Cl 0 d S) (hw : gs_wb B S) (hq : gs_wq S) (hB : B + 60000000 ≤ 1000000000000) : ∃ d', f_G_goThrough [gs_r 0 0] d = some (some (gs_i (gs_n (gs_thr 10 S).1)), d') ∧ gs_Cl 0 d' (gs_thr 10 S).2 ∧ gs_fr d d' := by
  have key : ∀ (n : Nat) (c : Int) (S : gs_S) (B : Int) (dk : gs_D) (o : Option gs_V), c + n = 10 → 0 ≤ c → B + 6000000 * n ≤ 1000000000000 → gs_Cl 0 dk S → gs_wb B S → gs_wq S → ∃ d', gs_g Y0 P_G_goThrough 2 [some (gs_r 0 0), some (gs_i (gs_n c)), o] [] dk = some (some (gs_i (gs_n (c + (gs_thr n S).1))), d') ∧ gs_Cl 0 d' (gs_thr n S).2 ∧ gs_fr dk d' := by
    intro n
    induction n with
    | zero =>
      intro c S B dk o h1 h2 h3 hC hw hq
      refine ⟨dk, ?_, hC, gs_fr.rf⟩
      have e : c = 10 := by omega
      subst e
      simp (disch := omega) only [e_G_goThrough, k_G_goThrough_0, k_G_goThrough_2, k_G_goThrough_8, k_G_goThrough_12, k_G_goThrough_18, k_G_goThrough_20, k_G_goThrough_38, k_G_goThrough_42, k_G_goThrough_54, k_G_goThrough_60, ↓reduceIte, Int.reduceAdd, Int.reduceSub, Int.reduceMul, Int.reduceToNat, gs_00, gs_ofi, gs_k0_m, gs_k1_m, gs_n8, gs_n16, gs_n_add, gs_n_sub, gs_n_mul, gs_n_neg, gs_m_add, gs_m_sub, gs_m_mul, gs_m_neg, gs_n_l, gs_m_n, gs_n_c, gs_eq_t, gs_eq_f1, gs_eq_f2, gs_lt_t, gs_lt_f, gs_le_t, gs_le_f, gs_cmp_lt, gs_cmp_eq, gs_cmp_gt, gs_ix_n, gs_nz_n, gs_nzl_g, gs_n_div, gs_af1, gs_af0, gs_ck0, gs_ck1, gs_ck2t, gs_ck2f, gs_ck3, gs_ck4, gs_zd_t, gs_zd_f, gs_zt_t, gs_zt_f, gs_nar1, gs_nar0, gs_tn, if_true, if_false, not_true_eq_false, not_false_eq_true]
      rfl
    | succ n ih =>
      intro c S B dk o h1 h2 h3 hC hw hq
      have hfr := s_G_firstReady hC hw hq
      have hl := hq.2
      rw [k_G_goThrough_2]
      cases hf : gs_fst S S.2.length 0 with
      | none =>
        rw [hf] at hfr
        refine ⟨dk, ?_, by simp only [gs_thr, hf]; exact hC, gs_fr.rf⟩
        have hfr' : f_G_firstReady [gs_r 0 0] dk = some (some (gs_i (gs_n (-1))), dk) := hfr
        simp (disch := omega) only [e_G_goThrough, k_G_goThrough_0, k_G_goThrough_8, k_G_goThrough_12, k_G_goThrough_18, k_G_goThrough_20, k_G_goThrough_38, k_G_goThrough_42, k_G_goThrough_54, k_G_goThrough_60, hfr', ↓reduceIte, Int.reduceAdd, Int.reduceSub, Int.reduceMul, Int.reduceToNat, gs_00, gs_ofi, gs_k0_m, gs_k1_m, gs_n8, gs_n16, gs_n_add, gs_n_sub, gs_n_mul, gs_n_neg, gs_m_add, gs_m_sub, gs_m_mul, gs_m_neg, gs_n_l, gs_m_n, gs_n_c, gs_eq_t, gs_eq_f1, gs_eq_f2, gs_lt_t, gs_lt_f, gs_le_t, gs_le_f, gs_cmp_lt, gs_cmp_eq, gs_cmp_gt, gs_ix_n, gs_nz_n, gs_nzl_g, gs_n_div, gs_af1, gs_af0, gs_ck0, gs_ck1, gs_ck2t, gs_ck2f, gs_ck3, gs_ck4, gs_zd_t, gs_zd_f, gs_zt_t, gs_zt_f, gs_nar1, gs_nar0, gs_tn, if_true, if_false, not_true_eq_false, not_false_eq_true]
        simp only [gs_thr, hf, Int.add_zero]
      | some k =>
        have hk := gs_fst_lt hf
        rw [hf] at hfr
        have hfr' : f_G_firstReady [gs_r 0 0] dk = some (some (gs_i (gs_n (k : Int))), dk) := hfr
        have ha := s_Q_at hC hw hq (k := (k : Int)) (by omega) (by omega)
        have hm := hq.1 (k : Int) (by omega) (by omega)
        obtain ⟨d1, e1, c1, f1, -⟩ := s_A_mvd hC hw hm (Or.inl rfl)
        have w1 := gs_wb_mvd hw (Or.inl rfl) hm (by omega)
        have q1 := gs_wq_mvd hq (gs_qa S k) 1
        obtain ⟨d2, e2, c2, f2, -⟩ := s_Q_leave c1 w1 q1 (k := (k : Int)) (st := 1) (by omega) (by show (k : Int) < S.2.length; omega)
        have ek : gs_qa S (k : Int) = S.2.getD k 0 := by unfold gs_qa; rw [gs_tn]
        have es : gs_lv (gs_mvd S (gs_qa S (k : Int)) 1) (k : Int).toNat 1 = gs_stl S k := by rw [ek, gs_tn]; rfl
        rw [es] at c2
        obtain ⟨d3, e3, c3, f3⟩ := ih (c + 1) (gs_stl S k) (B + 6000000) d2 (some (gs_i (gs_n (k : Int)))) (by omega) (by omega) (by omega) c2 (by rw [← es]; exact gs_wb_st w1 _ (by omega) (by omega)) (by rw [← es]; exact gs_wq_lv q1 (by show (k : Int).toNat < S.2.length; omega) 1)
        refine ⟨d3, ?_, by simp only [gs_thr, hf]; exact c3, (f1.tr f2).tr f3⟩
        simp (disch := omega) only [e_G_goThrough, k_G_goThrough_0, k_G_goThrough_8, k_G_goThrough_12, k_G_goThrough_18, k_G_goThrough_20, k_G_goThrough_38, k_G_goThrough_42, k_G_goThrough_54, k_G_goThrough_60, hfr', ha, e1, e2, ↓reduceIte, Int.reduceAdd, Int.reduceSub, Int.reduceMul, Int.reduceToNat, gs_00, gs_ofi, gs_k0_m, gs_k1_m, gs_n8, gs_n16, gs_n_add, gs_n_sub, gs_n_mul, gs_n_neg, gs_m_add, gs_m_sub, gs_m_mul, gs_m_neg, gs_n_l, gs_m_n, gs_n_c, gs_eq_t, gs_eq_f1, gs_eq_f2, gs_lt_t, gs_lt_f, gs_le_t, gs_le_f, gs_cmp_lt, gs_cmp_eq, gs_cmp_gt, gs_ix_n, gs_nz_n, gs_nzl_g, gs_n_div, gs_af1, gs_af0, gs_ck0, gs_ck1, gs_ck2t, gs_ck2f, gs_ck3, gs_ck4, gs_zd_t, gs_zd_f, gs_zt_t, gs_zt_f, gs_nar1, gs_nar0, gs_tn, if_true, if_false, not_true_eq_false, not_false_eq_true]
        rw [e3]
        simp only [gs_thr, hf]
        rw [show c + 1 + (gs_thr n (gs_stl S k)).1 = c + ((gs_thr n (gs_stl S k)).1 + 1) by omega]
  obtain ⟨d', e, c, f⟩ := key 10 0 S B d none (by omega) (by omega) (by omega) hC hw hq
  refine ⟨d', ?_, c, f⟩
  rw [Int.zero_add] at e
  simp (disch := omega) only [e_G_goThrough, k_G_goThrough_0, e, ↓reduceIte, Int.reduceAdd, Int.reduceSub, Int.reduceMul, Int.reduceToNat, gs_00, gs_ofi, gs_k0_m, gs_k1_m, gs_n8, gs_n16, gs_n_add, gs_n_sub, gs_n_mul, gs_n_neg, gs_m_add, gs_m_sub, gs_m_mul, gs_m_neg, gs_n_l, gs_m_n, gs_n_c, gs_eq_t, gs_eq_f1, gs_eq_f2, gs_lt_t, gs_lt_f, gs_le_t, gs_le_f, gs_cmp_lt, gs_cmp_eq, gs_cmp_gt, gs_ix_n, gs_nz_n, gs_nzl_g, gs_n_div, gs_af1, gs_af0, gs_ck0, gs_ck1, gs_ck2t, gs_ck2f, gs_ck3, gs_ck4, gs_zd_t, gs_zd_f, gs_zt_t, gs_zt_f, gs_nar1, gs_nar0, gs_tn, if_true, if_false, not_true_eq_false, not_false_eq_true]
end GO
