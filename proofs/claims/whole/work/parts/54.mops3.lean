-- terms, the day, sync and crash of the model
section MX
variable {d : gs_D} {S : gs_S} {B : Int}
theorem gs_rm_tm (S : gs_S) (s pr hc : Int) {x : Int} (h : 18 ≤ x ∨ ¬ x % 3 = 0) : gs_rm (gs_tm S s pr hc) x = gs_rm S x := by
  have o : ∀ a c, a ≠ 2 → a ≠ 3 → (gs_tm S s pr hc).1 a c = S.1 a c := fun a c h h' => by
    unfold gs_tm
    rw [gs_u_o _ _ _ _ c h', gs_u_o _ _ _ _ c h]
  unfold gs_rm
  by_cases c : 18 ≤ x
  · rw [if_pos c, if_pos c, o 4 _ (by decide) (by decide), o 5 _ (by decide) (by decide)]
  · rw [if_neg c, if_neg c, if_neg (by omega), if_neg (by omega), o 0 _ (by decide) (by decide)]
theorem gs_flo_tm (hg : gs_wg S) (s pr hc : Int) : gs_flo (gs_tm S s pr hc) = true ↔ ∀ p : Int, 0 ≤ p → p < 6 → 0 ≤ gs_ab (gs_tm S s pr hc) p := by
  rw [gs_flo_iff]
  have e : ∀ p : Int, p < 6 → gs_ab (gs_tm S s pr hc) p = gs_rm (gs_tm S s pr hc) (p * 3) := fun p h => by
    unfold gs_ab
    rw [if_neg (by omega), gs_cp_1 h]
  constructor
  · intro h p p0 p1
    rw [e p p1]
    exact h _ (by omega) (by omega)
  · intro h x x0 x1
    by_cases c : 18 ≤ x ∨ ¬ x % 3 = 0
    · rw [gs_rm_tm S s pr hc c]
      exact hg x x0 x1
    · have := h (x / 3) (by omega) (by omega)
      rw [e _ (by omega), show x / 3 * 3 = x by omega] at this
      exact this
theorem s_M_terms (hM : gs_Mo 21 d S) (hw : gs_wb B S) (hg : gs_wg S) {s pr hc : Int} (s1 : -2147483648 ≤ s) (s2 : s < 2147483648) (r1 : -2147483648 ≤ pr) (r2 : pr < 2147483648) (h1 : -2147483648 ≤ hc) (h2 : hc < 2147483648) : ∃ d', f_M_terms [gs_r 20 0, gs_i (gs_n s), gs_i (gs_n pr), gs_i (gs_n hc)] d = some (some (gs_i (gs_n (o_terms S s pr hc).1)), d') ∧ gs_Mo 21 d' (o_terms S s pr hc).2 ∧ gs_mf d d' := by
  have hd := s_M_day hM hw
  have h6 := hw.2.2.1.1
  have h61 := hw.2.2.1.2.1
  unfold o_terms
  by_cases c : ((1 ≤ s ∧ s < 3) ∧ (0 ≤ pr ∧ pr ≤ 1000) ∧ (0 ≤ hc ∧ hc ≤ 100)) ∧ S.1 6 0 = 0
  · rw [if_pos c]
    have i1 : (29 + s).toNat = 29 + s.toNat := by omega
    have i2 : (31 + s).toNat = 31 + s.toNat := by omega
    have q1 : d.2 21 0 (29 + s.toNat) = gs_m (S.1 2 s.toNat) := by
      rw [hM _ (by omega) (by omega) (by omega), gs_mr_r (by omega) (by omega), show 29 + s.toNat - 29 = s.toNat by omega]
    have q2 : d.2 21 0 (31 + s.toNat) = gs_m (S.1 3 s.toNat) := by
      rw [hM _ (by omega) (by omega) (by omega), gs_mr_c (by omega) (by omega), show 31 + s.toNat - 31 = s.toNat by omega]
    have c1 : gs_Mo 21 (gs_wL d 21 0 (29 + s.toNat) (gs_m pr)) (gs_u S 2 s.toNat pr) := hM.w (gs_u_o S 2 _ _ 1 (by decide)) fun n => Or.inl (gs_mr_u2 S (by omega) (by omega) pr n)
    have c2 : gs_Mo 21 (gs_wL (gs_wL d 21 0 (29 + s.toNat) (gs_m pr)) 21 0 (31 + s.toNat) (gs_m hc)) (gs_tm S s pr hc) := c1.w (gs_u_o (gs_u S 2 s.toNat pr) 3 _ _ 1 (by decide)) fun n => Or.inl (gs_mr_u3 _ (by omega) (by omega) hc n)
    have w2 := gs_wb_tm hw (s := s) (pr := pr) (hc := hc) (by omega) (by omega) (by omega) (by omega)
    have key : ∀ (n : Nat) (p : Int) (b : Bool), 0 ≤ p → p + n = 6 → (b = true ↔ ∀ q : Int, 0 ≤ q → q < p → 0 ≤ gs_ab (gs_tm S s pr hc) q) → gs_g Y0 P_M_terms 85 [some (gs_r 20 0), some (gs_i (gs_n s)), some (gs_i (gs_n pr)), some (gs_i (gs_n hc)), some (gs_l (gs_m (S.1 2 s.toNat))), none, some (gs_l (gs_m (S.1 3 s.toNat))), none, some (gs_i (gs_n (gs_z b))), some (gs_i (gs_n p))] [] (gs_wL (gs_wL d 21 0 (29 + s.toNat) (gs_m pr)) 21 0 (31 + s.toNat) (gs_m hc)) = gs_g Y0 P_M_terms 121 [some (gs_r 20 0), some (gs_i (gs_n s)), some (gs_i (gs_n pr)), some (gs_i (gs_n hc)), some (gs_l (gs_m (S.1 2 s.toNat))), none, some (gs_l (gs_m (S.1 3 s.toNat))), none, some (gs_i (gs_n (gs_z (gs_flo (gs_tm S s pr hc))))), some (gs_i (gs_n 6))] [] (gs_wL (gs_wL d 21 0 (29 + s.toNat) (gs_m pr)) 21 0 (31 + s.toNat) (gs_m hc)) := by
      intro n
      induction n with
      | zero =>
        intro p b p0 p1 hb
        have e6 : p = 6 := by omega
        subst e6
        have e : b = gs_flo (gs_tm S s pr hc) := by rw [Bool.eq_iff_iff, hb, gs_flo_tm hg]
        subst e
        rw [k_M_terms_85]
        simp (disch := omega) only [↓reduceIte, Int.reduceAdd, Int.reduceSub, Int.reduceMul, Int.reduceToNat, gs_00, gs_ofi, gs_k0_m, gs_k1_m, gs_n8, gs_n16, gs_n_add, gs_n_sub, gs_n_mul, gs_n_neg, gs_m_add, gs_m_sub, gs_m_mul, gs_m_neg, gs_n_l, gs_m_n, gs_n_c, gs_eq_t, gs_eq_f1, gs_eq_f2, gs_lt_t, gs_lt_f, gs_le_t, gs_le_f, gs_cmp_lt, gs_cmp_eq, gs_cmp_gt, gs_ix_n, gs_nz_n, gs_nzl_g, gs_n_div, gs_af1, gs_af0, gs_ck0, gs_ck1, gs_ck2t, gs_ck2f, gs_ck3, gs_ck4, gs_zd_t, gs_zd_f, gs_zt_t, gs_zt_f, gs_nar1, gs_nar0, gs_tn, if_true, if_false, not_true_eq_false, not_false_eq_true]
      | succ n ih =>
        intro p b p0 p1 hb
        have ab := s_M_above c2 w2 (x := p) p0 (by omega)
        have rg := gs_ab_rg w2 (x := p) p0 (by omega)
        have go : ∀ b' : Bool, (b' = true ↔ (b = true ∧ 0 ≤ gs_ab (gs_tm S s pr hc) p)) → (b' = true ↔ ∀ q : Int, 0 ≤ q → q < p + 1 → 0 ≤ gs_ab (gs_tm S s pr hc) q) := by
          intro b' h
          rw [h, hb]
          constructor
          · intro z q q0 q1
            by_cases y : q = p
            · rw [y]; exact z.2
            · exact z.1 q q0 (by omega)
          · intro z
            exact ⟨fun q q0 q1 => z q q0 (by omega), z p p0 (by omega)⟩
        rw [k_M_terms_85]
        cases b with
        | false =>
          have e := ih (p + 1) false (by omega) (by omega) (go false (by simp))
          simp (disch := omega) only [k_M_terms_92, k_M_terms_112, ↓reduceIte, Int.reduceAdd, Int.reduceSub, Int.reduceMul, Int.reduceToNat, gs_00, gs_ofi, gs_k0_m, gs_k1_m, gs_n8, gs_n16, gs_n_add, gs_n_sub, gs_n_mul, gs_n_neg, gs_m_add, gs_m_sub, gs_m_mul, gs_m_neg, gs_n_l, gs_m_n, gs_n_c, gs_eq_t, gs_eq_f1, gs_eq_f2, gs_lt_t, gs_lt_f, gs_le_t, gs_le_f, gs_cmp_lt, gs_cmp_eq, gs_cmp_gt, gs_ix_n, gs_nz_n, gs_nzl_g, gs_n_div, gs_af1, gs_af0, gs_ck0, gs_ck1, gs_ck2t, gs_ck2f, gs_ck3, gs_ck4, gs_zd_t, gs_zd_f, gs_zt_t, gs_zt_f, gs_nar1, gs_nar0, gs_tn, if_true, if_false, not_true_eq_false, not_false_eq_true] at e ⊢
          exact e
        | true =>
          by_cases c3 : 0 ≤ gs_ab (gs_tm S s pr hc) p
          · have e := ih (p + 1) true (by omega) (by omega) (go true (by simp [c3]))
            by_cases c4 : gs_ab (gs_tm S s pr hc) p = 0
            · simp (disch := omega) only [k_M_terms_92, k_M_terms_97, k_M_terms_103, k_M_terms_108, ab, ↓reduceIte, Int.reduceAdd, Int.reduceSub, Int.reduceMul, Int.reduceToNat, gs_00, gs_ofi, gs_k0_m, gs_k1_m, gs_n8, gs_n16, gs_n_add, gs_n_sub, gs_n_mul, gs_n_neg, gs_m_add, gs_m_sub, gs_m_mul, gs_m_neg, gs_n_l, gs_m_n, gs_n_c, gs_eq_t, gs_eq_f1, gs_eq_f2, gs_lt_t, gs_lt_f, gs_le_t, gs_le_f, gs_cmp_lt, gs_cmp_eq, gs_cmp_gt, gs_ix_n, gs_nz_n, gs_nzl_g, gs_n_div, gs_af1, gs_af0, gs_ck0, gs_ck1, gs_ck2t, gs_ck2f, gs_ck3, gs_ck4, gs_zd_t, gs_zd_f, gs_zt_t, gs_zt_f, gs_nar1, gs_nar0, gs_tn, if_true, if_false, not_true_eq_false, not_false_eq_true] at e ⊢
              exact e
            · simp (disch := omega) only [k_M_terms_92, k_M_terms_97, k_M_terms_103, k_M_terms_108, ab, ↓reduceIte, Int.reduceAdd, Int.reduceSub, Int.reduceMul, Int.reduceToNat, gs_00, gs_ofi, gs_k0_m, gs_k1_m, gs_n8, gs_n16, gs_n_add, gs_n_sub, gs_n_mul, gs_n_neg, gs_m_add, gs_m_sub, gs_m_mul, gs_m_neg, gs_n_l, gs_m_n, gs_n_c, gs_eq_t, gs_eq_f1, gs_eq_f2, gs_lt_t, gs_lt_f, gs_le_t, gs_le_f, gs_cmp_lt, gs_cmp_eq, gs_cmp_gt, gs_ix_n, gs_nz_n, gs_nzl_g, gs_n_div, gs_af1, gs_af0, gs_ck0, gs_ck1, gs_ck2t, gs_ck2f, gs_ck3, gs_ck4, gs_zd_t, gs_zd_f, gs_zt_t, gs_zt_f, gs_nar1, gs_nar0, gs_tn, if_true, if_false, not_true_eq_false, not_false_eq_true] at e ⊢
              exact e
          · have e := ih (p + 1) false (by omega) (by omega) (go false (by simp [c3]))
            simp (disch := omega) only [k_M_terms_92, k_M_terms_97, k_M_terms_103, k_M_terms_112, ab, ↓reduceIte, Int.reduceAdd, Int.reduceSub, Int.reduceMul, Int.reduceToNat, gs_00, gs_ofi, gs_k0_m, gs_k1_m, gs_n8, gs_n16, gs_n_add, gs_n_sub, gs_n_mul, gs_n_neg, gs_m_add, gs_m_sub, gs_m_mul, gs_m_neg, gs_n_l, gs_m_n, gs_n_c, gs_eq_t, gs_eq_f1, gs_eq_f2, gs_lt_t, gs_lt_f, gs_le_t, gs_le_f, gs_cmp_lt, gs_cmp_eq, gs_cmp_gt, gs_ix_n, gs_nz_n, gs_nzl_g, gs_n_div, gs_af1, gs_af0, gs_ck0, gs_ck1, gs_ck2t, gs_ck2f, gs_ck3, gs_ck4, gs_zd_t, gs_zd_f, gs_zt_t, gs_zt_f, gs_nar1, gs_nar0, gs_tn, if_true, if_false, not_true_eq_false, not_false_eq_true] at e ⊢
            exact e
    have e := key 6 0 true (by omega) (by omega) (by
      constructor
      · intro _ q q0 q1; omega
      · intro _; rfl)
    rw [gs_zt_t] at e
    have st : f_M_terms [gs_r 20 0, gs_i (gs_n s), gs_i (gs_n pr), gs_i (gs_n hc)] d = gs_ck 2 (gs_g Y0 P_M_terms 121 [some (gs_r 20 0), some (gs_i (gs_n s)), some (gs_i (gs_n pr)), some (gs_i (gs_n hc)), some (gs_l (gs_m (S.1 2 s.toNat))), none, some (gs_l (gs_m (S.1 3 s.toNat))), none, some (gs_i (gs_n (gs_z (gs_flo (gs_tm S s pr hc))))), some (gs_i (gs_n 6))] [] (gs_wL (gs_wL d 21 0 (29 + s.toNat) (gs_m pr)) 21 0 (31 + s.toNat) (gs_m hc))) := by
      rw [← e]
      simp (disch := omega) only [e_M_terms, k_M_terms_0, k_M_terms_4, k_M_terms_7, k_M_terms_14, k_M_terms_17, k_M_terms_23, k_M_terms_26, k_M_terms_30, k_M_terms_35, k_M_terms_44, k_M_terms_55, k_M_terms_68, k_M_terms_79, s_M_security, s_M_within, hd, i1, i2, q1, q2, ↓reduceIte, Int.reduceAdd, Int.reduceSub, Int.reduceMul, Int.reduceToNat, gs_00, gs_ofi, gs_k0_m, gs_k1_m, gs_n8, gs_n16, gs_n_add, gs_n_sub, gs_n_mul, gs_n_neg, gs_m_add, gs_m_sub, gs_m_mul, gs_m_neg, gs_n_l, gs_m_n, gs_n_c, gs_eq_t, gs_eq_f1, gs_eq_f2, gs_lt_t, gs_lt_f, gs_le_t, gs_le_f, gs_cmp_lt, gs_cmp_eq, gs_cmp_gt, gs_ix_n, gs_nz_n, gs_nzl_g, gs_n_div, gs_af1, gs_af0, gs_ck0, gs_ck1, gs_ck2t, gs_ck2f, gs_ck3, gs_ck4, gs_zd_t, gs_zd_f, gs_zt_t, gs_zt_f, gs_nar1, gs_nar0, gs_tn, if_true, if_false, not_true_eq_false, not_false_eq_true]
    cases hf : gs_flo (gs_tm S s pr hc)
    · rw [hf] at st
      rw [if_neg (by decide)]
      have c3 : gs_Mo 21 (gs_wL (gs_wL (gs_wL d 21 0 (29 + s.toNat) (gs_m pr)) 21 0 (31 + s.toNat) (gs_m hc)) 21 0 (29 + s.toNat) (gs_m (S.1 2 s.toNat))) (gs_u (gs_tm S s pr hc) 2 s.toNat (S.1 2 s.toNat)) := c2.w (gs_u_o _ 2 _ _ 1 (by decide)) fun n => Or.inl (gs_mr_u2 _ (by omega) (by omega) _ n)
      have c4 : gs_Mo 21 (gs_wL (gs_wL (gs_wL (gs_wL d 21 0 (29 + s.toNat) (gs_m pr)) 21 0 (31 + s.toNat) (gs_m hc)) 21 0 (29 + s.toNat) (gs_m (S.1 2 s.toNat))) 21 0 (31 + s.toNat) (gs_m (S.1 3 s.toNat))) (gs_u (gs_u (gs_tm S s pr hc) 2 s.toNat (S.1 2 s.toNat)) 3 s.toNat (S.1 3 s.toNat)) := c3.w (gs_u_o _ 3 _ _ 1 (by decide)) fun n => Or.inl (gs_mr_u3 _ (by omega) (by omega) _ n)
      refine ⟨_, ?_, c4.cg (fun f j => ?_), gs_rf.rf.w.w.w.w.mf⟩
      · rw [st]
        simp (disch := omega) only [k_M_terms_121, k_M_terms_126, k_M_terms_137, k_M_terms_148, i1, i2, ↓reduceIte, Int.reduceAdd, Int.reduceSub, Int.reduceMul, Int.reduceToNat, gs_00, gs_ofi, gs_k0_m, gs_k1_m, gs_n8, gs_n16, gs_n_add, gs_n_sub, gs_n_mul, gs_n_neg, gs_m_add, gs_m_sub, gs_m_mul, gs_m_neg, gs_n_l, gs_m_n, gs_n_c, gs_eq_t, gs_eq_f1, gs_eq_f2, gs_lt_t, gs_lt_f, gs_le_t, gs_le_f, gs_cmp_lt, gs_cmp_eq, gs_cmp_gt, gs_ix_n, gs_nz_n, gs_nzl_g, gs_n_div, gs_af1, gs_af0, gs_ck0, gs_ck1, gs_ck2t, gs_ck2f, gs_ck3, gs_ck4, gs_zd_t, gs_zd_f, gs_zt_t, gs_zt_f, gs_nar1, gs_nar0, gs_tn, if_true, if_false, not_true_eq_false, not_false_eq_true]
      · show S.1 f j = _
        by_cases y3 : f = 3 ∧ j = s.toNat
        · rw [y3.1, y3.2, gs_u_s]
        · rw [gs_u_j _ _ y3]
          by_cases y2 : f = 2 ∧ j = s.toNat
          · rw [y2.1, y2.2, gs_u_s]
          · unfold gs_tm
            rw [gs_u_j _ _ y2, gs_u_j _ _ y3, gs_u_j _ _ y2]
    · rw [hf] at st
      rw [if_pos rfl]
      refine ⟨_, ?_, c2, gs_rf.rf.w.w.mf⟩
      rw [st]
      simp (disch := omega) only [k_M_terms_121, k_M_terms_148, ↓reduceIte, Int.reduceAdd, Int.reduceSub, Int.reduceMul, Int.reduceToNat, gs_00, gs_ofi, gs_k0_m, gs_k1_m, gs_n8, gs_n16, gs_n_add, gs_n_sub, gs_n_mul, gs_n_neg, gs_m_add, gs_m_sub, gs_m_mul, gs_m_neg, gs_n_l, gs_m_n, gs_n_c, gs_eq_t, gs_eq_f1, gs_eq_f2, gs_lt_t, gs_lt_f, gs_le_t, gs_le_f, gs_cmp_lt, gs_cmp_eq, gs_cmp_gt, gs_ix_n, gs_nz_n, gs_nzl_g, gs_n_div, gs_af1, gs_af0, gs_ck0, gs_ck1, gs_ck2t, gs_ck2f, gs_ck3, gs_ck4, gs_zd_t, gs_zd_f, gs_zt_t, gs_zt_f, gs_nar1, gs_nar0, gs_tn, if_true, if_false, not_true_eq_false, not_false_eq_true]
  · rw [if_neg c]
    refine ⟨d, ?_, hM, gs_mf.rf⟩
    simp (disch := omega) only [e_M_terms, k_M_terms_0, k_M_terms_4, k_M_terms_7, k_M_terms_14, k_M_terms_17, k_M_terms_23, k_M_terms_26, k_M_terms_30, k_M_terms_33, s_M_security, s_M_within, hd, gs_zd0, gs_00, gs_ofi, gs_k0_m, gs_k1_m, gs_n8, gs_n16, gs_n_add, gs_n_sub, gs_n_mul, gs_n_neg, gs_m_add, gs_m_sub, gs_m_mul, gs_m_neg, gs_n_l, gs_m_n, gs_n_c, gs_eq_iff, gs_lt_iff, gs_le_iff, gs_cge, gs_clt, gs_cle, gs_cgt, gs_ceq, gs_ix_n, gs_nz_n, gs_nzl_g, gs_n_div, gs_af1, gs_af0, gs_ck_ite, gs_ck0, gs_ck1, gs_ck2t, gs_ck2f, gs_ck3, gs_ck4, gs_nar1, gs_nar0, gs_tn, if_true, if_false, not_true_eq_false, not_false_eq_true]
    repeat' split
    all_goals first | rfl | (exfalso; omega)
theorem s_M_sync (hM : gs_Mo 21 d S) : ∃ d', f_M_sync [gs_r 20 0] d = some (none, d') ∧ (∀ n, n < 430 → d'.2 22 0 n = d.2 21 0 n) ∧ d'.1 = d.1 ∧ (∀ t, t ≠ 22 → d'.2 t = d.2 t) := by
  have key : ∀ (n : Nat) (k : Int) (dk : gs_D), 0 ≤ k → k + n = 430 → (∀ m : Nat, (m : Int) < k → dk.2 22 0 m = d.2 21 0 m) → dk.1 = d.1 → (∀ t, t ≠ 22 → dk.2 t = d.2 t) → ∃ d', gs_g Y0 P_M_sync 2 [some (gs_r 20 0), some (gs_i (gs_n k))] [] dk = some (none, d') ∧ (∀ n, n < 430 → d'.2 22 0 n = d.2 21 0 n) ∧ d'.1 = d.1 ∧ (∀ t, t ≠ 22 → d'.2 t = d.2 t) := by
    intro n
    induction n with
    | zero =>
      intro k dk k0 k1 h1 h2 h3
      refine ⟨dk, ?_, fun m hm => h1 m (by omega), h2, h3⟩
      rw [k_M_sync_2]
      simp (disch := omega) only [k_M_sync_27, ↓reduceIte, Int.reduceAdd, Int.reduceSub, Int.reduceMul, Int.reduceToNat, gs_00, gs_ofi, gs_k0_m, gs_k1_m, gs_n8, gs_n16, gs_n_add, gs_n_sub, gs_n_mul, gs_n_neg, gs_m_add, gs_m_sub, gs_m_mul, gs_m_neg, gs_n_l, gs_m_n, gs_n_c, gs_eq_t, gs_eq_f1, gs_eq_f2, gs_lt_t, gs_lt_f, gs_le_t, gs_le_f, gs_cmp_lt, gs_cmp_eq, gs_cmp_gt, gs_ix_n, gs_nz_n, gs_nzl_g, gs_n_div, gs_af1, gs_af0, gs_ck0, gs_ck1, gs_ck2t, gs_ck2f, gs_ck3, gs_ck4, gs_zd_t, gs_zd_f, gs_zt_t, gs_zt_f, gs_nar1, gs_nar0, gs_tn, if_true, if_false, not_true_eq_false, not_false_eq_true]
    | succ n ih =>
      intro k dk k0 k1 h1 h2 h3
      obtain ⟨d', e, r⟩ := ih (k + 1) (gs_wL dk 22 0 k.toNat (dk.2 21 0 k.toNat)) (by omega) (by omega) (fun m hm => by
          by_cases z : m = k.toNat
          · rw [z, gs_wL_s, h3 21 (by decide)]
          · rw [gs_wL_o (by omega)]
            exact h1 m (by omega)) h2 (fun t ht => by
          rw [← h3 t ht]
          funext i j
          exact gs_wL_o (by omega))
      refine ⟨d', ?_, r⟩
      rw [k_M_sync_2]
      simp (disch := omega) only [e_M_sync, k_M_sync_0, k_M_sync_9, k_M_sync_20, k_M_sync_21, k_M_sync_27, ↓reduceIte, Int.reduceAdd, Int.reduceSub, Int.reduceMul, Int.reduceToNat, gs_00, gs_ofi, gs_k0_m, gs_k1_m, gs_n8, gs_n16, gs_n_add, gs_n_sub, gs_n_mul, gs_n_neg, gs_m_add, gs_m_sub, gs_m_mul, gs_m_neg, gs_n_l, gs_m_n, gs_n_c, gs_eq_t, gs_eq_f1, gs_eq_f2, gs_lt_t, gs_lt_f, gs_le_t, gs_le_f, gs_cmp_lt, gs_cmp_eq, gs_cmp_gt, gs_ix_n, gs_nz_n, gs_nzl_g, gs_n_div, gs_af1, gs_af0, gs_ck0, gs_ck1, gs_ck2t, gs_ck2f, gs_ck3, gs_ck4, gs_zd_t, gs_zd_f, gs_zt_t, gs_zt_f, gs_nar1, gs_nar0, gs_tn, if_true, if_false, not_true_eq_false, not_false_eq_true]
      exact e
  obtain ⟨d', e, r⟩ := key 430 0 d (by omega) (by omega) (fun m hm => by omega) rfl (fun _ _ => rfl)
  refine ⟨d', ?_, r⟩
  simp (disch := omega) only [e_M_sync, k_M_sync_0, e, ↓reduceIte, Int.reduceAdd, Int.reduceSub, Int.reduceMul, Int.reduceToNat, gs_00, gs_ofi, gs_k0_m, gs_k1_m, gs_n8, gs_n16, gs_n_add, gs_n_sub, gs_n_mul, gs_n_neg, gs_m_add, gs_m_sub, gs_m_mul, gs_m_neg, gs_n_l, gs_m_n, gs_n_c, gs_eq_t, gs_eq_f1, gs_eq_f2, gs_lt_t, gs_lt_f, gs_le_t, gs_le_f, gs_cmp_lt, gs_cmp_eq, gs_cmp_gt, gs_ix_n, gs_nz_n, gs_nzl_g, gs_n_div, gs_af1, gs_af0, gs_ck0, gs_ck1, gs_ck2t, gs_ck2f, gs_ck3, gs_ck4, gs_zd_t, gs_zd_f, gs_zt_t, gs_zt_f, gs_nar1, gs_nar0, gs_tn, if_true, if_false, not_true_eq_false, not_false_eq_true]
theorem s_M_crash : ∃ d', f_M_crash [gs_r 20 0] d = some (none, d') ∧ (∀ n, n < 430 → d'.2 21 0 n = d.2 22 0 n) ∧ d'.1 = d.1 ∧ (∀ t, t ≠ 21 → d'.2 t = d.2 t) := by
  have key : ∀ (n : Nat) (k : Int) (dk : gs_D), 0 ≤ k → k + n = 430 → (∀ m : Nat, (m : Int) < k → dk.2 21 0 m = d.2 22 0 m) → dk.1 = d.1 → (∀ t, t ≠ 21 → dk.2 t = d.2 t) → ∃ d', gs_g Y0 P_M_crash 2 [some (gs_r 20 0), some (gs_i (gs_n k))] [] dk = some (none, d') ∧ (∀ n, n < 430 → d'.2 21 0 n = d.2 22 0 n) ∧ d'.1 = d.1 ∧ (∀ t, t ≠ 21 → d'.2 t = d.2 t) := by
    intro n
    induction n with
    | zero =>
      intro k dk k0 k1 h1 h2 h3
      refine ⟨dk, ?_, fun m hm => h1 m (by omega), h2, h3⟩
      rw [k_M_crash_2]
      simp (disch := omega) only [k_M_crash_27, ↓reduceIte, Int.reduceAdd, Int.reduceSub, Int.reduceMul, Int.reduceToNat, gs_00, gs_ofi, gs_k0_m, gs_k1_m, gs_n8, gs_n16, gs_n_add, gs_n_sub, gs_n_mul, gs_n_neg, gs_m_add, gs_m_sub, gs_m_mul, gs_m_neg, gs_n_l, gs_m_n, gs_n_c, gs_eq_t, gs_eq_f1, gs_eq_f2, gs_lt_t, gs_lt_f, gs_le_t, gs_le_f, gs_cmp_lt, gs_cmp_eq, gs_cmp_gt, gs_ix_n, gs_nz_n, gs_nzl_g, gs_n_div, gs_af1, gs_af0, gs_ck0, gs_ck1, gs_ck2t, gs_ck2f, gs_ck3, gs_ck4, gs_zd_t, gs_zd_f, gs_zt_t, gs_zt_f, gs_nar1, gs_nar0, gs_tn, if_true, if_false, not_true_eq_false, not_false_eq_true]
    | succ n ih =>
      intro k dk k0 k1 h1 h2 h3
      obtain ⟨d', e, r⟩ := ih (k + 1) (gs_wL dk 21 0 k.toNat (dk.2 22 0 k.toNat)) (by omega) (by omega) (fun m hm => by
          by_cases z : m = k.toNat
          · rw [z, gs_wL_s, h3 22 (by decide)]
          · rw [gs_wL_o (by omega)]
            exact h1 m (by omega)) h2 (fun t ht => by
          rw [← h3 t ht]
          funext i j
          exact gs_wL_o (by omega))
      refine ⟨d', ?_, r⟩
      rw [k_M_crash_2]
      simp (disch := omega) only [e_M_crash, k_M_crash_0, k_M_crash_9, k_M_crash_20, k_M_crash_21, k_M_crash_27, ↓reduceIte, Int.reduceAdd, Int.reduceSub, Int.reduceMul, Int.reduceToNat, gs_00, gs_ofi, gs_k0_m, gs_k1_m, gs_n8, gs_n16, gs_n_add, gs_n_sub, gs_n_mul, gs_n_neg, gs_m_add, gs_m_sub, gs_m_mul, gs_m_neg, gs_n_l, gs_m_n, gs_n_c, gs_eq_t, gs_eq_f1, gs_eq_f2, gs_lt_t, gs_lt_f, gs_le_t, gs_le_f, gs_cmp_lt, gs_cmp_eq, gs_cmp_gt, gs_ix_n, gs_nz_n, gs_nzl_g, gs_n_div, gs_af1, gs_af0, gs_ck0, gs_ck1, gs_ck2t, gs_ck2f, gs_ck3, gs_ck4, gs_zd_t, gs_zd_f, gs_zt_t, gs_zt_f, gs_nar1, gs_nar0, gs_tn, if_true, if_false, not_true_eq_false, not_false_eq_true]
      exact e
  obtain ⟨d', e, r⟩ := key 430 0 d (by omega) (by omega) (fun m hm => by omega) rfl (fun _ _ => rfl)
  refine ⟨d', ?_, r⟩
  simp (disch := omega) only [e_M_crash, k_M_crash_0, e, ↓reduceIte, Int.reduceAdd, Int.reduceSub, Int.reduceMul, Int.reduceToNat, gs_00, gs_ofi, gs_k0_m, gs_k1_m, gs_n8, gs_n16, gs_n_add, gs_n_sub, gs_n_mul, gs_n_neg, gs_m_add, gs_m_sub, gs_m_mul, gs_m_neg, gs_n_l, gs_m_n, gs_n_c, gs_eq_t, gs_eq_f1, gs_eq_f2, gs_lt_t, gs_lt_f, gs_le_t, gs_le_f, gs_cmp_lt, gs_cmp_eq, gs_cmp_gt, gs_ix_n, gs_nz_n, gs_nzl_g, gs_n_div, gs_af1, gs_af0, gs_ck0, gs_ck1, gs_ck2t, gs_ck2f, gs_ck3, gs_ck4, gs_zd_t, gs_zd_f, gs_zt_t, gs_zt_f, gs_nar1, gs_nar0, gs_tn, if_true, if_false, not_true_eq_false, not_false_eq_true]
end MX
