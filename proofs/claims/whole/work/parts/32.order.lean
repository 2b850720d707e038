-- the model's queue
def gs_Qu (d : gs_D) (l : List Nat) : Prop := d.1 20 0 3 = gs_n l.length ∧ ∀ k : Int, 0 ≤ k → k < l.length → d.1 23 0 k.toNat = gs_n (l.getD k.toNat 0 : Nat)
/-- only the model's queue is changed -/
def gs_qf (d d' : gs_D) : Prop := d'.2 = d.2 ∧ ∀ t, t ≠ 20 → t ≠ 23 → d'.1 t = d.1 t
theorem gs_qf.rf {d : gs_D} : gs_qf d d := ⟨rfl, fun _ _ _ => rfl⟩
theorem gs_qf.tr {d d' d'' : gs_D} (h : gs_qf d d') (h2 : gs_qf d' d'') : gs_qf d d'' := ⟨h2.1.trans h.1, fun t a b => (h2.2 t a b).trans (h.2 t a b)⟩
theorem gs_qf.w {d d' : gs_D} {t i j : Nat} {x : Int32} (h : gs_qf d d') (ht : t = 20 ∨ t = 23) : gs_qf d (gs_wI d' t i j x) := ⟨h.1, fun s a b => by
  rw [← h.2 s a b]
  funext p q
  exact gs_wI_o (by omega)⟩
theorem gs_qf.Mo {d d' : gs_D} {t : Nat} {S : gs_S} (h : gs_qf d d') (hM : gs_Mo t d S) : gs_Mo t d' S := fun n a b c => by rw [h.1]; exact hM n a b c
theorem gs_wp_s (S : gs_S) (c : Nat) (pr : Int) : gs_wp S (c + 1) pr = gs_wp S c pr ++ if S.1 (10 + c) 6 = 0 ∧ S.1 (10 + c) 5 = pr then [c] else [] := by
  unfold gs_wp
  rw [List.range_succ, List.filter_append]
  congr 1
  by_cases h : S.1 (10 + c) 6 = 0 ∧ S.1 (10 + c) 5 = pr
  · rw [if_pos h]
    simp [h]
  · rw [if_neg h]
    simp [h]
theorem gs_Qu.push {d : gs_D} {l : List Nat} {i : Nat} (h : gs_Qu d l) : gs_Qu (gs_wI (gs_wI d 23 0 l.length (gs_n i)) 20 0 3 (gs_n (l.length + 1))) (l ++ [i]) := by
  refine ⟨?_, fun k k0 k1 => ?_⟩
  · rw [List.length_append]
    exact gs_wI_s
  · rw [List.length_append] at k1
    have e : (gs_wI (gs_wI d 23 0 l.length (gs_n i)) 20 0 3 (gs_n (l.length + 1))).1 23 0 k.toNat = (gs_wI d 23 0 l.length (gs_n i)).1 23 0 k.toNat := gs_wI_o (by omega)
    rw [e, List.getD_eq_getElem?_getD, List.getElem?_append]
    by_cases c : k.toNat < l.length
    · rw [if_pos c, show (gs_wI d 23 0 l.length (gs_n i)).1 23 0 k.toNat = d.1 23 0 k.toNat from gs_wI_o (by omega), h.2 k k0 (by omega), List.getD_eq_getElem?_getD]
    · have : k.toNat = l.length := by
        have : [i].length = 1 := rfl
        omega
      rw [if_neg c, this, Nat.sub_self]
      exact gs_wI_s
section MO
variable {d : gs_D} {S : gs_S} {B : Int}
theorem s_M_order_in (hM : gs_Mo 21 d S) (hw : gs_wb B S) {pr : Int} (p0 : 0 ≤ pr) (p1 : pr < 3) {l0 : List Nat} (hl : (l0 ++ gs_wp S (S.1 6 1).toNat pr).length ≤ 10) : ∀ (n : Nat) (i : Nat) (dk : gs_D), (i : Int) + n = S.1 6 1 → gs_Qu dk (l0 ++ gs_wp S i pr) → gs_qf d dk →
    ∃ d', gs_g Y0 P_M_order 14 [some (gs_r 20 0), some (gs_i (gs_n pr)), some (gs_i (gs_n i))] [] dk = gs_g Y0 P_M_order 7 [some (gs_r 20 0), some (gs_i (gs_n (pr + 1))), some (gs_i (gs_n (S.1 6 1)))] [] d' ∧ gs_Qu d' (l0 ++ gs_wp S (S.1 6 1).toNat pr) ∧ gs_qf d d' := by
  have hc := hw.2.2.1.2.1
  intro n
  induction n with
  | zero =>
    intro i dk hi hq hf
    have hct := s_M_count (hf.Mo hM) hw
    have e : (i : Int) = S.1 6 1 := by omega
    refine ⟨dk, ?_, by rw [← e, gs_tn]; exact hq, hf⟩
    rw [k_M_order_14]
    simp (disch := omega) only [e_M_order, k_M_order_0, k_M_order_12, k_M_order_19, k_M_order_22, k_M_order_27, k_M_order_30, k_M_order_35, k_M_order_39, k_M_order_49, k_M_order_59, k_M_order_65, k_M_order_71, hct, ↓reduceIte, Int.reduceAdd, Int.reduceSub, Int.reduceMul, Int.reduceToNat, gs_00, gs_ofi, gs_k0_m, gs_k1_m, gs_n8, gs_n16, gs_n_add, gs_n_sub, gs_n_mul, gs_n_neg, gs_m_add, gs_m_sub, gs_m_mul, gs_m_neg, gs_n_l, gs_m_n, gs_n_c, gs_eq_t, gs_eq_f1, gs_eq_f2, gs_lt_t, gs_lt_f, gs_le_t, gs_le_f, gs_cmp_lt, gs_cmp_eq, gs_cmp_gt, gs_ix_n, gs_nz_n, gs_nzl_g, gs_n_div, gs_af1, gs_af0, gs_ck0, gs_ck1, gs_ck2t, gs_ck2f, gs_ck3, gs_ck4, gs_zd_t, gs_zd_f, gs_zt_t, gs_zt_f, gs_nar1, gs_nar0, gs_tn, if_true, if_false, not_true_eq_false, not_false_eq_true]
    rw [e]
  | succ n ih =>
    intro i dk hi hq hf
    have hct := s_M_count (hf.Mo hM) hw
    have hii : (i : Int) < S.1 6 1 := by omega
    have hfa := s_M_fate (hf.Mo hM) hw hii
    have hpr := s_M_priority (hf.Mo hM) hw hii
    have hok := (hw.2.2.2 i hii).2.2
    have hs := gs_wp_s S i pr
    have hw0 := hq.1
    have ci : ((i + 1 : Nat) : Int) = (i : Int) + 1 := by omega
    rw [k_M_order_14]
    by_cases c : S.1 (10 + i) 6 = 0 ∧ S.1 (10 + i) 5 = pr
    · rw [if_pos c] at hs
      have hlen : (l0 ++ gs_wp S i pr).length < 10 := by
        have : (gs_wp S (i + 1) pr).Sublist (gs_wp S (S.1 6 1).toNat pr) := by
          unfold gs_wp
          refine List.Sublist.filter _ ?_
          exact List.range_sublist.mpr (by omega)
        have := this.length_le
        rw [hs, List.length_append] at this
        rw [List.length_append] at hl ⊢
        have : [i].length = 1 := rfl
        omega
      obtain ⟨d', e, r⟩ := ih (i + 1) (gs_wI (gs_wI dk 23 0 (l0 ++ gs_wp S i pr).length (gs_n i)) 20 0 3 (gs_n ((l0 ++ gs_wp S i pr).length + 1))) (by omega) (by rw [hs, ← List.append_assoc]; exact hq.push) ((hf.w (Or.inr rfl)).w (Or.inl rfl))
      refine ⟨d', ?_, r⟩
      rw [ci] at e
      have hx : (gs_wI dk 23 0 (l0 ++ gs_wp S i pr).length (gs_n i)).1 20 0 3 = gs_n (l0 ++ gs_wp S i pr).length := by
        rw [← hw0]
        exact gs_wI_o (by omega)
      simp (disch := omega) only [e_M_order, k_M_order_0, k_M_order_12, k_M_order_19, k_M_order_22, k_M_order_27, k_M_order_30, k_M_order_35, k_M_order_39, k_M_order_49, k_M_order_59, k_M_order_65, k_M_order_71, hct, hfa, hpr, hw0, hx, ↓reduceIte, Int.reduceAdd, Int.reduceSub, Int.reduceMul, Int.reduceToNat, gs_00, gs_ofi, gs_k0_m, gs_k1_m, gs_n8, gs_n16, gs_n_add, gs_n_sub, gs_n_mul, gs_n_neg, gs_m_add, gs_m_sub, gs_m_mul, gs_m_neg, gs_n_l, gs_m_n, gs_n_c, gs_eq_t, gs_eq_f1, gs_eq_f2, gs_lt_t, gs_lt_f, gs_le_t, gs_le_f, gs_cmp_lt, gs_cmp_eq, gs_cmp_gt, gs_ix_n, gs_nz_n, gs_nzl_g, gs_n_div, gs_af1, gs_af0, gs_ck0, gs_ck1, gs_ck2t, gs_ck2f, gs_ck3, gs_ck4, gs_zd_t, gs_zd_f, gs_zt_t, gs_zt_f, gs_nar1, gs_nar0, gs_tn, if_true, if_false, not_true_eq_false, not_false_eq_true]
      exact e
    · rw [if_neg c, List.append_nil] at hs
      obtain ⟨d', e, r⟩ := ih (i + 1) dk (by omega) (by rw [hs]; exact hq) hf
      refine ⟨d', ?_, r⟩
      rw [ci] at e
      by_cases c1 : S.1 (10 + i) 6 = 0
      · by_cases c2 : S.1 (10 + i) 5 < pr
        · simp (disch := omega) only [e_M_order, k_M_order_0, k_M_order_12, k_M_order_19, k_M_order_22, k_M_order_27, k_M_order_30, k_M_order_35, k_M_order_39, k_M_order_49, k_M_order_59, k_M_order_65, k_M_order_71, hct, hfa, hpr, ↓reduceIte, Int.reduceAdd, Int.reduceSub, Int.reduceMul, Int.reduceToNat, gs_00, gs_ofi, gs_k0_m, gs_k1_m, gs_n8, gs_n16, gs_n_add, gs_n_sub, gs_n_mul, gs_n_neg, gs_m_add, gs_m_sub, gs_m_mul, gs_m_neg, gs_n_l, gs_m_n, gs_n_c, gs_eq_t, gs_eq_f1, gs_eq_f2, gs_lt_t, gs_lt_f, gs_le_t, gs_le_f, gs_cmp_lt, gs_cmp_eq, gs_cmp_gt, gs_ix_n, gs_nz_n, gs_nzl_g, gs_n_div, gs_af1, gs_af0, gs_ck0, gs_ck1, gs_ck2t, gs_ck2f, gs_ck3, gs_ck4, gs_zd_t, gs_zd_f, gs_zt_t, gs_zt_f, gs_nar1, gs_nar0, gs_tn, if_true, if_false, not_true_eq_false, not_false_eq_true]
          exact e
        · simp (disch := omega) only [e_M_order, k_M_order_0, k_M_order_12, k_M_order_19, k_M_order_22, k_M_order_27, k_M_order_30, k_M_order_35, k_M_order_39, k_M_order_49, k_M_order_59, k_M_order_65, k_M_order_71, hct, hfa, hpr, ↓reduceIte, Int.reduceAdd, Int.reduceSub, Int.reduceMul, Int.reduceToNat, gs_00, gs_ofi, gs_k0_m, gs_k1_m, gs_n8, gs_n16, gs_n_add, gs_n_sub, gs_n_mul, gs_n_neg, gs_m_add, gs_m_sub, gs_m_mul, gs_m_neg, gs_n_l, gs_m_n, gs_n_c, gs_eq_t, gs_eq_f1, gs_eq_f2, gs_lt_t, gs_lt_f, gs_le_t, gs_le_f, gs_cmp_lt, gs_cmp_eq, gs_cmp_gt, gs_ix_n, gs_nz_n, gs_nzl_g, gs_n_div, gs_af1, gs_af0, gs_ck0, gs_ck1, gs_ck2t, gs_ck2f, gs_ck3, gs_ck4, gs_zd_t, gs_zd_f, gs_zt_t, gs_zt_f, gs_nar1, gs_nar0, gs_tn, if_true, if_false, not_true_eq_false, not_false_eq_true]
          exact e
      · simp (disch := omega) only [e_M_order, k_M_order_0, k_M_order_12, k_M_order_19, k_M_order_22, k_M_order_27, k_M_order_30, k_M_order_35, k_M_order_39, k_M_order_49, k_M_order_59, k_M_order_65, k_M_order_71, hct, hfa, hpr, ↓reduceIte, Int.reduceAdd, Int.reduceSub, Int.reduceMul, Int.reduceToNat, gs_00, gs_ofi, gs_k0_m, gs_k1_m, gs_n8, gs_n16, gs_n_add, gs_n_sub, gs_n_mul, gs_n_neg, gs_m_add, gs_m_sub, gs_m_mul, gs_m_neg, gs_n_l, gs_m_n, gs_n_c, gs_eq_t, gs_eq_f1, gs_eq_f2, gs_lt_t, gs_lt_f, gs_le_t, gs_le_f, gs_cmp_lt, gs_cmp_eq, gs_cmp_gt, gs_ix_n, gs_nz_n, gs_nzl_g, gs_n_div, gs_af1, gs_af0, gs_ck0, gs_ck1, gs_ck2t, gs_ck2f, gs_ck3, gs_ck4, gs_zd_t, gs_zd_f, gs_zt_t, gs_zt_f, gs_nar1, gs_nar0, gs_tn, if_true, if_false, not_true_eq_false, not_false_eq_true]
        exact e
theorem s_M_order (hM : gs_Mo 21 d S) (hw : gs_wb B S) (hl : (gs_wl S).length ≤ 10) : ∃ d', f_M_order [gs_r 20 0] d = some (none, d') ∧ gs_Qu d' (gs_wl S) ∧ gs_qf d d' := by
  unfold gs_wl at hl
  rw [List.length_append, List.length_append] at hl
  have q0 : gs_Qu (gs_wI d 20 0 3 (gs_n 0)) ([] ++ gs_wp S 0 0) := ⟨gs_wI_s, fun k k0 k1 => by
    have : ([] ++ gs_wp S 0 0).length = 0 := rfl
    omega⟩
  have hc := hw.2.2.1.2.1
  obtain ⟨d1, e1, r1, f1⟩ := s_M_order_in hM hw (pr := 0) (l0 := []) (by omega) (by omega) (by rw [List.nil_append]; omega) (S.1 6 1).toNat 0 _ (by omega) q0 (gs_qf.rf.w (Or.inl rfl))
  rw [List.nil_append] at r1
  obtain ⟨d2, e2, r2, f2⟩ := s_M_order_in hM hw (pr := 1) (l0 := gs_wp S (S.1 6 1).toNat 0) (by omega) (by omega) (by rw [List.length_append]; omega) (S.1 6 1).toNat 0 d1 (by omega) (by rw [show gs_wp S 0 1 = [] from rfl, List.append_nil]; exact r1) f1
  obtain ⟨d3, e3, r3, f3⟩ := s_M_order_in hM hw (pr := 2) (l0 := gs_wp S (S.1 6 1).toNat 0 ++ gs_wp S (S.1 6 1).toNat 1) (by omega) (by omega) (by rw [List.length_append, List.length_append]; omega) (S.1 6 1).toNat 0 d2 (by omega) (by rw [show gs_wp S 0 2 = [] from rfl, List.append_nil]; exact r2) f2
  refine ⟨d3, ?_, by rw [List.append_assoc] at r3; exact r3, f3⟩
  have z0 : ((0 : Nat) : Int) = 0 := rfl
  rw [z0] at e1 e2 e3
  rw [e_M_order, k_M_order_0, k_M_order_7]
  simp (disch := omega) only [k_M_order_12, ↓reduceIte, Int.reduceAdd, Int.reduceSub, Int.reduceMul, Int.reduceToNat, gs_00, gs_ofi, gs_k0_m, gs_k1_m, gs_n8, gs_n16, gs_n_add, gs_n_sub, gs_n_mul, gs_n_neg, gs_m_add, gs_m_sub, gs_m_mul, gs_m_neg, gs_n_l, gs_m_n, gs_n_c, gs_eq_t, gs_eq_f1, gs_eq_f2, gs_lt_t, gs_lt_f, gs_le_t, gs_le_f, gs_cmp_lt, gs_cmp_eq, gs_cmp_gt, gs_ix_n, gs_nz_n, gs_nzl_g, gs_n_div, gs_af1, gs_af0, gs_ck0, gs_ck1, gs_ck2t, gs_ck2f, gs_ck3, gs_ck4, gs_zd_t, gs_zd_f, gs_zt_t, gs_zt_f, gs_nar1, gs_nar0, gs_tn, if_true, if_false, not_true_eq_false, not_false_eq_true]
  rw [e1, k_M_order_7]
  simp (disch := omega) only [k_M_order_12, ↓reduceIte, Int.reduceAdd, Int.reduceSub, Int.reduceMul, Int.reduceToNat, gs_00, gs_ofi, gs_k0_m, gs_k1_m, gs_n8, gs_n16, gs_n_add, gs_n_sub, gs_n_mul, gs_n_neg, gs_m_add, gs_m_sub, gs_m_mul, gs_m_neg, gs_n_l, gs_m_n, gs_n_c, gs_eq_t, gs_eq_f1, gs_eq_f2, gs_lt_t, gs_lt_f, gs_le_t, gs_le_f, gs_cmp_lt, gs_cmp_eq, gs_cmp_gt, gs_ix_n, gs_nz_n, gs_nzl_g, gs_n_div, gs_af1, gs_af0, gs_ck0, gs_ck1, gs_ck2t, gs_ck2f, gs_ck3, gs_ck4, gs_zd_t, gs_zd_f, gs_zt_t, gs_zt_f, gs_nar1, gs_nar0, gs_tn, if_true, if_false, not_true_eq_false, not_false_eq_true]
  rw [e2, k_M_order_7]
  simp (disch := omega) only [k_M_order_12, ↓reduceIte, Int.reduceAdd, Int.reduceSub, Int.reduceMul, Int.reduceToNat, gs_00, gs_ofi, gs_k0_m, gs_k1_m, gs_n8, gs_n16, gs_n_add, gs_n_sub, gs_n_mul, gs_n_neg, gs_m_add, gs_m_sub, gs_m_mul, gs_m_neg, gs_n_l, gs_m_n, gs_n_c, gs_eq_t, gs_eq_f1, gs_eq_f2, gs_lt_t, gs_lt_f, gs_le_t, gs_le_f, gs_cmp_lt, gs_cmp_eq, gs_cmp_gt, gs_ix_n, gs_nz_n, gs_nzl_g, gs_n_div, gs_af1, gs_af0, gs_ck0, gs_ck1, gs_ck2t, gs_ck2f, gs_ck3, gs_ck4, gs_zd_t, gs_zd_f, gs_zt_t, gs_zt_f, gs_nar1, gs_nar0, gs_tn, if_true, if_false, not_true_eq_false, not_false_eq_true]
  rw [e3, k_M_order_7]
  simp (disch := omega) only [k_M_order_71, ↓reduceIte, Int.reduceAdd, Int.reduceSub, Int.reduceMul, Int.reduceToNat, gs_00, gs_ofi, gs_k0_m, gs_k1_m, gs_n8, gs_n16, gs_n_add, gs_n_sub, gs_n_mul, gs_n_neg, gs_m_add, gs_m_sub, gs_m_mul, gs_m_neg, gs_n_l, gs_m_n, gs_n_c, gs_eq_t, gs_eq_f1, gs_eq_f2, gs_lt_t, gs_lt_f, gs_le_t, gs_le_f, gs_cmp_lt, gs_cmp_eq, gs_cmp_gt, gs_ix_n, gs_nz_n, gs_nzl_g, gs_n_div, gs_af1, gs_af0, gs_ck0, gs_ck1, gs_ck2t, gs_ck2f, gs_ck3, gs_ck4, gs_zd_t, gs_zd_f, gs_zt_t, gs_zt_f, gs_nar1, gs_nar0, gs_tn, if_true, if_false, not_true_eq_false, not_false_eq_true]
theorem gs_mt_sym (S : gs_S) (i j : Nat) : gs_mt S i j = gs_mt S j i := by
  unfold gs_mt
  rw [decide_eq_decide]
  omega
theorem gs_Qu.at (hq : gs_Qu d S.2) {k : Int} (h0 : 0 ≤ k) (h1 : k < S.2.length) : d.1 23 0 k.toNat = gs_n (gs_qa S k : Nat) := hq.2 k h0 h1
theorem s_M_isBehind (hM : gs_Mo 21 d S) (hw : gs_wb B S) (hq : gs_Qu d S.2) (hv : gs_wq S) {k j : Int} (k0 : 0 ≤ k) (k1 : k < S.2.length) (j0 : 0 ≤ j) (j1 : j < k) : f_M_isBehind [gs_r 20 0, gs_i (gs_n k), gs_i (gs_n j)] d = some (some (gs_i (gs_n (gs_z (gs_mt S (gs_qa S k) (gs_qa S j))))), d) := by
  have h1 := hq.at j0 (by omega)
  have h2 := hq.at k0 k1
  have h3 := s_M_same hM hw (hv.1 j j0 (by omega)) (hv.1 k k0 k1)
  have hl := hv.2
  rw [gs_mt_sym] at h3
  cases hb : gs_mt S (gs_qa S k) (gs_qa S j)
  · rw [hb] at h3
    simp (disch := omega) only [e_M_isBehind, k_M_isBehind_0, k_M_isBehind_5, k_M_isBehind_12, k_M_isBehind_18, k_M_isBehind_21, k_M_isBehind_24, k_M_isBehind_28, h1, h2, h3, ↓reduceIte, Int.reduceAdd, Int.reduceSub, Int.reduceMul, Int.reduceToNat, gs_00, gs_ofi, gs_k0_m, gs_k1_m, gs_n8, gs_n16, gs_n_add, gs_n_sub, gs_n_mul, gs_n_neg, gs_m_add, gs_m_sub, gs_m_mul, gs_m_neg, gs_n_l, gs_m_n, gs_n_c, gs_eq_t, gs_eq_f1, gs_eq_f2, gs_lt_t, gs_lt_f, gs_le_t, gs_le_f, gs_cmp_lt, gs_cmp_eq, gs_cmp_gt, gs_ix_n, gs_nz_n, gs_nzl_g, gs_n_div, gs_af1, gs_af0, gs_ck0, gs_ck1, gs_ck2t, gs_ck2f, gs_ck3, gs_ck4, gs_zd_t, gs_zd_f, gs_zt_t, gs_zt_f, gs_nar1, gs_nar0, gs_tn, if_true, if_false, not_true_eq_false, not_false_eq_true]
  · rw [hb] at h3
    simp (disch := omega) only [e_M_isBehind, k_M_isBehind_0, k_M_isBehind_5, k_M_isBehind_12, k_M_isBehind_18, k_M_isBehind_21, k_M_isBehind_24, k_M_isBehind_28, h1, h2, h3, ↓reduceIte, Int.reduceAdd, Int.reduceSub, Int.reduceMul, Int.reduceToNat, gs_00, gs_ofi, gs_k0_m, gs_k1_m, gs_n8, gs_n16, gs_n_add, gs_n_sub, gs_n_mul, gs_n_neg, gs_m_add, gs_m_sub, gs_m_mul, gs_m_neg, gs_n_l, gs_m_n, gs_n_c, gs_eq_t, gs_eq_f1, gs_eq_f2, gs_lt_t, gs_lt_f, gs_le_t, gs_le_f, gs_cmp_lt, gs_cmp_eq, gs_cmp_gt, gs_ix_n, gs_nz_n, gs_nzl_g, gs_n_div, gs_af1, gs_af0, gs_ck0, gs_ck1, gs_ck2t, gs_ck2f, gs_ck3, gs_ck4, gs_zd_t, gs_zd_f, gs_zt_t, gs_zt_f, gs_nar1, gs_nar0, gs_tn, if_true, if_false, not_true_eq_false, not_false_eq_true]
theorem s_M_behindCount (hM : gs_Mo 21 d S) (hw : gs_wb B S) (hq : gs_Qu d S.2) (hv : gs_wq S) {k : Int} (k0 : 0 ≤ k) (k1 : k < S.2.length) : f_M_behindCount [gs_r 20 0, gs_i (gs_n k)] d = some (some (gs_i (gs_n (gs_cah S k k.toNat))), d) := by
  have hl := hv.2
  have key : ∀ (n : Nat) (j : Int), 0 ≤ j → j + n = k → gs_g Y0 P_M_behindCount 4 [some (gs_r 20 0), some (gs_i (gs_n k)), some (gs_i (gs_n (gs_cah S k j.toNat))), some (gs_i (gs_n j))] [] d = some (some (gs_i (gs_n (gs_cah S k k.toNat))), d) := by
    intro n
    induction n with
    | zero =>
      intro j j0 j1
      have e : j = k := by omega
      subst e
      simp (disch := omega) only [e_M_behindCount, k_M_behindCount_0, k_M_behindCount_4, k_M_behindCount_9, k_M_behindCount_15, k_M_behindCount_18, k_M_behindCount_24, k_M_behindCount_32, ↓reduceIte, Int.reduceAdd, Int.reduceSub, Int.reduceMul, Int.reduceToNat, gs_00, gs_ofi, gs_k0_m, gs_k1_m, gs_n8, gs_n16, gs_n_add, gs_n_sub, gs_n_mul, gs_n_neg, gs_m_add, gs_m_sub, gs_m_mul, gs_m_neg, gs_n_l, gs_m_n, gs_n_c, gs_eq_t, gs_eq_f1, gs_eq_f2, gs_lt_t, gs_lt_f, gs_le_t, gs_le_f, gs_cmp_lt, gs_cmp_eq, gs_cmp_gt, gs_ix_n, gs_nz_n, gs_nzl_g, gs_n_div, gs_af1, gs_af0, gs_ck0, gs_ck1, gs_ck2t, gs_ck2f, gs_ck3, gs_ck4, gs_zd_t, gs_zd_f, gs_zt_t, gs_zt_f, gs_nar1, gs_nar0, gs_tn, if_true, if_false, not_true_eq_false, not_false_eq_true]
    | succ n ih =>
      intro j j0 j1
      have hb := s_M_isBehind hM hw hq hv k0 k1 j0 (by omega)
      have e := ih (j + 1) (by omega) (by omega)
      have cr := gs_cah_rg S k j.toNat
      have es : gs_cah S k (j + 1).toNat = gs_cah S k j.toNat + gs_z (gs_mt S (gs_qa S k) (gs_qa S j)) := by
        have : (j + 1).toNat = j.toNat + 1 := by omega
        rw [this]
        have : ((j.toNat : Nat) : Int) = j := by omega
        simp only [gs_cah, this]
      rw [es] at e
      rw [k_M_behindCount_4]
      cases hm : gs_mt S (gs_qa S k) (gs_qa S j)
      · rw [hm] at hb e
        simp (disch := omega) only [e_M_behindCount, k_M_behindCount_0, k_M_behindCount_9, k_M_behindCount_15, k_M_behindCount_18, k_M_behindCount_24, k_M_behindCount_32, hb, ↓reduceIte, Int.reduceAdd, Int.reduceSub, Int.reduceMul, Int.reduceToNat, gs_00, gs_ofi, gs_k0_m, gs_k1_m, gs_n8, gs_n16, gs_n_add, gs_n_sub, gs_n_mul, gs_n_neg, gs_m_add, gs_m_sub, gs_m_mul, gs_m_neg, gs_n_l, gs_m_n, gs_n_c, gs_eq_t, gs_eq_f1, gs_eq_f2, gs_lt_t, gs_lt_f, gs_le_t, gs_le_f, gs_cmp_lt, gs_cmp_eq, gs_cmp_gt, gs_ix_n, gs_nz_n, gs_nzl_g, gs_n_div, gs_af1, gs_af0, gs_ck0, gs_ck1, gs_ck2t, gs_ck2f, gs_ck3, gs_ck4, gs_zd_t, gs_zd_f, gs_zt_t, gs_zt_f, gs_nar1, gs_nar0, gs_tn, if_true, if_false, not_true_eq_false, not_false_eq_true]
        simpa only [gs_zt_f, Int.add_zero] using e
      · rw [hm] at hb e
        simp (disch := omega) only [e_M_behindCount, k_M_behindCount_0, k_M_behindCount_9, k_M_behindCount_15, k_M_behindCount_18, k_M_behindCount_24, k_M_behindCount_32, hb, ↓reduceIte, Int.reduceAdd, Int.reduceSub, Int.reduceMul, Int.reduceToNat, gs_00, gs_ofi, gs_k0_m, gs_k1_m, gs_n8, gs_n16, gs_n_add, gs_n_sub, gs_n_mul, gs_n_neg, gs_m_add, gs_m_sub, gs_m_mul, gs_m_neg, gs_n_l, gs_m_n, gs_n_c, gs_eq_t, gs_eq_f1, gs_eq_f2, gs_lt_t, gs_lt_f, gs_le_t, gs_le_f, gs_cmp_lt, gs_cmp_eq, gs_cmp_gt, gs_ix_n, gs_nz_n, gs_nzl_g, gs_n_div, gs_af1, gs_af0, gs_ck0, gs_ck1, gs_ck2t, gs_ck2f, gs_ck3, gs_ck4, gs_zd_t, gs_zd_f, gs_zt_t, gs_zt_f, gs_nar1, gs_nar0, gs_tn, if_true, if_false, not_true_eq_false, not_false_eq_true]
        simpa only [gs_zt_t] using e
  have e := key k.toNat 0 (by omega) (by omega)
  simp (disch := omega) only [e_M_behindCount, k_M_behindCount_0, ↓reduceIte, Int.reduceAdd, Int.reduceSub, Int.reduceMul, Int.reduceToNat, gs_00, gs_ofi, gs_k0_m, gs_k1_m, gs_n8, gs_n16, gs_n_add, gs_n_sub, gs_n_mul, gs_n_neg, gs_m_add, gs_m_sub, gs_m_mul, gs_m_neg, gs_n_l, gs_m_n, gs_n_c, gs_eq_t, gs_eq_f1, gs_eq_f2, gs_lt_t, gs_lt_f, gs_le_t, gs_le_f, gs_cmp_lt, gs_cmp_eq, gs_cmp_gt, gs_ix_n, gs_nz_n, gs_nzl_g, gs_n_div, gs_af1, gs_af0, gs_ck0, gs_ck1, gs_ck2t, gs_ck2f, gs_ck3, gs_ck4, gs_zd_t, gs_zd_f, gs_zt_t, gs_zt_f, gs_nar1, gs_nar0, gs_tn, if_true, if_false, not_true_eq_false, not_false_eq_true]
  have e0 : gs_cah S k (0 : Int).toNat = 0 := rfl
  rw [e0] at e
  rw [e]
  rfl
theorem gs_cov_iff (hw : gs_wb B S) {i : Nat} (hi : (i : Int) < S.1 6 1) : gs_cov S i = true ↔ ∀ x : Int, 0 ≤ x → x < 54 → gs_mtk S i x ≤ 0 ∨ gs_mtk S i x ≤ gs_ab S x := by
  obtain ⟨a0, a1, a2, a3, a4⟩ := (hw.2.2.2 i hi).r
  have ai := (hw.2.2.2 i hi).2.1.2.2.2
  unfold gs_cov
  rw [decide_eq_true_iff]
  have b1 : gs_ab S (S.1 (10 + i) 1) = gs_rm S (S.1 (10 + i) 1 * 3 + 0) := by
    unfold gs_ab
    rw [if_neg (by omega), gs_cp_1 (by omega), Int.add_zero]
  constructor
  · intro h x x0 x1
    by_cases c1 : x < 6
    · by_cases c2 : S.1 (10 + i) 1 = x
      · subst c2
        rw [b1]
        unfold gs_mtk
        rw [if_pos c1, if_pos rfl]
        omega
      · left
        unfold gs_mtk
        rw [if_pos c1, if_neg c2]
        split <;> omega
    · by_cases c2 : x < 18
      · by_cases c3 : S.1 (10 + i) 2 = 1 + (x - 6) % 2 ∧ S.1 (10 + i) 0 = (x - 6) / 2
        · have e : gs_ab S x = gs_rm S (S.1 (10 + i) 0 * 3 + S.1 (10 + i) 2) := by
            unfold gs_ab
            rw [if_neg (by omega), gs_cp_2 (by omega) c2]
            congr 1
            omega
          rw [e]
          unfold gs_mtk
          rw [if_neg c1, if_pos c2, if_pos c3.1, if_pos c3.2]
          omega
        · left
          unfold gs_mtk
          rw [if_neg c1, if_pos c2]
          repeat' split
          all_goals omega
      · by_cases c3 : ¬ S.1 4 (x - 18).toNat < 0 ∧ S.1 (10 + i) 1 = (x - 18) / 6 ∧ S.1 (10 + i) 0 = (x - 18) % 6
        · have e : gs_ab S x = gs_rm S (18 + (S.1 (10 + i) 1 * 6 + S.1 (10 + i) 0)) := by
            have ex : 18 + (S.1 (10 + i) 1 * 6 + S.1 (10 + i) 0) = x := by omega
            rw [ex]
            unfold gs_ab gs_rm
            rw [if_pos (by omega), if_pos (by omega), if_neg (by omega)]
          rw [e]
          unfold gs_mtk
          rw [if_neg c1, if_neg c2, if_neg c3.1, if_pos c3.2]
          omega
        · left
          unfold gs_mtk
          rw [if_neg c1, if_neg c2]
          repeat' split
          all_goals omega
  · intro h
    constructor
    · by_cases c : S.1 (10 + i) 3 ≤ 0
      · exact Or.inl c
      · right
        have hx := h (6 + S.1 (10 + i) 0 * 2 + (S.1 (10 + i) 2 - 1)) (by omega) (by omega)
        have e : gs_ab S (6 + S.1 (10 + i) 0 * 2 + (S.1 (10 + i) 2 - 1)) = gs_rm S (S.1 (10 + i) 0 * 3 + S.1 (10 + i) 2) := by
          unfold gs_ab
          rw [if_neg (by omega), gs_cp_2 (by omega) (by omega)]
          congr 1
          omega
        have em : gs_mtk S i (6 + S.1 (10 + i) 0 * 2 + (S.1 (10 + i) 2 - 1)) = S.1 (10 + i) 3 := by
          unfold gs_mtk
          rw [if_neg (by omega), if_pos (by omega), if_pos (by omega), if_pos (by omega)]
        rw [e, em] at hx
        omega
    · by_cases c : S.1 (10 + i) 4 = 0
      · exact Or.inl c
      · right
        have hx := h (S.1 (10 + i) 1) (by omega) (by omega)
        have em : gs_mtk S i (S.1 (10 + i) 1) = S.1 (10 + i) 4 := by
          unfold gs_mtk
          rw [if_pos (by omega), if_pos rfl]
        rw [b1, em] at hx
        refine ⟨by omega, ?_⟩
        have hl := hw.2.1.2.2 (18 + (S.1 (10 + i) 1 * 6 + S.1 (10 + i) 0) - 18).toNat (by omega)
        by_cases c2 : S.1 4 (18 + (S.1 (10 + i) 1 * 6 + S.1 (10 + i) 0) - 18).toNat = -1
        · unfold gs_rm
          rw [if_pos (by omega), if_pos c2]
          omega
        · have hy := h (18 + (S.1 (10 + i) 1 * 6 + S.1 (10 + i) 0)) (by omega) (by omega)
          have e : gs_ab S (18 + (S.1 (10 + i) 1 * 6 + S.1 (10 + i) 0)) = gs_rm S (18 + (S.1 (10 + i) 1 * 6 + S.1 (10 + i) 0)) := by
            unfold gs_ab gs_rm
            rw [if_pos (by omega), if_pos (by omega), if_neg c2]
          have em2 : gs_mtk S i (18 + (S.1 (10 + i) 1 * 6 + S.1 (10 + i) 0)) = S.1 (10 + i) 4 := by
            unfold gs_mtk
            rw [if_neg (by omega), if_neg (by omega), if_neg (by omega), if_pos (by omega)]
          rw [e, em2] at hy
          omega
theorem gs_ab_rg (hw : gs_wb B S) {x : Int} (h0 : 0 ≤ x) (h1 : x < 54) : -4611686018427387904 ≤ gs_ab S x ∧ gs_ab S x ≤ 4611686018427387904 := by
  have hB := hw.2.2.1.2.2
  unfold gs_ab
  split
  · have a1 := hw.2.1.2.2 (x - 18).toNat (by omega)
    have a2 := hw.1.2.2 (x - 18).toNat (by omega)
    omega
  · refine gs_rm_rg hw ?_ ?_
    · unfold gs_cp
      repeat' split
      all_goals omega
    · unfold gs_cp
      repeat' split
      all_goals omega
theorem s_M_enough (hM : gs_Mo 21 d S) (hw : gs_wb B S) {i : Nat} (hi : (i : Int) < S.1 6 1) : f_M_enough [gs_r 20 0, gs_i (gs_n i)] d = some (some (gs_i (gs_n (gs_z (gs_cov S i)))), d) := by
  have key : ∀ (n : Nat) (x : Int) (a : Bool) (o : Option gs_V), 0 ≤ x → x + n = 54 → (a = true ↔ ∀ y : Int, 0 ≤ y → y < x → gs_mtk S i y ≤ 0 ∨ gs_mtk S i y ≤ gs_ab S y) → gs_g Y0 P_M_enough 4 [some (gs_r 20 0), some (gs_i (gs_n i)), some (gs_i (gs_n (gs_z a))), some (gs_i (gs_n x)), o, none] [] d = some (some (gs_i (gs_n (gs_z (gs_cov S i)))), d) := by
    intro n
    induction n with
    | zero =>
      intro x a o h0 h1 ha
      have e : a = gs_cov S i := by
        have x54 : x = 54 := by omega
        subst x54
        rw [Bool.eq_iff_iff, ha, gs_cov_iff hw hi]
      subst e
      simp (disch := omega) only [e_M_enough, k_M_enough_0, k_M_enough_4, k_M_enough_10, k_M_enough_16, k_M_enough_22, k_M_enough_29, k_M_enough_34, k_M_enough_40, k_M_enough_44, k_M_enough_52, ↓reduceIte, Int.reduceAdd, Int.reduceSub, Int.reduceMul, Int.reduceToNat, gs_00, gs_ofi, gs_k0_m, gs_k1_m, gs_n8, gs_n16, gs_n_add, gs_n_sub, gs_n_mul, gs_n_neg, gs_m_add, gs_m_sub, gs_m_mul, gs_m_neg, gs_n_l, gs_m_n, gs_n_c, gs_eq_t, gs_eq_f1, gs_eq_f2, gs_lt_t, gs_lt_f, gs_le_t, gs_le_f, gs_cmp_lt, gs_cmp_eq, gs_cmp_gt, gs_ix_n, gs_nz_n, gs_nzl_g, gs_n_div, gs_af1, gs_af0, gs_ck0, gs_ck1, gs_ck2t, gs_ck2f, gs_ck3, gs_ck4, gs_zd_t, gs_zd_f, gs_zt_t, gs_zt_f, gs_nar1, gs_nar0, gs_tn, if_true, if_false, not_true_eq_false, not_false_eq_true]
    | succ n ih =>
      intro x a o h0 h1 ha
      have t1 := s_M_takes hM hw hi h0 (x := x) (by omega)
      have t2 := s_M_above hM hw h0 (x := x) (by omega)
      have r1 := gs_mtk_rg hw hi (x := x)
      have r2 := gs_ab_rg hw h0 (x := x) (by omega)
      have go : ∀ a' : Bool, (a' = true ↔ (a = true ∧ (gs_mtk S i x ≤ 0 ∨ gs_mtk S i x ≤ gs_ab S x))) → (a' = true ↔ ∀ y : Int, 0 ≤ y → y < x + 1 → gs_mtk S i y ≤ 0 ∨ gs_mtk S i y ≤ gs_ab S y) := by
        intro a' h
        rw [h, ha]
        constructor
        · intro z y y0 y1
          by_cases c : y = x
          · rw [c]; exact z.2
          · exact z.1 y y0 (by omega)
        · intro z
          exact ⟨fun y y0 y1 => z y y0 (by omega), z x h0 (by omega)⟩
      rw [k_M_enough_4]
      cases a with
      | false =>
        have e := ih (x + 1) false (some (gs_l (gs_m (gs_mtk S i x)))) (by omega) (by omega) (go false (by simp))
        simp (disch := omega) only [e_M_enough, k_M_enough_0, k_M_enough_10, k_M_enough_16, k_M_enough_22, k_M_enough_29, k_M_enough_34, k_M_enough_40, k_M_enough_44, k_M_enough_52, t1, ↓reduceIte, Int.reduceAdd, Int.reduceSub, Int.reduceMul, Int.reduceToNat, gs_00, gs_ofi, gs_k0_m, gs_k1_m, gs_n8, gs_n16, gs_n_add, gs_n_sub, gs_n_mul, gs_n_neg, gs_m_add, gs_m_sub, gs_m_mul, gs_m_neg, gs_n_l, gs_m_n, gs_n_c, gs_eq_t, gs_eq_f1, gs_eq_f2, gs_lt_t, gs_lt_f, gs_le_t, gs_le_f, gs_cmp_lt, gs_cmp_eq, gs_cmp_gt, gs_ix_n, gs_nz_n, gs_nzl_g, gs_n_div, gs_af1, gs_af0, gs_ck0, gs_ck1, gs_ck2t, gs_ck2f, gs_ck3, gs_ck4, gs_zd_t, gs_zd_f, gs_zt_t, gs_zt_f, gs_nar1, gs_nar0, gs_tn, if_true, if_false, not_true_eq_false, not_false_eq_true] at e ⊢
        exact e
      | true =>
        by_cases c1 : gs_mtk S i x ≤ 0
        · have e := ih (x + 1) true (some (gs_l (gs_m (gs_mtk S i x)))) (by omega) (by omega) (go true (by simp [c1]))
          by_cases c3 : gs_mtk S i x = 0 <;> simp (disch := omega) only [e_M_enough, k_M_enough_0, k_M_enough_10, k_M_enough_16, k_M_enough_22, k_M_enough_29, k_M_enough_34, k_M_enough_40, k_M_enough_44, k_M_enough_52, t1, t2, ↓reduceIte, Int.reduceAdd, Int.reduceSub, Int.reduceMul, Int.reduceToNat, gs_00, gs_ofi, gs_k0_m, gs_k1_m, gs_n8, gs_n16, gs_n_add, gs_n_sub, gs_n_mul, gs_n_neg, gs_m_add, gs_m_sub, gs_m_mul, gs_m_neg, gs_n_l, gs_m_n, gs_n_c, gs_eq_t, gs_eq_f1, gs_eq_f2, gs_lt_t, gs_lt_f, gs_le_t, gs_le_f, gs_cmp_lt, gs_cmp_eq, gs_cmp_gt, gs_ix_n, gs_nz_n, gs_nzl_g, gs_n_div, gs_af1, gs_af0, gs_ck0, gs_ck1, gs_ck2t, gs_ck2f, gs_ck3, gs_ck4, gs_zd_t, gs_zd_f, gs_zt_t, gs_zt_f, gs_nar1, gs_nar0, gs_tn, if_true, if_false, not_true_eq_false, not_false_eq_true] at e ⊢ <;> exact e
        · by_cases c2 : gs_mtk S i x ≤ gs_ab S x
          · have e := ih (x + 1) true (some (gs_l (gs_m (gs_mtk S i x)))) (by omega) (by omega) (go true (by simp [c2]))
            by_cases c3 : gs_mtk S i x = gs_ab S x <;> simp (disch := omega) only [e_M_enough, k_M_enough_0, k_M_enough_10, k_M_enough_16, k_M_enough_22, k_M_enough_29, k_M_enough_34, k_M_enough_40, k_M_enough_44, k_M_enough_52, t1, t2, ↓reduceIte, Int.reduceAdd, Int.reduceSub, Int.reduceMul, Int.reduceToNat, gs_00, gs_ofi, gs_k0_m, gs_k1_m, gs_n8, gs_n16, gs_n_add, gs_n_sub, gs_n_mul, gs_n_neg, gs_m_add, gs_m_sub, gs_m_mul, gs_m_neg, gs_n_l, gs_m_n, gs_n_c, gs_eq_t, gs_eq_f1, gs_eq_f2, gs_lt_t, gs_lt_f, gs_le_t, gs_le_f, gs_cmp_lt, gs_cmp_eq, gs_cmp_gt, gs_ix_n, gs_nz_n, gs_nzl_g, gs_n_div, gs_af1, gs_af0, gs_ck0, gs_ck1, gs_ck2t, gs_ck2f, gs_ck3, gs_ck4, gs_zd_t, gs_zd_f, gs_zt_t, gs_zt_f, gs_nar1, gs_nar0, gs_tn, if_true, if_false, not_true_eq_false, not_false_eq_true] at e ⊢ <;> exact e
          · have e := ih (x + 1) false (some (gs_l (gs_m (gs_mtk S i x)))) (by omega) (by omega) (go false (by simp [c1, c2]))
            simp (disch := omega) only [e_M_enough, k_M_enough_0, k_M_enough_10, k_M_enough_16, k_M_enough_22, k_M_enough_29, k_M_enough_34, k_M_enough_40, k_M_enough_44, k_M_enough_52, t1, t2, ↓reduceIte, Int.reduceAdd, Int.reduceSub, Int.reduceMul, Int.reduceToNat, gs_00, gs_ofi, gs_k0_m, gs_k1_m, gs_n8, gs_n16, gs_n_add, gs_n_sub, gs_n_mul, gs_n_neg, gs_m_add, gs_m_sub, gs_m_mul, gs_m_neg, gs_n_l, gs_m_n, gs_n_c, gs_eq_t, gs_eq_f1, gs_eq_f2, gs_lt_t, gs_lt_f, gs_le_t, gs_le_f, gs_cmp_lt, gs_cmp_eq, gs_cmp_gt, gs_ix_n, gs_nz_n, gs_nzl_g, gs_n_div, gs_af1, gs_af0, gs_ck0, gs_ck1, gs_ck2t, gs_ck2f, gs_ck3, gs_ck4, gs_zd_t, gs_zd_f, gs_zt_t, gs_zt_f, gs_nar1, gs_nar0, gs_tn, if_true, if_false, not_true_eq_false, not_false_eq_true] at e ⊢
            exact e
  have e := key 54 0 true none (by omega) (by omega) (by
    constructor
    · intro _ y y0 y1; omega
    · intro _; rfl)
  simp (disch := omega) only [e_M_enough, k_M_enough_0, ↓reduceIte, Int.reduceAdd, Int.reduceSub, Int.reduceMul, Int.reduceToNat, gs_00, gs_ofi, gs_k0_m, gs_k1_m, gs_n8, gs_n16, gs_n_add, gs_n_sub, gs_n_mul, gs_n_neg, gs_m_add, gs_m_sub, gs_m_mul, gs_m_neg, gs_n_l, gs_m_n, gs_n_c, gs_eq_t, gs_eq_f1, gs_eq_f2, gs_lt_t, gs_lt_f, gs_le_t, gs_le_f, gs_cmp_lt, gs_cmp_eq, gs_cmp_gt, gs_ix_n, gs_nz_n, gs_nzl_g, gs_n_div, gs_af1, gs_af0, gs_ck0, gs_ck1, gs_ck2t, gs_ck2f, gs_ck3, gs_ck4, gs_zd_t, gs_zd_f, gs_zt_t, gs_zt_f, gs_nar1, gs_nar0, gs_tn, if_true, if_false, not_true_eq_false, not_false_eq_true] at e ⊢
  rw [e]
  exact gs_ck2
end MO
