-- the calls of the component, one by one
section WC
variable {S : gs_S} {B : Int}
/-- bounds, where held and pledged of one place change -/
theorem gs_wb_hp (hw : gs_wb B S) {j : Nat} {x y : Int} (hx : -1000000 ≤ x) (hx2 : x ≤ 1000000) (hy : -1000000 ≤ y) (hy2 : y ≤ 1000000) (hp : 0 ≤ S.1 1 j + y) (hB : B + 1000000 ≤ 1000000000000) : gs_wb (B + 1000000) (gs_ad (gs_sb S 0 j x) 1 j y) := by
  have e : ∀ a c, (gs_ad (gs_sb S 0 j x) 1 j y).1 a c = S.1 a c + (if a = 0 ∧ c = j then -x else 0) + if a = 1 ∧ c = j then y else 0 := fun a c => by rw [gs_ad_at, gs_sb_at]
  have o : ∀ a c, a ≠ 0 → a ≠ 1 → (gs_ad (gs_sb S 0 j x) 1 j y).1 a c = S.1 a c := fun a c h0 h1 => by
    rw [e, if_neg (fun z => h0 z.1), if_neg (fun z => h1 z.1)]
    omega
  refine ⟨⟨fun k hk => ?_, fun k hk => ?_, fun k hk => ?_⟩, ⟨fun k hk => ?_, fun k hk => ?_, fun k hk => ?_⟩, ⟨?_, ?_, hB⟩, fun k hk => ?_⟩
  · have := hw.1.1 k hk
    rw [e, if_neg (show ¬ (0 = 1 ∧ k = j) by omega)]
    split <;> omega
  · have := hw.1.2.1 k hk
    rw [e, if_neg (show ¬ (1 = 0 ∧ k = j) by omega)]
    split
    · rename_i z
      rw [← z.2] at hp
      omega
    · omega
  · rw [o 5 k (by omega) (by omega)]
    have := hw.1.2.2 k hk
    omega
  · rw [o 2 k (by omega) (by omega)]; exact hw.2.1.1 k hk
  · rw [o 3 k (by omega) (by omega)]; exact hw.2.1.2.1 k hk
  · rw [o 4 k (by omega) (by omega)]; exact hw.2.1.2.2 k hk
  · rw [o 6 0 (by omega) (by omega)]; exact hw.2.2.1.1
  · rw [o 6 1 (by omega) (by omega)]; exact hw.2.2.1.2.1
  · rw [o 6 1 (by omega) (by omega)] at hk
    exact gs_iok_cg (hw.2.2.2 k hk) fun c _ => o _ c (by omega) (by omega)
theorem gs_wb_li (hw : gs_wb B S) (j : Nat) {x : Int} (hx : -1 ≤ x) (hx2 : x ≤ 1000000) : gs_wb B (gs_u S 4 j x) := by
  have o : ∀ a c, a ≠ 4 → (gs_u S 4 j x).1 a c = S.1 a c := fun a c h => gs_u_o S 4 j x c h
  refine ⟨⟨fun k hk => ?_, fun k hk => ?_, fun k hk => ?_⟩, ⟨fun k hk => ?_, fun k hk => ?_, fun k hk => ?_⟩, ⟨?_, ?_, hw.2.2.1.2.2⟩, fun k hk => ?_⟩
  · rw [o 0 k (by omega)]; exact hw.1.1 k hk
  · rw [o 1 k (by omega)]; exact hw.1.2.1 k hk
  · rw [o 5 k (by omega)]; exact hw.1.2.2 k hk
  · rw [o 2 k (by omega)]; exact hw.2.1.1 k hk
  · rw [o 3 k (by omega)]; exact hw.2.1.2.1 k hk
  · by_cases z : k = j
    · rw [z, gs_u_s]; exact ⟨hx, hx2⟩
    · rw [gs_u_j _ _ (by omega)]; exact hw.2.1.2.2 k hk
  · rw [o 6 0 (by omega)]; exact hw.2.2.1.1
  · rw [o 6 1 (by omega)]; exact hw.2.2.1.2.1
  · rw [o 6 1 (by omega)] at hk
    exact gs_iok_cg (hw.2.2.2 k hk) fun c _ => o _ c (by omega)
/-- the list, where count and instructions stay -/
theorem gs_wv.cg {S' : gs_S} (hv : gs_wv S) (e : ∀ a c, a = 6 ∨ 10 ≤ a → S'.1 a c = S.1 a c) (e2 : S'.2 = S.2) : gs_wv S' := by
  have ep : ∀ c pr, gs_wp S' c pr = gs_wp S c pr := by
    intro c pr
    unfold gs_wp
    congr 1
    funext y
    rw [e (10 + y) 6 (by omega), e (10 + y) 5 (by omega)]
  have el : gs_wl S' = gs_wl S := by
    unfold gs_wl
    rw [e 6 1 (by omega), ep, ep, ep]
  exact ⟨by rw [el, e2]; exact hv.1, by rw [e2]; exact hv.2⟩
theorem gs_wv_hp (hv : gs_wv S) (j : Nat) (x y : Int) : gs_wv (gs_ad (gs_sb S 0 j x) 1 j y) := hv.cg (fun a c h => by rw [gs_ad_at, gs_sb_at, if_neg (by omega), if_neg (by omega)]; omega) rfl
theorem gs_wv_li (hv : gs_wv S) (j : Nat) (x : Int) : gs_wv (gs_u S 4 j x) := hv.cg (fun a c h => gs_u_o S 4 j x c (by omega)) rfl
end WC
def gs_am (x : Int) : Prop := 1 ≤ x ∧ x ≤ 1000000
def o_issue (S : gs_S) (p a x : Int) : Int × gs_S := if ((0 ≤ p ∧ p < 6) ∧ (0 ≤ a ∧ a < 3) ∧ (1 ≤ x ∧ x ≤ 1000000)) ∧ S.1 6 0 = 0 then (1, gs_ad S 0 (p * 3 + a).toNat x) else (0, S)
def o_pledge (S : gs_S) (p s x : Int) : Int × gs_S := if (0 ≤ p ∧ p < 6) ∧ (1 ≤ s ∧ s < 3) ∧ (1 ≤ x ∧ x ≤ 1000000) then (if S.1 0 (p * 3 + s).toNat < x then (-4, S) else gs_thr 10 (gs_ad (gs_sb S 0 (p * 3 + s).toNat x) 1 (p * 3 + s).toNat x)) else (-1, S)
def o_release (S : gs_S) (p s x : Int) : Int × gs_S := if (0 ≤ p ∧ p < 6) ∧ (1 ≤ s ∧ s < 3) ∧ (1 ≤ x ∧ x ≤ 1000000) then (if S.1 1 (p * 3 + s).toNat < x then (-4, S) else if gs_rm (gs_ad (gs_sb S 0 (p * 3 + s).toNat (-x)) 1 (p * 3 + s).toNat (-x)) (p * 3 + 0) < 0 then (-4, S) else gs_thr 10 (gs_ad (gs_sb S 0 (p * 3 + s).toNat (-x)) 1 (p * 3 + s).toNat (-x))) else (-1, S)
def o_limit (S : gs_S) (p q x : Int) : Int × gs_S := if ((0 ≤ p ∧ p < 6) ∧ (0 ≤ q ∧ q < 6) ∧ ¬ p = q) ∧ (-1 ≤ x ∧ x ≤ 1000000) then (if ¬ x = -1 ∧ x < S.1 5 (p * 6 + q).toNat then (-4, S) else gs_thr 10 (gs_u S 4 (p * 6 + q).toNat x)) else (-1, S)
section OC
variable {d : gs_D} {S : gs_S} {B : Int}
theorem gs_Cl.aP {b : Nat} (h : gs_Cl b d S) (j : Nat) (x : Int) : gs_Cl b (gs_wL d 6 b j (gs_m (S.1 1 j + x))) (gs_ad S 1 j x) := h.wP _ _
theorem s_G_issue (hC : gs_Cl 0 d S) (hw : gs_wb B S) {p a x : Int} (p1 : -2147483648 ≤ p) (p2 : p < 2147483648) (a1 : -2147483648 ≤ a) (a2 : a < 2147483648) (x1 : -2147483648 ≤ x) (x2 : x < 2147483648) : ∃ d', f_G_issue [gs_r 0 0, gs_i (gs_n p), gs_i (gs_n a), gs_i (gs_n x)] d = some (some (gs_i (gs_n (o_issue S p a x).1)), d') ∧ gs_Cl 0 d' (o_issue S p a x).2 ∧ gs_fr d d' := by
  have hd := hC.dy
  have h6 := hw.2.2.1.1
  unfold o_issue
  by_cases c : ((0 ≤ p ∧ p < 6) ∧ (0 ≤ a ∧ a < 3) ∧ (1 ≤ x ∧ x ≤ 1000000)) ∧ S.1 6 0 = 0
  · rw [if_pos c]
    have hh := hC.h
    refine ⟨_, ?_, hC.aH (p * 3 + a).toNat x, gs_fr.L rfl⟩
    simp (disch := omega) only [e_G_issue, k_G_issue_0, k_G_issue_4, k_G_issue_7, k_G_issue_11, k_G_issue_14, k_G_issue_18, k_G_issue_21, k_G_issue_31, k_G_issue_33, k_G_issue_48, k_G_issue_50, k_G_issue_54, s_G_isParticipant, s_G_isAsset, s_G_isAmount, s_G_holding, hd, hh, ↓reduceIte, Int.reduceAdd, Int.reduceSub, Int.reduceMul, Int.reduceToNat, gs_00, gs_ofi, gs_k0_m, gs_k1_m, gs_n8, gs_n16, gs_n_add, gs_n_sub, gs_n_mul, gs_n_neg, gs_m_add, gs_m_sub, gs_m_mul, gs_m_neg, gs_n_l, gs_m_n, gs_n_c, gs_eq_t, gs_eq_f1, gs_eq_f2, gs_lt_t, gs_lt_f, gs_le_t, gs_le_f, gs_cmp_lt, gs_cmp_eq, gs_cmp_gt, gs_ix_n, gs_nz_n, gs_nzl_g, gs_n_div, gs_af1, gs_af0, gs_ck0, gs_ck1, gs_ck2t, gs_ck2f, gs_ck3, gs_ck4, gs_zd_t, gs_zd_f, gs_zt_t, gs_zt_f, gs_nar1, gs_nar0, gs_tn, if_true, if_false, not_true_eq_false, not_false_eq_true]
  · rw [if_neg c]
    refine ⟨d, ?_, hC, gs_fr.rf⟩
    simp (disch := omega) only [e_G_issue, k_G_issue_0, k_G_issue_4, k_G_issue_7, k_G_issue_11, k_G_issue_14, k_G_issue_18, k_G_issue_21, k_G_issue_31, k_G_issue_33, k_G_issue_48, k_G_issue_50, k_G_issue_54, s_G_isParticipant, s_G_isAsset, s_G_isAmount, s_G_holding, hd, gs_zd0, gs_00, gs_ofi, gs_k0_m, gs_k1_m, gs_n8, gs_n16, gs_n_add, gs_n_sub, gs_n_mul, gs_n_neg, gs_m_add, gs_m_sub, gs_m_mul, gs_m_neg, gs_n_l, gs_m_n, gs_n_c, gs_eq_iff, gs_lt_iff, gs_le_iff, gs_cge, gs_clt, gs_cle, gs_cgt, gs_ceq, gs_ix_n, gs_nz_n, gs_nzl_g, gs_n_div, gs_af1, gs_af0, gs_ck_ite, gs_ck0, gs_ck1, gs_ck2t, gs_ck2f, gs_ck3, gs_ck4, gs_nar1, gs_nar0, gs_tn, if_true, if_false, not_true_eq_false, not_false_eq_true]
    repeat' split
    all_goals first | rfl | (exfalso; omega)
theorem s_A_movePledge (hC : gs_Cl 0 d S) {p s x : Int} (p0 : 0 ≤ p) (p1 : p < 6) (s0 : 0 ≤ s) (s1 : s < 3) (x1 : -1000000 ≤ x) (x2 : x ≤ 1000000) : ∃ d', f_A_movePledge [gs_r 3 0, gs_i (gs_n p), gs_i (gs_n s), gs_i (gs_n x)] d = some (none, d') ∧ gs_Cl 0 d' (gs_ad (gs_sb S 0 (p * 3 + s).toNat x) 1 (p * 3 + s).toNat x) ∧ gs_fr d d' := by
  have c1 := hC.sH (p * 3 + s).toNat x
  have c2 := c1.aP (p * 3 + s).toNat x
  have hh := hC.h
  have hp := c1.p
  refine ⟨_, ?_, c2, (gs_fr.L rfl).tr (gs_fr.L rfl)⟩
  simp (disch := omega) only [e_A_movePledge, k_A_movePledge_0, k_A_movePledge_9, k_A_movePledge_11, k_A_movePledge_15, k_A_movePledge_24, k_A_movePledge_26, k_A_movePledge_30, s_G_holding, hh, hp, ↓reduceIte, Int.reduceAdd, Int.reduceSub, Int.reduceMul, Int.reduceToNat, gs_00, gs_ofi, gs_k0_m, gs_k1_m, gs_n8, gs_n16, gs_n_add, gs_n_sub, gs_n_mul, gs_n_neg, gs_m_add, gs_m_sub, gs_m_mul, gs_m_neg, gs_n_l, gs_m_n, gs_n_c, gs_eq_t, gs_eq_f1, gs_eq_f2, gs_lt_t, gs_lt_f, gs_le_t, gs_le_f, gs_cmp_lt, gs_cmp_eq, gs_cmp_gt, gs_ix_n, gs_nz_n, gs_nzl_g, gs_n_div, gs_af1, gs_af0, gs_ck0, gs_ck1, gs_ck2t, gs_ck2f, gs_ck3, gs_ck4, gs_zd_t, gs_zd_f, gs_zt_t, gs_zt_f, gs_nar1, gs_nar0, gs_tn, if_true, if_false, not_true_eq_false, not_false_eq_true]
theorem s_G_pledge (hC : gs_Cl 0 d S) (hw : gs_wb B S) (hv : gs_wv S) (hB : B + 70000000 ≤ 1000000000000) {p s x : Int} (p1 : -2147483648 ≤ p) (p2 : p < 2147483648) (s1 : -2147483648 ≤ s) (s2 : s < 2147483648) (x1 : -2147483648 ≤ x) (x2 : x < 2147483648) : ∃ d', f_G_pledge [gs_r 0 0, gs_i (gs_n p), gs_i (gs_n s), gs_i (gs_n x)] d = some (some (gs_i (gs_n (o_pledge S p s x).1)), d') ∧ gs_Cl 0 d' (o_pledge S p s x).2 ∧ gs_fr d d' := by
  unfold o_pledge
  by_cases c : (0 ≤ p ∧ p < 6) ∧ (1 ≤ s ∧ s < 3) ∧ (1 ≤ x ∧ x ≤ 1000000)
  · rw [if_pos c]
    have hh := hC.h
    have hr := hw.1.1 (p * 3 + s).toNat (by omega)
    have hr2 := hw.1.2.1 (p * 3 + s).toNat (by omega)
    by_cases c2 : S.1 0 (p * 3 + s).toNat < x
    · rw [if_pos c2]
      refine ⟨d, ?_, hC, gs_fr.rf⟩
      simp (disch := omega) only [e_G_pledge, k_G_pledge_0, k_G_pledge_4, k_G_pledge_7, k_G_pledge_11, k_G_pledge_14, k_G_pledge_18, k_G_pledge_21, k_G_pledge_23, k_G_pledge_38, k_G_pledge_39, k_G_pledge_45, k_G_pledge_48, k_G_pledge_61, k_G_pledge_65, s_G_isParticipant, s_G_isSecurity, s_G_isAmount, s_G_holding, hh, ↓reduceIte, Int.reduceAdd, Int.reduceSub, Int.reduceMul, Int.reduceToNat, gs_00, gs_ofi, gs_k0_m, gs_k1_m, gs_n8, gs_n16, gs_n_add, gs_n_sub, gs_n_mul, gs_n_neg, gs_m_add, gs_m_sub, gs_m_mul, gs_m_neg, gs_n_l, gs_m_n, gs_n_c, gs_eq_t, gs_eq_f1, gs_eq_f2, gs_lt_t, gs_lt_f, gs_le_t, gs_le_f, gs_cmp_lt, gs_cmp_eq, gs_cmp_gt, gs_ix_n, gs_nz_n, gs_nzl_g, gs_n_div, gs_af1, gs_af0, gs_ck0, gs_ck1, gs_ck2t, gs_ck2f, gs_ck3, gs_ck4, gs_zd_t, gs_zd_f, gs_zt_t, gs_zt_f, gs_nar1, gs_nar0, gs_tn, if_true, if_false, not_true_eq_false, not_false_eq_true]
    · rw [if_neg c2]
      obtain ⟨d1, e1, c1, f1⟩ := s_A_movePledge hC (p := p) (s := s) (x := x) (by omega) (by omega) (by omega) (by omega) (by omega) (by omega)
      have w1 := gs_wb_hp hw (j := (p * 3 + s).toNat) (x := x) (y := x) (by omega) (by omega) (by omega) (by omega) (by omega) (by omega)
      obtain ⟨d2, e2, c3, f2⟩ := s_G_goThrough c1 w1 ((gs_wv_hp hv _ _ _).q w1) (by omega)
      refine ⟨d2, ?_, c3, f1.tr f2⟩
      by_cases c9 : S.1 0 (p * 3 + s).toNat = x
      · simp (disch := omega) only [e_G_pledge, k_G_pledge_0, k_G_pledge_4, k_G_pledge_7, k_G_pledge_11, k_G_pledge_14, k_G_pledge_18, k_G_pledge_21, k_G_pledge_23, k_G_pledge_38, k_G_pledge_39, k_G_pledge_45, k_G_pledge_48, k_G_pledge_61, k_G_pledge_65, s_G_isParticipant, s_G_isSecurity, s_G_isAmount, s_G_holding, hh, e1, e2, ↓reduceIte, Int.reduceAdd, Int.reduceSub, Int.reduceMul, Int.reduceToNat, gs_00, gs_ofi, gs_k0_m, gs_k1_m, gs_n8, gs_n16, gs_n_add, gs_n_sub, gs_n_mul, gs_n_neg, gs_m_add, gs_m_sub, gs_m_mul, gs_m_neg, gs_n_l, gs_m_n, gs_n_c, gs_eq_t, gs_eq_f1, gs_eq_f2, gs_lt_t, gs_lt_f, gs_le_t, gs_le_f, gs_cmp_lt, gs_cmp_eq, gs_cmp_gt, gs_ix_n, gs_nz_n, gs_nzl_g, gs_n_div, gs_af1, gs_af0, gs_ck0, gs_ck1, gs_ck2t, gs_ck2f, gs_ck3, gs_ck4, gs_zd_t, gs_zd_f, gs_zt_t, gs_zt_f, gs_nar1, gs_nar0, gs_tn, if_true, if_false, not_true_eq_false, not_false_eq_true]
      · simp (disch := omega) only [e_G_pledge, k_G_pledge_0, k_G_pledge_4, k_G_pledge_7, k_G_pledge_11, k_G_pledge_14, k_G_pledge_18, k_G_pledge_21, k_G_pledge_23, k_G_pledge_38, k_G_pledge_39, k_G_pledge_45, k_G_pledge_48, k_G_pledge_61, k_G_pledge_65, s_G_isParticipant, s_G_isSecurity, s_G_isAmount, s_G_holding, hh, e1, e2, ↓reduceIte, Int.reduceAdd, Int.reduceSub, Int.reduceMul, Int.reduceToNat, gs_00, gs_ofi, gs_k0_m, gs_k1_m, gs_n8, gs_n16, gs_n_add, gs_n_sub, gs_n_mul, gs_n_neg, gs_m_add, gs_m_sub, gs_m_mul, gs_m_neg, gs_n_l, gs_m_n, gs_n_c, gs_eq_t, gs_eq_f1, gs_eq_f2, gs_lt_t, gs_lt_f, gs_le_t, gs_le_f, gs_cmp_lt, gs_cmp_eq, gs_cmp_gt, gs_ix_n, gs_nz_n, gs_nzl_g, gs_n_div, gs_af1, gs_af0, gs_ck0, gs_ck1, gs_ck2t, gs_ck2f, gs_ck3, gs_ck4, gs_zd_t, gs_zd_f, gs_zt_t, gs_zt_f, gs_nar1, gs_nar0, gs_tn, if_true, if_false, not_true_eq_false, not_false_eq_true]
  · rw [if_neg c]
    refine ⟨d, ?_, hC, gs_fr.rf⟩
    simp (disch := omega) only [e_G_pledge, k_G_pledge_0, k_G_pledge_4, k_G_pledge_7, k_G_pledge_11, k_G_pledge_14, k_G_pledge_18, k_G_pledge_21, k_G_pledge_23, k_G_pledge_38, k_G_pledge_39, k_G_pledge_45, k_G_pledge_48, k_G_pledge_61, k_G_pledge_65, s_G_isParticipant, s_G_isSecurity, s_G_isAmount, s_G_holding, gs_zd0, gs_00, gs_ofi, gs_k0_m, gs_k1_m, gs_n8, gs_n16, gs_n_add, gs_n_sub, gs_n_mul, gs_n_neg, gs_m_add, gs_m_sub, gs_m_mul, gs_m_neg, gs_n_l, gs_m_n, gs_n_c, gs_eq_iff, gs_lt_iff, gs_le_iff, gs_cge, gs_clt, gs_cle, gs_cgt, gs_ceq, gs_ix_n, gs_nz_n, gs_nzl_g, gs_n_div, gs_af1, gs_af0, gs_ck_ite, gs_ck0, gs_ck1, gs_ck2t, gs_ck2f, gs_ck3, gs_ck4, gs_nar1, gs_nar0, gs_tn, if_true, if_false, not_true_eq_false, not_false_eq_true]
    repeat' split
    all_goals first | rfl | (exfalso; omega)
theorem s_G_release (hC : gs_Cl 0 d S) (hw : gs_wb B S) (hv : gs_wv S) (hB : B + 70000000 ≤ 1000000000000) {p s x : Int} (p1 : -2147483648 ≤ p) (p2 : p < 2147483648) (s1 : -2147483648 ≤ s) (s2 : s < 2147483648) (x1 : -2147483648 ≤ x) (x2 : x < 2147483648) : ∃ d', f_G_release [gs_r 0 0, gs_i (gs_n p), gs_i (gs_n s), gs_i (gs_n x)] d = some (some (gs_i (gs_n (o_release S p s x).1)), d') ∧ gs_Cl 0 d' (o_release S p s x).2 ∧ gs_fr d d' := by
  unfold o_release
  by_cases c : (0 ≤ p ∧ p < 6) ∧ (1 ≤ s ∧ s < 3) ∧ (1 ≤ x ∧ x ≤ 1000000)
  · rw [if_pos c]
    have hp := hC.p
    have hr2 := hw.1.2.1 (p * 3 + s).toNat (by omega)
    by_cases c2 : S.1 1 (p * 3 + s).toNat < x
    · rw [if_pos c2]
      refine ⟨d, ?_, hC, gs_fr.rf⟩
      simp (disch := omega) only [e_G_release, k_G_release_0, k_G_release_4, k_G_release_7, k_G_release_11, k_G_release_14, k_G_release_18, k_G_release_21, k_G_release_23, k_G_release_36, k_G_release_39, k_G_release_43, k_G_release_46, e_A_unpledge, k_A_unpledge_0, k_A_unpledge_9, k_A_unpledge_10, k_A_unpledge_16, k_A_unpledge_18, k_A_unpledge_26, k_A_unpledge_32, k_A_unpledge_35, k_A_unpledge_40, k_A_unpledge_42, k_A_unpledge_49, s_G_isParticipant, s_G_isSecurity, s_G_isAmount, s_G_holding, hp, ↓reduceIte, Int.reduceAdd, Int.reduceSub, Int.reduceMul, Int.reduceToNat, gs_00, gs_ofi, gs_k0_m, gs_k1_m, gs_n8, gs_n16, gs_n_add, gs_n_sub, gs_n_mul, gs_n_neg, gs_m_add, gs_m_sub, gs_m_mul, gs_m_neg, gs_n_l, gs_m_n, gs_n_c, gs_eq_t, gs_eq_f1, gs_eq_f2, gs_lt_t, gs_lt_f, gs_le_t, gs_le_f, gs_cmp_lt, gs_cmp_eq, gs_cmp_gt, gs_ix_n, gs_nz_n, gs_nzl_g, gs_n_div, gs_af1, gs_af0, gs_ck0, gs_ck1, gs_ck2t, gs_ck2f, gs_ck3, gs_ck4, gs_zd_t, gs_zd_f, gs_zt_t, gs_zt_f, gs_nar1, gs_nar0, gs_tn, if_true, if_false, not_true_eq_false, not_false_eq_true]
    · rw [if_neg c2]
      obtain ⟨d1, e1, c1, f1⟩ := s_A_movePledge hC (p := p) (s := s) (x := -x) (by omega) (by omega) (by omega) (by omega) (by omega) (by omega)
      have w1 := gs_wb_hp hw (j := (p * 3 + s).toNat) (x := -x) (y := -x) (by omega) (by omega) (by omega) (by omega) (by omega) (by omega)
      have rm := s_A_room c1 w1 (x := p * 3 + 0) (by omega) (by omega)
      have rg := gs_rm_rg w1 (x := p * 3 + 0) (by omega) (by omega)
      by_cases c3 : gs_rm (gs_ad (gs_sb S 0 (p * 3 + s).toNat (-x)) 1 (p * 3 + s).toNat (-x)) (p * 3 + 0) < 0
      · rw [if_pos c3]
        obtain ⟨d2, e2, c4, f2⟩ := s_A_movePledge c1 (p := p) (s := s) (x := x) (by omega) (by omega) (by omega) (by omega) (by omega) (by omega)
        refine ⟨d2, ?_, c4.cg (fun f j => ?_) rfl, f1.tr f2⟩
        · by_cases c9 : S.1 1 (p * 3 + s).toNat = x
          · simp (disch := omega) only [e_G_release, k_G_release_0, k_G_release_4, k_G_release_7, k_G_release_11, k_G_release_14, k_G_release_18, k_G_release_21, k_G_release_23, k_G_release_36, k_G_release_39, k_G_release_43, k_G_release_46, e_A_unpledge, k_A_unpledge_0, k_A_unpledge_9, k_A_unpledge_10, k_A_unpledge_16, k_A_unpledge_18, k_A_unpledge_26, k_A_unpledge_32, k_A_unpledge_35, k_A_unpledge_40, k_A_unpledge_42, k_A_unpledge_49, s_G_isParticipant, s_G_isSecurity, s_G_isAmount, s_G_holding, hp, e1, rm, e2, ↓reduceIte, Int.reduceAdd, Int.reduceSub, Int.reduceMul, Int.reduceToNat, gs_00, gs_ofi, gs_k0_m, gs_k1_m, gs_n8, gs_n16, gs_n_add, gs_n_sub, gs_n_mul, gs_n_neg, gs_m_add, gs_m_sub, gs_m_mul, gs_m_neg, gs_n_l, gs_m_n, gs_n_c, gs_eq_t, gs_eq_f1, gs_eq_f2, gs_lt_t, gs_lt_f, gs_le_t, gs_le_f, gs_cmp_lt, gs_cmp_eq, gs_cmp_gt, gs_ix_n, gs_nz_n, gs_nzl_g, gs_n_div, gs_af1, gs_af0, gs_ck0, gs_ck1, gs_ck2t, gs_ck2f, gs_ck3, gs_ck4, gs_zd_t, gs_zd_f, gs_zt_t, gs_zt_f, gs_nar1, gs_nar0, gs_tn, if_true, if_false, not_true_eq_false, not_false_eq_true]
          · simp (disch := omega) only [e_G_release, k_G_release_0, k_G_release_4, k_G_release_7, k_G_release_11, k_G_release_14, k_G_release_18, k_G_release_21, k_G_release_23, k_G_release_36, k_G_release_39, k_G_release_43, k_G_release_46, e_A_unpledge, k_A_unpledge_0, k_A_unpledge_9, k_A_unpledge_10, k_A_unpledge_16, k_A_unpledge_18, k_A_unpledge_26, k_A_unpledge_32, k_A_unpledge_35, k_A_unpledge_40, k_A_unpledge_42, k_A_unpledge_49, s_G_isParticipant, s_G_isSecurity, s_G_isAmount, s_G_holding, hp, e1, rm, e2, ↓reduceIte, Int.reduceAdd, Int.reduceSub, Int.reduceMul, Int.reduceToNat, gs_00, gs_ofi, gs_k0_m, gs_k1_m, gs_n8, gs_n16, gs_n_add, gs_n_sub, gs_n_mul, gs_n_neg, gs_m_add, gs_m_sub, gs_m_mul, gs_m_neg, gs_n_l, gs_m_n, gs_n_c, gs_eq_t, gs_eq_f1, gs_eq_f2, gs_lt_t, gs_lt_f, gs_le_t, gs_le_f, gs_cmp_lt, gs_cmp_eq, gs_cmp_gt, gs_ix_n, gs_nz_n, gs_nzl_g, gs_n_div, gs_af1, gs_af0, gs_ck0, gs_ck1, gs_ck2t, gs_ck2f, gs_ck3, gs_ck4, gs_zd_t, gs_zd_f, gs_zt_t, gs_zt_f, gs_nar1, gs_nar0, gs_tn, if_true, if_false, not_true_eq_false, not_false_eq_true]
        · show S.1 f j = _
          rw [gs_ad_at, gs_sb_at, gs_ad_at, gs_sb_at]
          by_cases z1 : f = 0 ∧ j = (p * 3 + s).toNat
          · rw [if_pos z1, if_pos z1, if_neg (by omega), if_neg (by omega)]
            omega
          · rw [if_neg z1, if_neg z1]
            by_cases z2 : f = 1 ∧ j = (p * 3 + s).toNat
            · rw [if_pos z2, if_pos z2]
              omega
            · rw [if_neg z2, if_neg z2]
              omega
      · rw [if_neg c3]
        obtain ⟨d2, e2, c4, f2⟩ := s_G_goThrough c1 w1 ((gs_wv_hp hv _ _ _).q w1) (by omega)
        refine ⟨d2, ?_, c4, f1.tr f2⟩
        by_cases c9 : S.1 1 (p * 3 + s).toNat = x
        · by_cases c8 : gs_rm (gs_ad (gs_sb S 0 (p * 3 + s).toNat (-x)) 1 (p * 3 + s).toNat (-x)) (p * 3 + 0) = 0
          · simp (disch := omega) only [e_G_release, k_G_release_0, k_G_release_4, k_G_release_7, k_G_release_11, k_G_release_14, k_G_release_18, k_G_release_21, k_G_release_23, k_G_release_36, k_G_release_39, k_G_release_43, k_G_release_46, e_A_unpledge, k_A_unpledge_0, k_A_unpledge_9, k_A_unpledge_10, k_A_unpledge_16, k_A_unpledge_18, k_A_unpledge_26, k_A_unpledge_32, k_A_unpledge_35, k_A_unpledge_40, k_A_unpledge_42, k_A_unpledge_49, s_G_isParticipant, s_G_isSecurity, s_G_isAmount, s_G_holding, hp, e1, rm, e2, ↓reduceIte, Int.reduceAdd, Int.reduceSub, Int.reduceMul, Int.reduceToNat, gs_00, gs_ofi, gs_k0_m, gs_k1_m, gs_n8, gs_n16, gs_n_add, gs_n_sub, gs_n_mul, gs_n_neg, gs_m_add, gs_m_sub, gs_m_mul, gs_m_neg, gs_n_l, gs_m_n, gs_n_c, gs_eq_t, gs_eq_f1, gs_eq_f2, gs_lt_t, gs_lt_f, gs_le_t, gs_le_f, gs_cmp_lt, gs_cmp_eq, gs_cmp_gt, gs_ix_n, gs_nz_n, gs_nzl_g, gs_n_div, gs_af1, gs_af0, gs_ck0, gs_ck1, gs_ck2t, gs_ck2f, gs_ck3, gs_ck4, gs_zd_t, gs_zd_f, gs_zt_t, gs_zt_f, gs_nar1, gs_nar0, gs_tn, if_true, if_false, not_true_eq_false, not_false_eq_true]
          · simp (disch := omega) only [e_G_release, k_G_release_0, k_G_release_4, k_G_release_7, k_G_release_11, k_G_release_14, k_G_release_18, k_G_release_21, k_G_release_23, k_G_release_36, k_G_release_39, k_G_release_43, k_G_release_46, e_A_unpledge, k_A_unpledge_0, k_A_unpledge_9, k_A_unpledge_10, k_A_unpledge_16, k_A_unpledge_18, k_A_unpledge_26, k_A_unpledge_32, k_A_unpledge_35, k_A_unpledge_40, k_A_unpledge_42, k_A_unpledge_49, s_G_isParticipant, s_G_isSecurity, s_G_isAmount, s_G_holding, hp, e1, rm, e2, ↓reduceIte, Int.reduceAdd, Int.reduceSub, Int.reduceMul, Int.reduceToNat, gs_00, gs_ofi, gs_k0_m, gs_k1_m, gs_n8, gs_n16, gs_n_add, gs_n_sub, gs_n_mul, gs_n_neg, gs_m_add, gs_m_sub, gs_m_mul, gs_m_neg, gs_n_l, gs_m_n, gs_n_c, gs_eq_t, gs_eq_f1, gs_eq_f2, gs_lt_t, gs_lt_f, gs_le_t, gs_le_f, gs_cmp_lt, gs_cmp_eq, gs_cmp_gt, gs_ix_n, gs_nz_n, gs_nzl_g, gs_n_div, gs_af1, gs_af0, gs_ck0, gs_ck1, gs_ck2t, gs_ck2f, gs_ck3, gs_ck4, gs_zd_t, gs_zd_f, gs_zt_t, gs_zt_f, gs_nar1, gs_nar0, gs_tn, if_true, if_false, not_true_eq_false, not_false_eq_true]
        · by_cases c8 : gs_rm (gs_ad (gs_sb S 0 (p * 3 + s).toNat (-x)) 1 (p * 3 + s).toNat (-x)) (p * 3 + 0) = 0
          · simp (disch := omega) only [e_G_release, k_G_release_0, k_G_release_4, k_G_release_7, k_G_release_11, k_G_release_14, k_G_release_18, k_G_release_21, k_G_release_23, k_G_release_36, k_G_release_39, k_G_release_43, k_G_release_46, e_A_unpledge, k_A_unpledge_0, k_A_unpledge_9, k_A_unpledge_10, k_A_unpledge_16, k_A_unpledge_18, k_A_unpledge_26, k_A_unpledge_32, k_A_unpledge_35, k_A_unpledge_40, k_A_unpledge_42, k_A_unpledge_49, s_G_isParticipant, s_G_isSecurity, s_G_isAmount, s_G_holding, hp, e1, rm, e2, ↓reduceIte, Int.reduceAdd, Int.reduceSub, Int.reduceMul, Int.reduceToNat, gs_00, gs_ofi, gs_k0_m, gs_k1_m, gs_n8, gs_n16, gs_n_add, gs_n_sub, gs_n_mul, gs_n_neg, gs_m_add, gs_m_sub, gs_m_mul, gs_m_neg, gs_n_l, gs_m_n, gs_n_c, gs_eq_t, gs_eq_f1, gs_eq_f2, gs_lt_t, gs_lt_f, gs_le_t, gs_le_f, gs_cmp_lt, gs_cmp_eq, gs_cmp_gt, gs_ix_n, gs_nz_n, gs_nzl_g, gs_n_div, gs_af1, gs_af0, gs_ck0, gs_ck1, gs_ck2t, gs_ck2f, gs_ck3, gs_ck4, gs_zd_t, gs_zd_f, gs_zt_t, gs_zt_f, gs_nar1, gs_nar0, gs_tn, if_true, if_false, not_true_eq_false, not_false_eq_true]
          · simp (disch := omega) only [e_G_release, k_G_release_0, k_G_release_4, k_G_release_7, k_G_release_11, k_G_release_14, k_G_release_18, k_G_release_21, k_G_release_23, k_G_release_36, k_G_release_39, k_G_release_43, k_G_release_46, e_A_unpledge, k_A_unpledge_0, k_A_unpledge_9, k_A_unpledge_10, k_A_unpledge_16, k_A_unpledge_18, k_A_unpledge_26, k_A_unpledge_32, k_A_unpledge_35, k_A_unpledge_40, k_A_unpledge_42, k_A_unpledge_49, s_G_isParticipant, s_G_isSecurity, s_G_isAmount, s_G_holding, hp, e1, rm, e2, ↓reduceIte, Int.reduceAdd, Int.reduceSub, Int.reduceMul, Int.reduceToNat, gs_00, gs_ofi, gs_k0_m, gs_k1_m, gs_n8, gs_n16, gs_n_add, gs_n_sub, gs_n_mul, gs_n_neg, gs_m_add, gs_m_sub, gs_m_mul, gs_m_neg, gs_n_l, gs_m_n, gs_n_c, gs_eq_t, gs_eq_f1, gs_eq_f2, gs_lt_t, gs_lt_f, gs_le_t, gs_le_f, gs_cmp_lt, gs_cmp_eq, gs_cmp_gt, gs_ix_n, gs_nz_n, gs_nzl_g, gs_n_div, gs_af1, gs_af0, gs_ck0, gs_ck1, gs_ck2t, gs_ck2f, gs_ck3, gs_ck4, gs_zd_t, gs_zd_f, gs_zt_t, gs_zt_f, gs_nar1, gs_nar0, gs_tn, if_true, if_false, not_true_eq_false, not_false_eq_true]
  · rw [if_neg c]
    refine ⟨d, ?_, hC, gs_fr.rf⟩
    simp (disch := omega) only [e_G_release, k_G_release_0, k_G_release_4, k_G_release_7, k_G_release_11, k_G_release_14, k_G_release_18, k_G_release_21, k_G_release_23, k_G_release_36, k_G_release_39, k_G_release_43, k_G_release_46, s_G_isParticipant, s_G_isSecurity, s_G_isAmount, gs_zd0, gs_00, gs_ofi, gs_k0_m, gs_k1_m, gs_n8, gs_n16, gs_n_add, gs_n_sub, gs_n_mul, gs_n_neg, gs_m_add, gs_m_sub, gs_m_mul, gs_m_neg, gs_n_l, gs_m_n, gs_n_c, gs_eq_iff, gs_lt_iff, gs_le_iff, gs_cge, gs_clt, gs_cle, gs_cgt, gs_ceq, gs_ix_n, gs_nz_n, gs_nzl_g, gs_n_div, gs_af1, gs_af0, gs_ck_ite, gs_ck0, gs_ck1, gs_ck2t, gs_ck2f, gs_ck3, gs_ck4, gs_nar1, gs_nar0, gs_tn, if_true, if_false, not_true_eq_false, not_false_eq_true]
    repeat' split
    all_goals first | rfl | (exfalso; omega)
theorem s_G_limit (hC : gs_Cl 0 d S) (hw : gs_wb B S) (hv : gs_wv S) (hB : B + 70000000 ≤ 1000000000000) {p q x : Int} (p1 : -2147483648 ≤ p) (p2 : p < 2147483648) (q1 : -2147483648 ≤ q) (q2 : q < 2147483648) (x1 : -2147483648 ≤ x) (x2 : x < 2147483648) : ∃ d', f_G_limit [gs_r 0 0, gs_i (gs_n p), gs_i (gs_n q), gs_i (gs_n x)] d = some (some (gs_i (gs_n (o_limit S p q x).1)), d') ∧ gs_Cl 0 d' (o_limit S p q x).2 ∧ gs_fr d d' := by
  unfold o_limit
  by_cases c : ((0 ≤ p ∧ p < 6) ∧ (0 ≤ q ∧ q < 6) ∧ ¬ p = q) ∧ (-1 ≤ x ∧ x ≤ 1000000)
  · rw [if_pos c]
    have hn := hC.nt
    have hr := hw.1.2.2 (p * 6 + q).toNat (by omega)
    have hbb := hw.2.2.1.2.2
    by_cases c2 : ¬ x = -1 ∧ x < S.1 5 (p * 6 + q).toNat
    · rw [if_pos c2]
      refine ⟨d, ?_, hC, gs_fr.rf⟩
      simp (disch := omega) only [e_G_limit, k_G_limit_0, k_G_limit_5, k_G_limit_8, k_G_limit_13, k_G_limit_19, k_G_limit_21, k_G_limit_26, k_G_limit_41, k_G_limit_42, k_G_limit_48, k_G_limit_51, k_G_limit_66, k_G_limit_68, k_G_limit_72, s_G_areTwo, s_G_pair, hn, ↓reduceIte, Int.reduceAdd, Int.reduceSub, Int.reduceMul, Int.reduceToNat, gs_00, gs_ofi, gs_k0_m, gs_k1_m, gs_n8, gs_n16, gs_n_add, gs_n_sub, gs_n_mul, gs_n_neg, gs_m_add, gs_m_sub, gs_m_mul, gs_m_neg, gs_n_l, gs_m_n, gs_n_c, gs_eq_t, gs_eq_f1, gs_eq_f2, gs_lt_t, gs_lt_f, gs_le_t, gs_le_f, gs_cmp_lt, gs_cmp_eq, gs_cmp_gt, gs_ix_n, gs_nz_n, gs_nzl_g, gs_n_div, gs_af1, gs_af0, gs_ck0, gs_ck1, gs_ck2t, gs_ck2f, gs_ck3, gs_ck4, gs_zd_t, gs_zd_f, gs_zt_t, gs_zt_f, gs_nar1, gs_nar0, gs_tn, if_true, if_false, not_true_eq_false, not_false_eq_true]
    · rw [if_neg c2]
      have c1 := hC.wI (t := 9) (f := 4) (by omega) (p * 6 + q).toNat x
      have w1 := gs_wb_li hw (p * 6 + q).toNat (x := x) (by omega) (by omega)
      obtain ⟨d2, e2, c3, f2⟩ := s_G_goThrough c1 w1 ((gs_wv_li hv _ _).q w1) (by omega)
      refine ⟨d2, ?_, c3, (gs_fr.I rfl).tr f2⟩
      by_cases c9 : x = -1
      · subst c9
        simp (disch := omega) only [e_G_limit, k_G_limit_0, k_G_limit_5, k_G_limit_8, k_G_limit_13, k_G_limit_19, k_G_limit_21, k_G_limit_26, k_G_limit_41, k_G_limit_42, k_G_limit_48, k_G_limit_51, k_G_limit_66, k_G_limit_68, k_G_limit_72, s_G_areTwo, s_G_pair, hn, e2, ↓reduceIte, Int.reduceAdd, Int.reduceSub, Int.reduceMul, Int.reduceToNat, gs_00, gs_ofi, gs_k0_m, gs_k1_m, gs_n8, gs_n16, gs_n_add, gs_n_sub, gs_n_mul, gs_n_neg, gs_m_add, gs_m_sub, gs_m_mul, gs_m_neg, gs_n_l, gs_m_n, gs_n_c, gs_eq_t, gs_eq_f1, gs_eq_f2, gs_lt_t, gs_lt_f, gs_le_t, gs_le_f, gs_cmp_lt, gs_cmp_eq, gs_cmp_gt, gs_ix_n, gs_nz_n, gs_nzl_g, gs_n_div, gs_af1, gs_af0, gs_ck0, gs_ck1, gs_ck2t, gs_ck2f, gs_ck3, gs_ck4, gs_zd_t, gs_zd_f, gs_zt_t, gs_zt_f, gs_nar1, gs_nar0, gs_tn, if_true, if_false, not_true_eq_false, not_false_eq_true]
      · by_cases c8 : S.1 5 (p * 6 + q).toNat = x
        · simp (disch := omega) only [e_G_limit, k_G_limit_0, k_G_limit_5, k_G_limit_8, k_G_limit_13, k_G_limit_19, k_G_limit_21, k_G_limit_26, k_G_limit_41, k_G_limit_42, k_G_limit_48, k_G_limit_51, k_G_limit_66, k_G_limit_68, k_G_limit_72, s_G_areTwo, s_G_pair, hn, e2, ↓reduceIte, Int.reduceAdd, Int.reduceSub, Int.reduceMul, Int.reduceToNat, gs_00, gs_ofi, gs_k0_m, gs_k1_m, gs_n8, gs_n16, gs_n_add, gs_n_sub, gs_n_mul, gs_n_neg, gs_m_add, gs_m_sub, gs_m_mul, gs_m_neg, gs_n_l, gs_m_n, gs_n_c, gs_eq_t, gs_eq_f1, gs_eq_f2, gs_lt_t, gs_lt_f, gs_le_t, gs_le_f, gs_cmp_lt, gs_cmp_eq, gs_cmp_gt, gs_ix_n, gs_nz_n, gs_nzl_g, gs_n_div, gs_af1, gs_af0, gs_ck0, gs_ck1, gs_ck2t, gs_ck2f, gs_ck3, gs_ck4, gs_zd_t, gs_zd_f, gs_zt_t, gs_zt_f, gs_nar1, gs_nar0, gs_tn, if_true, if_false, not_true_eq_false, not_false_eq_true]
        · simp (disch := omega) only [e_G_limit, k_G_limit_0, k_G_limit_5, k_G_limit_8, k_G_limit_13, k_G_limit_19, k_G_limit_21, k_G_limit_26, k_G_limit_41, k_G_limit_42, k_G_limit_48, k_G_limit_51, k_G_limit_66, k_G_limit_68, k_G_limit_72, s_G_areTwo, s_G_pair, hn, e2, ↓reduceIte, Int.reduceAdd, Int.reduceSub, Int.reduceMul, Int.reduceToNat, gs_00, gs_ofi, gs_k0_m, gs_k1_m, gs_n8, gs_n16, gs_n_add, gs_n_sub, gs_n_mul, gs_n_neg, gs_m_add, gs_m_sub, gs_m_mul, gs_m_neg, gs_n_l, gs_m_n, gs_n_c, gs_eq_t, gs_eq_f1, gs_eq_f2, gs_lt_t, gs_lt_f, gs_le_t, gs_le_f, gs_cmp_lt, gs_cmp_eq, gs_cmp_gt, gs_ix_n, gs_nz_n, gs_nzl_g, gs_n_div, gs_af1, gs_af0, gs_ck0, gs_ck1, gs_ck2t, gs_ck2f, gs_ck3, gs_ck4, gs_zd_t, gs_zd_f, gs_zt_t, gs_zt_f, gs_nar1, gs_nar0, gs_tn, if_true, if_false, not_true_eq_false, not_false_eq_true]
  · rw [if_neg c]
    refine ⟨d, ?_, hC, gs_fr.rf⟩
    simp (disch := omega) only [e_G_limit, k_G_limit_0, k_G_limit_5, k_G_limit_8, k_G_limit_13, k_G_limit_19, k_G_limit_21, k_G_limit_26, k_G_limit_41, k_G_limit_42, k_G_limit_48, k_G_limit_51, k_G_limit_66, k_G_limit_68, k_G_limit_72, s_G_areTwo, s_G_pair, gs_zd0, gs_00, gs_ofi, gs_k0_m, gs_k1_m, gs_n8, gs_n16, gs_n_add, gs_n_sub, gs_n_mul, gs_n_neg, gs_m_add, gs_m_sub, gs_m_mul, gs_m_neg, gs_n_l, gs_m_n, gs_n_c, gs_eq_iff, gs_lt_iff, gs_le_iff, gs_cge, gs_clt, gs_cle, gs_cgt, gs_ceq, gs_ix_n, gs_nz_n, gs_nzl_g, gs_n_div, gs_af1, gs_af0, gs_ck_ite, gs_ck0, gs_ck1, gs_ck2t, gs_ck2f, gs_ck3, gs_ck4, gs_nar1, gs_nar0, gs_tn, if_true, if_false, not_true_eq_false, not_false_eq_true]
    repeat' split
    all_goals first | rfl | (exfalso; omega)
end OC
