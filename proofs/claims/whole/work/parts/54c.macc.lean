-- the model accepts
theorem gs_bits_p : ∀ (p q : Fin 6) (r : Fin 3), (((((gs_n p.val ||| (gs_n q.val <<< (gs_n 3 &&& 31))) ||| gs_n 448) ||| gs_n 3584) ||| (gs_n r.val <<< (gs_n 12 &&& 31))) >>> (gs_n 0 &&& 31)) &&& gs_n 7 = gs_n p.val ∧ (((((gs_n p.val ||| (gs_n q.val <<< (gs_n 3 &&& 31))) ||| gs_n 448) ||| gs_n 3584) ||| (gs_n r.val <<< (gs_n 12 &&& 31))) >>> (gs_n 3 &&& 31)) &&& gs_n 7 = gs_n q.val ∧ (((((gs_n p.val ||| (gs_n q.val <<< (gs_n 3 &&& 31))) ||| gs_n 448) ||| gs_n 3584) ||| (gs_n r.val <<< (gs_n 12 &&& 31))) >>> (gs_n 6 &&& 31)) &&& gs_n 7 = gs_n 7 ∧ (((((gs_n p.val ||| (gs_n q.val <<< (gs_n 3 &&& 31))) ||| gs_n 448) ||| gs_n 3584) ||| (gs_n r.val <<< (gs_n 12 &&& 31))) >>> (gs_n 9 &&& 31)) &&& gs_n 7 = gs_n 7 ∧ ((((gs_n p.val ||| (gs_n q.val <<< (gs_n 3 &&& 31))) ||| gs_n 448) ||| gs_n 3584) ||| (gs_n r.val <<< (gs_n 12 &&& 31))) >>> (gs_n 12 &&& 31) = gs_n r.val := by decide +kernel
theorem gs_bits_d : ∀ (p q : Fin 6), ((((gs_n 63 ||| (gs_n p.val <<< (gs_n 6 &&& 31))) ||| (gs_n q.val <<< (gs_n 9 &&& 31))) ||| gs_n 4096) >>> (gs_n 0 &&& 31)) &&& gs_n 7 = gs_n 7 ∧ ((((gs_n 63 ||| (gs_n p.val <<< (gs_n 6 &&& 31))) ||| (gs_n q.val <<< (gs_n 9 &&& 31))) ||| gs_n 4096) >>> (gs_n 3 &&& 31)) &&& gs_n 7 = gs_n 7 ∧ ((((gs_n 63 ||| (gs_n p.val <<< (gs_n 6 &&& 31))) ||| (gs_n q.val <<< (gs_n 9 &&& 31))) ||| gs_n 4096) >>> (gs_n 6 &&& 31)) &&& gs_n 7 = gs_n p.val ∧ ((((gs_n 63 ||| (gs_n p.val <<< (gs_n 6 &&& 31))) ||| (gs_n q.val <<< (gs_n 9 &&& 31))) ||| gs_n 4096) >>> (gs_n 9 &&& 31)) &&& gs_n 7 = gs_n q.val ∧ (((gs_n 63 ||| (gs_n p.val <<< (gs_n 6 &&& 31))) ||| (gs_n q.val <<< (gs_n 9 &&& 31))) ||| gs_n 4096) >>> (gs_n 12 &&& 31) = gs_n 1 := by decide +kernel
theorem gs_bits_x : ∀ (p q : Fin 6), (((((gs_n q.val ||| (gs_n p.val <<< (gs_n 3 &&& 31))) ||| (gs_n p.val <<< (gs_n 6 &&& 31))) ||| (gs_n q.val <<< (gs_n 9 &&& 31))) ||| gs_n 4096) >>> (gs_n 0 &&& 31)) &&& gs_n 7 = gs_n q.val ∧ (((((gs_n q.val ||| (gs_n p.val <<< (gs_n 3 &&& 31))) ||| (gs_n p.val <<< (gs_n 6 &&& 31))) ||| (gs_n q.val <<< (gs_n 9 &&& 31))) ||| gs_n 4096) >>> (gs_n 3 &&& 31)) &&& gs_n 7 = gs_n p.val ∧ (((((gs_n q.val ||| (gs_n p.val <<< (gs_n 3 &&& 31))) ||| (gs_n p.val <<< (gs_n 6 &&& 31))) ||| (gs_n q.val <<< (gs_n 9 &&& 31))) ||| gs_n 4096) >>> (gs_n 6 &&& 31)) &&& gs_n 7 = gs_n p.val ∧ (((((gs_n q.val ||| (gs_n p.val <<< (gs_n 3 &&& 31))) ||| (gs_n p.val <<< (gs_n 6 &&& 31))) ||| (gs_n q.val <<< (gs_n 9 &&& 31))) ||| gs_n 4096) >>> (gs_n 9 &&& 31)) &&& gs_n 7 = gs_n q.val ∧ ((((gs_n q.val ||| (gs_n p.val <<< (gs_n 3 &&& 31))) ||| (gs_n p.val <<< (gs_n 6 &&& 31))) ||| (gs_n q.val <<< (gs_n 9 &&& 31))) ||| gs_n 4096) >>> (gs_n 12 &&& 31) = gs_n 1 := by decide +kernel
theorem gs_thr_nn : ∀ (n : Nat) (S : gs_S), 0 ≤ (gs_thr n S).1 ∧ (gs_thr n S).1 ≤ n
  | 0, _ => ⟨Int.le_refl _, Int.le_refl _⟩
  | n + 1, S => by
    simp only [gs_thr]
    cases hf : gs_fst S S.2.length 0 with
    | none =>
      show (0 : Int) ≤ 0 ∧ (0 : Int) ≤ _
      omega
    | some k =>
      have := gs_thr_nn n (gs_stl S k)
      show 0 ≤ (gs_thr n (gs_stl S k)).1 + 1 ∧ (gs_thr n (gs_stl S k)).1 + 1 ≤ _
      omega
/-- 7 stands for none -/
def gs_v7 (v : Int) : Int := if v = 7 then -1 else v
section MZ
variable {d : gs_D} {S : gs_S} {B : Int}
theorem s_M_room (hM : gs_Mo 21 d S) (hw : gs_wb B S) (hv : gs_wv S) : ∃ d', f_M_room [gs_r 20 0] d = some (some (gs_i (gs_n (if ¬ S.1 6 0 = 1 then -2 else if 10 ≤ S.2.length ∨ 40 ≤ S.1 6 1 then -3 else 0))), d') ∧ gs_qf d d' := by
  have hl := hv.2
  have h6 := hw.2.2.1.1
  have h61 := hw.2.2.1.2.1
  obtain ⟨d1, e1, q1, f1⟩ := s_M_order hM hw (by rw [← hv.1]; exact hv.2)
  rw [← hv.1] at q1
  have hw0 := q1.1
  have hd := s_M_day (f1.Mo hM) hw
  have hc := s_M_count (f1.Mo hM) hw
  refine ⟨d1, ?_, f1⟩
  by_cases c : ¬ S.1 6 0 = 1
  · rw [if_pos c]
    by_cases c2 : S.1 6 0 < 1
    · simp (disch := omega) only [e_M_room, k_M_room_0, k_M_room_4, k_M_room_8, k_M_room_12, k_M_room_17, k_M_room_26, k_M_room_30, k_M_room_35, k_M_room_40, e1, hd, ↓reduceIte, Int.reduceAdd, Int.reduceSub, Int.reduceMul, Int.reduceToNat, gs_00, gs_ofi, gs_k0_m, gs_k1_m, gs_n8, gs_n16, gs_n_add, gs_n_sub, gs_n_mul, gs_n_neg, gs_m_add, gs_m_sub, gs_m_mul, gs_m_neg, gs_n_l, gs_m_n, gs_n_c, gs_eq_t, gs_eq_f1, gs_eq_f2, gs_lt_t, gs_lt_f, gs_le_t, gs_le_f, gs_cmp_lt, gs_cmp_eq, gs_cmp_gt, gs_ix_n, gs_nz_n, gs_nzl_g, gs_n_div, gs_af1, gs_af0, gs_ck0, gs_ck1, gs_ck2t, gs_ck2f, gs_ck3, gs_ck4, gs_zd_t, gs_zd_f, gs_zt_t, gs_zt_f, gs_nar1, gs_nar0, gs_tn, if_true, if_false, not_true_eq_false, not_false_eq_true]
    · simp (disch := omega) only [e_M_room, k_M_room_0, k_M_room_4, k_M_room_8, k_M_room_12, k_M_room_17, k_M_room_26, k_M_room_30, k_M_room_35, k_M_room_40, e1, hd, ↓reduceIte, Int.reduceAdd, Int.reduceSub, Int.reduceMul, Int.reduceToNat, gs_00, gs_ofi, gs_k0_m, gs_k1_m, gs_n8, gs_n16, gs_n_add, gs_n_sub, gs_n_mul, gs_n_neg, gs_m_add, gs_m_sub, gs_m_mul, gs_m_neg, gs_n_l, gs_m_n, gs_n_c, gs_eq_t, gs_eq_f1, gs_eq_f2, gs_lt_t, gs_lt_f, gs_le_t, gs_le_f, gs_cmp_lt, gs_cmp_eq, gs_cmp_gt, gs_ix_n, gs_nz_n, gs_nzl_g, gs_n_div, gs_af1, gs_af0, gs_ck0, gs_ck1, gs_ck2t, gs_ck2f, gs_ck3, gs_ck4, gs_zd_t, gs_zd_f, gs_zt_t, gs_zt_f, gs_nar1, gs_nar0, gs_tn, if_true, if_false, not_true_eq_false, not_false_eq_true]
  · rw [if_neg c]
    by_cases c2 : 10 ≤ S.2.length
    · rw [if_pos (Or.inl c2)]
      simp (disch := omega) only [e_M_room, k_M_room_0, k_M_room_4, k_M_room_8, k_M_room_12, k_M_room_17, k_M_room_26, k_M_room_30, k_M_room_35, k_M_room_40, e1, hd, hw0, ↓reduceIte, Int.reduceAdd, Int.reduceSub, Int.reduceMul, Int.reduceToNat, gs_00, gs_ofi, gs_k0_m, gs_k1_m, gs_n8, gs_n16, gs_n_add, gs_n_sub, gs_n_mul, gs_n_neg, gs_m_add, gs_m_sub, gs_m_mul, gs_m_neg, gs_n_l, gs_m_n, gs_n_c, gs_eq_t, gs_eq_f1, gs_eq_f2, gs_lt_t, gs_lt_f, gs_le_t, gs_le_f, gs_cmp_lt, gs_cmp_eq, gs_cmp_gt, gs_ix_n, gs_nz_n, gs_nzl_g, gs_n_div, gs_af1, gs_af0, gs_ck0, gs_ck1, gs_ck2t, gs_ck2f, gs_ck3, gs_ck4, gs_zd_t, gs_zd_f, gs_zt_t, gs_zt_f, gs_nar1, gs_nar0, gs_tn, if_true, if_false, not_true_eq_false, not_false_eq_true]
    · by_cases c3 : 40 ≤ S.1 6 1
      · rw [if_pos (Or.inr c3)]
        simp (disch := omega) only [e_M_room, k_M_room_0, k_M_room_4, k_M_room_8, k_M_room_12, k_M_room_17, k_M_room_26, k_M_room_30, k_M_room_35, k_M_room_40, e1, hd, hw0, hc, ↓reduceIte, Int.reduceAdd, Int.reduceSub, Int.reduceMul, Int.reduceToNat, gs_00, gs_ofi, gs_k0_m, gs_k1_m, gs_n8, gs_n16, gs_n_add, gs_n_sub, gs_n_mul, gs_n_neg, gs_m_add, gs_m_sub, gs_m_mul, gs_m_neg, gs_n_l, gs_m_n, gs_n_c, gs_eq_t, gs_eq_f1, gs_eq_f2, gs_lt_t, gs_lt_f, gs_le_t, gs_le_f, gs_cmp_lt, gs_cmp_eq, gs_cmp_gt, gs_ix_n, gs_nz_n, gs_nzl_g, gs_n_div, gs_af1, gs_af0, gs_ck0, gs_ck1, gs_ck2t, gs_ck2f, gs_ck3, gs_ck4, gs_zd_t, gs_zd_f, gs_zt_t, gs_zt_f, gs_nar1, gs_nar0, gs_tn, if_true, if_false, not_true_eq_false, not_false_eq_true]
      · rw [if_neg (by omega)]
        simp (disch := omega) only [e_M_room, k_M_room_0, k_M_room_4, k_M_room_8, k_M_room_12, k_M_room_17, k_M_room_26, k_M_room_30, k_M_room_35, k_M_room_40, e1, hd, hw0, hc, ↓reduceIte, Int.reduceAdd, Int.reduceSub, Int.reduceMul, Int.reduceToNat, gs_00, gs_ofi, gs_k0_m, gs_k1_m, gs_n8, gs_n16, gs_n_add, gs_n_sub, gs_n_mul, gs_n_neg, gs_m_add, gs_m_sub, gs_m_mul, gs_m_neg, gs_n_l, gs_m_n, gs_n_c, gs_eq_t, gs_eq_f1, gs_eq_f2, gs_lt_t, gs_lt_f, gs_le_t, gs_le_f, gs_cmp_lt, gs_cmp_eq, gs_cmp_gt, gs_ix_n, gs_nz_n, gs_nzl_g, gs_n_div, gs_af1, gs_af0, gs_ck0, gs_ck1, gs_ck2t, gs_ck2f, gs_ck3, gs_ck4, gs_zd_t, gs_zd_f, gs_zt_t, gs_zt_f, gs_nar1, gs_nar0, gs_tn, if_true, if_false, not_true_eq_false, not_false_eq_true]
theorem s_M_acc1 {w a2 a3 a4 a5 : Int32} {i c v : Int} {o : Option gs_V} (i0 : 0 ≤ i) (i1 : i < 40) (c0 : 0 ≤ c) (c1 : c < 4) (v0 : 0 ≤ v) (v1 : v < 8) (h : (w >>> (gs_n (3 * c) &&& 31)) &&& gs_n 7 = gs_n v) : gs_g Y0 P_M_accept 23 [some (gs_r 20 0), some (gs_i w), some (gs_i a2), some (gs_i a3), some (gs_i a4), some (gs_i a5), some (gs_i (gs_n i)), some (gs_i (gs_n c)), o] [] d = gs_g Y0 P_M_accept 23 [some (gs_r 20 0), some (gs_i w), some (gs_i a2), some (gs_i a3), some (gs_i a4), some (gs_i a5), some (gs_i (gs_n i)), some (gs_i (gs_n (c + 1))), some (gs_i (gs_n v))] [] (gs_wL d 21 0 (110 + 8 * i + c).toNat (gs_m (gs_v7 v))) := by
  rw [k_M_accept_23]
  unfold gs_v7
  by_cases z : v = 7
  · rw [if_pos z]
    simp (disch := omega) only [k_M_accept_29, k_M_accept_62, k_M_accept_72, h, ↓reduceIte, Int.reduceAdd, Int.reduceSub, Int.reduceMul, Int.reduceToNat, gs_00, gs_ofi, gs_k0_m, gs_k1_m, gs_n8, gs_n16, gs_n_add, gs_n_sub, gs_n_mul, gs_n_neg, gs_m_add, gs_m_sub, gs_m_mul, gs_m_neg, gs_n_l, gs_m_n, gs_n_c, gs_eq_t, gs_eq_f1, gs_eq_f2, gs_lt_t, gs_lt_f, gs_le_t, gs_le_f, gs_cmp_lt, gs_cmp_eq, gs_cmp_gt, gs_ix_n, gs_nz_n, gs_nzl_g, gs_n_div, gs_af1, gs_af0, gs_ck0, gs_ck1, gs_ck2t, gs_ck2f, gs_ck3, gs_ck4, gs_zd_t, gs_zd_f, gs_zt_t, gs_zt_f, gs_nar1, gs_nar0, gs_tn, if_true, if_false, not_true_eq_false, not_false_eq_true]
  · rw [if_neg z]
    simp (disch := omega) only [k_M_accept_29, k_M_accept_68, k_M_accept_72, h, ↓reduceIte, Int.reduceAdd, Int.reduceSub, Int.reduceMul, Int.reduceToNat, gs_00, gs_ofi, gs_k0_m, gs_k1_m, gs_n8, gs_n16, gs_n_add, gs_n_sub, gs_n_mul, gs_n_neg, gs_m_add, gs_m_sub, gs_m_mul, gs_m_neg, gs_n_l, gs_m_n, gs_n_c, gs_eq_t, gs_eq_f1, gs_eq_f2, gs_lt_t, gs_lt_f, gs_le_t, gs_le_f, gs_cmp_lt, gs_cmp_eq, gs_cmp_gt, gs_ix_n, gs_nz_n, gs_nzl_g, gs_n_div, gs_af1, gs_af0, gs_ck0, gs_ck1, gs_ck2t, gs_ck2f, gs_ck3, gs_ck4, gs_zd_t, gs_zd_f, gs_zt_t, gs_zt_f, gs_nar1, gs_nar0, gs_tn, if_true, if_false, not_true_eq_false, not_false_eq_true]
theorem s_M_accept (hM : gs_Mo 21 d S) (hw : gs_wb B S) (hv : gs_wv S) (hB : B + 80000000 ≤ 1000000000000) {g t s am mo pr : Int} (ho : gs_okn g t s am mo pr) (hv2 : S.2.length < 10 → S.1 6 1 < 40 → gs_wv (gs_cl2 (gs_nw S g t s am mo pr))) {w : Int32} {v0 v1 v2 v3 : Int} (b0 : 0 ≤ v0 ∧ v0 < 8) (b1 : 0 ≤ v1 ∧ v1 < 8) (b2 : 0 ≤ v2 ∧ v2 < 8) (b3 : 0 ≤ v3 ∧ v3 < 8) (w0 : (w >>> (gs_n 0 &&& 31)) &&& gs_n 7 = gs_n v0) (w1 : (w >>> (gs_n 3 &&& 31)) &&& gs_n 7 = gs_n v1) (w2 : (w >>> (gs_n 6 &&& 31)) &&& gs_n 7 = gs_n v2) (w3 : (w >>> (gs_n 9 &&& 31)) &&& gs_n 7 = gs_n v3) (w4 : w >>> (gs_n 12 &&& 31) = gs_n pr)
    (u0 : gs_v7 v0 = if 0 < mo then t else -1) (u1 : gs_v7 v1 = if 0 < mo then g else -1) (u2 : gs_v7 v2 = if 0 < am then g else -1) (u3 : gs_v7 v3 = if 0 < am then t else -1) : ∃ d', f_M_accept [gs_r 20 0, gs_i w, gs_i (gs_n s), gs_i (gs_n mo), gs_i (gs_n am)] d = some (some (gs_i (gs_n (o_accept S g t s am mo pr).1)), d') ∧ gs_Mo 21 d' (o_accept S g t s am mo pr).2 ∧ gs_mf d d' := by
  have h61 := hw.2.2.1.2.1
  have hok := ho
  unfold gs_okn at hok
  obtain ⟨d1, e1, f1⟩ := s_M_room hM hw hv
  have m1 := f1.Mo hM
  have hc := s_M_count m1 hw
  unfold o_accept
  by_cases c : ¬ S.1 6 0 = 1
  · rw [if_pos c] at e1 ⊢
    refine ⟨d1, ?_, m1, f1.mf⟩
    simp (disch := omega) only [e_M_accept, k_M_accept_0, k_M_accept_4, k_M_accept_11, e1, ↓reduceIte, Int.reduceAdd, Int.reduceSub, Int.reduceMul, Int.reduceToNat, gs_00, gs_ofi, gs_k0_m, gs_k1_m, gs_n8, gs_n16, gs_n_add, gs_n_sub, gs_n_mul, gs_n_neg, gs_m_add, gs_m_sub, gs_m_mul, gs_m_neg, gs_n_l, gs_m_n, gs_n_c, gs_eq_t, gs_eq_f1, gs_eq_f2, gs_lt_t, gs_lt_f, gs_le_t, gs_le_f, gs_cmp_lt, gs_cmp_eq, gs_cmp_gt, gs_ix_n, gs_nz_n, gs_nzl_g, gs_n_div, gs_af1, gs_af0, gs_ck0, gs_ck1, gs_ck2t, gs_ck2f, gs_ck3, gs_ck4, gs_zd_t, gs_zd_f, gs_zt_t, gs_zt_f, gs_nar1, gs_nar0, gs_tn, if_true, if_false, not_true_eq_false, not_false_eq_true]
  · rw [if_neg c] at e1 ⊢
    by_cases c2 : 10 ≤ S.2.length ∨ 40 ≤ S.1 6 1
    · rw [if_pos c2] at e1 ⊢
      refine ⟨d1, ?_, m1, f1.mf⟩
      simp (disch := omega) only [e_M_accept, k_M_accept_0, k_M_accept_4, k_M_accept_11, e1, ↓reduceIte, Int.reduceAdd, Int.reduceSub, Int.reduceMul, Int.reduceToNat, gs_00, gs_ofi, gs_k0_m, gs_k1_m, gs_n8, gs_n16, gs_n_add, gs_n_sub, gs_n_mul, gs_n_neg, gs_m_add, gs_m_sub, gs_m_mul, gs_m_neg, gs_n_l, gs_m_n, gs_n_c, gs_eq_t, gs_eq_f1, gs_eq_f2, gs_lt_t, gs_lt_f, gs_le_t, gs_le_f, gs_cmp_lt, gs_cmp_eq, gs_cmp_gt, gs_ix_n, gs_nz_n, gs_nzl_g, gs_n_div, gs_af1, gs_af0, gs_ck0, gs_ck1, gs_ck2t, gs_ck2f, gs_ck3, gs_ck4, gs_zd_t, gs_zd_f, gs_zt_t, gs_zt_f, gs_nar1, gs_nar0, gs_tn, if_true, if_false, not_true_eq_false, not_false_eq_true]
    · rw [if_neg c2] at e1 ⊢
      have q107 : ∀ x0 x1 x2 x3 x4 x5 x6 x7 : Int64, (gs_wL (gs_wL (gs_wL (gs_wL (gs_wL (gs_wL (gs_wL (gs_wL d1 21 0 (110 + 8 * S.1 6 1 + 0).toNat x0) 21 0 (110 + 8 * S.1 6 1 + 1).toNat x1) 21 0 (110 + 8 * S.1 6 1 + 2).toNat x2) 21 0 (110 + 8 * S.1 6 1 + 3).toNat x3) 21 0 (114 + 8 * S.1 6 1).toNat x4) 21 0 (115 + 8 * S.1 6 1).toNat x5) 21 0 (116 + 8 * S.1 6 1).toNat x6) 21 0 (117 + 8 * S.1 6 1).toNat x7).2 21 0 107 = gs_m (S.1 6 1) := fun _ _ _ _ _ _ _ _ => by
        rw [gs_wL_o (by omega), gs_wL_o (by omega), gs_wL_o (by omega), gs_wL_o (by omega), gs_wL_o (by omega), gs_wL_o (by omega), gs_wL_o (by omega), gs_wL_o (by omega), m1 107 (by omega) (by omega) (by omega), gs_mr_k]
      have l0 := fun (dd : gs_D) (o : Option gs_V) => s_M_acc1 (d := dd) (w := w) (a2 := gs_n s) (a3 := gs_n mo) (a4 := gs_n am) (a5 := gs_n 0) (i := S.1 6 1) (c := 0) (v := v0) (o := o) (by omega) (by omega) (by omega) (by omega) b0.1 b0.2 w0
      have l1 := fun (dd : gs_D) (o : Option gs_V) => s_M_acc1 (d := dd) (w := w) (a2 := gs_n s) (a3 := gs_n mo) (a4 := gs_n am) (a5 := gs_n 0) (i := S.1 6 1) (c := 1) (v := v1) (o := o) (by omega) (by omega) (by omega) (by omega) b1.1 b1.2 w1
      have l2 := fun (dd : gs_D) (o : Option gs_V) => s_M_acc1 (d := dd) (w := w) (a2 := gs_n s) (a3 := gs_n mo) (a4 := gs_n am) (a5 := gs_n 0) (i := S.1 6 1) (c := 2) (v := v2) (o := o) (by omega) (by omega) (by omega) (by omega) b2.1 b2.2 w2
      have l3 := fun (dd : gs_D) (o : Option gs_V) => s_M_acc1 (d := dd) (w := w) (a2 := gs_n s) (a3 := gs_n mo) (a4 := gs_n am) (a5 := gs_n 0) (i := S.1 6 1) (c := 3) (v := v3) (o := o) (by omega) (by omega) (by omega) (by omega) b3.1 b3.2 w3
      have m2 : gs_Mo 21 (gs_wL (gs_wL (gs_wL (gs_wL (gs_wL (gs_wL (gs_wL (gs_wL (gs_wL d1 21 0 (110 + 8 * S.1 6 1 + 0).toNat (gs_m (gs_v7 v0))) 21 0 (110 + 8 * S.1 6 1 + 1).toNat (gs_m (gs_v7 v1))) 21 0 (110 + 8 * S.1 6 1 + 2).toNat (gs_m (gs_v7 v2))) 21 0 (110 + 8 * S.1 6 1 + 3).toNat (gs_m (gs_v7 v3))) 21 0 (114 + 8 * S.1 6 1).toNat (gs_m s)) 21 0 (115 + 8 * S.1 6 1).toNat (gs_m mo)) 21 0 (116 + 8 * S.1 6 1).toNat (gs_m am)) 21 0 (117 + 8 * S.1 6 1).toNat (gs_m pr)) 21 0 107 (gs_m (S.1 6 1 + 1))) (gs_cl2 (gs_nw S g t s am mo pr)) := by
        intro n n1 n2 n3
        have n1 : (n : Int) < 110 + 8 * (gs_nw S g t s am mo pr).1 6 1 := n1
        rw [gs_nw_61] at n1
        show _ = gs_m (gs_mr (gs_nw S g t s am mo pr) n)
        obtain ⟨y0, y1, y2, y3, y4, y5, y6⟩ := gs_w7_s S (S.1 6 1).toNat g t s am mo pr 0
        by_cases z7 : n = 107
        · rw [z7, gs_wL_s, gs_mr_k, gs_nw_61]
        · rw [gs_wL_o (by omega)]
          by_cases zn : (n : Int) < 110 + 8 * S.1 6 1
          · rw [gs_wL_o (by omega), gs_wL_o (by omega), gs_wL_o (by omega), gs_wL_o (by omega), gs_wL_o (by omega), gs_wL_o (by omega), gs_wL_o (by omega), gs_wL_o (by omega), m1 n zn n2 n3]
            refine congrArg gs_m ?_
            have o : ∀ a k, a < 10 → a ≠ 6 → (gs_nw S g t s am mo pr).1 a k = S.1 a k := fun a k h z => gs_nw_o g t s am mo pr k (by omega) z
            by_cases zi : 110 ≤ n
            · rw [gs_mr_i zi, gs_mr_i zi]
              have e : ∀ k, (gs_nw S g t s am mo pr).1 (10 + (n - 110) / 8) k = S.1 (10 + (n - 110) / 8) k := fun k => gs_nw_o g t s am mo pr k (by omega) (by omega)
              unfold gs_ms
              simp only [e]
            · unfold gs_mr
              simp only [o 0 _ (by omega) (by omega), o 1 _ (by omega) (by omega), o 2 _ (by omega) (by omega), o 3 _ (by omega) (by omega), o 4 _ (by omega) (by omega), o 5 _ (by omega) (by omega), gs_nw_60]
              repeat' split
              all_goals first | rfl | (exfalso; omega)
          · have en : (n - 110) / 8 = (S.1 6 1).toNat := by omega
            rw [gs_mr_i (by omega), en]
            have : (n - 110) % 8 = 0 ∨ (n - 110) % 8 = 1 ∨ (n - 110) % 8 = 2 ∨ (n - 110) % 8 = 3 ∨ (n - 110) % 8 = 4 ∨ (n - 110) % 8 = 5 ∨ (n - 110) % 8 = 6 ∨ (n - 110) % 8 = 7 := by omega
            rcases this with z | z | z | z | z | z | z | z <;> rw [z]
            · rw [show n = (110 + 8 * S.1 6 1 + 0).toNat by omega, gs_wL_o (by omega), gs_wL_o (by omega), gs_wL_o (by omega), gs_wL_o (by omega), gs_wL_o (by omega), gs_wL_o (by omega), gs_wL_o (by omega), gs_wL_s, u0]
              show _ = gs_m (if 0 < (gs_nw S g t s am mo pr).1 (10 + (S.1 6 1).toNat) 4 then (gs_nw S g t s am mo pr).1 (10 + (S.1 6 1).toNat) 1 else -1)
              rw [gs_nw_i, gs_nw_i, y4, y1]
            · rw [show n = (110 + 8 * S.1 6 1 + 1).toNat by omega, gs_wL_o (by omega), gs_wL_o (by omega), gs_wL_o (by omega), gs_wL_o (by omega), gs_wL_o (by omega), gs_wL_o (by omega), gs_wL_s, u1]
              show _ = gs_m (if 0 < (gs_nw S g t s am mo pr).1 (10 + (S.1 6 1).toNat) 4 then (gs_nw S g t s am mo pr).1 (10 + (S.1 6 1).toNat) 0 else -1)
              rw [gs_nw_i, gs_nw_i, y4, y0]
            · rw [show n = (110 + 8 * S.1 6 1 + 2).toNat by omega, gs_wL_o (by omega), gs_wL_o (by omega), gs_wL_o (by omega), gs_wL_o (by omega), gs_wL_o (by omega), gs_wL_s, u2]
              show _ = gs_m (if 0 < (gs_nw S g t s am mo pr).1 (10 + (S.1 6 1).toNat) 3 then (gs_nw S g t s am mo pr).1 (10 + (S.1 6 1).toNat) 0 else -1)
              rw [gs_nw_i, gs_nw_i, y3, y0]
            · rw [show n = (110 + 8 * S.1 6 1 + 3).toNat by omega, gs_wL_o (by omega), gs_wL_o (by omega), gs_wL_o (by omega), gs_wL_o (by omega), gs_wL_s, u3]
              show _ = gs_m (if 0 < (gs_nw S g t s am mo pr).1 (10 + (S.1 6 1).toNat) 3 then (gs_nw S g t s am mo pr).1 (10 + (S.1 6 1).toNat) 1 else -1)
              rw [gs_nw_i, gs_nw_i, y3, y1]
            · rw [show n = (114 + 8 * S.1 6 1).toNat by omega, gs_wL_o (by omega), gs_wL_o (by omega), gs_wL_o (by omega), gs_wL_s]
              show _ = gs_m ((gs_nw S g t s am mo pr).1 (10 + (S.1 6 1).toNat) 2)
              rw [gs_nw_i, y2]
            · rw [show n = (115 + 8 * S.1 6 1).toNat by omega, gs_wL_o (by omega), gs_wL_o (by omega), gs_wL_s]
              show _ = gs_m ((gs_nw S g t s am mo pr).1 (10 + (S.1 6 1).toNat) 4)
              rw [gs_nw_i, y4]
            · rw [show n = (116 + 8 * S.1 6 1).toNat by omega, gs_wL_o (by omega), gs_wL_s]
              show _ = gs_m ((gs_nw S g t s am mo pr).1 (10 + (S.1 6 1).toNat) 3)
              rw [gs_nw_i, y3]
            · rw [show n = (117 + 8 * S.1 6 1).toNat by omega, gs_wL_s]
              show _ = gs_m ((gs_nw S g t s am mo pr).1 (10 + (S.1 6 1).toNat) 5 + 4 * (gs_nw S g t s am mo pr).1 (10 + (S.1 6 1).toNat) 6)
              rw [gs_nw_i, gs_nw_i, y5, y6, Int.mul_zero, Int.add_zero]
      have wn : gs_wb B (gs_cl2 (gs_nw S g t s am mo pr)) := gs_wb_nw hw ho (by omega)
      obtain ⟨d2, e2, c3, f2⟩ := s_M_goThrough m2 wn (hv2 (by omega) (by omega)) (by omega)
      have tn := gs_thr_nn 10 (gs_cl2 (gs_nw S g t s am mo pr))
      refine ⟨d2, ?_, c3, (f1.mf.tr gs_rf.rf.w.w.w.w.w.w.w.w.w.mf).tr f2⟩
      have st : f_M_accept [gs_r 20 0, gs_i w, gs_i (gs_n s), gs_i (gs_n mo), gs_i (gs_n am)] d = gs_ck 1 (gs_g Y0 P_M_accept 23 [some (gs_r 20 0), some (gs_i w), some (gs_i (gs_n s)), some (gs_i (gs_n mo)), some (gs_i (gs_n am)), some (gs_i (gs_n 0)), some (gs_i (gs_n (S.1 6 1))), some (gs_i (gs_n 0)), none] [] d1) := by
        simp (disch := omega) only [e_M_accept, k_M_accept_0, k_M_accept_4, k_M_accept_14, k_M_accept_18, e1, hc, ↓reduceIte, Int.reduceAdd, Int.reduceSub, Int.reduceMul, Int.reduceToNat, gs_00, gs_ofi, gs_k0_m, gs_k1_m, gs_n8, gs_n16, gs_n_add, gs_n_sub, gs_n_mul, gs_n_neg, gs_m_add, gs_m_sub, gs_m_mul, gs_m_neg, gs_n_l, gs_m_n, gs_n_c, gs_eq_t, gs_eq_f1, gs_eq_f2, gs_lt_t, gs_lt_f, gs_le_t, gs_le_f, gs_cmp_lt, gs_cmp_eq, gs_cmp_gt, gs_ix_n, gs_nz_n, gs_nzl_g, gs_n_div, gs_af1, gs_af0, gs_ck0, gs_ck1, gs_ck2t, gs_ck2f, gs_ck3, gs_ck4, gs_zd_t, gs_zd_f, gs_zt_t, gs_zt_f, gs_nar1, gs_nar0, gs_tn, if_true, if_false, not_true_eq_false, not_false_eq_true]
      rw [st, l0, show (0 : Int) + 1 = 1 from rfl, l1, show (1 : Int) + 1 = 2 from rfl, l2, show (2 : Int) + 1 = 3 from rfl, l3, show (3 : Int) + 1 = 4 from rfl, k_M_accept_23]
      simp (disch := omega) only [k_M_accept_78, k_M_accept_93, k_M_accept_108, k_M_accept_124, k_M_accept_142, k_M_accept_150, k_M_accept_153, k_M_accept_157, k_M_accept_164, w4, q107, e2, ↓reduceIte, Int.reduceAdd, Int.reduceSub, Int.reduceMul, Int.reduceToNat, gs_00, gs_ofi, gs_k0_m, gs_k1_m, gs_n8, gs_n16, gs_n_add, gs_n_sub, gs_n_mul, gs_n_neg, gs_m_add, gs_m_sub, gs_m_mul, gs_m_neg, gs_n_l, gs_m_n, gs_n_c, gs_eq_t, gs_eq_f1, gs_eq_f2, gs_lt_t, gs_lt_f, gs_le_t, gs_le_f, gs_cmp_lt, gs_cmp_eq, gs_cmp_gt, gs_ix_n, gs_nz_n, gs_nzl_g, gs_n_div, gs_af1, gs_af0, gs_ck0, gs_ck1, gs_ck2t, gs_ck2f, gs_ck3, gs_ck4, gs_zd_t, gs_zd_f, gs_zt_t, gs_zt_f, gs_nar1, gs_nar0, gs_tn, if_true, if_false, not_true_eq_false, not_false_eq_true]
end MZ
