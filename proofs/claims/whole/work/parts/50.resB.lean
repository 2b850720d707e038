-- the component resolves
def gs_Rs (d : gs_D) (S : gs_S) (C : Nat → Bool) : Prop := gs_Cl 0 d (gs_sm S C) ∧ ∀ k : Int, 0 ≤ k → k < S.2.length → d.1 2 0 k.toNat = gs_n (gs_z (C k.toNat))
section RB
variable {d : gs_D} {S : gs_S} {B : Int} {C : Nat → Bool}
theorem gs_sm_at (hw : gs_wb B S) (hv : gs_wv S) (hB : B + 60000000 ≤ 1000000000000) (h : gs_Rs d S C) {k : Int} (k0 : 0 ≤ k) (k1 : k < S.2.length) : f_Q_at [gs_r 4 0, gs_i (gs_n k)] d = some (some (gs_r 13 (gs_ii 0 (gs_qa S k))), d) ∧ (gs_qa S k : Int) < (gs_sm S C).1 6 1 := by
  have w1 := gs_sm_wb hw hv hB C
  have q1 := (gs_sm_wv hv C).q w1
  exact ⟨s_Q_at h.1 w1 q1 k0 k1, q1.1 k k0 k1⟩
theorem s_G_chooseAll (hC : gs_Cl 0 d S) (hw : gs_wb B S) (hv : gs_wv S) (hB : B + 60000000 ≤ 1000000000000) : ∃ d', f_G_chooseAll [gs_r 0 0] d = some (none, d') ∧ gs_Rs d' S (fun _ => true) ∧ gs_fr d d' := by
  have hl := hv.2
  have key : ∀ (n k : Nat) (dk : gs_D), k + n = S.2.length → gs_Cl 0 dk (gs_sm S (fun m => decide (m < k))) → (∀ j : Int, 0 ≤ j → j < k → dk.1 2 0 j.toNat = gs_n 1) → gs_fr d dk → ∃ d', gs_g Y0 P_G_chooseAll 2 [some (gs_r 0 0), some (gs_i (gs_n k))] [] dk = some (none, d') ∧ gs_Rs d' S (fun _ => true) ∧ gs_fr d d' := by
    intro n
    induction n with
    | zero =>
      intro k dk hk hc hj hf
      have hwt : dk.1 4 0 3 = gs_n S.2.length := hc.wt
      refine ⟨dk, ?_, ⟨?_, fun j j0 j1 => ?_⟩, hf⟩
      · rw [k_G_chooseAll_2]
        simp (disch := omega) only [k_G_chooseAll_51, hwt, ↓reduceIte, Int.reduceAdd, Int.reduceSub, Int.reduceMul, Int.reduceToNat, gs_00, gs_ofi, gs_k0_m, gs_k1_m, gs_n8, gs_n16, gs_n_add, gs_n_sub, gs_n_mul, gs_n_neg, gs_m_add, gs_m_sub, gs_m_mul, gs_m_neg, gs_n_l, gs_m_n, gs_n_c, gs_eq_t, gs_eq_f1, gs_eq_f2, gs_lt_t, gs_lt_f, gs_le_t, gs_le_f, gs_cmp_lt, gs_cmp_eq, gs_cmp_gt, gs_ix_n, gs_nz_n, gs_nzl_g, gs_n_div, gs_af1, gs_af0, gs_ck0, gs_ck1, gs_ck2t, gs_ck2f, gs_ck3, gs_ck4, gs_zd_t, gs_zd_f, gs_zt_t, gs_zt_f, gs_nar1, gs_nar0, gs_tn, if_true, if_false, not_true_eq_false, not_false_eq_true]
      · rw [gs_sm_cg (C := fun m => decide (m < k)) (fun m hm => (decide_eq_true (show m < k by omega)).symm)]
        exact hc
      · exact hj j j0 (by omega)
    | succ n ih =>
      intro k dk hk hc hj hf
      have c1 : gs_Cl 0 (gs_wI dk 2 0 k (gs_n 1)) (gs_sm S (fun m => decide (m < k))) := by
        have o : ∀ t i, t ≠ 2 → (gs_wI dk 2 0 k (gs_n 1)).1 t i = dk.1 t i := fun t i h => by
          funext j
          exact gs_wI_o (by omega)
        refine ⟨⟨hc.h, hc.p⟩, ⟨fun j hj => ?_, fun j hj => ?_⟩, ⟨fun j hj => ?_, hc.nt⟩, ⟨?_, ?_, ?_⟩, fun i j hi hj => ?_, fun j hj => ?_⟩
        · rw [o 7 0 (by decide)]; exact hc.pr j hj
        · rw [o 8 0 (by decide)]; exact hc.hc j hj
        · rw [o 9 0 (by decide)]; exact hc.li j hj
        · rw [o 1 0 (by decide)]; exact hc.dy
        · rw [o 4 0 (by decide)]; exact hc.ct
        · rw [o 4 0 (by decide)]; exact hc.wt
        · rw [o 13 _ (by decide)]; exact hc.is i j hi hj
        · rw [o 12 0 (by decide)]; exact hc.od j hj
      have hwt : dk.1 4 0 3 = gs_n S.2.length := hc.wt
      have w1 := gs_sm_wb hw hv hB (fun m => decide (m < k))
      have q1 := (gs_sm_wv hv (fun m => decide (m < k))).q w1
      have ha := s_Q_at c1 w1 q1 (k := (k : Int)) (by omega) (by show (k : Int) < S.2.length; omega)
      have hm := q1.1 (k : Int) (by omega) (by show (k : Int) < S.2.length; omega)
      obtain ⟨d2, e2, c2, f2, g2⟩ := s_A_mvd c1 w1 hm (Or.inl rfl)
      have eq : gs_qa (gs_sm S (fun m => decide (m < k))) (k : Int) = S.2.getD k 0 := by
        show S.2.getD (k : Int).toNat 0 = _
        rw [gs_tn]
      rw [eq] at ha e2 c2
      rw [gs_sm_set (C' := fun m => decide (m < k + 1)) (by omega) (fun j hj => by
        by_cases c : j < k
        · rw [decide_eq_true c, decide_eq_true (by omega)]
        · rw [decide_eq_false c, decide_eq_false (by omega)]) (by
        rw [decide_eq_true (show k < k + 1 by omega), decide_eq_false (show ¬ k < k by omega)]; rfl)] at c2
      obtain ⟨d3, e3, r3⟩ := ih (k + 1) d2 (by omega) c2 (fun j j0 j1 => by
        rw [g2]
        by_cases z : j = k
        · subst z
          rw [gs_tn]
          exact gs_wI_s
        · rw [gs_wI_o (by omega)]
          exact hj j j0 (by omega)) ((hf.tr (gs_fr.I rfl)).tr f2)
      refine ⟨d3, ?_, r3⟩
      rw [show ((k + 1 : Nat) : Int) = (k : Int) + 1 by omega] at e3
      rw [k_G_chooseAll_2]
      simp (disch := omega) only [e_G_chooseAll, k_G_chooseAll_0, k_G_chooseAll_16, k_G_chooseAll_23, k_G_chooseAll_41, k_G_chooseAll_45, k_G_chooseAll_51, hwt, ha, e2, ↓reduceIte, Int.reduceAdd, Int.reduceSub, Int.reduceMul, Int.reduceToNat, gs_00, gs_ofi, gs_k0_m, gs_k1_m, gs_n8, gs_n16, gs_n_add, gs_n_sub, gs_n_mul, gs_n_neg, gs_m_add, gs_m_sub, gs_m_mul, gs_m_neg, gs_n_l, gs_m_n, gs_n_c, gs_eq_t, gs_eq_f1, gs_eq_f2, gs_lt_t, gs_lt_f, gs_le_t, gs_le_f, gs_cmp_lt, gs_cmp_eq, gs_cmp_gt, gs_ix_n, gs_nz_n, gs_nzl_g, gs_n_div, gs_af1, gs_af0, gs_ck0, gs_ck1, gs_ck2t, gs_ck2f, gs_ck3, gs_ck4, gs_zd_t, gs_zd_f, gs_zt_t, gs_zt_f, gs_nar1, gs_nar0, gs_tn, if_true, if_false, not_true_eq_false, not_false_eq_true]
      exact e3
  obtain ⟨d', e, r⟩ := key S.2.length 0 d (by omega) (hC.cg (fun f j => by
    show S.1 f j + gs_sum _ _ = _
    rw [gs_sum_0 (fun k _ => if_neg (by simp)), Int.add_zero]) rfl) (fun j j0 j1 => by omega) gs_fr.rf
  refine ⟨d', ?_, r⟩
  rw [show ((0 : Nat) : Int) = 0 from rfl] at e
  simp (disch := omega) only [e_G_chooseAll, k_G_chooseAll_0, e, ↓reduceIte, Int.reduceAdd, Int.reduceSub, Int.reduceMul, Int.reduceToNat, gs_00, gs_ofi, gs_k0_m, gs_k1_m, gs_n8, gs_n16, gs_n_add, gs_n_sub, gs_n_mul, gs_n_neg, gs_m_add, gs_m_sub, gs_m_mul, gs_m_neg, gs_n_l, gs_m_n, gs_n_c, gs_eq_t, gs_eq_f1, gs_eq_f2, gs_lt_t, gs_lt_f, gs_le_t, gs_le_f, gs_cmp_lt, gs_cmp_eq, gs_cmp_gt, gs_ix_n, gs_nz_n, gs_nzl_g, gs_n_div, gs_af1, gs_af0, gs_ck0, gs_ck1, gs_ck2t, gs_ck2f, gs_ck3, gs_ck4, gs_zd_t, gs_zd_f, gs_zt_t, gs_zt_f, gs_nar1, gs_nar0, gs_tn, if_true, if_false, not_true_eq_false, not_false_eq_true]
/-- one is taken back -/
def gs_off1 (C : Nat → Bool) (k : Nat) : Nat → Bool := fun m => if m = k then false else C m
theorem s_G_drop (h : gs_Rs d S C) (hw : gs_wb B S) (hv : gs_wv S) (hB : B + 60000000 ≤ 1000000000000) {k : Int} (k0 : 0 ≤ k) (k1 : k < S.2.length) (hk : C k.toNat = true) : ∃ d', f_G_drop [gs_r 0 0, gs_i (gs_n k)] d = some (none, d') ∧ gs_Rs d' S (gs_off1 C k.toNat) ∧ gs_fr d d' := by
  have hl := hv.2
  obtain ⟨hc, hj⟩ := h
  have c1 : gs_Cl 0 (gs_wI d 2 0 k.toNat (gs_n 0)) (gs_sm S C) := by
    have o : ∀ t i, t ≠ 2 → (gs_wI d 2 0 k.toNat (gs_n 0)).1 t i = d.1 t i := fun t i h => by
      funext j
      exact gs_wI_o (by omega)
    refine ⟨⟨hc.h, hc.p⟩, ⟨fun j hj => ?_, fun j hj => ?_⟩, ⟨fun j hj => ?_, hc.nt⟩, ⟨?_, ?_, ?_⟩, fun i j hi hj => ?_, fun j hj => ?_⟩
    · rw [o 7 0 (by decide)]; exact hc.pr j hj
    · rw [o 8 0 (by decide)]; exact hc.hc j hj
    · rw [o 9 0 (by decide)]; exact hc.li j hj
    · rw [o 1 0 (by decide)]; exact hc.dy
    · rw [o 4 0 (by decide)]; exact hc.ct
    · rw [o 4 0 (by decide)]; exact hc.wt
    · rw [o 13 _ (by decide)]; exact hc.is i j hi hj
    · rw [o 12 0 (by decide)]; exact hc.od j hj
  have w1 := gs_sm_wb hw hv hB C
  have q1 := (gs_sm_wv hv C).q w1
  have ha := s_Q_at c1 w1 q1 k0 k1
  have hm := q1.1 k k0 k1
  obtain ⟨d2, e2, c2, f2, g2⟩ := s_A_mvd c1 w1 hm (Or.inr rfl)
  have eo : gs_off1 C k.toNat k.toNat = false := if_pos rfl
  have c2 : gs_Cl 0 d2 (gs_mvd (gs_sm S C) (S.2.getD k.toNat 0) (-1)) := c2
  rw [gs_sm_set (C' := gs_off1 C k.toNat) (by omega) (fun j hj => if_neg hj) (by rw [eo, hk]; rfl)] at c2
  refine ⟨d2, ?_, ⟨c2, fun j j0 j1 => ?_⟩, (gs_fr.I rfl).tr f2⟩
  · simp (disch := omega) only [e_G_drop, k_G_drop_0, k_G_drop_7, k_G_drop_25, k_G_drop_29, ha, e2, ↓reduceIte, Int.reduceAdd, Int.reduceSub, Int.reduceMul, Int.reduceToNat, gs_00, gs_ofi, gs_k0_m, gs_k1_m, gs_n8, gs_n16, gs_n_add, gs_n_sub, gs_n_mul, gs_n_neg, gs_m_add, gs_m_sub, gs_m_mul, gs_m_neg, gs_n_l, gs_m_n, gs_n_c, gs_eq_t, gs_eq_f1, gs_eq_f2, gs_lt_t, gs_lt_f, gs_le_t, gs_le_f, gs_cmp_lt, gs_cmp_eq, gs_cmp_gt, gs_ix_n, gs_nz_n, gs_nzl_g, gs_n_div, gs_af1, gs_af0, gs_ck0, gs_ck1, gs_ck2t, gs_ck2f, gs_ck3, gs_ck4, gs_zd_t, gs_zd_f, gs_zt_t, gs_zt_f, gs_nar1, gs_nar0, gs_tn, if_true, if_false, not_true_eq_false, not_false_eq_true]
  · rw [g2]
    by_cases z : j = k
    · subst z
      rw [eo]
      exact gs_wI_s
    · rw [gs_wI_o (by omega), hj j j0 j1]
      show _ = gs_n (gs_z (if j.toNat = k.toNat then false else C j.toNat))
      rw [if_neg (by omega)]
theorem gs_mt_sm (C : Nat → Bool) (i j : Nat) : gs_mt (gs_sm S C) i j = gs_mt S i j := by
  unfold gs_mt
  simp only [gs_sm_o (S := S) (C := C) (f := 10 + i) _ (by omega) (by omega), gs_sm_o (S := S) (C := C) (f := 10 + j) _ (by omega) (by omega)]
theorem gs_db_sm (C : Nat → Bool) (i : Nat) (x : Int) : gs_db (gs_sm S C) i x = gs_db S i x := by
  unfold gs_db
  simp only [gs_sm_o (S := S) (C := C) (f := 10 + i) _ (by omega) (by omega)]
theorem s_G_isBehindDropped (h : gs_Rs d S C) (hw : gs_wb B S) (hv : gs_wv S) (hB : B + 60000000 ≤ 1000000000000) {p : Nat} (p1 : p < S.2.length) : f_G_isBehindDropped [gs_r 0 0, gs_i (gs_n p)] d = some (some (gs_i (gs_n (gs_z (gs_bd (gs_pm S) C p)))), d) := by
  have hl := hv.2
  have w1 := gs_sm_wb hw hv hB C
  have q1 := (gs_sm_wv hv C).q w1
  have eqa : ∀ k : Nat, gs_qa (gs_sm S C) (k : Int) = S.2.getD k 0 := fun k => by
    show S.2.getD (k : Int).toNat 0 = _
    rw [gs_tn]
  have ap := s_Q_at h.1 w1 q1 (k := (p : Int)) (by omega) (by show (p : Int) < S.2.length; omega)
  have mp := q1.1 (p : Int) (by omega) (by show (p : Int) < S.2.length; omega)
  rw [eqa] at ap mp
  have key : ∀ (n k : Nat), k + n = p → (∀ i, i < k → ¬ (C i = false ∧ gs_pm S p i = true)) → gs_g Y0 P_G_isBehindDropped 2 [some (gs_r 0 0), some (gs_i (gs_n p)), some (gs_i (gs_n k))] [] d = some (some (gs_i (gs_n (gs_z (gs_bd (gs_pm S) C p)))), d) := by
    intro n
    induction n with
    | zero =>
      intro k hk hn
      have e : gs_bd (gs_pm S) C p = false := by
        cases hb : gs_bd (gs_pm S) C p
        · rfl
        · obtain ⟨i, i1, i2, i3⟩ := gs_bd_t.mp hb
          exact absurd ⟨i2, i3⟩ (hn i (by omega))
      rw [e, k_G_isBehindDropped_2]
      simp (disch := omega) only [k_G_isBehindDropped_52, ↓reduceIte, Int.reduceAdd, Int.reduceSub, Int.reduceMul, Int.reduceToNat, gs_00, gs_ofi, gs_k0_m, gs_k1_m, gs_n8, gs_n16, gs_n_add, gs_n_sub, gs_n_mul, gs_n_neg, gs_m_add, gs_m_sub, gs_m_mul, gs_m_neg, gs_n_l, gs_m_n, gs_n_c, gs_eq_t, gs_eq_f1, gs_eq_f2, gs_lt_t, gs_lt_f, gs_le_t, gs_le_f, gs_cmp_lt, gs_cmp_eq, gs_cmp_gt, gs_ix_n, gs_nz_n, gs_nzl_g, gs_n_div, gs_af1, gs_af0, gs_ck0, gs_ck1, gs_ck2t, gs_ck2f, gs_ck3, gs_ck4, gs_zd_t, gs_zd_f, gs_zt_t, gs_zt_f, gs_nar1, gs_nar0, gs_tn, if_true, if_false, not_true_eq_false, not_false_eq_true]
    | succ n ih =>
      intro k hk hn
      have hch := h.2 (k : Int) (by omega) (by omega)
      rw [gs_tn] at hch
      have ak := s_Q_at h.1 w1 q1 (k := (k : Int)) (by omega) (by show (k : Int) < S.2.length; omega)
      have mk := q1.1 (k : Int) (by omega) (by show (k : Int) < S.2.length; omega)
      rw [eqa] at ak mk
      have hmt := s_I_meets h.1 w1 mp mk
      rw [gs_mt_sm] at hmt
      have go : ¬ (C k = false ∧ gs_pm S p k = true) → gs_g Y0 P_G_isBehindDropped 2 [some (gs_r 0 0), some (gs_i (gs_n p)), some (gs_i (gs_n ((k : Int) + 1)))] [] d = some (some (gs_i (gs_n (gs_z (gs_bd (gs_pm S) C p)))), d) := fun hno => by
        have := ih (k + 1) (by omega) (fun i hi => by
          by_cases z : i = k
          · rw [z]; exact hno
          · exact hn i (by omega))
        rw [show ((k + 1 : Nat) : Int) = (k : Int) + 1 by omega] at this
        exact this
      rw [k_G_isBehindDropped_2]
      cases hck : C k
      · rw [hck] at hch
        cases hb : gs_pm S p k
        · have hb' : gs_mt S (S.2.getD p 0) (S.2.getD k 0) = false := hb
          rw [hb'] at hmt
          simp (disch := omega) only [e_G_isBehindDropped, k_G_isBehindDropped_0, k_G_isBehindDropped_7, k_G_isBehindDropped_13, k_G_isBehindDropped_16, k_G_isBehindDropped_27, k_G_isBehindDropped_38, k_G_isBehindDropped_41, k_G_isBehindDropped_44, k_G_isBehindDropped_46, k_G_isBehindDropped_52, hch, ap, ak, hmt, ↓reduceIte, Int.reduceAdd, Int.reduceSub, Int.reduceMul, Int.reduceToNat, gs_00, gs_ofi, gs_k0_m, gs_k1_m, gs_n8, gs_n16, gs_n_add, gs_n_sub, gs_n_mul, gs_n_neg, gs_m_add, gs_m_sub, gs_m_mul, gs_m_neg, gs_n_l, gs_m_n, gs_n_c, gs_eq_t, gs_eq_f1, gs_eq_f2, gs_lt_t, gs_lt_f, gs_le_t, gs_le_f, gs_cmp_lt, gs_cmp_eq, gs_cmp_gt, gs_ix_n, gs_nz_n, gs_nzl_g, gs_n_div, gs_af1, gs_af0, gs_ck0, gs_ck1, gs_ck2t, gs_ck2f, gs_ck3, gs_ck4, gs_zd_t, gs_zd_f, gs_zt_t, gs_zt_f, gs_nar1, gs_nar0, gs_tn, if_true, if_false, not_true_eq_false, not_false_eq_true]
          exact go (by rw [hb]; simp)
        · have hb' : gs_mt S (S.2.getD p 0) (S.2.getD k 0) = true := hb
          rw [hb'] at hmt
          have e : gs_bd (gs_pm S) C p = true := gs_bd_t.mpr ⟨k, by omega, hck, hb⟩
          rw [e]
          simp (disch := omega) only [e_G_isBehindDropped, k_G_isBehindDropped_0, k_G_isBehindDropped_7, k_G_isBehindDropped_13, k_G_isBehindDropped_16, k_G_isBehindDropped_27, k_G_isBehindDropped_38, k_G_isBehindDropped_41, k_G_isBehindDropped_44, k_G_isBehindDropped_46, k_G_isBehindDropped_52, hch, ap, ak, hmt, ↓reduceIte, Int.reduceAdd, Int.reduceSub, Int.reduceMul, Int.reduceToNat, gs_00, gs_ofi, gs_k0_m, gs_k1_m, gs_n8, gs_n16, gs_n_add, gs_n_sub, gs_n_mul, gs_n_neg, gs_m_add, gs_m_sub, gs_m_mul, gs_m_neg, gs_n_l, gs_m_n, gs_n_c, gs_eq_t, gs_eq_f1, gs_eq_f2, gs_lt_t, gs_lt_f, gs_le_t, gs_le_f, gs_cmp_lt, gs_cmp_eq, gs_cmp_gt, gs_ix_n, gs_nz_n, gs_nzl_g, gs_n_div, gs_af1, gs_af0, gs_ck0, gs_ck1, gs_ck2t, gs_ck2f, gs_ck3, gs_ck4, gs_zd_t, gs_zd_f, gs_zt_t, gs_zt_f, gs_nar1, gs_nar0, gs_tn, if_true, if_false, not_true_eq_false, not_false_eq_true]
      · rw [hck] at hch
        simp (disch := omega) only [e_G_isBehindDropped, k_G_isBehindDropped_0, k_G_isBehindDropped_7, k_G_isBehindDropped_13, k_G_isBehindDropped_16, k_G_isBehindDropped_27, k_G_isBehindDropped_38, k_G_isBehindDropped_41, k_G_isBehindDropped_44, k_G_isBehindDropped_46, k_G_isBehindDropped_52, hch, ↓reduceIte, Int.reduceAdd, Int.reduceSub, Int.reduceMul, Int.reduceToNat, gs_00, gs_ofi, gs_k0_m, gs_k1_m, gs_n8, gs_n16, gs_n_add, gs_n_sub, gs_n_mul, gs_n_neg, gs_m_add, gs_m_sub, gs_m_mul, gs_m_neg, gs_n_l, gs_m_n, gs_n_c, gs_eq_t, gs_eq_f1, gs_eq_f2, gs_lt_t, gs_lt_f, gs_le_t, gs_le_f, gs_cmp_lt, gs_cmp_eq, gs_cmp_gt, gs_ix_n, gs_nz_n, gs_nzl_g, gs_n_div, gs_af1, gs_af0, gs_ck0, gs_ck1, gs_ck2t, gs_ck2f, gs_ck3, gs_ck4, gs_zd_t, gs_zd_f, gs_zt_t, gs_zt_f, gs_nar1, gs_nar0, gs_tn, if_true, if_false, not_true_eq_false, not_false_eq_true]
        exact go (by rw [hck]; simp)
  have e := key p 0 (by omega) (fun i hi => by omega)
  rw [show ((0 : Nat) : Int) = 0 from rfl] at e
  simp (disch := omega) only [e_G_isBehindDropped, k_G_isBehindDropped_0, e, ↓reduceIte, Int.reduceAdd, Int.reduceSub, Int.reduceMul, Int.reduceToNat, gs_00, gs_ofi, gs_k0_m, gs_k1_m, gs_n8, gs_n16, gs_n_add, gs_n_sub, gs_n_mul, gs_n_neg, gs_m_add, gs_m_sub, gs_m_mul, gs_m_neg, gs_n_l, gs_m_n, gs_n_c, gs_eq_t, gs_eq_f1, gs_eq_f2, gs_lt_t, gs_lt_f, gs_le_t, gs_le_f, gs_cmp_lt, gs_cmp_eq, gs_cmp_gt, gs_ix_n, gs_nz_n, gs_nzl_g, gs_n_div, gs_af1, gs_af0, gs_ck0, gs_ck1, gs_ck2t, gs_ck2f, gs_ck3, gs_ck4, gs_zd_t, gs_zd_f, gs_zt_t, gs_zt_f, gs_nar1, gs_nar0, gs_tn, if_true, if_false, not_true_eq_false, not_false_eq_true]
  exact gs_ck2
end RB
