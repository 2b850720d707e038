-- the component resolves: rounds
theorem gs_bd_cg {mt : Nat → Nat → Bool} {C C' : Nat → Bool} {j : Nat} (h : ∀ i, i < j → C' i = C i) : gs_bd mt C' j = gs_bd mt C j := by
  rw [Bool.eq_iff_iff, gs_bd_t, gs_bd_t]
  constructor
  · rintro ⟨i, i1, i2, i3⟩
    exact ⟨i, i1, by rw [← h i i1]; exact i2, i3⟩
  · rintro ⟨i, i1, i2, i3⟩
    exact ⟨i, i1, by rw [h i i1]; exact i2, i3⟩
section RC
variable {d : gs_D} {S : gs_S} {B : Int} {C : Nat → Bool}
theorem s_G_dropThose (h : gs_Rs d S C) (hw : gs_wb B S) (hv : gs_wv S) (hB : B + 60000000 ≤ 1000000000000) {p : Nat} (p1 : p ≤ S.2.length) : ∃ (d' : gs_D) (C2 : Nat → Bool), f_G_dropThoseBehindDropped [gs_r 0 0, gs_i (gs_n p)] d = some (none, d') ∧ gs_Rs d' S C2 ∧ (∀ j, j < p → C2 j = C j) ∧ (∀ j, p ≤ j → j < S.2.length → C2 j = (C j && !gs_bd (gs_pm S) C2 j)) ∧ gs_fr d d' := by
  have hl := hv.2
  have key : ∀ (n k : Nat) (dk : gs_D) (Ck : Nat → Bool), p ≤ k → k + n = S.2.length → gs_Rs dk S Ck → (∀ j, j < p → Ck j = C j) → (∀ j, p ≤ j → j < k → Ck j = (C j && !gs_bd (gs_pm S) Ck j)) → (∀ j, k ≤ j → Ck j = C j) → gs_fr d dk →
      ∃ (d' : gs_D) (C2 : Nat → Bool), gs_g Y0 P_G_dropThoseBehindDropped 2 [some (gs_r 0 0), some (gs_i (gs_n p)), some (gs_i (gs_n k))] [] dk = some (none, d') ∧ gs_Rs d' S C2 ∧ (∀ j, j < p → C2 j = C j) ∧ (∀ j, p ≤ j → j < S.2.length → C2 j = (C j && !gs_bd (gs_pm S) C2 j)) ∧ gs_fr d d' := by
    intro n
    induction n with
    | zero =>
      intro k dk Ck hp hk hR i1 i2 i3 hf
      have hwt : dk.1 4 0 3 = gs_n S.2.length := hR.1.wt
      refine ⟨dk, Ck, ?_, hR, i1, fun j j0 j1 => i2 j j0 (by omega), hf⟩
      rw [k_G_dropThoseBehindDropped_2]
      simp (disch := omega) only [k_G_dropThoseBehindDropped_44, hwt, ↓reduceIte, Int.reduceAdd, Int.reduceSub, Int.reduceMul, Int.reduceToNat, gs_00, gs_ofi, gs_k0_m, gs_k1_m, gs_n8, gs_n16, gs_n_add, gs_n_sub, gs_n_mul, gs_n_neg, gs_m_add, gs_m_sub, gs_m_mul, gs_m_neg, gs_n_l, gs_m_n, gs_n_c, gs_eq_t, gs_eq_f1, gs_eq_f2, gs_lt_t, gs_lt_f, gs_le_t, gs_le_f, gs_cmp_lt, gs_cmp_eq, gs_cmp_gt, gs_ix_n, gs_nz_n, gs_nzl_g, gs_n_div, gs_af1, gs_af0, gs_ck0, gs_ck1, gs_ck2t, gs_ck2f, gs_ck3, gs_ck4, gs_zd_t, gs_zd_f, gs_zt_t, gs_zt_f, gs_nar1, gs_nar0, gs_tn, if_true, if_false, not_true_eq_false, not_false_eq_true]
    | succ n ih =>
      intro k dk Ck hp hk hR i1 i2 i3 hf
      have hwt : dk.1 4 0 3 = gs_n S.2.length := hR.1.wt
      have hch := hR.2 (k : Int) (by omega) (by omega)
      rw [gs_tn] at hch
      have hib := s_G_isBehindDropped hR hw hv hB (p := k) (by omega)
      rw [k_G_dropThoseBehindDropped_2]
      cases hck : Ck k
      · rw [hck] at hch
        obtain ⟨d', C2, e, r⟩ := ih (k + 1) dk Ck (by omega) (by omega) hR i1 (fun j j0 j1 => by
          by_cases z : j = k
          · rw [z, hck, ← i3 k (Nat.le_refl k), hck, Bool.false_and]
          · exact i2 j j0 (by omega)) (fun j j0 => i3 j (by omega)) hf
        refine ⟨d', C2, ?_, r⟩
        rw [show ((k + 1 : Nat) : Int) = (k : Int) + 1 by omega] at e
        simp (disch := omega) only [e_G_dropThoseBehindDropped, k_G_dropThoseBehindDropped_0, k_G_dropThoseBehindDropped_16, k_G_dropThoseBehindDropped_22, k_G_dropThoseBehindDropped_25, k_G_dropThoseBehindDropped_30, k_G_dropThoseBehindDropped_33, k_G_dropThoseBehindDropped_38, k_G_dropThoseBehindDropped_44, hwt, hch, ↓reduceIte, Int.reduceAdd, Int.reduceSub, Int.reduceMul, Int.reduceToNat, gs_00, gs_ofi, gs_k0_m, gs_k1_m, gs_n8, gs_n16, gs_n_add, gs_n_sub, gs_n_mul, gs_n_neg, gs_m_add, gs_m_sub, gs_m_mul, gs_m_neg, gs_n_l, gs_m_n, gs_n_c, gs_eq_t, gs_eq_f1, gs_eq_f2, gs_lt_t, gs_lt_f, gs_le_t, gs_le_f, gs_cmp_lt, gs_cmp_eq, gs_cmp_gt, gs_ix_n, gs_nz_n, gs_nzl_g, gs_n_div, gs_af1, gs_af0, gs_ck0, gs_ck1, gs_ck2t, gs_ck2f, gs_ck3, gs_ck4, gs_zd_t, gs_zd_f, gs_zt_t, gs_zt_f, gs_nar1, gs_nar0, gs_tn, if_true, if_false, not_true_eq_false, not_false_eq_true]
        exact e
      · rw [hck] at hch
        cases hb : gs_bd (gs_pm S) Ck k
        · rw [hb] at hib
          obtain ⟨d', C2, e, r⟩ := ih (k + 1) dk Ck (by omega) (by omega) hR i1 (fun j j0 j1 => by
            by_cases z : j = k
            · rw [z, hb, ← i3 k (Nat.le_refl k), hck]
              rfl
            · exact i2 j j0 (by omega)) (fun j j0 => i3 j (by omega)) hf
          refine ⟨d', C2, ?_, r⟩
          rw [show ((k + 1 : Nat) : Int) = (k : Int) + 1 by omega] at e
          simp (disch := omega) only [e_G_dropThoseBehindDropped, k_G_dropThoseBehindDropped_0, k_G_dropThoseBehindDropped_16, k_G_dropThoseBehindDropped_22, k_G_dropThoseBehindDropped_25, k_G_dropThoseBehindDropped_30, k_G_dropThoseBehindDropped_33, k_G_dropThoseBehindDropped_38, k_G_dropThoseBehindDropped_44, hwt, hch, hib, ↓reduceIte, Int.reduceAdd, Int.reduceSub, Int.reduceMul, Int.reduceToNat, gs_00, gs_ofi, gs_k0_m, gs_k1_m, gs_n8, gs_n16, gs_n_add, gs_n_sub, gs_n_mul, gs_n_neg, gs_m_add, gs_m_sub, gs_m_mul, gs_m_neg, gs_n_l, gs_m_n, gs_n_c, gs_eq_t, gs_eq_f1, gs_eq_f2, gs_lt_t, gs_lt_f, gs_le_t, gs_le_f, gs_cmp_lt, gs_cmp_eq, gs_cmp_gt, gs_ix_n, gs_nz_n, gs_nzl_g, gs_n_div, gs_af1, gs_af0, gs_ck0, gs_ck1, gs_ck2t, gs_ck2f, gs_ck3, gs_ck4, gs_zd_t, gs_zd_f, gs_zt_t, gs_zt_f, gs_nar1, gs_nar0, gs_tn, if_true, if_false, not_true_eq_false, not_false_eq_true]
          exact e
        · rw [hb] at hib
          obtain ⟨d1, e1, r1, f1⟩ := s_G_drop hR hw hv hB (k := (k : Int)) (by omega) (by omega) (by rw [gs_tn]; exact hck)
          rw [gs_tn] at r1
          have on : ∀ j, j ≠ k → gs_off1 Ck k j = Ck j := fun j hj => if_neg hj
          have off : gs_off1 Ck k k = false := if_pos rfl
          obtain ⟨d', C2, e, r⟩ := ih (k + 1) d1 (gs_off1 Ck k) (by omega) (by omega) r1 (fun j j0 => by rw [on j (by omega)]; exact i1 j j0) (fun j j0 j1 => by
            rw [gs_bd_cg (C := Ck) (fun i hi => on i (by omega))]
            by_cases z : j = k
            · rw [z, off, hb]
              simp
            · rw [on j z]
              exact i2 j j0 (by omega)) (fun j j0 => by rw [on j (by omega)]; exact i3 j (by omega)) (hf.tr f1)
          refine ⟨d', C2, ?_, r⟩
          rw [show ((k + 1 : Nat) : Int) = (k : Int) + 1 by omega] at e
          simp (disch := omega) only [e_G_dropThoseBehindDropped, k_G_dropThoseBehindDropped_0, k_G_dropThoseBehindDropped_16, k_G_dropThoseBehindDropped_22, k_G_dropThoseBehindDropped_25, k_G_dropThoseBehindDropped_30, k_G_dropThoseBehindDropped_33, k_G_dropThoseBehindDropped_38, k_G_dropThoseBehindDropped_44, hwt, hch, hib, e1, ↓reduceIte, Int.reduceAdd, Int.reduceSub, Int.reduceMul, Int.reduceToNat, gs_00, gs_ofi, gs_k0_m, gs_k1_m, gs_n8, gs_n16, gs_n_add, gs_n_sub, gs_n_mul, gs_n_neg, gs_m_add, gs_m_sub, gs_m_mul, gs_m_neg, gs_n_l, gs_m_n, gs_n_c, gs_eq_t, gs_eq_f1, gs_eq_f2, gs_lt_t, gs_lt_f, gs_le_t, gs_le_f, gs_cmp_lt, gs_cmp_eq, gs_cmp_gt, gs_ix_n, gs_nz_n, gs_nzl_g, gs_n_div, gs_af1, gs_af0, gs_ck0, gs_ck1, gs_ck2t, gs_ck2f, gs_ck3, gs_ck4, gs_zd_t, gs_zd_f, gs_zt_t, gs_zt_f, gs_nar1, gs_nar0, gs_tn, if_true, if_false, not_true_eq_false, not_false_eq_true]
          exact e
  obtain ⟨d', C2, e, r⟩ := key (S.2.length - p) p d C (Nat.le_refl p) (by omega) h (fun _ _ => rfl) (fun j j0 j1 => by omega) (fun _ _ => rfl) gs_fr.rf
  refine ⟨d', C2, ?_, r⟩
  simp (disch := omega) only [e_G_dropThoseBehindDropped, k_G_dropThoseBehindDropped_0, e, ↓reduceIte, Int.reduceAdd, Int.reduceSub, Int.reduceMul, Int.reduceToNat, gs_00, gs_ofi, gs_k0_m, gs_k1_m, gs_n8, gs_n16, gs_n_add, gs_n_sub, gs_n_mul, gs_n_neg, gs_m_add, gs_m_sub, gs_m_mul, gs_m_neg, gs_n_l, gs_m_n, gs_n_c, gs_eq_t, gs_eq_f1, gs_eq_f2, gs_lt_t, gs_lt_f, gs_le_t, gs_le_f, gs_cmp_lt, gs_cmp_eq, gs_cmp_gt, gs_ix_n, gs_nz_n, gs_nzl_g, gs_n_div, gs_af1, gs_af0, gs_ck0, gs_ck1, gs_ck2t, gs_ck2f, gs_ck3, gs_ck4, gs_zd_t, gs_zd_f, gs_zt_t, gs_zt_f, gs_nar1, gs_nar0, gs_tn, if_true, if_false, not_true_eq_false, not_false_eq_true]
theorem s_G_dropLast (h : gs_Rs d S C) (hw : gs_wb B S) (hv : gs_wv S) (hB : B + 60000000 ≤ 1000000000000) {x : Nat} (x1 : x < 54) (hx : ∃ k, k < S.2.length ∧ C k = true ∧ gs_pd S k x = true) : ∃ (d' : gs_D) (C2 : Nat → Bool) (k : Nat), f_G_dropLastThatDebits [gs_r 0 0, gs_i (gs_n x)] d = some (none, d') ∧ gs_Rs d' S C2 ∧ k < S.2.length ∧ C k = true ∧ gs_pd S k x = true ∧ (∀ j, k < j → j < S.2.length → C j = true → ¬ gs_pd S j x = true) ∧ gs_left (gs_pm S) S.2.length k C C2 ∧ gs_fr d d' := by
  have hl := hv.2
  have w1 := gs_sm_wb hw hv hB C
  have q1 := (gs_sm_wv hv C).q w1
  have hwt : d.1 4 0 3 = gs_n S.2.length := h.1.wt
  have key : ∀ (m : Nat), m ≤ S.2.length → (∀ j, m ≤ j → j < S.2.length → C j = true → ¬ gs_pd S j x = true) →
      ∃ (d' : gs_D) (C2 : Nat → Bool) (k : Nat), gs_g Y0 P_G_dropLastThatDebits 13 [some (gs_r 0 0), some (gs_i (gs_n x)), some (gs_i (gs_n ((m : Int) - 1)))] [] d = some (none, d') ∧ gs_Rs d' S C2 ∧ k < S.2.length ∧ C k = true ∧ gs_pd S k x = true ∧ (∀ j, k < j → j < S.2.length → C j = true → ¬ gs_pd S j x = true) ∧ gs_left (gs_pm S) S.2.length k C C2 ∧ gs_fr d d' := by
    intro m
    induction m with
    | zero =>
      intro _ hn
      obtain ⟨k, k1, k2, k3⟩ := hx
      exact absurd k3 (hn k (by omega) k1 k2)
    | succ m ih =>
      intro hm hn
      have hch := h.2 (m : Int) (by omega) (by omega)
      rw [gs_tn] at hch
      have am := s_Q_at h.1 w1 q1 (k := (m : Int)) (by omega) (by show (m : Int) < S.2.length; omega)
      have mm := q1.1 (m : Int) (by omega) (by show (m : Int) < S.2.length; omega)
      have eqa : gs_qa (gs_sm S C) (m : Int) = S.2.getD m 0 := by
        show S.2.getD (m : Int).toNat 0 = _
        rw [gs_tn]
      rw [eqa] at am mm
      have hdb := s_I_debits h.1 w1 mm (x := (x : Int)) (by omega) (by omega)
      rw [gs_db_sm] at hdb
      have ex : ((m + 1 : Nat) : Int) - 1 = (m : Int) := by omega
      have e2 : (m : Int) + -1 = (m : Int) - 1 := by omega
      have go : ¬ (C m = true ∧ gs_pd S m x = true) → ∃ (d' : gs_D) (C2 : Nat → Bool) (k : Nat), gs_g Y0 P_G_dropLastThatDebits 13 [some (gs_r 0 0), some (gs_i (gs_n x)), some (gs_i (gs_n ((m : Int) - 1)))] [] d = some (none, d') ∧ gs_Rs d' S C2 ∧ k < S.2.length ∧ C k = true ∧ gs_pd S k x = true ∧ (∀ j, k < j → j < S.2.length → C j = true → ¬ gs_pd S j x = true) ∧ gs_left (gs_pm S) S.2.length k C C2 ∧ gs_fr d d' := fun hno => ih (by omega) (fun j j0 j1 hcj hpj => by
          by_cases z : j = m
          · rw [z] at hcj hpj
            exact hno ⟨hcj, hpj⟩
          · exact hn j (by omega) j1 hcj hpj)
      rw [ex]
      cases hcm : C m
      · rw [hcm] at hch
        obtain ⟨d', C2, k, e, r⟩ := go (by rw [hcm]; simp)
        refine ⟨d', C2, k, ?_, r⟩
        rw [k_G_dropLastThatDebits_13]
        simp (disch := omega) only [e_G_dropLastThatDebits, k_G_dropLastThatDebits_0, k_G_dropLastThatDebits_17, k_G_dropLastThatDebits_23, k_G_dropLastThatDebits_26, k_G_dropLastThatDebits_37, k_G_dropLastThatDebits_41, k_G_dropLastThatDebits_44, k_G_dropLastThatDebits_49, k_G_dropLastThatDebits_56, k_G_dropLastThatDebits_57, k_G_dropLastThatDebits_63, hch, e2, ↓reduceIte, Int.reduceAdd, Int.reduceSub, Int.reduceMul, Int.reduceToNat, gs_00, gs_ofi, gs_k0_m, gs_k1_m, gs_n8, gs_n16, gs_n_add, gs_n_sub, gs_n_mul, gs_n_neg, gs_m_add, gs_m_sub, gs_m_mul, gs_m_neg, gs_n_l, gs_m_n, gs_n_c, gs_eq_t, gs_eq_f1, gs_eq_f2, gs_lt_t, gs_lt_f, gs_le_t, gs_le_f, gs_cmp_lt, gs_cmp_eq, gs_cmp_gt, gs_ix_n, gs_nz_n, gs_nzl_g, gs_n_div, gs_af1, gs_af0, gs_ck0, gs_ck1, gs_ck2t, gs_ck2f, gs_ck3, gs_ck4, gs_zd_t, gs_zd_f, gs_zt_t, gs_zt_f, gs_nar1, gs_nar0, gs_tn, if_true, if_false, not_true_eq_false, not_false_eq_true]
        exact e
      · rw [hcm] at hch
        cases hpm : gs_pd S m x
        · have hpm' : gs_db S (S.2.getD m 0) (x : Int) = false := hpm
          rw [hpm'] at hdb
          obtain ⟨d', C2, k, e, r⟩ := go (by rw [hpm]; simp)
          refine ⟨d', C2, k, ?_, r⟩
          rw [k_G_dropLastThatDebits_13]
          simp (disch := omega) only [e_G_dropLastThatDebits, k_G_dropLastThatDebits_0, k_G_dropLastThatDebits_17, k_G_dropLastThatDebits_23, k_G_dropLastThatDebits_26, k_G_dropLastThatDebits_37, k_G_dropLastThatDebits_41, k_G_dropLastThatDebits_44, k_G_dropLastThatDebits_49, k_G_dropLastThatDebits_56, k_G_dropLastThatDebits_57, k_G_dropLastThatDebits_63, hch, am, hdb, e2, ↓reduceIte, Int.reduceAdd, Int.reduceSub, Int.reduceMul, Int.reduceToNat, gs_00, gs_ofi, gs_k0_m, gs_k1_m, gs_n8, gs_n16, gs_n_add, gs_n_sub, gs_n_mul, gs_n_neg, gs_m_add, gs_m_sub, gs_m_mul, gs_m_neg, gs_n_l, gs_m_n, gs_n_c, gs_eq_t, gs_eq_f1, gs_eq_f2, gs_lt_t, gs_lt_f, gs_le_t, gs_le_f, gs_cmp_lt, gs_cmp_eq, gs_cmp_gt, gs_ix_n, gs_nz_n, gs_nzl_g, gs_n_div, gs_af1, gs_af0, gs_ck0, gs_ck1, gs_ck2t, gs_ck2f, gs_ck3, gs_ck4, gs_zd_t, gs_zd_f, gs_zt_t, gs_zt_f, gs_nar1, gs_nar0, gs_tn, if_true, if_false, not_true_eq_false, not_false_eq_true]
          exact e
        · have hpm' : gs_db S (S.2.getD m 0) (x : Int) = true := hpm
          rw [hpm'] at hdb
          obtain ⟨d1, e1, r1, f1⟩ := s_G_drop h hw hv hB (k := (m : Int)) (by omega) (by omega) (by rw [gs_tn]; exact hcm)
          rw [gs_tn] at r1
          obtain ⟨d2, C2, e3, r2, j1, j2, f2⟩ := s_G_dropThose r1 hw hv hB (p := m + 1) (by omega)
          rw [show ((m + 1 : Nat) : Int) = (m : Int) + 1 by omega] at e3
          have on : ∀ j, j ≠ m → gs_off1 C m j = C j := fun j hj => if_neg hj
          have off : gs_off1 C m m = false := if_pos rfl
          refine ⟨d2, C2, m, ?_, r2, by omega, hcm, hpm, fun j j0 => hn j (by omega), ⟨fun j hj => ?_, ?_, fun j k0 k1 => ?_⟩, f1.tr f2⟩
          · rw [k_G_dropLastThatDebits_13]
            simp (disch := omega) only [e_G_dropLastThatDebits, k_G_dropLastThatDebits_0, k_G_dropLastThatDebits_17, k_G_dropLastThatDebits_23, k_G_dropLastThatDebits_26, k_G_dropLastThatDebits_37, k_G_dropLastThatDebits_41, k_G_dropLastThatDebits_44, k_G_dropLastThatDebits_49, k_G_dropLastThatDebits_56, k_G_dropLastThatDebits_57, k_G_dropLastThatDebits_63, hch, am, hdb, e1, e3, ↓reduceIte, Int.reduceAdd, Int.reduceSub, Int.reduceMul, Int.reduceToNat, gs_00, gs_ofi, gs_k0_m, gs_k1_m, gs_n8, gs_n16, gs_n_add, gs_n_sub, gs_n_mul, gs_n_neg, gs_m_add, gs_m_sub, gs_m_mul, gs_m_neg, gs_n_l, gs_m_n, gs_n_c, gs_eq_t, gs_eq_f1, gs_eq_f2, gs_lt_t, gs_lt_f, gs_le_t, gs_le_f, gs_cmp_lt, gs_cmp_eq, gs_cmp_gt, gs_ix_n, gs_nz_n, gs_nzl_g, gs_n_div, gs_af1, gs_af0, gs_ck0, gs_ck1, gs_ck2t, gs_ck2f, gs_ck3, gs_ck4, gs_zd_t, gs_zd_f, gs_zt_t, gs_zt_f, gs_nar1, gs_nar0, gs_tn, if_true, if_false, not_true_eq_false, not_false_eq_true]
          · rw [j1 j (by omega), on j (by omega)]
          · rw [j1 m (by omega), off]
          · rw [j2 j (by omega) k1, on j (by omega)]
  obtain ⟨d', C2, k, e, r⟩ := key S.2.length (Nat.le_refl _) (fun j j0 j1 => by omega)
  refine ⟨d', C2, k, ?_, r⟩
  simp (disch := omega) only [e_G_dropLastThatDebits, k_G_dropLastThatDebits_0, hwt, e, ↓reduceIte, Int.reduceAdd, Int.reduceSub, Int.reduceMul, Int.reduceToNat, gs_00, gs_ofi, gs_k0_m, gs_k1_m, gs_n8, gs_n16, gs_n_add, gs_n_sub, gs_n_mul, gs_n_neg, gs_m_add, gs_m_sub, gs_m_mul, gs_m_neg, gs_n_l, gs_m_n, gs_n_c, gs_eq_t, gs_eq_f1, gs_eq_f2, gs_lt_t, gs_lt_f, gs_le_t, gs_le_f, gs_cmp_lt, gs_cmp_eq, gs_cmp_gt, gs_ix_n, gs_nz_n, gs_nzl_g, gs_n_div, gs_af1, gs_af0, gs_ck0, gs_ck1, gs_ck2t, gs_ck2f, gs_ck3, gs_ck4, gs_zd_t, gs_zd_f, gs_zt_t, gs_zt_f, gs_nar1, gs_nar0, gs_tn, if_true, if_false, not_true_eq_false, not_false_eq_true]
end RC
/-- is f one of those of C, from place m on -/
def gs_in6 (S : gs_S) (C : Nat → Bool) (m f : Nat) : Bool := (List.range S.2.length).any fun k => C k && (decide (m ≤ k) && decide (f = 10 + S.2.getD k 0))
theorem gs_in6_t {S : gs_S} {C : Nat → Bool} {m f : Nat} : gs_in6 S C m f = true ↔ ∃ k, k < S.2.length ∧ m ≤ k ∧ C k = true ∧ f = 10 + S.2.getD k 0 := by
  unfold gs_in6
  rw [List.any_eq_true]
  constructor
  · rintro ⟨k, hk, h⟩
    simp only [Bool.and_eq_true, decide_eq_true_iff] at h
    exact ⟨k, List.mem_range.mp hk, h.2.1, h.1, h.2.2⟩
  · rintro ⟨k, k1, k2, k3, k4⟩
    exact ⟨k, List.mem_range.mpr k1, by simp only [k3, Bool.true_and, Bool.and_eq_true, decide_eq_true_iff]; exact ⟨k2, k4⟩⟩
def gs_rs1 (S : gs_S) (C : Nat → Bool) (m : Nat) : gs_S := (fun f j => if j = 6 ∧ gs_in6 S C m f = true then 1 else (gs_sm S C).1 f j, S.2)
/-- those of C have settled -/
def gs_rs (S : gs_S) (C : Nat → Bool) : gs_S := gs_cl2 (gs_rs1 S C 0)
section RD
variable {d : gs_D} {S : gs_S} {B : Int} {C : Nat → Bool}
theorem gs_cnt_s (C : Nat → Bool) (m : Nat) : gs_cnt C (m + 1) = gs_cnt C m + gs_z (C m) := rfl
theorem s_G_leaveChosen (h : gs_Rs d S C) (hw : gs_wb B S) (hv : gs_wv S) (hB : B + 60000000 ≤ 1000000000000) : ∃ d', f_G_leaveChosen [gs_r 0 0] d = some (some (gs_i (gs_n (gs_cnt C S.2.length))), d') ∧ gs_Cl 0 d' (gs_rs S C) ∧ gs_fr d d' ∧ gs_wv (gs_rs S C) ∧ gs_wb (B + 60000000) (gs_rs S C) := by
  have hl := hv.2
  have hwt : d.1 4 0 3 = gs_n S.2.length := h.1.wt
  have cn := gs_cnt_nn C
  have key : ∀ (m : Nat) (T : gs_S) (dk : gs_D), m ≤ S.2.length → gs_Cl 0 dk T → (∀ f j, T.1 f j = (gs_rs1 S C m).1 f j) → (∀ j, j < m → T.2.getD j 0 = S.2.getD j 0) → m ≤ T.2.length → gs_wv T → gs_wb (B + 60000000) T → dk.1 2 0 = d.1 2 0 → gs_fr d dk →
      ∃ d', gs_g Y0 P_G_leaveChosen 15 [some (gs_r 0 0), some (gs_i (gs_n (gs_cnt C S.2.length - gs_cnt C m))), some (gs_i (gs_n ((m : Int) - 1)))] [] dk = some (some (gs_i (gs_n (gs_cnt C S.2.length))), d') ∧ gs_Cl 0 d' (gs_rs S C) ∧ gs_fr d d' ∧ gs_wv (gs_rs S C) ∧ gs_wb (B + 60000000) (gs_rs S C) := by
    intro m
    induction m with
    | zero =>
      intro T dk hm hc e1 e2 e3 hvT hwT hcd hf
      have eT : T = gs_rs S C := by
        have a : T.1 = (gs_rs1 S C 0).1 := by
          funext f j
          exact e1 f j
        refine Prod.ext a ?_
        rw [hvT.1]
        show gs_wl T = gs_wl (gs_rs1 S C 0)
        unfold gs_wl gs_wp
        rw [a]
      rw [← eT]
      refine ⟨dk, ?_, hc, hf, hvT, hwT⟩
      have c0 : gs_cnt C 0 = 0 := rfl
      rw [c0, Int.sub_zero, k_G_leaveChosen_15]
      simp (disch := omega) only [k_G_leaveChosen_49, ↓reduceIte, Int.reduceAdd, Int.reduceSub, Int.reduceMul, Int.reduceToNat, gs_00, gs_ofi, gs_k0_m, gs_k1_m, gs_n8, gs_n16, gs_n_add, gs_n_sub, gs_n_mul, gs_n_neg, gs_m_add, gs_m_sub, gs_m_mul, gs_m_neg, gs_n_l, gs_m_n, gs_n_c, gs_eq_t, gs_eq_f1, gs_eq_f2, gs_lt_t, gs_lt_f, gs_le_t, gs_le_f, gs_cmp_lt, gs_cmp_eq, gs_cmp_gt, gs_ix_n, gs_nz_n, gs_nzl_g, gs_n_div, gs_af1, gs_af0, gs_ck0, gs_ck1, gs_ck2t, gs_ck2f, gs_ck3, gs_ck4, gs_zd_t, gs_zd_f, gs_zt_t, gs_zt_f, gs_nar1, gs_nar0, gs_tn, if_true, if_false, not_true_eq_false, not_false_eq_true]
    | succ m ih =>
      intro T dk hm hc e1 e2 e3 hvT hwT hcd hf
      have a1 := cn m
      have a2 := cn S.2.length
      have a3 := gs_cnt_s C m
      have ex : ((m + 1 : Nat) : Int) - 1 = (m : Int) := by omega
      have e9 : (m : Int) + -1 = (m : Int) - 1 := by omega
      have hch := h.2 (m : Int) (by omega) (by omega)
      rw [gs_tn] at hch
      have hch : dk.1 2 0 m = gs_n (gs_z (C m)) := by rw [hcd]; exact hch
      rw [ex]
      cases hcm : C m
      · rw [hcm] at hch a3
        obtain ⟨d', e, r⟩ := ih T dk (by omega) hc (fun f j => by
          rw [e1 f j]
          have eb : gs_in6 S C (m + 1) f = gs_in6 S C m f := by
            rw [Bool.eq_iff_iff, gs_in6_t, gs_in6_t]
            constructor
            · rintro ⟨k, k1, k2, k3, k4⟩
              exact ⟨k, k1, by omega, k3, k4⟩
            · rintro ⟨k, k1, k2, k3, k4⟩
              refine ⟨k, k1, ?_, k3, k4⟩
              by_cases z : k = m
              · rw [z, hcm] at k3; cases k3
              · omega
          show (if j = 6 ∧ gs_in6 S C (m + 1) f = true then 1 else (gs_sm S C).1 f j) = (if j = 6 ∧ gs_in6 S C m f = true then 1 else (gs_sm S C).1 f j)
          rw [eb]) (fun j hj => e2 j (by omega)) (by omega) hvT hwT hcd hf
        refine ⟨d', ?_, r⟩
        rw [gs_zt_f, Int.add_zero] at a3
        rw [a3, k_G_leaveChosen_15]
        simp (disch := omega) only [e_G_leaveChosen, k_G_leaveChosen_0, k_G_leaveChosen_19, k_G_leaveChosen_25, k_G_leaveChosen_28, k_G_leaveChosen_40, k_G_leaveChosen_43, k_G_leaveChosen_49, hch, e9, ↓reduceIte, Int.reduceAdd, Int.reduceSub, Int.reduceMul, Int.reduceToNat, gs_00, gs_ofi, gs_k0_m, gs_k1_m, gs_n8, gs_n16, gs_n_add, gs_n_sub, gs_n_mul, gs_n_neg, gs_m_add, gs_m_sub, gs_m_mul, gs_m_neg, gs_n_l, gs_m_n, gs_n_c, gs_eq_t, gs_eq_f1, gs_eq_f2, gs_lt_t, gs_lt_f, gs_le_t, gs_le_f, gs_cmp_lt, gs_cmp_eq, gs_cmp_gt, gs_ix_n, gs_nz_n, gs_nzl_g, gs_n_div, gs_af1, gs_af0, gs_ck0, gs_ck1, gs_ck2t, gs_ck2f, gs_ck3, gs_ck4, gs_zd_t, gs_zd_f, gs_zt_t, gs_zt_f, gs_nar1, gs_nar0, gs_tn, if_true, if_false, not_true_eq_false, not_false_eq_true]
        exact e
      · rw [hcm] at hch a3
        obtain ⟨d1, e4, c4, f4, g4⟩ := s_Q_leave hc hwT (hvT.q hwT) (k := (m : Int)) (st := 1) (by omega) (by omega)
        rw [gs_tn] at c4
        have eq : T.2.getD m 0 = S.2.getD m 0 := e2 m (by omega)
        have hm1 : (S.2.getD m 0 : Int) < T.1 6 1 := by
          have := (hvT.q hwT).1 (m : Int) (by omega) (by omega)
          unfold gs_qa at this
          rw [gs_tn, eq] at this
          exact this
        obtain ⟨d', e, r⟩ := ih (gs_lv T m 1) d1 (by omega) c4 (fun f j => by
          show (if f = 10 + T.2.getD m 0 ∧ j = 6 then 1 else T.1 f j) = (if j = 6 ∧ gs_in6 S C m f = true then 1 else (gs_sm S C).1 f j)
          rw [e1 f j, eq]
          show (if f = 10 + S.2.getD m 0 ∧ j = 6 then 1 else if j = 6 ∧ gs_in6 S C (m + 1) f = true then 1 else (gs_sm S C).1 f j) = _
          by_cases z1 : f = 10 + S.2.getD m 0 ∧ j = 6
          · rw [if_pos z1, if_pos ⟨z1.2, gs_in6_t.mpr ⟨m, by omega, Nat.le_refl m, hcm, z1.1⟩⟩]
          · rw [if_neg z1]
            by_cases z2 : j = 6 ∧ gs_in6 S C (m + 1) f = true
            · obtain ⟨k, k1, k2, k3, k4⟩ := gs_in6_t.mp z2.2
              rw [if_pos z2, if_pos ⟨z2.1, gs_in6_t.mpr ⟨k, k1, by omega, k3, k4⟩⟩]
            · rw [if_neg z2, if_neg]
              rintro ⟨y1, y2⟩
              obtain ⟨k, k1, k2, k3, k4⟩ := gs_in6_t.mp y2
              by_cases z : k = m
              · rw [z] at k4
                exact z1 ⟨k4, y1⟩
              · exact z2 ⟨y1, gs_in6_t.mpr ⟨k, k1, by omega, k3, k4⟩⟩) (fun j hj => by
          show (T.2.eraseIdx m).getD j 0 = _
          rw [gs_er, if_pos hj]
          exact e2 j (by omega)) (by
          have : (gs_lv T m 1).2.length = T.2.length - 1 := List.length_eraseIdx_of_lt (by omega)
          omega) (hvT.lv hwT (by omega) (by omega) (by omega)) (gs_wb_st hwT _ (by omega) (by omega)) (g4.trans hcd) (hf.tr f4)
        refine ⟨d', ?_, r⟩
        rw [gs_zt_t] at a3
        rw [k_G_leaveChosen_15]
        simp (disch := omega) only [e_G_leaveChosen, k_G_leaveChosen_0, k_G_leaveChosen_19, k_G_leaveChosen_25, k_G_leaveChosen_28, k_G_leaveChosen_40, k_G_leaveChosen_43, k_G_leaveChosen_49, hch, e4, e9, ↓reduceIte, Int.reduceAdd, Int.reduceSub, Int.reduceMul, Int.reduceToNat, gs_00, gs_ofi, gs_k0_m, gs_k1_m, gs_n8, gs_n16, gs_n_add, gs_n_sub, gs_n_mul, gs_n_neg, gs_m_add, gs_m_sub, gs_m_mul, gs_m_neg, gs_n_l, gs_m_n, gs_n_c, gs_eq_t, gs_eq_f1, gs_eq_f2, gs_lt_t, gs_lt_f, gs_le_t, gs_le_f, gs_cmp_lt, gs_cmp_eq, gs_cmp_gt, gs_ix_n, gs_nz_n, gs_nzl_g, gs_n_div, gs_af1, gs_af0, gs_ck0, gs_ck1, gs_ck2t, gs_ck2f, gs_ck3, gs_ck4, gs_zd_t, gs_zd_f, gs_zt_t, gs_zt_f, gs_nar1, gs_nar0, gs_tn, if_true, if_false, not_true_eq_false, not_false_eq_true]
        rw [show gs_cnt C S.2.length - gs_cnt C (m + 1) + 1 = gs_cnt C S.2.length - gs_cnt C m by omega]
        exact e
  have w1 := gs_sm_wb hw hv hB C
  obtain ⟨d', e, r⟩ := key S.2.length (gs_sm S C) d (Nat.le_refl _) h.1 (fun f j => by
    show _ = (if j = 6 ∧ gs_in6 S C S.2.length f = true then 1 else (gs_sm S C).1 f j)
    rw [if_neg]
    rintro ⟨-, z⟩
    obtain ⟨k, k1, k2, -⟩ := gs_in6_t.mp z
    omega) (fun _ _ => rfl) (Nat.le_refl _) (gs_sm_wv hv C) w1 rfl gs_fr.rf
  refine ⟨d', ?_, r⟩
  rw [Int.sub_self] at e
  simp (disch := omega) only [e_G_leaveChosen, k_G_leaveChosen_0, hwt, e, ↓reduceIte, Int.reduceAdd, Int.reduceSub, Int.reduceMul, Int.reduceToNat, gs_00, gs_ofi, gs_k0_m, gs_k1_m, gs_n8, gs_n16, gs_n_add, gs_n_sub, gs_n_mul, gs_n_neg, gs_m_add, gs_m_sub, gs_m_mul, gs_m_neg, gs_n_l, gs_m_n, gs_n_c, gs_eq_t, gs_eq_f1, gs_eq_f2, gs_lt_t, gs_lt_f, gs_le_t, gs_le_f, gs_cmp_lt, gs_cmp_eq, gs_cmp_gt, gs_ix_n, gs_nz_n, gs_nzl_g, gs_n_div, gs_af1, gs_af0, gs_ck0, gs_ck1, gs_ck2t, gs_ck2f, gs_ck3, gs_ck4, gs_zd_t, gs_zd_f, gs_zt_t, gs_zt_f, gs_nar1, gs_nar0, gs_tn, if_true, if_false, not_true_eq_false, not_false_eq_true]
noncomputable def o_resolve (S : gs_S) : Int × gs_S := (gs_cnt (gs_mx S) S.2.length, gs_rs S (gs_mx S))
theorem gs_rs_cg {C' : Nat → Bool} (h : ∀ k, k < S.2.length → C' k = C k) : gs_rs S C' = gs_rs S C := by
  have e6 : ∀ f, gs_in6 S C' 0 f = gs_in6 S C 0 f := fun f => by
    rw [Bool.eq_iff_iff, gs_in6_t, gs_in6_t]
    constructor
    · rintro ⟨k, k1, k2, k3, k4⟩
      exact ⟨k, k1, k2, by rw [← h k k1]; exact k3, k4⟩
    · rintro ⟨k, k1, k2, k3, k4⟩
      exact ⟨k, k1, k2, by rw [h k k1]; exact k3, k4⟩
  have e1 : gs_rs1 S C' 0 = gs_rs1 S C 0 := by
    unfold gs_rs1
    rw [gs_sm_cg h]
    simp only [e6]
  unfold gs_rs
  rw [e1]
theorem gs_cnt_cg {C' : Nat → Bool} {n : Nat} (h : ∀ k, k < n → C' k = C k) : gs_cnt C' n = gs_cnt C n := gs_sum_eq fun k hk => by rw [h k hk]
theorem s_G_resolve (hC : gs_Cl 0 d S) (hw : gs_wb B S) (hv : gs_wv S) (hg : gs_wg S) (hB : B + 60000000 ≤ 1000000000000) : ∃ d', f_G_resolve [gs_r 0 0] d = some (some (gs_i (gs_n (o_resolve S).1)), d') ∧ gs_Cl 0 d' (o_resolve S).2 ∧ gs_fr d d' ∧ gs_wv (o_resolve S).2 ∧ gs_wb (B + 60000000) (o_resolve S).2 ∧ (gs_cl (gs_pm S) S.2.length (gs_mx S) ∧ gs_cv2 (gs_pe S) (gs_pr0 S) S.2.length 54 (gs_mx S)) := by
  have hl := hv.2
  have hr0 : ∀ x, x < 54 → 0 ≤ gs_pr0 S x := fun x hx => hg (x : Int) (by omega) (by omega)
  have fin : ∀ (dk : gs_D) (C : Nat → Bool), gs_Rs dk S C → gs_fr d dk → gs_cl (gs_pm S) S.2.length C → gs_cv2 (gs_pe S) (gs_pr0 S) S.2.length 54 C → (∀ U : Nat → Bool, gs_cl (gs_pm S) S.2.length U → gs_cv2 (gs_pe S) (gs_pr0 S) S.2.length 54 U → ∀ k, k < S.2.length → U k = true → C k = true) →
      ∃ d', f_G_leaveChosen [gs_r 0 0] dk = some (some (gs_i (gs_n (o_resolve S).1)), d') ∧ gs_Cl 0 d' (o_resolve S).2 ∧ gs_fr d d' ∧ gs_wv (o_resolve S).2 ∧ gs_wb (B + 60000000) (o_resolve S).2 ∧ (gs_cl (gs_pm S) S.2.length (gs_mx S) ∧ gs_cv2 (gs_pe S) (gs_pr0 S) S.2.length 54 (gs_mx S)) := by
    intro dk C hR hf h1 h2 h3
    have em := gs_mx_eq h1 h2 h3
    obtain ⟨d', e, c, f, v, w⟩ := s_G_leaveChosen hR hw hv hB
    rw [gs_cnt_cg em] at e
    rw [gs_rs_cg em] at c v w
    refine ⟨d', e, c, hf.tr f, v, w, ⟨fun k j hk hj => ?_, fun x hx => ?_⟩⟩
    · rw [← em k hk, ← em j (by omega)]
      exact h1 k j hk hj
    · have := h2 x hx
      unfold gs_pos at this ⊢
      rw [gs_sum_eq fun k hk => by rw [← em k hk]]
      exact this
  have key : ∀ (n : Nat) (r : Int) (dk : gs_D) (C : Nat → Bool) (o : Option gs_V), 0 ≤ r → r + n = 10 → gs_cnt C S.2.length ≤ n → gs_Rs dk S C → gs_fr d dk → gs_cl (gs_pm S) S.2.length C → (∀ U : Nat → Bool, gs_cl (gs_pm S) S.2.length U → gs_cv2 (gs_pe S) (gs_pr0 S) S.2.length 54 U → ∀ k, k < S.2.length → U k = true → C k = true) →
      ∃ d', gs_g Y0 P_G_resolve 6 [some (gs_r 0 0), some (gs_i (gs_n r)), o] [] dk = some (some (gs_i (gs_n (o_resolve S).1)), d') ∧ gs_Cl 0 d' (o_resolve S).2 ∧ gs_fr d d' ∧ gs_wv (o_resolve S).2 ∧ gs_wb (B + 60000000) (o_resolve S).2 ∧ (gs_cl (gs_pm S) S.2.length (gs_mx S) ∧ gs_cv2 (gs_pe S) (gs_pr0 S) S.2.length 54 (gs_mx S)) := by
    intro n
    induction n with
    | zero =>
      intro r dk C o r0 r1 hn hR hf h1 h3
      have z := gs_cnt_0 (C := C) (n := S.2.length) (by omega)
      obtain ⟨d', e, q⟩ := fin dk C hR hf h1 (fun x hx => by
        unfold gs_pos
        rw [gs_sum_0 (fun k hk => if_neg (by rw [z k hk]; simp)), Int.add_zero]
        exact hr0 x hx) h3
      refine ⟨d', ?_, q⟩
      rw [k_G_resolve_6]
      simp (disch := omega) only [k_G_resolve_42, k_G_resolve_46, e, ↓reduceIte, Int.reduceAdd, Int.reduceSub, Int.reduceMul, Int.reduceToNat, gs_00, gs_ofi, gs_k0_m, gs_k1_m, gs_n8, gs_n16, gs_n_add, gs_n_sub, gs_n_mul, gs_n_neg, gs_m_add, gs_m_sub, gs_m_mul, gs_m_neg, gs_n_l, gs_m_n, gs_n_c, gs_eq_t, gs_eq_f1, gs_eq_f2, gs_lt_t, gs_lt_f, gs_le_t, gs_le_f, gs_cmp_lt, gs_cmp_eq, gs_cmp_gt, gs_ix_n, gs_nz_n, gs_nzl_g, gs_n_div, gs_af1, gs_af0, gs_ck0, gs_ck1, gs_ck2t, gs_ck2f, gs_ck3, gs_ck4, gs_zd_t, gs_zd_f, gs_zt_t, gs_zt_f, gs_nar1, gs_nar0, gs_tn, if_true, if_false, not_true_eq_false, not_false_eq_true]
    | succ n ih =>
      intro r dk C o r0 r1 hn hR hf h1 h3
      obtain ⟨x, hx, e⟩ := s_A_firstBelowFloor hR.1 (gs_sm_wb hw hv hB C)
      rw [k_G_resolve_6]
      rcases hx with ⟨z1, z2⟩ | ⟨z1, z2, z3⟩
      · subst z1
        obtain ⟨d', e2, q⟩ := fin dk C hR hf h1 (fun y hy => by
          have := z2 (y : Int) (by omega) (by omega)
          rw [gs_rm_sm] at this
          exact this) h3
        refine ⟨d', ?_, q⟩
        simp (disch := omega) only [k_G_resolve_12, k_G_resolve_22, k_G_resolve_28, k_G_resolve_46, e, e2, ↓reduceIte, Int.reduceAdd, Int.reduceSub, Int.reduceMul, Int.reduceToNat, gs_00, gs_ofi, gs_k0_m, gs_k1_m, gs_n8, gs_n16, gs_n_add, gs_n_sub, gs_n_mul, gs_n_neg, gs_m_add, gs_m_sub, gs_m_mul, gs_m_neg, gs_n_l, gs_m_n, gs_n_c, gs_eq_t, gs_eq_f1, gs_eq_f2, gs_lt_t, gs_lt_f, gs_le_t, gs_le_f, gs_cmp_lt, gs_cmp_eq, gs_cmp_gt, gs_ix_n, gs_nz_n, gs_nzl_g, gs_n_div, gs_af1, gs_af0, gs_ck0, gs_ck1, gs_ck2t, gs_ck2f, gs_ck3, gs_ck4, gs_zd_t, gs_zd_f, gs_zt_t, gs_zt_f, gs_nar1, gs_nar0, gs_tn, if_true, if_false, not_true_eq_false, not_false_eq_true]
      · have hxn : ((x.toNat : Nat) : Int) = x := by omega
        have hx54 : x.toNat < 54 := by omega
        rw [← hxn, gs_rm_sm] at z3
        obtain ⟨k0, b1, b2, b3⟩ := gs_below (gs_pd_e hw hv hx54) (hr0 _ hx54) z3
        obtain ⟨d1, C2, k, e1, R1, k1, k2, k3, k4, hleft, f1⟩ := s_G_dropLast hR hw hv hB hx54 ⟨k0, b1, b2, b3⟩
        have cl2 := gs_cnt_lt (C := C) (C2 := C2) (gs_left_sub hleft) k1 k2 hleft.2.1
        obtain ⟨d', e2, q⟩ := ih (r + 1) d1 C2 (some (gs_i (gs_n x))) (by omega) (by omega) (by omega) R1 (hf.tr f1) (gs_left_cl hleft h1) (fun U u1 u2 => gs_left_max hleft (gs_pd_e hw hv hx54) (gs_pd_m hw hv) hx54 (h3 U u1 u2) u1 u2 z3 k1 k3 k4)
        rw [hxn] at e1
        refine ⟨d', ?_, q⟩
        simp (disch := omega) only [k_G_resolve_12, k_G_resolve_22, k_G_resolve_31, k_G_resolve_36, e, e1, ↓reduceIte, Int.reduceAdd, Int.reduceSub, Int.reduceMul, Int.reduceToNat, gs_00, gs_ofi, gs_k0_m, gs_k1_m, gs_n8, gs_n16, gs_n_add, gs_n_sub, gs_n_mul, gs_n_neg, gs_m_add, gs_m_sub, gs_m_mul, gs_m_neg, gs_n_l, gs_m_n, gs_n_c, gs_eq_t, gs_eq_f1, gs_eq_f2, gs_lt_t, gs_lt_f, gs_le_t, gs_le_f, gs_cmp_lt, gs_cmp_eq, gs_cmp_gt, gs_ix_n, gs_nz_n, gs_nzl_g, gs_n_div, gs_af1, gs_af0, gs_ck0, gs_ck1, gs_ck2t, gs_ck2f, gs_ck3, gs_ck4, gs_zd_t, gs_zd_f, gs_zt_t, gs_zt_f, gs_nar1, gs_nar0, gs_tn, if_true, if_false, not_true_eq_false, not_false_eq_true]
        exact e2
  obtain ⟨d1, e1, R1, f1⟩ := s_G_chooseAll hC hw hv hB
  obtain ⟨d', e2, q⟩ := key 10 0 d1 (fun _ => true) none (by omega) (by omega) (by have := (gs_cnt_nn (fun _ => true) S.2.length).2; omega) R1 f1 (fun _ _ _ _ _ _ => rfl) (fun _ _ _ _ _ _ => rfl)
  refine ⟨d', ?_, q⟩
  simp (disch := omega) only [e_G_resolve, k_G_resolve_0, k_G_resolve_4, e1, e2, ↓reduceIte, Int.reduceAdd, Int.reduceSub, Int.reduceMul, Int.reduceToNat, gs_00, gs_ofi, gs_k0_m, gs_k1_m, gs_n8, gs_n16, gs_n_add, gs_n_sub, gs_n_mul, gs_n_neg, gs_m_add, gs_m_sub, gs_m_mul, gs_m_neg, gs_n_l, gs_m_n, gs_n_c, gs_eq_t, gs_eq_f1, gs_eq_f2, gs_lt_t, gs_lt_f, gs_le_t, gs_le_f, gs_cmp_lt, gs_cmp_eq, gs_cmp_gt, gs_ix_n, gs_nz_n, gs_nzl_g, gs_n_div, gs_af1, gs_af0, gs_ck0, gs_ck1, gs_ck2t, gs_ck2f, gs_ck3, gs_ck4, gs_zd_t, gs_zd_f, gs_zt_t, gs_zt_f, gs_nar1, gs_nar0, gs_tn, if_true, if_false, not_true_eq_false, not_false_eq_true]
end RD
