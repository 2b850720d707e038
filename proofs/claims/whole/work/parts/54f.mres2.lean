-- closed and covered, by masks
theorem gs_sum_rg2 {f : Nat → Int} {b : Int} : ∀ n : Nat, (∀ k, k < n → -b ≤ f k ∧ f k ≤ b) → -(b * n) ≤ gs_sum f n ∧ gs_sum f n ≤ b * n
  | 0, _ => by simp [gs_sum]
  | n + 1, h => by
    have a := gs_sum_rg2 n fun k hk => h k (by omega)
    have c := h n (by omega)
    have e : b * ((n + 1 : Nat) : Int) = b * n + b := by
      rw [Int.natCast_add, Int.mul_add]
      simp
    simp only [gs_sum]
    rw [e]
    omega
theorem gs_el_mtk {S : gs_S} {i : Nat} (h : gs_iok S i) {x : Int} (x0 : 0 ≤ x) (x1 : x < 54) (hl : -1 ≤ S.1 4 (x - 18).toNat) : gs_el S i (gs_cp x) = -gs_mtk S i x := by
  obtain ⟨a0, a1, a2, a3, a4⟩ := h.r
  have hg := h.1.2.2
  have hs := h.2.1.2.2.2
  have z5 : ((0 : Nat) = 5) = False := eq_false (by decide)
  have z6 : ((5 : Nat) = 0) = False := eq_false (by decide)
  have z0 : ((0 : Nat) = 0) = True := eq_self 0
  have z1 : ((5 : Nat) = 5) = True := eq_self 5
  by_cases c1 : x < 6
  · rw [gs_cp_1 c1]
    unfold gs_el gs_mtk gs_dl
    rw [if_neg (by omega), if_pos c1]
    simp only [z5, z0, false_and, true_and, if_false, Int.add_zero]
    generalize S.1 (10 + i) 0 = g at *
    generalize S.1 (10 + i) 1 = t at *
    generalize S.1 (10 + i) 2 = s at *
    generalize S.1 (10 + i) 3 = am at *
    generalize S.1 (10 + i) 4 = mo at *
    by_cases y1 : t = x
    · rw [if_pos y1]
      repeat' split
      all_goals omega
    · rw [if_neg y1]
      repeat' split
      all_goals omega
  · by_cases c2 : x < 18
    · rw [gs_cp_2 (by omega) c2]
      unfold gs_el gs_mtk gs_dl
      rw [if_neg (by omega), if_neg c1, if_pos c2]
      simp only [z5, z0, false_and, true_and, if_false, Int.add_zero]
      generalize S.1 (10 + i) 0 = g at *
      generalize S.1 (10 + i) 1 = t at *
      generalize S.1 (10 + i) 2 = s at *
      generalize S.1 (10 + i) 3 = am at *
      generalize S.1 (10 + i) 4 = mo at *
      by_cases y1 : s = 1 + (x - 6) % 2
      · rw [if_pos y1]
        repeat' split
        all_goals omega
      · rw [if_neg y1]
        repeat' split
        all_goals omega
    · rw [gs_cp_3 (by omega)]
      unfold gs_el gs_mtk
      rw [if_pos (by omega), if_neg c1, if_neg c2]
      by_cases y1 : S.1 4 (x - 18).toNat = -1
      · rw [if_pos y1, if_pos (by omega)]
        rfl
      · rw [if_neg y1, if_neg (show ¬ S.1 4 (x - 18).toNat < 0 by omega)]
        unfold gs_dl
        simp only [z6, z1, false_and, true_and, if_false, Int.add_zero, Int.zero_add]
        generalize S.1 (10 + i) 0 = g at *
        generalize S.1 (10 + i) 1 = t at *
        generalize S.1 (10 + i) 4 = mo at *
        repeat' split
        all_goals omega
def gs_mts (S : gs_S) (m : Nat) (x : Int) (n : Nat) : Int := gs_sum (fun k => if m.testBit k = true then gs_mtk S (S.2.getD k 0) x else 0) n
section CC
variable {d : gs_D} {S : gs_S} {B : Int}
theorem gs_mts_s (S : gs_S) (m : Nat) (x : Int) (n : Nat) : gs_mts S m x (n + 1) = gs_mts S m x n + if m.testBit n = true then gs_mtk S (S.2.getD n 0) x else 0 := rfl
theorem gs_mts_rg (hw : gs_wb B S) (hv : gs_wv S) (m : Nat) (x : Int) : -10000000 ≤ gs_mts S m x S.2.length ∧ gs_mts S m x S.2.length ≤ 10000000 := by
  have hl := hv.2
  have := gs_sum_rg2 (f := fun k => if m.testBit k = true then gs_mtk S (S.2.getD k 0) x else 0) (b := 1000000) S.2.length (fun k hk => by
    have := gs_mtk_rg hw ((hv.q hw).a hk) (x := x)
    show -1000000 ≤ (if m.testBit k = true then gs_mtk S (S.2.getD k 0) x else 0) ∧ (if m.testBit k = true then gs_mtk S (S.2.getD k 0) x else 0) ≤ 1000000
    split <;> omega)
  unfold gs_mts
  omega
theorem gs_cv_iff (hw : gs_wb B S) (hv : gs_wv S) (hg : gs_wg S) (m : Nat) : gs_cv2 (gs_pe S) (gs_pr0 S) S.2.length 54 m.testBit ↔ ∀ x : Nat, x < 54 → gs_mts S m x S.2.length ≤ 0 ∨ gs_mts S m x S.2.length ≤ gs_ab S x := by
  have pos : ∀ x : Nat, x < 54 → gs_pos (gs_pe S) m.testBit S.2.length (gs_cp x).toNat = -gs_mts S m x S.2.length := fun x hx => by
    have hc : 0 ≤ gs_cp x := by unfold gs_cp; repeat' split
                                all_goals omega
    unfold gs_pos gs_mts
    rw [← gs_sum_neg]
    refine gs_sum_eq fun k hk => ?_
    unfold gs_pe
    rw [Int.toNat_of_nonneg hc]
    have hl : -1 ≤ S.1 4 ((x : Int) - 18).toNat := (hw.2.1.2.2 _ (by omega)).1
    rw [gs_el_mtk (hw.2.2.2 _ ((hv.q hw).a hk)) (by omega) (by omega) hl]
    split <;> rfl
  have pt : ∀ x : Nat, x < 54 → ((0 ≤ gs_pr0 S (gs_cp x).toNat + gs_pos (gs_pe S) m.testBit S.2.length (gs_cp x).toNat) ↔ (gs_mts S m x S.2.length ≤ 0 ∨ gs_mts S m x S.2.length ≤ gs_ab S x)) := fun x hx => by
    have hc : 0 ≤ gs_cp x := by unfold gs_cp; repeat' split
                                all_goals omega
    have hc2 : gs_cp x < 54 := by unfold gs_cp; repeat' split
                                  all_goals omega
    have hr := hg (gs_cp x) hc hc2
    rw [pos x hx]
    unfold gs_pr0
    rw [Int.toNat_of_nonneg hc]
    by_cases c : (18 : Int) ≤ x
    · rw [gs_cp_3 c] at hr ⊢
      by_cases c2 : S.1 4 ((x : Int) - 18).toNat = -1
      · have e : gs_mts S m x S.2.length = 0 := gs_sum_0 fun k _ => by
          have : gs_mtk S (S.2.getD k 0) x = 0 := by
            unfold gs_mtk
            rw [if_neg (by omega), if_neg (by omega), if_pos (by omega)]
          rw [this]
          exact ite_self _
        rw [e]
        omega
      · have e : gs_rm S x = gs_ab S x := by
          unfold gs_rm gs_ab
          rw [if_pos c, if_pos c, if_neg c2]
        rw [e] at hr ⊢
        omega
    · have e : gs_rm S (gs_cp x) = gs_ab S x := by
        unfold gs_ab
        rw [if_neg c]
      rw [e] at hr ⊢
      omega
  constructor
  · intro h x hx
    have hc2 : (gs_cp x).toNat < 54 := by
      have : gs_cp x < 54 := by unfold gs_cp; repeat' split
                                all_goals omega
      omega
    exact (pt x hx).mp (h _ hc2)
  · intro h y hy
    have : ∃ x : Nat, x < 54 ∧ (gs_cp x).toNat = y := by
      by_cases c : y < 18
      · by_cases c2 : y % 3 = 0
        · refine ⟨y / 3, by omega, ?_⟩
          rw [gs_cp_1 (by omega)]
          omega
        · refine ⟨6 + 2 * (y / 3) + (y % 3 - 1), by omega, ?_⟩
          rw [gs_cp_2 (by omega) (by omega)]
          omega
      · refine ⟨y, hy, ?_⟩
        rw [gs_cp_3 (by omega)]
        omega
    obtain ⟨x, hx, e⟩ := this
    rw [← e]
    exact (pt x hx).mpr (h x hx)
theorem s_M_covered_t (hw : gs_wb B S) (hv : gs_wv S) (hq : gs_Qu d S.2) (hsp : gs_Sp d S S.2.length) (m : Nat) {x : Nat} (hx : x < 54) : ∀ (n k : Nat), k + n = S.2.length → gs_g Y0 P_M_covered 13 [some (gs_r 20 0), some (gs_i (gs_n m)), some (gs_i (gs_n x)), some (gs_l (gs_m (gs_mts S m x k))), none, some (gs_i (gs_n k))] [] d = gs_g Y0 P_M_covered 57 [some (gs_r 20 0), some (gs_i (gs_n m)), some (gs_i (gs_n x)), some (gs_l (gs_m (gs_mts S m x S.2.length))), none, some (gs_i (gs_n S.2.length))] [] d := by
  have hl := hv.2
  have h0 := hq.1
  intro n
  induction n with
  | zero =>
    intro k e
    have : k = S.2.length := by omega
    subst this
    rw [k_M_covered_13]
    simp (disch := omega) only [h0, ↓reduceIte, Int.reduceAdd, Int.reduceSub, Int.reduceMul, Int.reduceToNat, gs_00, gs_ofi, gs_k0_m, gs_k1_m, gs_n8, gs_n16, gs_n_add, gs_n_sub, gs_n_mul, gs_n_neg, gs_m_add, gs_m_sub, gs_m_mul, gs_m_neg, gs_n_l, gs_m_n, gs_n_c, gs_eq_t, gs_eq_f1, gs_eq_f2, gs_lt_t, gs_lt_f, gs_le_t, gs_le_f, gs_cmp_lt, gs_cmp_eq, gs_cmp_gt, gs_ix_n, gs_nz_n, gs_nzl_g, gs_n_div, gs_af1, gs_af0, gs_ck0, gs_ck1, gs_ck2t, gs_ck2f, gs_ck3, gs_ck4, gs_zd_t, gs_zd_f, gs_zt_t, gs_zt_f, gs_nar1, gs_nar0, gs_tn, if_true, if_false, not_true_eq_false, not_false_eq_true]
  | succ n ih =>
    intro k e
    rw [← ih (k + 1) (by omega), gs_mts_s]
    have hb := gs_mask_bit m (k := k) (by omega)
    have hm := (hsp k (by omega)).2 x hx
    have ix : (54 * (k : Int) + (x : Int)).toNat = 54 * k + x := by omega
    have ej : (k : Int) + 1 = ((k + 1 : Nat) : Int) := by omega
    cases hc : m.testBit k
    · rw [hc] at hb
      rw [if_neg (show ¬ (false = true) by decide), Int.add_zero, k_M_covered_13]
      simp (disch := omega) only [k_M_covered_22, k_M_covered_49, h0, hb, ej, ↓reduceIte, Int.reduceAdd, Int.reduceSub, Int.reduceMul, Int.reduceToNat, gs_00, gs_ofi, gs_k0_m, gs_k1_m, gs_n8, gs_n16, gs_n_add, gs_n_sub, gs_n_mul, gs_n_neg, gs_m_add, gs_m_sub, gs_m_mul, gs_m_neg, gs_n_l, gs_m_n, gs_n_c, gs_eq_t, gs_eq_f1, gs_eq_f2, gs_lt_t, gs_lt_f, gs_le_t, gs_le_f, gs_cmp_lt, gs_cmp_eq, gs_cmp_gt, gs_ix_n, gs_nz_n, gs_nzl_g, gs_n_div, gs_af1, gs_af0, gs_ck0, gs_ck1, gs_ck2t, gs_ck2f, gs_ck3, gs_ck4, gs_zd_t, gs_zd_f, gs_zt_t, gs_zt_f, gs_nar1, gs_nar0, gs_tn, if_true, if_false, not_true_eq_false, not_false_eq_true]
    · rw [hc] at hb
      rw [if_pos (show true = true from rfl), k_M_covered_13]
      simp (disch := omega) only [k_M_covered_22, k_M_covered_32, k_M_covered_45, h0, hb, hm, ix, ej, ↓reduceIte, Int.reduceAdd, Int.reduceSub, Int.reduceMul, Int.reduceToNat, gs_00, gs_ofi, gs_k0_m, gs_k1_m, gs_n8, gs_n16, gs_n_add, gs_n_sub, gs_n_mul, gs_n_neg, gs_m_add, gs_m_sub, gs_m_mul, gs_m_neg, gs_n_l, gs_m_n, gs_n_c, gs_eq_t, gs_eq_f1, gs_eq_f2, gs_lt_t, gs_lt_f, gs_le_t, gs_le_f, gs_cmp_lt, gs_cmp_eq, gs_cmp_gt, gs_ix_n, gs_nz_n, gs_nzl_g, gs_n_div, gs_af1, gs_af0, gs_ck0, gs_ck1, gs_ck2t, gs_ck2f, gs_ck3, gs_ck4, gs_zd_t, gs_zd_f, gs_zt_t, gs_zt_f, gs_nar1, gs_nar0, gs_tn, if_true, if_false, not_true_eq_false, not_false_eq_true]
theorem s_M_covered (hM : gs_Mo 21 d S) (hw : gs_wb B S) (hv : gs_wv S) (hg : gs_wg S) (hq : gs_Qu d S.2) (hsp : gs_Sp d S S.2.length) (m : Nat) : ∃ b : Bool, f_M_covered [gs_r 20 0, gs_i (gs_n m)] d = some (some (gs_i (gs_n (gs_z b))), d) ∧ (b = true ↔ gs_cv2 (gs_pe S) (gs_pr0 S) S.2.length 54 m.testBit) := by
  have hl := hv.2
  have key : ∀ (n x : Nat) (o1 o2 : Option gs_V), x + n = 54 → ∃ b : Bool, gs_g Y0 P_M_covered 2 [some (gs_r 20 0), some (gs_i (gs_n m)), some (gs_i (gs_n x)), o1, none, o2] [] d = some (some (gs_i (gs_n (gs_z b))), d) ∧ (b = true ↔ ∀ y : Nat, x ≤ y → y < 54 → gs_mts S m y S.2.length ≤ 0 ∨ gs_mts S m y S.2.length ≤ gs_ab S y) := by
    intro n
    induction n with
    | zero =>
      intro x o1 o2 e
      refine ⟨true, ?_, fun _ y hy h2 => by omega, fun _ => rfl⟩
      rw [k_M_covered_2, gs_zt_t]
      simp (disch := omega) only [k_M_covered_81, ↓reduceIte, Int.reduceAdd, Int.reduceSub, Int.reduceMul, Int.reduceToNat, gs_00, gs_ofi, gs_k0_m, gs_k1_m, gs_n8, gs_n16, gs_n_add, gs_n_sub, gs_n_mul, gs_n_neg, gs_m_add, gs_m_sub, gs_m_mul, gs_m_neg, gs_n_l, gs_m_n, gs_n_c, gs_eq_t, gs_eq_f1, gs_eq_f2, gs_lt_t, gs_lt_f, gs_le_t, gs_le_f, gs_cmp_lt, gs_cmp_eq, gs_cmp_gt, gs_ix_n, gs_nz_n, gs_nzl_g, gs_n_div, gs_af1, gs_af0, gs_ck0, gs_ck1, gs_ck2t, gs_ck2f, gs_ck3, gs_ck4, gs_zd_t, gs_zd_f, gs_zt_t, gs_zt_f, gs_nar1, gs_nar0, gs_tn, if_true, if_false, not_true_eq_false, not_false_eq_true]
    | succ n ih =>
      intro x o1 o2 e
      have ht := s_M_covered_t hw hv hq hsp m (x := x) (by omega) S.2.length 0 (by omega)
      have ht : gs_g Y0 P_M_covered 13 [some (gs_r 20 0), some (gs_i (gs_n m)), some (gs_i (gs_n x)), some (gs_l (gs_m 0)), none, some (gs_i (gs_n 0))] [] d = _ := ht
      have ha := s_M_above hM hw (x := (x : Int)) (by omega) (by omega)
      have r1 := gs_mts_rg hw hv m x
      have r2 := gs_ab_rg hw (x := (x : Int)) (by omega) (by omega)
      have ej : (x : Int) + 1 = ((x + 1 : Nat) : Int) := by omega
      by_cases c : gs_mts S m x S.2.length ≤ 0
      · obtain ⟨b, e1, e2⟩ := ih (x + 1) (some (gs_l (gs_m (gs_mts S m x S.2.length)))) (some (gs_i (gs_n S.2.length))) (by omega)
        refine ⟨b, ?_, ?_⟩
        · rw [← e1, k_M_covered_2]
          by_cases c0 : gs_mts S m x S.2.length = 0
          · simp (disch := omega) only [k_M_covered_8, ht, k_M_covered_57, k_M_covered_75, ej, ↓reduceIte, Int.reduceAdd, Int.reduceSub, Int.reduceMul, Int.reduceToNat, gs_00, gs_ofi, gs_k0_m, gs_k1_m, gs_n8, gs_n16, gs_n_add, gs_n_sub, gs_n_mul, gs_n_neg, gs_m_add, gs_m_sub, gs_m_mul, gs_m_neg, gs_n_l, gs_m_n, gs_n_c, gs_eq_t, gs_eq_f1, gs_eq_f2, gs_lt_t, gs_lt_f, gs_le_t, gs_le_f, gs_cmp_lt, gs_cmp_eq, gs_cmp_gt, gs_ix_n, gs_nz_n, gs_nzl_g, gs_n_div, gs_af1, gs_af0, gs_ck0, gs_ck1, gs_ck2t, gs_ck2f, gs_ck3, gs_ck4, gs_zd_t, gs_zd_f, gs_zt_t, gs_zt_f, gs_nar1, gs_nar0, gs_tn, if_true, if_false, not_true_eq_false, not_false_eq_true]
          · simp (disch := omega) only [k_M_covered_8, ht, k_M_covered_57, k_M_covered_75, ej, ↓reduceIte, Int.reduceAdd, Int.reduceSub, Int.reduceMul, Int.reduceToNat, gs_00, gs_ofi, gs_k0_m, gs_k1_m, gs_n8, gs_n16, gs_n_add, gs_n_sub, gs_n_mul, gs_n_neg, gs_m_add, gs_m_sub, gs_m_mul, gs_m_neg, gs_n_l, gs_m_n, gs_n_c, gs_eq_t, gs_eq_f1, gs_eq_f2, gs_lt_t, gs_lt_f, gs_le_t, gs_le_f, gs_cmp_lt, gs_cmp_eq, gs_cmp_gt, gs_ix_n, gs_nz_n, gs_nzl_g, gs_n_div, gs_af1, gs_af0, gs_ck0, gs_ck1, gs_ck2t, gs_ck2f, gs_ck3, gs_ck4, gs_zd_t, gs_zd_f, gs_zt_t, gs_zt_f, gs_nar1, gs_nar0, gs_tn, if_true, if_false, not_true_eq_false, not_false_eq_true]
        · rw [e2]
          constructor
          · intro h y h1 h2
            by_cases z : y = x
            · subst z; exact Or.inl c
            · exact h y (by omega) h2
          · intro h y h1 h2
            exact h y (by omega) h2
      · by_cases c2 : gs_mts S m x S.2.length ≤ gs_ab S x
        · obtain ⟨b, e1, e2⟩ := ih (x + 1) (some (gs_l (gs_m (gs_mts S m x S.2.length)))) (some (gs_i (gs_n S.2.length))) (by omega)
          refine ⟨b, ?_, ?_⟩
          · rw [← e1, k_M_covered_2]
            by_cases c0 : gs_mts S m x S.2.length = gs_ab S x
            · simp (disch := omega) only [k_M_covered_8, ht, k_M_covered_57, k_M_covered_63, k_M_covered_68, k_M_covered_75, ha, ej, ↓reduceIte, Int.reduceAdd, Int.reduceSub, Int.reduceMul, Int.reduceToNat, gs_00, gs_ofi, gs_k0_m, gs_k1_m, gs_n8, gs_n16, gs_n_add, gs_n_sub, gs_n_mul, gs_n_neg, gs_m_add, gs_m_sub, gs_m_mul, gs_m_neg, gs_n_l, gs_m_n, gs_n_c, gs_eq_t, gs_eq_f1, gs_eq_f2, gs_lt_t, gs_lt_f, gs_le_t, gs_le_f, gs_cmp_lt, gs_cmp_eq, gs_cmp_gt, gs_ix_n, gs_nz_n, gs_nzl_g, gs_n_div, gs_af1, gs_af0, gs_ck0, gs_ck1, gs_ck2t, gs_ck2f, gs_ck3, gs_ck4, gs_zd_t, gs_zd_f, gs_zt_t, gs_zt_f, gs_nar1, gs_nar0, gs_tn, if_true, if_false, not_true_eq_false, not_false_eq_true]
            · simp (disch := omega) only [k_M_covered_8, ht, k_M_covered_57, k_M_covered_63, k_M_covered_68, k_M_covered_75, ha, ej, ↓reduceIte, Int.reduceAdd, Int.reduceSub, Int.reduceMul, Int.reduceToNat, gs_00, gs_ofi, gs_k0_m, gs_k1_m, gs_n8, gs_n16, gs_n_add, gs_n_sub, gs_n_mul, gs_n_neg, gs_m_add, gs_m_sub, gs_m_mul, gs_m_neg, gs_n_l, gs_m_n, gs_n_c, gs_eq_t, gs_eq_f1, gs_eq_f2, gs_lt_t, gs_lt_f, gs_le_t, gs_le_f, gs_cmp_lt, gs_cmp_eq, gs_cmp_gt, gs_ix_n, gs_nz_n, gs_nzl_g, gs_n_div, gs_af1, gs_af0, gs_ck0, gs_ck1, gs_ck2t, gs_ck2f, gs_ck3, gs_ck4, gs_zd_t, gs_zd_f, gs_zt_t, gs_zt_f, gs_nar1, gs_nar0, gs_tn, if_true, if_false, not_true_eq_false, not_false_eq_true]
          · rw [e2]
            constructor
            · intro h y h1 h2
              by_cases z : y = x
              · subst z; exact Or.inr c2
              · exact h y (by omega) h2
            · intro h y h1 h2
              exact h y (by omega) h2
        · refine ⟨false, ?_, ⟨fun z => (by cases z), fun h => ?_⟩⟩
          · rw [k_M_covered_2, gs_zt_f]
            simp (disch := omega) only [k_M_covered_8, ht, k_M_covered_57, k_M_covered_63, k_M_covered_68, k_M_covered_73, ha, ↓reduceIte, Int.reduceAdd, Int.reduceSub, Int.reduceMul, Int.reduceToNat, gs_00, gs_ofi, gs_k0_m, gs_k1_m, gs_n8, gs_n16, gs_n_add, gs_n_sub, gs_n_mul, gs_n_neg, gs_m_add, gs_m_sub, gs_m_mul, gs_m_neg, gs_n_l, gs_m_n, gs_n_c, gs_eq_t, gs_eq_f1, gs_eq_f2, gs_lt_t, gs_lt_f, gs_le_t, gs_le_f, gs_cmp_lt, gs_cmp_eq, gs_cmp_gt, gs_ix_n, gs_nz_n, gs_nzl_g, gs_n_div, gs_af1, gs_af0, gs_ck0, gs_ck1, gs_ck2t, gs_ck2f, gs_ck3, gs_ck4, gs_zd_t, gs_zd_f, gs_zt_t, gs_zt_f, gs_nar1, gs_nar0, gs_tn, if_true, if_false, not_true_eq_false, not_false_eq_true]
          · have := h x (Nat.le_refl x) (by omega)
            omega
  obtain ⟨b, e1, e2⟩ := key 54 0 none none (by omega)
  have e1 : gs_g Y0 P_M_covered 2 [some (gs_r 20 0), some (gs_i (gs_n m)), some (gs_i (gs_n 0)), none, none, none] [] d = _ := e1
  refine ⟨b, ?_, ?_⟩
  · rw [e_M_covered, k_M_covered_0, e1, gs_ck2]
  · rw [e2, gs_cv_iff hw hv hg m]
    exact ⟨fun h x hx => h x (by omega) hx, fun h y _ hy => h y hy⟩
theorem s_M_closed (hv : gs_wv S) (hq : gs_Qu d S.2) (hsp : gs_Sp d S S.2.length) (m : Nat) : ∃ b : Bool, f_M_closed [gs_r 20 0, gs_i (gs_n m)] d = some (some (gs_i (gs_n (gs_z b))), d) ∧ (b = true ↔ gs_cl (gs_pm S) S.2.length m.testBit) := by
  have hl := hv.2
  have h0 := hq.1
  have key : ∀ (n k : Nat) (c : Bool), k + n = S.2.length → ∃ b : Bool, gs_g Y0 P_M_closed 4 [some (gs_r 20 0), some (gs_i (gs_n m)), some (gs_i (gs_n (gs_z c))), some (gs_i (gs_n k))] [] d = some (some (gs_i (gs_n (gs_z b))), d) ∧ (b = true ↔ c = true ∧ ∀ i j, k ≤ i → i < S.2.length → j < i → m.testBit i = true → gs_pm S i j = true → m.testBit j = true) := by
    intro n
    induction n with
    | zero =>
      intro k c e
      refine ⟨c, ?_, fun h => ⟨h, fun i j h1 h2 => by omega⟩, fun h => h.1⟩
      rw [k_M_closed_4]
      simp (disch := omega) only [k_M_closed_49, h0, ↓reduceIte, Int.reduceAdd, Int.reduceSub, Int.reduceMul, Int.reduceToNat, gs_00, gs_ofi, gs_k0_m, gs_k1_m, gs_n8, gs_n16, gs_n_add, gs_n_sub, gs_n_mul, gs_n_neg, gs_m_add, gs_m_sub, gs_m_mul, gs_m_neg, gs_n_l, gs_m_n, gs_n_c, gs_eq_t, gs_eq_f1, gs_eq_f2, gs_lt_t, gs_lt_f, gs_le_t, gs_le_f, gs_cmp_lt, gs_cmp_eq, gs_cmp_gt, gs_ix_n, gs_nz_n, gs_nzl_g, gs_n_div, gs_af1, gs_af0, gs_ck0, gs_ck1, gs_ck2t, gs_ck2f, gs_ck3, gs_ck4, gs_zd_t, gs_zd_f, gs_zt_t, gs_zt_f, gs_nar1, gs_nar0, gs_tn, if_true, if_false, not_true_eq_false, not_false_eq_true]
    | succ n ih =>
      intro k c e
      have ej : (k : Int) + 1 = ((k + 1 : Nat) : Int) := by omega
      have hb := gs_mask_bit m (k := k) (by omega)
      obtain ⟨a, a1, a2, a3⟩ := (hsp k (by omega)).1
      have a4 : a < 1024 := Nat.lt_of_lt_of_le a1 (Nat.pow_le_pow_right (n := 2) (j := 10) (by omega) (by omega))
      cases c
      · obtain ⟨b, e1, e2⟩ := ih (k + 1) false (by omega)
        rw [gs_zt_f] at e1 ⊢
        refine ⟨b, ?_, ?_⟩
        · rw [← e1, k_M_closed_4]
          simp (disch := omega) only [k_M_closed_12, k_M_closed_41, h0, ej, ↓reduceIte, Int.reduceAdd, Int.reduceSub, Int.reduceMul, Int.reduceToNat, gs_00, gs_ofi, gs_k0_m, gs_k1_m, gs_n8, gs_n16, gs_n_add, gs_n_sub, gs_n_mul, gs_n_neg, gs_m_add, gs_m_sub, gs_m_mul, gs_m_neg, gs_n_l, gs_m_n, gs_n_c, gs_eq_t, gs_eq_f1, gs_eq_f2, gs_lt_t, gs_lt_f, gs_le_t, gs_le_f, gs_cmp_lt, gs_cmp_eq, gs_cmp_gt, gs_ix_n, gs_nz_n, gs_nzl_g, gs_n_div, gs_af1, gs_af0, gs_ck0, gs_ck1, gs_ck2t, gs_ck2f, gs_ck3, gs_ck4, gs_zd_t, gs_zd_f, gs_zt_t, gs_zt_f, gs_nar1, gs_nar0, gs_tn, if_true, if_false, not_true_eq_false, not_false_eq_true]
        · rw [e2]
          exact ⟨fun h => (by cases h.1), fun h => (by cases h.1)⟩
      · cases hc : m.testBit k
        · rw [hc] at hb
          obtain ⟨b, e1, e2⟩ := ih (k + 1) true (by omega)
          rw [gs_zt_t] at e1 ⊢
          refine ⟨b, ?_, ?_⟩
          · rw [← e1, k_M_closed_4]
            simp (disch := omega) only [k_M_closed_12, k_M_closed_16, k_M_closed_37, h0, hb, ej, ↓reduceIte, Int.reduceAdd, Int.reduceSub, Int.reduceMul, Int.reduceToNat, gs_00, gs_ofi, gs_k0_m, gs_k1_m, gs_n8, gs_n16, gs_n_add, gs_n_sub, gs_n_mul, gs_n_neg, gs_m_add, gs_m_sub, gs_m_mul, gs_m_neg, gs_n_l, gs_m_n, gs_n_c, gs_eq_t, gs_eq_f1, gs_eq_f2, gs_lt_t, gs_lt_f, gs_le_t, gs_le_f, gs_cmp_lt, gs_cmp_eq, gs_cmp_gt, gs_ix_n, gs_nz_n, gs_nzl_g, gs_n_div, gs_af1, gs_af0, gs_ck0, gs_ck1, gs_ck2t, gs_ck2f, gs_ck3, gs_ck4, gs_zd_t, gs_zd_f, gs_zt_t, gs_zt_f, gs_nar1, gs_nar0, gs_tn, if_true, if_false, not_true_eq_false, not_false_eq_true]
          · rw [e2]
            constructor
            · intro h
              refine ⟨rfl, fun i j h1 h2 h3 h4 h5 => ?_⟩
              by_cases z : i = k
              · subst z; rw [hc] at h4; cases h4
              · exact h.2 i j (by omega) h2 h3 h4 h5
            · intro h
              exact ⟨rfl, fun i j h1 => h.2 i j (by omega)⟩
        · rw [hc] at hb
          by_cases cs : ∀ i, i < 10 → a.testBit i = true → m.testBit i = true
          · have h30 : (gs_n a &&& (gs_n m ^^^ gs_n (-1)) = gs_n 0) = True := eq_true ((gs_mask_sub a4).mpr cs)
            obtain ⟨b, e1, e2⟩ := ih (k + 1) true (by omega)
            rw [gs_zt_t] at e1 ⊢
            refine ⟨b, ?_, ?_⟩
            · rw [← e1, k_M_closed_4]
              simp (disch := omega) only [k_M_closed_12, k_M_closed_16, k_M_closed_24, k_M_closed_30, k_M_closed_37, h0, hb, a2, h30, ej, ↓reduceIte, Int.reduceAdd, Int.reduceSub, Int.reduceMul, Int.reduceToNat, gs_00, gs_ofi, gs_k0_m, gs_k1_m, gs_n8, gs_n16, gs_n_add, gs_n_sub, gs_n_mul, gs_n_neg, gs_m_add, gs_m_sub, gs_m_mul, gs_m_neg, gs_n_l, gs_m_n, gs_n_c, gs_eq_t, gs_eq_f1, gs_eq_f2, gs_lt_t, gs_lt_f, gs_le_t, gs_le_f, gs_cmp_lt, gs_cmp_eq, gs_cmp_gt, gs_ix_n, gs_nz_n, gs_nzl_g, gs_n_div, gs_af1, gs_af0, gs_ck0, gs_ck1, gs_ck2t, gs_ck2f, gs_ck3, gs_ck4, gs_zd_t, gs_zd_f, gs_zt_t, gs_zt_f, gs_nar1, gs_nar0, gs_tn, if_true, if_false, not_true_eq_false, not_false_eq_true]
            · rw [e2]
              constructor
              · intro h
                refine ⟨rfl, fun i j h1 h2 h3 h4 h5 => ?_⟩
                by_cases z : i = k
                · subst z
                  refine cs j (by omega) ?_
                  rw [a3 j, decide_eq_true h3, h5]; rfl
                · exact h.2 i j (by omega) h2 h3 h4 h5
              · intro h
                exact ⟨rfl, fun i j h1 => h.2 i j (by omega)⟩
          · have h30 : (gs_n a &&& (gs_n m ^^^ gs_n (-1)) = gs_n 0) = False := eq_false fun z => cs ((gs_mask_sub a4).mp z)
            obtain ⟨b, e1, e2⟩ := ih (k + 1) false (by omega)
            rw [gs_zt_f] at e1
            rw [gs_zt_t]
            refine ⟨b, ?_, ?_⟩
            · rw [← e1, k_M_closed_4]
              simp (disch := omega) only [k_M_closed_12, k_M_closed_16, k_M_closed_24, k_M_closed_30, k_M_closed_41, h0, hb, a2, h30, ej, ↓reduceIte, Int.reduceAdd, Int.reduceSub, Int.reduceMul, Int.reduceToNat, gs_00, gs_ofi, gs_k0_m, gs_k1_m, gs_n8, gs_n16, gs_n_add, gs_n_sub, gs_n_mul, gs_n_neg, gs_m_add, gs_m_sub, gs_m_mul, gs_m_neg, gs_n_l, gs_m_n, gs_n_c, gs_eq_t, gs_eq_f1, gs_eq_f2, gs_lt_t, gs_lt_f, gs_le_t, gs_le_f, gs_cmp_lt, gs_cmp_eq, gs_cmp_gt, gs_ix_n, gs_nz_n, gs_nzl_g, gs_n_div, gs_af1, gs_af0, gs_ck0, gs_ck1, gs_ck2t, gs_ck2f, gs_ck3, gs_ck4, gs_zd_t, gs_zd_f, gs_zt_t, gs_zt_f, gs_nar1, gs_nar0, gs_tn, if_true, if_false, not_true_eq_false, not_false_eq_true]
            · rw [e2]
              constructor
              · intro h; cases h.1
              · intro h
                refine absurd (fun i hi h1 => ?_) cs
                rw [a3 i, Bool.and_eq_true, decide_eq_true_iff] at h1
                exact h.2 k i (Nat.le_refl k) (by omega) h1.1 hc h1.2
  obtain ⟨b, e1, e2⟩ := key S.2.length 0 true (by omega)
  rw [gs_zt_t] at e1
  have e1 : gs_g Y0 P_M_closed 4 [some (gs_r 20 0), some (gs_i (gs_n m)), some (gs_i (gs_n 1)), some (gs_i (gs_n 0))] [] d = _ := e1
  refine ⟨b, ?_, ?_⟩
  · rw [e_M_closed, k_M_closed_0, e1, gs_ck2]
  · rw [e2]
    exact ⟨fun h i j h1 h2 => h.2 i j (by omega) h1 h2, fun h => ⟨rfl, fun i j _ h1 h2 => h i j h1 h2⟩⟩
end CC
