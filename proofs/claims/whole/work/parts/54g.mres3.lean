-- the model resolves
theorem gs_dl_cg2 {S S' : gs_S} {i : Nat} (e : ∀ k, k ≠ 6 → S'.1 (10 + i) k = S.1 (10 + i) k) (f j : Nat) : gs_dl S' i f j = gs_dl S i f j := by
  unfold gs_dl
  simp only [e 0 (by decide), e 1 (by decide), e 2 (by decide), e 3 (by decide), e 4 (by decide)]
def gs_inu (S : gs_S) (C : Nat → Bool) (k f : Nat) : Bool := (List.range k).any fun m => C m && decide (f = 10 + S.2.getD m 0)
theorem gs_inu_t {S : gs_S} {C : Nat → Bool} {k f : Nat} : gs_inu S C k f = true ↔ ∃ m, m < k ∧ C m = true ∧ f = 10 + S.2.getD m 0 := by
  unfold gs_inu
  rw [List.any_eq_true]
  constructor
  · rintro ⟨m, hm, h⟩
    simp only [Bool.and_eq_true, decide_eq_true_iff] at h
    exact ⟨m, List.mem_range.mp hm, h.1, h.2⟩
  · rintro ⟨m, h1, h2, h3⟩
    exact ⟨m, List.mem_range.mpr h1, by simp only [h2, Bool.true_and, decide_eq_true_iff]; exact h3⟩
def gs_rsu (S : gs_S) (C : Nat → Bool) (k : Nat) : gs_S := (fun f j => if j = 6 ∧ gs_inu S C k f = true then 1 else (gs_sm S (fun m => C m && decide (m < k))).1 f j, S.2)
section MR
variable {d : gs_D} {S : gs_S} {B : Int}
theorem gs_rsu_in {C : Nat → Bool} {k : Nat} {f : Nat} (j : Nat) (h0 : f ≠ 0) (h5 : f ≠ 5) (h6 : j ≠ 6 ∨ f < 10) : (gs_rsu S C k).1 f j = S.1 f j := by
  show (if j = 6 ∧ gs_inu S C k f = true then 1 else (gs_sm S (fun m => C m && decide (m < k))).1 f j) = _
  rw [if_neg, gs_sm_o j h0 h5]
  rintro ⟨a, b⟩
  obtain ⟨m, h1, h2, h3⟩ := gs_inu_t.mp b
  omega
theorem gs_rsu_f {C : Nat → Bool} {k : Nat} (hc : C k = false) : gs_rsu S C (k + 1) = gs_rsu S C k := by
  refine Prod.ext ?_ rfl
  funext f j
  have e1 : gs_inu S C (k + 1) f = gs_inu S C k f := by
    rw [Bool.eq_iff_iff, gs_inu_t, gs_inu_t]
    constructor
    · rintro ⟨m, h1, h2, h3⟩
      refine ⟨m, ?_, h2, h3⟩
      by_cases z : m = k
      · rw [z, hc] at h2; cases h2
      · omega
    · rintro ⟨m, h1, h2, h3⟩
      exact ⟨m, by omega, h2, h3⟩
  have e2 : gs_sm S (fun m => C m && decide (m < k + 1)) = gs_sm S (fun m => C m && decide (m < k)) := gs_sm_cg fun m _ => by
    by_cases z : m = k
    · show (C m && decide (m < k + 1)) = (C m && decide (m < k))
      rw [z, hc]; rfl
    · show (C m && decide (m < k + 1)) = (C m && decide (m < k))
      by_cases y : m < k
      · rw [decide_eq_true y, decide_eq_true (show m < k + 1 by omega)]
      · rw [decide_eq_false y, decide_eq_false (show ¬ m < k + 1 by omega)]
  show (if j = 6 ∧ gs_inu S C (k + 1) f = true then 1 else (gs_sm S (fun m => C m && decide (m < k + 1))).1 f j) = (if j = 6 ∧ gs_inu S C k f = true then 1 else (gs_sm S (fun m => C m && decide (m < k))).1 f j)
  rw [e1, e2]
theorem gs_rsu_t {C : Nat → Bool} {k : Nat} (hk : k < S.2.length) (hc : C k = true) (f j : Nat) : (gs_u (gs_mvd (gs_rsu S C k) (S.2.getD k 0) 1) (10 + S.2.getD k 0) 6 1).1 f j = (gs_rsu S C (k + 1)).1 f j := by
  have e2 : gs_mvd (gs_sm S (fun m => C m && decide (m < k))) (S.2.getD k 0) 1 = gs_sm S (fun m => C m && decide (m < k + 1)) := gs_sm_set hk (fun m hm => by
    show (C m && decide (m < k + 1)) = (C m && decide (m < k))
    by_cases y : m < k
    · rw [decide_eq_true y, decide_eq_true (show m < k + 1 by omega)]
    · rw [decide_eq_false y, decide_eq_false (show ¬ m < k + 1 by omega)]) (by
    rw [hc, decide_eq_true (show k < k + 1 by omega), decide_eq_false (show ¬ k < k by omega)]
    rfl)
  have e3 := congrFun (congrFun (congrArg Prod.fst e2) f) j
  have e3 : (gs_sm S (fun m => C m && decide (m < k))).1 f j + 1 * gs_dl (gs_sm S (fun m => C m && decide (m < k))) (S.2.getD k 0) f j = (gs_sm S (fun m => C m && decide (m < k + 1))).1 f j := e3
  have e4 : gs_dl (gs_rsu S C k) (S.2.getD k 0) f j = gs_dl S (S.2.getD k 0) f j := gs_dl_cg2 (fun c hc6 => gs_rsu_in c (by omega) (by omega) (Or.inl hc6)) f j
  have e5 : gs_dl (gs_sm S (fun m => C m && decide (m < k))) (S.2.getD k 0) f j = gs_dl S (S.2.getD k 0) f j := gs_dl_cg (fun c => gs_sm_o c (by omega) (by omega)) f j
  show (if f = 10 + S.2.getD k 0 ∧ j = 6 then 1 else (gs_rsu S C k).1 f j + 1 * gs_dl (gs_rsu S C k) (S.2.getD k 0) f j) = (if j = 6 ∧ gs_inu S C (k + 1) f = true then 1 else (gs_sm S (fun m => C m && decide (m < k + 1))).1 f j)
  by_cases z1 : f = 10 + S.2.getD k 0 ∧ j = 6
  · rw [if_pos z1, if_pos ⟨z1.2, gs_inu_t.mpr ⟨k, by omega, hc, z1.1⟩⟩]
  · rw [if_neg z1, e4, ← e3, e5]
    show (if j = 6 ∧ gs_inu S C k f = true then 1 else (gs_sm S (fun m => C m && decide (m < k))).1 f j) + 1 * gs_dl S (S.2.getD k 0) f j = _
    by_cases z2 : j = 6 ∧ gs_inu S C k f = true
    · obtain ⟨m, h1, h2, h3⟩ := gs_inu_t.mp z2.2
      rw [if_pos z2, if_pos ⟨z2.1, gs_inu_t.mpr ⟨m, by omega, h2, h3⟩⟩, gs_dl_o S _ j (by omega) (by omega)]
      rfl
    · rw [if_neg z2, if_neg]
      rintro ⟨y1, y2⟩
      obtain ⟨m, h1, h2, h3⟩ := gs_inu_t.mp y2
      by_cases z : m = k
      · rw [z] at h3
        exact z1 ⟨h3, y1⟩
      · exact z2 ⟨y1, gs_inu_t.mpr ⟨m, by omega, h2, h3⟩⟩
theorem gs_rsu_e {C : Nat → Bool} (f j : Nat) : (gs_rsu S C S.2.length).1 f j = (gs_rs S C).1 f j := by
  have e1 : gs_inu S C S.2.length f = gs_in6 S C 0 f := by
    rw [Bool.eq_iff_iff, gs_inu_t, gs_in6_t]
    constructor
    · rintro ⟨m, h1, h2, h3⟩
      exact ⟨m, h1, by omega, h2, h3⟩
    · rintro ⟨m, h1, h2, h3, h4⟩
      exact ⟨m, h1, h3, h4⟩
  have e2 : gs_sm S (fun m => C m && decide (m < S.2.length)) = gs_sm S C := gs_sm_cg fun m hm => by
    show (C m && decide (m < S.2.length)) = C m
    rw [decide_eq_true hm, Bool.and_true]
  show (if j = 6 ∧ gs_inu S C S.2.length f = true then 1 else (gs_sm S (fun m => C m && decide (m < S.2.length))).1 f j) = (if j = 6 ∧ gs_in6 S C 0 f = true then 1 else (gs_sm S C).1 f j)
  rw [e1, e2]
theorem gs_rsu_0 {C : Nat → Bool} (f j : Nat) : (gs_rsu S C 0).1 f j = S.1 f j := by
  show (if j = 6 ∧ gs_inu S C 0 f = true then 1 else (gs_sm S (fun m => C m && decide (m < 0))).1 f j) = _
  rw [if_neg (by
    rintro ⟨-, z⟩
    obtain ⟨m, h1, -⟩ := gs_inu_t.mp z
    omega)]
  show S.1 f j + gs_sum _ _ = _
  rw [gs_sum_0 (fun m _ => if_neg (by
    show ¬ (C m && decide (m < 0)) = true
    rw [decide_eq_false (by omega), Bool.and_false]
    decide)), Int.add_zero]
theorem gs_cl_cg {mt : Nat → Nat → Bool} {n : Nat} {U V : Nat → Bool} (h : ∀ k, k < n → V k = U k) (hc : gs_cl mt n U) : gs_cl mt n V := fun k j hk hj h1 h2 => by
  rw [h k hk] at h1
  rw [h j (by omega)]
  exact hc k j hk hj h1 h2
theorem gs_cv2_cg {e : Nat → Nat → Int} {r : Nat → Int} {n N : Nat} {U V : Nat → Bool} (h : ∀ k, k < n → V k = U k) (hc : gs_cv2 e r n N U) : gs_cv2 e r n N V := fun x hx => by
  have := hc x hx
  unfold gs_pos at this ⊢
  rw [gs_sum_eq fun k hk => by rw [h k hk]]
  exact this
theorem s_M_resolve_s (hw : gs_wb B S) (hv : gs_wv S) (hB : B + 60000000 ≤ 1000000000000) {a : Nat} {C : Nat → Bool} (ha : ∀ k, k < S.2.length → a.testBit k = C k) : ∀ (n k : Nat) (T : gs_S) (dk : gs_D), k + n = S.2.length → gs_Mo 21 dk T → gs_Qu dk S.2 → (∀ f j, T.1 f j = (gs_rsu S C k).1 f j) → gs_wb (B + 6000000 * k) T →
    ∃ d', gs_g Y0 P_M_resolve 56 [some (gs_r 20 0), some (gs_i (gs_n a)), some (gs_i (gs_n (gs_cnt C k))), some (gs_i (gs_n k))] [] dk = some (some (gs_i (gs_n (gs_cnt C S.2.length))), d') ∧ gs_Mo 21 d' (gs_rs S C) ∧ gs_mf dk d' := by
  have hl := hv.2
  have cn := gs_cnt_nn C
  intro n
  induction n with
  | zero =>
    intro k T dk e hM hq h1 h2
    have h0 := hq.1
    have : k = S.2.length := by omega
    subst this
    refine ⟨dk, ?_, hM.cg (fun f j => by rw [h1 f j, gs_rsu_e]), gs_mf.rf⟩
    rw [k_M_resolve_56]
    simp (disch := omega) only [k_M_resolve_92, h0, ↓reduceIte, Int.reduceAdd, Int.reduceSub, Int.reduceMul, Int.reduceToNat, gs_00, gs_ofi, gs_k0_m, gs_k1_m, gs_n8, gs_n16, gs_n_add, gs_n_sub, gs_n_mul, gs_n_neg, gs_m_add, gs_m_sub, gs_m_mul, gs_m_neg, gs_n_l, gs_m_n, gs_n_c, gs_eq_t, gs_eq_f1, gs_eq_f2, gs_lt_t, gs_lt_f, gs_le_t, gs_le_f, gs_cmp_lt, gs_cmp_eq, gs_cmp_gt, gs_ix_n, gs_nz_n, gs_nzl_g, gs_n_div, gs_af1, gs_af0, gs_ck0, gs_ck1, gs_ck2t, gs_ck2f, gs_ck3, gs_ck4, gs_zd_t, gs_zd_f, gs_zt_t, gs_zt_f, gs_nar1, gs_nar0, gs_tn, if_true, if_false, not_true_eq_false, not_false_eq_true]
  | succ n ih =>
    intro k T dk e hM hq h1 h2
    have h0 := hq.1
    have hb := gs_mask_bit a (k := k) (by omega)
    rw [ha k (by omega)] at hb
    have ej : (k : Int) + 1 = ((k + 1 : Nat) : Int) := by omega
    have a1 := cn k
    have a3 := gs_cnt_s C k
    have ea := hq.2 (k : Int) (by omega) (by omega)
    rw [gs_tn] at ea
    cases hc : C k
    · rw [hc] at hb
      obtain ⟨d', e1, r⟩ := ih (k + 1) T dk (by omega) hM hq (by rw [gs_rsu_f hc]; exact h1) (by
        refine ⟨⟨fun j hj => ?_, fun j hj => ?_, fun j hj => ?_⟩, h2.2.1, ⟨h2.2.2.1.1, h2.2.2.1.2.1, by omega⟩, h2.2.2.2⟩
        · have := h2.1.1 j hj; omega
        · have := h2.1.2.1 j hj; omega
        · have := h2.1.2.2 j hj; omega)
      rw [hc, gs_zt_f, Int.add_zero] at a3
      rw [a3] at e1
      refine ⟨d', ?_, r⟩
      rw [← e1, k_M_resolve_56]
      simp (disch := omega) only [k_M_resolve_64, k_M_resolve_86, h0, hb, ej, ↓reduceIte, Int.reduceAdd, Int.reduceSub, Int.reduceMul, Int.reduceToNat, gs_00, gs_ofi, gs_k0_m, gs_k1_m, gs_n8, gs_n16, gs_n_add, gs_n_sub, gs_n_mul, gs_n_neg, gs_m_add, gs_m_sub, gs_m_mul, gs_m_neg, gs_n_l, gs_m_n, gs_n_c, gs_eq_t, gs_eq_f1, gs_eq_f2, gs_lt_t, gs_lt_f, gs_le_t, gs_le_f, gs_cmp_lt, gs_cmp_eq, gs_cmp_gt, gs_ix_n, gs_nz_n, gs_nzl_g, gs_n_div, gs_af1, gs_af0, gs_ck0, gs_ck1, gs_ck2t, gs_ck2f, gs_ck3, gs_ck4, gs_zd_t, gs_zd_f, gs_zt_t, gs_zt_f, gs_nar1, gs_nar0, gs_tn, if_true, if_false, not_true_eq_false, not_false_eq_true]
    · rw [hc] at hb
      have hi : (S.2.getD k 0 : Int) < T.1 6 1 := by
        rw [h1 6 1, gs_rsu_in 1 (by decide) (by decide) (Or.inl (by decide))]
        exact (hv.q hw).a (by omega)
      obtain ⟨d1, e1, m1, f1⟩ := s_M_settle hM h2 hi (by omega)
      have w1 := gs_wb_st (gs_wb_mvd h2 (Or.inl rfl) hi (by omega)) (S.2.getD k 0) (st := 1) (by omega) (by omega)
      have eT : ∀ f j, (gs_u (gs_mvd T (S.2.getD k 0) 1) (10 + S.2.getD k 0) 6 1).1 f j = (gs_rsu S C (k + 1)).1 f j := fun f j => by
        rw [← gs_rsu_t (by omega) hc]
        show (if f = 10 + S.2.getD k 0 ∧ j = 6 then 1 else T.1 f j + 1 * gs_dl T (S.2.getD k 0) f j) = (if f = 10 + S.2.getD k 0 ∧ j = 6 then 1 else (gs_rsu S C k).1 f j + 1 * gs_dl (gs_rsu S C k) (S.2.getD k 0) f j)
        rw [h1 f j, gs_dl_cg (fun c => h1 _ c)]
      obtain ⟨d', e2, m2, r⟩ := ih (k + 1) _ d1 (by omega) m1 (f1.Qu hq) eT (by
        have : B + 6000000 * ((k + 1 : Nat) : Int) = B + 6000000 * (k : Int) + 6000000 := by omega
        rw [this]
        exact w1)
      rw [hc, gs_zt_t] at a3
      rw [a3] at e2
      refine ⟨d', ?_, m2, f1.mf.tr r⟩
      rw [← e2, k_M_resolve_56]
      simp (disch := omega) only [k_M_resolve_64, k_M_resolve_73, k_M_resolve_80, k_M_resolve_83, h0, hb, ea, e1, ej, ↓reduceIte, Int.reduceAdd, Int.reduceSub, Int.reduceMul, Int.reduceToNat, gs_00, gs_ofi, gs_k0_m, gs_k1_m, gs_n8, gs_n16, gs_n_add, gs_n_sub, gs_n_mul, gs_n_neg, gs_m_add, gs_m_sub, gs_m_mul, gs_m_neg, gs_n_l, gs_m_n, gs_n_c, gs_eq_t, gs_eq_f1, gs_eq_f2, gs_lt_t, gs_lt_f, gs_le_t, gs_le_f, gs_cmp_lt, gs_cmp_eq, gs_cmp_gt, gs_ix_n, gs_nz_n, gs_nzl_g, gs_n_div, gs_af1, gs_af0, gs_ck0, gs_ck1, gs_ck2t, gs_ck2f, gs_ck3, gs_ck4, gs_zd_t, gs_zd_f, gs_zt_t, gs_zt_f, gs_nar1, gs_nar0, gs_tn, if_true, if_false, not_true_eq_false, not_false_eq_true]
theorem s_M_resolve (hM : gs_Mo 21 d S) (hw : gs_wb B S) (hv : gs_wv S) (hg : gs_wg S) (hB : B + 60000000 ≤ 1000000000000) : ∃ d', f_M_resolve [gs_r 20 0] d = some (some (gs_i (gs_n (o_resolve S).1)), d') ∧ gs_Mo 21 d' (o_resolve S).2 ∧ gs_mf d d' := by
  have hl := hv.2
  obtain ⟨d1, e1, q1, s1, m1, f1⟩ := s_M_spread hM hw hv
  have h0 := q1.1
  have ht := gs_mask_top S.2.length (by omega)
  have hp : 2 ^ S.2.length ≤ 1024 := Nat.pow_le_pow_right (n := 2) (j := 10) (by omega) (by omega)
  have cn := gs_cnt_nn (gs_mx S)
  have key : ∀ (n m a : Nat), 1 ≤ m → m + n = 2 ^ S.2.length → a < 1024 → (∀ k, k < S.2.length → a.testBit k = true → gs_mx S k = true) → (∀ m' : Nat, m' < m → gs_cl (gs_pm S) S.2.length m'.testBit → gs_cv2 (gs_pe S) (gs_pr0 S) S.2.length 54 m'.testBit → ∀ k, k < S.2.length → m'.testBit k = true → a.testBit k = true) →
      ∃ d', gs_g Y0 P_M_resolve 8 [some (gs_r 20 0), some (gs_i (gs_n a)), some (gs_i (gs_n m)), none] [] d1 = some (some (gs_i (gs_n (gs_cnt (gs_mx S) S.2.length))), d') ∧ gs_Mo 21 d' (gs_rs S (gs_mx S)) ∧ gs_mf d1 d' := by
    intro n
    induction n with
    | zero =>
      intro m a m0 e ha i1 i2
      have eq : ∀ k, k < S.2.length → a.testBit k = gs_mx S k := fun k hk => by
        rw [Bool.eq_iff_iff]
        refine ⟨i1 k hk, fun h => ?_⟩
        unfold gs_mx at h
        rw [@decide_eq_true_iff _ (Classical.propDecidable _)] at h
        obtain ⟨U, u1, u2, u3⟩ := h
        obtain ⟨x, x1, x2⟩ := gs_mk U S.2.length
        have xe : ∀ k, k < S.2.length → x.testBit k = U k := fun k hk => by rw [x2 k, decide_eq_true hk, Bool.true_and]
        exact i2 x (by omega) (gs_cl_cg xe u1) (gs_cv2_cg xe u2) k hk (by rw [xe k hk]; exact u3)
      obtain ⟨d', e2, r⟩ := s_M_resolve_s hw hv hB eq S.2.length 0 S d1 (by omega) m1 q1 (fun f j => (gs_rsu_0 f j).symm) (by
        rw [show B + 6000000 * ((0 : Nat) : Int) = B by omega]
        exact hw)
      have e2 : gs_g Y0 P_M_resolve 56 [some (gs_r 20 0), some (gs_i (gs_n a)), some (gs_i (gs_n 0)), some (gs_i (gs_n 0))] [] d1 = _ := e2
      refine ⟨d', ?_, r⟩
      rw [k_M_resolve_8, h0, ht]
      simp (disch := omega) only [k_M_resolve_52, e2, ↓reduceIte, Int.reduceAdd, Int.reduceSub, Int.reduceMul, Int.reduceToNat, gs_00, gs_ofi, gs_k0_m, gs_k1_m, gs_n8, gs_n16, gs_n_add, gs_n_sub, gs_n_mul, gs_n_neg, gs_m_add, gs_m_sub, gs_m_mul, gs_m_neg, gs_n_l, gs_m_n, gs_n_c, gs_eq_t, gs_eq_f1, gs_eq_f2, gs_lt_t, gs_lt_f, gs_le_t, gs_le_f, gs_cmp_lt, gs_cmp_eq, gs_cmp_gt, gs_ix_n, gs_nz_n, gs_nzl_g, gs_n_div, gs_af1, gs_af0, gs_ck0, gs_ck1, gs_ck2t, gs_ck2f, gs_ck3, gs_ck4, gs_zd_t, gs_zd_f, gs_zt_t, gs_zt_f, gs_nar1, gs_nar0, gs_tn, if_true, if_false, not_true_eq_false, not_false_eq_true]
    | succ n ih =>
      intro m a m0 e ha i1 i2
      have ej : (m : Int) + 1 = ((m + 1 : Nat) : Int) := by omega
      by_cases cs : ∀ i, i < 10 → m.testBit i = true → a.testBit i = true
      · have h18 : (gs_n m &&& (gs_n a ^^^ gs_n (-1)) = gs_n 0) = True := eq_true ((gs_mask_sub (by omega)).mpr cs)
        obtain ⟨d', e2, r⟩ := ih (m + 1) a (by omega) (by omega) ha i1 (fun m' hm' c1 c2 k hk h => by
          by_cases z : m' = m
          · subst z; exact cs k (by omega) h
          · exact i2 m' (by omega) c1 c2 k hk h)
        refine ⟨d', ?_, r⟩
        rw [← e2, k_M_resolve_8, h0, ht]
        simp (disch := omega) only [k_M_resolve_18, k_M_resolve_46, h18, ej, ↓reduceIte, Int.reduceAdd, Int.reduceSub, Int.reduceMul, Int.reduceToNat, gs_00, gs_ofi, gs_k0_m, gs_k1_m, gs_n8, gs_n16, gs_n_add, gs_n_sub, gs_n_mul, gs_n_neg, gs_m_add, gs_m_sub, gs_m_mul, gs_m_neg, gs_n_l, gs_m_n, gs_n_c, gs_eq_t, gs_eq_f1, gs_eq_f2, gs_lt_t, gs_lt_f, gs_le_t, gs_le_f, gs_cmp_lt, gs_cmp_eq, gs_cmp_gt, gs_ix_n, gs_nz_n, gs_nzl_g, gs_n_div, gs_af1, gs_af0, gs_ck0, gs_ck1, gs_ck2t, gs_ck2f, gs_ck3, gs_ck4, gs_zd_t, gs_zd_f, gs_zt_t, gs_zt_f, gs_nar1, gs_nar0, gs_tn, if_true, if_false, not_true_eq_false, not_false_eq_true]
      · have h18 : (gs_n m &&& (gs_n a ^^^ gs_n (-1)) = gs_n 0) = False := eq_false fun z => cs ((gs_mask_sub (by omega)).mp z)
        obtain ⟨b, b1, b2⟩ := s_M_closed hv q1 s1 m
        cases b
        · obtain ⟨d', e2, r⟩ := ih (m + 1) a (by omega) (by omega) ha i1 (fun m' hm' c1 c2 k hk h => by
            by_cases z : m' = m
            · subst z; cases b2.mpr c1
            · exact i2 m' (by omega) c1 c2 k hk h)
          refine ⟨d', ?_, r⟩
          rw [← e2, k_M_resolve_8, h0, ht]
          simp (disch := omega) only [k_M_resolve_18, k_M_resolve_26, k_M_resolve_31, k_M_resolve_46, h18, b1, ej, ↓reduceIte, Int.reduceAdd, Int.reduceSub, Int.reduceMul, Int.reduceToNat, gs_00, gs_ofi, gs_k0_m, gs_k1_m, gs_n8, gs_n16, gs_n_add, gs_n_sub, gs_n_mul, gs_n_neg, gs_m_add, gs_m_sub, gs_m_mul, gs_m_neg, gs_n_l, gs_m_n, gs_n_c, gs_eq_t, gs_eq_f1, gs_eq_f2, gs_lt_t, gs_lt_f, gs_le_t, gs_le_f, gs_cmp_lt, gs_cmp_eq, gs_cmp_gt, gs_ix_n, gs_nz_n, gs_nzl_g, gs_n_div, gs_af1, gs_af0, gs_ck0, gs_ck1, gs_ck2t, gs_ck2f, gs_ck3, gs_ck4, gs_zd_t, gs_zd_f, gs_zt_t, gs_zt_f, gs_nar1, gs_nar0, gs_tn, if_true, if_false, not_true_eq_false, not_false_eq_true]
        · obtain ⟨c, c1, c2⟩ := s_M_covered m1 hw hv hg q1 s1 m
          cases c
          · obtain ⟨d', e2, r⟩ := ih (m + 1) a (by omega) (by omega) ha i1 (fun m' hm' x1 x2 k hk h => by
              by_cases z : m' = m
              · subst z; cases c2.mpr x2
              · exact i2 m' (by omega) x1 x2 k hk h)
            refine ⟨d', ?_, r⟩
            rw [← e2, k_M_resolve_8, h0, ht]
            simp (disch := omega) only [k_M_resolve_18, k_M_resolve_26, k_M_resolve_31, k_M_resolve_34, k_M_resolve_39, k_M_resolve_46, h18, b1, c1, ej, ↓reduceIte, Int.reduceAdd, Int.reduceSub, Int.reduceMul, Int.reduceToNat, gs_00, gs_ofi, gs_k0_m, gs_k1_m, gs_n8, gs_n16, gs_n_add, gs_n_sub, gs_n_mul, gs_n_neg, gs_m_add, gs_m_sub, gs_m_mul, gs_m_neg, gs_n_l, gs_m_n, gs_n_c, gs_eq_t, gs_eq_f1, gs_eq_f2, gs_lt_t, gs_lt_f, gs_le_t, gs_le_f, gs_cmp_lt, gs_cmp_eq, gs_cmp_gt, gs_ix_n, gs_nz_n, gs_nzl_g, gs_n_div, gs_af1, gs_af0, gs_ck0, gs_ck1, gs_ck2t, gs_ck2f, gs_ck3, gs_ck4, gs_zd_t, gs_zd_f, gs_zt_t, gs_zt_f, gs_nar1, gs_nar0, gs_tn, if_true, if_false, not_true_eq_false, not_false_eq_true]
          · obtain ⟨d', e2, r⟩ := ih (m + 1) (a ||| m) (by omega) (by omega) (Nat.or_lt_two_pow (n := 10) ha (by omega)) (fun k hk h => by
              rw [Nat.testBit_or, Bool.or_eq_true] at h
              rcases h with h | h
              · exact i1 k hk h
              · unfold gs_mx
                rw [@decide_eq_true_iff _ (Classical.propDecidable _)]
                exact ⟨m.testBit, b2.mp rfl, c2.mp rfl, h⟩) (fun m' hm' x1 x2 k hk h => by
              rw [Nat.testBit_or, Bool.or_eq_true]
              by_cases z : m' = m
              · subst z; exact Or.inr h
              · exact Or.inl (i2 m' (by omega) x1 x2 k hk h))
            refine ⟨d', ?_, r⟩
            have eo := gs_mask_or a m
            rw [← e2, k_M_resolve_8, h0, ht]
            simp (disch := omega) only [k_M_resolve_18, k_M_resolve_26, k_M_resolve_31, k_M_resolve_34, k_M_resolve_39, k_M_resolve_42, h18, b1, c1, eo, ej, ↓reduceIte, Int.reduceAdd, Int.reduceSub, Int.reduceMul, Int.reduceToNat, gs_00, gs_ofi, gs_k0_m, gs_k1_m, gs_n8, gs_n16, gs_n_add, gs_n_sub, gs_n_mul, gs_n_neg, gs_m_add, gs_m_sub, gs_m_mul, gs_m_neg, gs_n_l, gs_m_n, gs_n_c, gs_eq_t, gs_eq_f1, gs_eq_f2, gs_lt_t, gs_lt_f, gs_le_t, gs_le_f, gs_cmp_lt, gs_cmp_eq, gs_cmp_gt, gs_ix_n, gs_nz_n, gs_nzl_g, gs_n_div, gs_af1, gs_af0, gs_ck0, gs_ck1, gs_ck2t, gs_ck2f, gs_ck3, gs_ck4, gs_zd_t, gs_zd_f, gs_zt_t, gs_zt_f, gs_nar1, gs_nar0, gs_tn, if_true, if_false, not_true_eq_false, not_false_eq_true]
  have pp := Nat.two_pow_pos S.2.length
  obtain ⟨d', e2, r1, r2⟩ := key (2 ^ S.2.length - 1) 1 0 (by omega) (by omega) (by omega) (fun k _ h => by rw [Nat.zero_testBit] at h; cases h) (fun m' hm' _ _ k _ h => by
    have : m' = 0 := by omega
    subst this
    rw [Nat.zero_testBit] at h; cases h)
  have e2 : gs_g Y0 P_M_resolve 8 [some (gs_r 20 0), some (gs_i (gs_n 0)), some (gs_i (gs_n 1)), none] [] d1 = _ := e2
  refine ⟨d', ?_, r1, f1.tr r2⟩
  show _ = some (some (gs_i (gs_n (gs_cnt (gs_mx S) S.2.length))), d')
  simp (disch := omega) only [e_M_resolve, k_M_resolve_0, k_M_resolve_4, e1, e2, ↓reduceIte, Int.reduceAdd, Int.reduceSub, Int.reduceMul, Int.reduceToNat, gs_00, gs_ofi, gs_k0_m, gs_k1_m, gs_n8, gs_n16, gs_n_add, gs_n_sub, gs_n_mul, gs_n_neg, gs_m_add, gs_m_sub, gs_m_mul, gs_m_neg, gs_n_l, gs_m_n, gs_n_c, gs_eq_t, gs_eq_f1, gs_eq_f2, gs_lt_t, gs_lt_f, gs_le_t, gs_le_f, gs_cmp_lt, gs_cmp_eq, gs_cmp_gt, gs_ix_n, gs_nz_n, gs_nzl_g, gs_n_div, gs_af1, gs_af0, gs_ck0, gs_ck1, gs_ck2t, gs_ck2f, gs_ck3, gs_ck4, gs_zd_t, gs_zd_f, gs_zt_t, gs_zt_f, gs_nar1, gs_nar0, gs_tn, if_true, if_false, not_true_eq_false, not_false_eq_true]
end MR
