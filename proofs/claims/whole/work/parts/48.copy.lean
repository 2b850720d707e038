-- one book copied over the other
def gs_c3 (d : gs_D) (t b b' N : Nat) : gs_D := (d.1, fun t0 i0 => if t0 = t ∧ i0 = b then va_cpy (d.2 t b') (d.2 t b) 0 0 N else d.2 t0 i0)
def gs_c1a (d : gs_D) (t b b' N : Nat) : gs_D := (fun t0 i0 => if t0 = t ∧ i0 = b then va_cpy (d.1 t b') (d.1 t b) 0 0 N else d.1 t0 i0, d.2)
theorem gs_ac_c {N : Nat} (hN : N < 1000) {n : Nat} (hn : n = N) : decide (¬ gs_n 0 < 0 ∧ ¬ gs_n 0 < 0 ∧ ¬ gs_n (N : Int) < 0 ∧ (gs_n 0).toNatClampNeg + (gs_n (N : Int)).toNatClampNeg ≤ n ∧ (gs_n 0).toNatClampNeg + (gs_n (N : Int)).toNatClampNeg ≤ n) = true := by
  rw [decide_eq_true_iff, gs_00, gs_n_c (by omega) (by omega), gs_n_c (by omega) (by omega), gs_lt_iff (by omega) (by omega) (by omega) (by omega), gs_lt_iff (by omega) (by omega) (by omega) (by omega)]
  omega
theorem s_ac3 {d : gs_D} {t b b' N : Nat} (hk : (Y0.1 t).1 = 3) (hn : (Y0.1 t).2.2 = N) (hN : N < 1000) : f_S_arraycopy [gs_r t b', gs_i (gs_n 0), gs_r t b, gs_i (gs_n 0), gs_i (gs_n (N : Int))] d = some (none, gs_c3 d t b b' N) := by
  show gs_b (decide (¬ gs_n 0 < 0 ∧ ¬ gs_n 0 < 0 ∧ ¬ gs_n (N : Int) < 0 ∧ (gs_n 0).toNatClampNeg + (gs_n (N : Int)).toNatClampNeg ≤ (Y0.1 t).2.2 ∧ (gs_n 0).toNatClampNeg + (gs_n (N : Int)).toNatClampNeg ≤ (Y0.1 t).2.2)) (match (Y0.1 t).1, (Y0.1 t).1 with
    | 1, 1 => some (none, (fun t0 i0 => if t0 = t ∧ i0 = b then va_cpy (d.1 t b') (d.1 t b) (gs_n 0).toNatClampNeg (gs_n 0).toNatClampNeg (gs_n (N : Int)).toNatClampNeg else d.1 t0 i0), d.2)
    | 3, 3 => some (none, d.1, (fun t0 i0 => if t0 = t ∧ i0 = b then va_cpy (d.2 t b') (d.2 t b) (gs_n 0).toNatClampNeg (gs_n 0).toNatClampNeg (gs_n (N : Int)).toNatClampNeg else d.2 t0 i0))
    | _, _ => none) = _
  rw [gs_ac_c hN hn, hk, gs_n_c (by omega) (by omega), gs_n_c (by omega) (by omega)]
  show some (none, d.1, (fun t0 i0 => if t0 = t ∧ i0 = b then va_cpy (d.2 t b') (d.2 t b) (0 : Int).toNat (0 : Int).toNat (N : Int).toNat else d.2 t0 i0)) = _
  rw [gs_tn]
  rfl
theorem s_ac1 {d : gs_D} {t b b' N : Nat} (hk : (Y0.1 t).1 = 1) (hn : (Y0.1 t).2.2 = N) (hN : N < 1000) : f_S_arraycopy [gs_r t b', gs_i (gs_n 0), gs_r t b, gs_i (gs_n 0), gs_i (gs_n (N : Int))] d = some (none, gs_c1a d t b b' N) := by
  show gs_b (decide (¬ gs_n 0 < 0 ∧ ¬ gs_n 0 < 0 ∧ ¬ gs_n (N : Int) < 0 ∧ (gs_n 0).toNatClampNeg + (gs_n (N : Int)).toNatClampNeg ≤ (Y0.1 t).2.2 ∧ (gs_n 0).toNatClampNeg + (gs_n (N : Int)).toNatClampNeg ≤ (Y0.1 t).2.2)) (match (Y0.1 t).1, (Y0.1 t).1 with
    | 1, 1 => some (none, (fun t0 i0 => if t0 = t ∧ i0 = b then va_cpy (d.1 t b') (d.1 t b) (gs_n 0).toNatClampNeg (gs_n 0).toNatClampNeg (gs_n (N : Int)).toNatClampNeg else d.1 t0 i0), d.2)
    | 3, 3 => some (none, d.1, (fun t0 i0 => if t0 = t ∧ i0 = b then va_cpy (d.2 t b') (d.2 t b) (gs_n 0).toNatClampNeg (gs_n 0).toNatClampNeg (gs_n (N : Int)).toNatClampNeg else d.2 t0 i0))
    | _, _ => none) = _
  rw [gs_ac_c hN hn, hk, gs_n_c (by omega) (by omega), gs_n_c (by omega) (by omega)]
  show some (none, (fun t0 i0 => if t0 = t ∧ i0 = b then va_cpy (d.1 t b') (d.1 t b) (0 : Int).toNat (0 : Int).toNat (N : Int).toNat else d.1 t0 i0), d.2) = _
  rw [gs_tn]
  rfl
theorem gs_c3_o {d : gs_D} {t b b' N a i : Nat} (h : ¬ (a = t ∧ i = b)) : (gs_c3 d t b b' N).2 a i = d.2 a i := if_neg h
theorem gs_c3_s {d : gs_D} {t b b' N j : Nat} (h : j < N) : (gs_c3 d t b b' N).2 t b j = d.2 t b' j := by
  show (if t = t ∧ b = b then va_cpy (d.2 t b') (d.2 t b) 0 0 N else d.2 t b) j = _
  rw [if_pos ⟨rfl, rfl⟩]
  show (if 0 ≤ j ∧ j < 0 + N then d.2 t b' (0 + (j - 0)) else d.2 t b j) = _
  rw [if_pos (by omega), show 0 + (j - 0) = j by omega]
theorem gs_c1_o {d : gs_D} {t b b' N a i : Nat} (h : ¬ (a = t ∧ i = b)) : (gs_c1a d t b b' N).1 a i = d.1 a i := if_neg h
theorem gs_c1_s {d : gs_D} {t b b' N j : Nat} (h : j < N) : (gs_c1a d t b b' N).1 t b j = d.1 t b' j := by
  show (if t = t ∧ b = b then va_cpy (d.1 t b') (d.1 t b) 0 0 N else d.1 t b) j = _
  rw [if_pos ⟨rfl, rfl⟩]
  show (if 0 ≤ j ∧ j < 0 + N then d.1 t b' (0 + (j - 0)) else d.1 t b j) = _
  rw [if_pos (by omega), show 0 + (j - 0) = j by omega]
def gs_c7 (d : gs_D) (x y : Nat) : gs_D := gs_wI (gs_wI (gs_wI (gs_wI (gs_wI (gs_wI (gs_wI d 13 x 0 (d.1 13 y 0)) 13 x 1 (d.1 13 y 1)) 13 x 2 (d.1 13 y 2)) 13 x 3 (d.1 13 y 3)) 13 x 4 (d.1 13 y 4)) 13 x 5 (d.1 13 y 5)) 13 x 6 (d.1 13 y 6)
theorem s_I_copyFrom {d : gs_D} {x y : Nat} (h : x ≠ y) : f_I_copyFrom [gs_r 13 x, gs_r 13 y] d = some (none, gs_c7 d x y) := by
  simp (disch := omega) only [e_I_copyFrom, k_I_copyFrom_0, gs_wI_o, ↓reduceIte, Int.reduceAdd, Int.reduceSub, Int.reduceMul, Int.reduceToNat, gs_00, gs_ofi, gs_k0_m, gs_k1_m, gs_n8, gs_n16, gs_n_add, gs_n_sub, gs_n_mul, gs_n_neg, gs_m_add, gs_m_sub, gs_m_mul, gs_m_neg, gs_n_l, gs_m_n, gs_n_c, gs_eq_t, gs_eq_f1, gs_eq_f2, gs_lt_t, gs_lt_f, gs_le_t, gs_le_f, gs_cmp_lt, gs_cmp_eq, gs_cmp_gt, gs_ix_n, gs_nz_n, gs_nzl_g, gs_n_div, gs_af1, gs_af0, gs_ck0, gs_ck1, gs_ck2t, gs_ck2f, gs_ck3, gs_ck4, gs_zd_t, gs_zd_f, gs_zt_t, gs_zt_f, gs_nar1, gs_nar0, gs_tn, if_true, if_false, not_true_eq_false, not_false_eq_true]
  rfl
theorem gs_c7_o {d : gs_D} {x y a i : Nat} (h : ¬ (a = 13 ∧ i = x)) : (gs_c7 d x y).1 a i = d.1 a i := by
  funext c
  unfold gs_c7
  rw [gs_wI_o (by omega), gs_wI_o (by omega), gs_wI_o (by omega), gs_wI_o (by omega), gs_wI_o (by omega), gs_wI_o (by omega), gs_wI_o (by omega)]
theorem gs_c7_s {d : gs_D} {x y c : Nat} (h : c < 7) : (gs_c7 d x y).1 13 x c = d.1 13 y c := by
  unfold gs_c7
  have : c = 0 ∨ c = 1 ∨ c = 2 ∨ c = 3 ∨ c = 4 ∨ c = 5 ∨ c = 6 := by omega
  rcases this with z | z | z | z | z | z | z <;> subst z
  · rw [gs_wI_o (by omega), gs_wI_o (by omega), gs_wI_o (by omega), gs_wI_o (by omega), gs_wI_o (by omega), gs_wI_o (by omega), gs_wI_s]
  · rw [gs_wI_o (by omega), gs_wI_o (by omega), gs_wI_o (by omega), gs_wI_o (by omega), gs_wI_o (by omega), gs_wI_s]
  · rw [gs_wI_o (by omega), gs_wI_o (by omega), gs_wI_o (by omega), gs_wI_o (by omega), gs_wI_s]
  · rw [gs_wI_o (by omega), gs_wI_o (by omega), gs_wI_o (by omega), gs_wI_s]
  · rw [gs_wI_o (by omega), gs_wI_o (by omega), gs_wI_s]
  · rw [gs_wI_o (by omega), gs_wI_s]
  · rw [gs_wI_s]
section CP
variable {d : gs_D} {S : gs_S} {B : Int} {b b' : Nat}
/-- the accounts alone -/
def gs_Ca (b : Nat) (d : gs_D) (S : gs_S) : Prop := ((∀ j, j < 18 → d.2 5 b j = gs_m (S.1 0 j)) ∧ (∀ j, j < 18 → d.2 6 b j = gs_m (S.1 1 j))) ∧ ((∀ j, j < 3 → d.1 7 b j = gs_n (S.1 2 j)) ∧ (∀ j, j < 3 → d.1 8 b j = gs_n (S.1 3 j))) ∧ ((∀ j, j < 36 → d.1 9 b j = gs_n (S.1 4 j)) ∧ (∀ j, j < 36 → d.2 10 b j = gs_m (S.1 5 j)))
theorem s_A_copyFrom (hb : b ≠ b') (hC : gs_Ca b' d S) : ∃ d', f_A_copyFrom [gs_r 3 b, gs_r 3 b'] d = some (none, d') ∧ gs_Ca b d' S ∧ (∀ t i, ¬ ((7 ≤ t ∧ t ≤ 9) ∧ i = b) → d'.1 t i = d.1 t i) ∧ (∀ t i, ¬ ((t = 5 ∨ t = 6 ∨ t = 10) ∧ i = b) → d'.2 t i = d.2 t i) := by
  have a1 := s_ac3 (d := d) (t := 5) (b := b) (b' := b') (N := 18) rfl rfl (by omega)
  have a2 := s_ac3 (d := gs_c3 d 5 b b' 18) (t := 6) (b := b) (b' := b') (N := 18) rfl rfl (by omega)
  have a3 := s_ac1 (d := gs_c3 (gs_c3 d 5 b b' 18) 6 b b' 18) (t := 7) (b := b) (b' := b') (N := 3) rfl rfl (by omega)
  have a4 := s_ac1 (d := gs_c1a (gs_c3 (gs_c3 d 5 b b' 18) 6 b b' 18) 7 b b' 3) (t := 8) (b := b) (b' := b') (N := 3) rfl rfl (by omega)
  have a5 := s_ac1 (d := gs_c1a (gs_c1a (gs_c3 (gs_c3 d 5 b b' 18) 6 b b' 18) 7 b b' 3) 8 b b' 3) (t := 9) (b := b) (b' := b') (N := 36) rfl rfl (by omega)
  have a6 := s_ac3 (d := gs_c1a (gs_c1a (gs_c1a (gs_c3 (gs_c3 d 5 b b' 18) 6 b b' 18) 7 b b' 3) 8 b b' 3) 9 b b' 36) (t := 10) (b := b) (b' := b') (N := 36) rfl rfl (by omega)
  refine ⟨gs_c3 (gs_c1a (gs_c1a (gs_c1a (gs_c3 (gs_c3 d 5 b b' 18) 6 b b' 18) 7 b b' 3) 8 b b' 3) 9 b b' 36) 10 b b' 36, ?_, ⟨⟨fun j hj => ?_, fun j hj => ?_⟩, ⟨fun j hj => ?_, fun j hj => ?_⟩, ⟨fun j hj => ?_, fun j hj => ?_⟩⟩, fun t i h => ?_, fun t i h => ?_⟩
  · have e18 : ((18 : Nat) : Int) = 18 := rfl
    have e3 : ((3 : Nat) : Int) = 3 := rfl
    have e36 : ((36 : Nat) : Int) = 36 := rfl
    rw [e18] at a1 a2
    rw [e3] at a3 a4
    rw [e36] at a5 a6
    simp (disch := omega) only [e_A_copyFrom, k_A_copyFrom_0, k_A_copyFrom_15, k_A_copyFrom_30, k_A_copyFrom_44, k_A_copyFrom_58, k_A_copyFrom_73, k_A_copyFrom_88, a1, a2, a3, a4, a5, a6, ↓reduceIte, Int.reduceAdd, Int.reduceSub, Int.reduceMul, Int.reduceToNat, gs_00, gs_ofi, gs_k0_m, gs_k1_m, gs_n8, gs_n16, gs_n_add, gs_n_sub, gs_n_mul, gs_n_neg, gs_m_add, gs_m_sub, gs_m_mul, gs_m_neg, gs_n_l, gs_m_n, gs_n_c, gs_eq_t, gs_eq_f1, gs_eq_f2, gs_lt_t, gs_lt_f, gs_le_t, gs_le_f, gs_cmp_lt, gs_cmp_eq, gs_cmp_gt, gs_ix_n, gs_nz_n, gs_nzl_g, gs_n_div, gs_af1, gs_af0, gs_ck0, gs_ck1, gs_ck2t, gs_ck2f, gs_ck3, gs_ck4, gs_zd_t, gs_zd_f, gs_zt_t, gs_zt_f, gs_nar1, gs_nar0, gs_tn, if_true, if_false, not_true_eq_false, not_false_eq_true]
  · rw [gs_c3_o (by omega)]
    show (gs_c3 (gs_c3 d 5 b b' 18) 6 b b' 18).2 5 b j = _
    rw [gs_c3_o (by omega), gs_c3_s hj]
    exact hC.1.1 j hj
  · rw [gs_c3_o (by omega)]
    show (gs_c3 (gs_c3 d 5 b b' 18) 6 b b' 18).2 6 b j = _
    rw [gs_c3_s hj, gs_c3_o (by omega)]
    exact hC.1.2 j hj
  · show (gs_c1a (gs_c1a (gs_c1a (gs_c3 (gs_c3 d 5 b b' 18) 6 b b' 18) 7 b b' 3) 8 b b' 3) 9 b b' 36).1 7 b j = _
    rw [gs_c1_o (by omega), gs_c1_o (by omega), gs_c1_s hj]
    exact hC.2.1.1 j hj
  · show (gs_c1a (gs_c1a (gs_c1a (gs_c3 (gs_c3 d 5 b b' 18) 6 b b' 18) 7 b b' 3) 8 b b' 3) 9 b b' 36).1 8 b j = _
    rw [gs_c1_o (by omega), gs_c1_s hj, gs_c1_o (by omega)]
    exact hC.2.1.2 j hj
  · show (gs_c1a (gs_c1a (gs_c1a (gs_c3 (gs_c3 d 5 b b' 18) 6 b b' 18) 7 b b' 3) 8 b b' 3) 9 b b' 36).1 9 b j = _
    rw [gs_c1_s hj, gs_c1_o (by omega), gs_c1_o (by omega)]
    exact hC.2.2.1 j hj
  · rw [gs_c3_s hj]
    show (gs_c3 (gs_c3 d 5 b b' 18) 6 b b' 18).2 10 b' j = _
    rw [gs_c3_o (by omega), gs_c3_o (by omega)]
    exact hC.2.2.2 j hj
  · show (gs_c1a (gs_c1a (gs_c1a (gs_c3 (gs_c3 d 5 b b' 18) 6 b b' 18) 7 b b' 3) 8 b b' 3) 9 b b' 36).1 t i = _
    rw [gs_c1_o (by omega), gs_c1_o (by omega), gs_c1_o (by omega)]
    rfl
  · rw [gs_c3_o (by omega)]
    show (gs_c3 (gs_c3 d 5 b b' 18) 6 b b' 18).2 t i = _
    rw [gs_c3_o (by omega), gs_c3_o (by omega)]
theorem s_Q_copyFrom (hb : b ≠ b') (h1 : b < 2) (h2 : b' < 2) (hc0 : 0 ≤ S.1 6 1) (hc1 : S.1 6 1 ≤ 40) (hl : S.2.length ≤ 10) (hct : d.1 4 b' 1 = gs_n (S.1 6 1)) (hwt : d.1 4 b' 3 = gs_n S.2.length) (his : ∀ i k : Nat, (i : Int) < S.1 6 1 → k < 7 → d.1 13 (gs_ii b' i) k = gs_n (S.1 (10 + i) k)) (hod : ∀ k : Nat, k < S.2.length → d.1 12 b' k = gs_n (S.2.getD k 0 : Nat)) : ∃ d', f_Q_copyFrom [gs_r 4 b, gs_r 4 b'] d = some (none, d') ∧ d'.1 4 b 1 = gs_n (S.1 6 1) ∧ d'.1 4 b 3 = gs_n S.2.length ∧ (∀ i k : Nat, (i : Int) < S.1 6 1 → k < 7 → d'.1 13 (gs_ii b i) k = gs_n (S.1 (10 + i) k)) ∧ (∀ k : Nat, k < S.2.length → d'.1 12 b k = gs_n (S.2.getD k 0 : Nat)) ∧ d'.2 = d.2 ∧ (∀ t i, t ≠ 13 → ¬ (t = 4 ∧ i = b) → ¬ (t = 12 ∧ i = b) → d'.1 t i = d.1 t i) ∧ (∀ i, i < 40 → d'.1 13 (gs_ii b' i) = d.1 13 (gs_ii b' i)) := by
  have key : ∀ (n k : Nat) (dk : gs_D), (k : Int) + n = S.1 6 1 → dk.2 = d.2 → (∀ t i, t ≠ 13 → dk.1 t i = d.1 t i) → (∀ i, i < 40 → dk.1 13 (gs_ii b' i) = d.1 13 (gs_ii b' i)) → (∀ i c : Nat, i < k → c < 7 → dk.1 13 (gs_ii b i) c = gs_n (S.1 (10 + i) c)) →
      ∃ d', gs_g Y0 P_Q_copyFrom 2 [some (gs_r 4 b), some (gs_r 4 b'), some (gs_i (gs_n k))] [] dk = gs_g Y0 P_Q_copyFrom 31 [some (gs_r 4 b), some (gs_r 4 b'), some (gs_i (gs_n (S.1 6 1)))] [] d' ∧ d'.2 = d.2 ∧ (∀ t i, t ≠ 13 → d'.1 t i = d.1 t i) ∧ (∀ i, i < 40 → d'.1 13 (gs_ii b' i) = d.1 13 (gs_ii b' i)) ∧ (∀ i c : Nat, (i : Int) < S.1 6 1 → c < 7 → d'.1 13 (gs_ii b i) c = gs_n (S.1 (10 + i) c)) := by
    intro n
    induction n with
    | zero =>
      intro k dk hk e2 e1 e13 ei
      have hct' : dk.1 4 b' 1 = gs_n (S.1 6 1) := by rw [e1 4 b' (by decide)]; exact hct
      have ek : (k : Int) = S.1 6 1 := by omega
      refine ⟨dk, ?_, e2, e1, e13, fun i c hi hc => ei i c (by omega) hc⟩
      rw [k_Q_copyFrom_2]
      simp (disch := omega) only [hct', ↓reduceIte, Int.reduceAdd, Int.reduceSub, Int.reduceMul, Int.reduceToNat, gs_00, gs_ofi, gs_k0_m, gs_k1_m, gs_n8, gs_n16, gs_n_add, gs_n_sub, gs_n_mul, gs_n_neg, gs_m_add, gs_m_sub, gs_m_mul, gs_m_neg, gs_n_l, gs_m_n, gs_n_c, gs_eq_t, gs_eq_f1, gs_eq_f2, gs_lt_t, gs_lt_f, gs_le_t, gs_le_f, gs_cmp_lt, gs_cmp_eq, gs_cmp_gt, gs_ix_n, gs_nz_n, gs_nzl_g, gs_n_div, gs_af1, gs_af0, gs_ck0, gs_ck1, gs_ck2t, gs_ck2f, gs_ck3, gs_ck4, gs_zd_t, gs_zd_f, gs_zt_t, gs_zt_f, gs_nar1, gs_nar0, gs_tn, if_true, if_false, not_true_eq_false, not_false_eq_true]
      rw [ek]
    | succ n ih =>
      intro k dk hk e2 e1 e13 ei
      have hct' : dk.1 4 b' 1 = gs_n (S.1 6 1) := by rw [e1 4 b' (by decide)]; exact hct
      have hne : ∀ i, i < 40 → gs_ii b k ≠ gs_ii b' i := fun i hi => by unfold gs_ii; omega
      have hc7 := s_I_copyFrom (d := dk) (x := gs_ii b k) (y := gs_ii b' k) (hne k (by omega))
      obtain ⟨d', e, r⟩ := ih (k + 1) (gs_c7 dk (gs_ii b k) (gs_ii b' k)) (by omega) e2 (fun t i ht => by
          rw [gs_c7_o (by omega)]; exact e1 t i ht) (fun i hi => by
          rw [gs_c7_o (by have := hne i hi; omega)]; exact e13 i hi) (fun i c hi hc => by
          by_cases z : i = k
          · subst z
            rw [gs_c7_s hc, e13 i (by omega)]
            exact his i c (by omega) hc
          · rw [gs_c7_o (by unfold gs_ii; omega)]
            exact ei i c (by omega) hc)
      refine ⟨d', ?_, r⟩
      rw [show ((k + 1 : Nat) : Int) = (k : Int) + 1 by omega] at e
      rw [k_Q_copyFrom_2]
      simp (disch := omega) only [e_Q_copyFrom, k_Q_copyFrom_0, k_Q_copyFrom_10, k_Q_copyFrom_16, k_Q_copyFrom_22, k_Q_copyFrom_25, hct', hc7, ↓reduceIte, Int.reduceAdd, Int.reduceSub, Int.reduceMul, Int.reduceToNat, gs_00, gs_ofi, gs_k0_m, gs_k1_m, gs_n8, gs_n16, gs_n_add, gs_n_sub, gs_n_mul, gs_n_neg, gs_m_add, gs_m_sub, gs_m_mul, gs_m_neg, gs_n_l, gs_m_n, gs_n_c, gs_eq_t, gs_eq_f1, gs_eq_f2, gs_lt_t, gs_lt_f, gs_le_t, gs_le_f, gs_cmp_lt, gs_cmp_eq, gs_cmp_gt, gs_ix_n, gs_nz_n, gs_nzl_g, gs_n_div, gs_af1, gs_af0, gs_ck0, gs_ck1, gs_ck2t, gs_ck2f, gs_ck3, gs_ck4, gs_zd_t, gs_zd_f, gs_zt_t, gs_zt_f, gs_nar1, gs_nar0, gs_tn, if_true, if_false, not_true_eq_false, not_false_eq_true]
      exact e
  obtain ⟨d1, e, e2, e1, e13, ei⟩ := key (S.1 6 1).toNat 0 d (by omega) rfl (fun _ _ _ => rfl) (fun _ _ => rfl) (fun i c hi _ => by omega)
  have a1 := s_ac1 (d := d1) (t := 12) (b := b) (b' := b') (N := 10) rfl rfl (by omega)
  rw [show ((10 : Nat) : Int) = 10 from rfl] at a1
  have q1 : (gs_c1a d1 12 b b' 10).1 4 b' 1 = gs_n (S.1 6 1) := by rw [gs_c1_o (by omega), e1 4 b' (by decide)]; exact hct
  have q3 : (gs_wI (gs_c1a d1 12 b b' 10) 4 b 1 (gs_n (S.1 6 1))).1 4 b' 3 = gs_n S.2.length := by rw [gs_wI_o (by omega), gs_c1_o (by omega), e1 4 b' (by decide)]; exact hwt
  refine ⟨gs_wI (gs_wI (gs_c1a d1 12 b b' 10) 4 b 1 (gs_n (S.1 6 1))) 4 b 3 (gs_n S.2.length), ?_, ?_, gs_wI_s, fun i k hi hk => ?_, fun k hk => ?_, e2, fun t i h3 h4 h5 => ?_, fun i hi => ?_⟩
  · rw [show ((0 : Nat) : Int) = 0 from rfl] at e
    rw [e_Q_copyFrom, k_Q_copyFrom_0, e]
    simp (disch := omega) only [k_Q_copyFrom_31, k_Q_copyFrom_46, a1, q1, q3, ↓reduceIte, Int.reduceAdd, Int.reduceSub, Int.reduceMul, Int.reduceToNat, gs_00, gs_ofi, gs_k0_m, gs_k1_m, gs_n8, gs_n16, gs_n_add, gs_n_sub, gs_n_mul, gs_n_neg, gs_m_add, gs_m_sub, gs_m_mul, gs_m_neg, gs_n_l, gs_m_n, gs_n_c, gs_eq_t, gs_eq_f1, gs_eq_f2, gs_lt_t, gs_lt_f, gs_le_t, gs_le_f, gs_cmp_lt, gs_cmp_eq, gs_cmp_gt, gs_ix_n, gs_nz_n, gs_nzl_g, gs_n_div, gs_af1, gs_af0, gs_ck0, gs_ck1, gs_ck2t, gs_ck2f, gs_ck3, gs_ck4, gs_zd_t, gs_zd_f, gs_zt_t, gs_zt_f, gs_nar1, gs_nar0, gs_tn, if_true, if_false, not_true_eq_false, not_false_eq_true]
  · rw [gs_wI_o (by omega), gs_wI_s]
  · rw [gs_wI_o (by omega), gs_wI_o (by omega), gs_c1_o (by omega)]
    exact ei i k hi hk
  · rw [gs_wI_o (by omega), gs_wI_o (by omega), gs_c1_s (by omega), e1 12 b' (by decide)]
    exact hod k hk
  · funext j
    rw [gs_wI_o (by omega), gs_wI_o (by omega), gs_c1_o (by omega), e1 t i h3]
  · funext j
    rw [gs_wI_o (by omega), gs_wI_o (by omega), gs_c1_o (by omega), e13 i hi]
theorem s_B_copyFrom (hb : b ≠ b') (h1 : b < 2) (h2 : b' < 2) (hC : gs_Cl b' d S) (hw : gs_wb B S) (hl : S.2.length ≤ 10) : ∃ d', f_B_copyFrom [gs_r 1 b, gs_r 1 b'] d = some (none, d') ∧ gs_Cl b d' S ∧ gs_Cl b' d' S ∧ (∀ t, 20 ≤ t → d'.1 t = d.1 t ∧ d'.2 t = d.2 t) := by
  have h6 := hw.2.2.1.2.1
  have hd := hC.dy
  have o1 : ∀ t i, ¬ (t = 1 ∧ i = b) → (gs_wI d 1 b 0 (gs_n (S.1 6 0))).1 t i = d.1 t i := fun t i h => by
    funext j
    exact gs_wI_o (by omega)
  have ca : gs_Ca b' (gs_wI d 1 b 0 (gs_n (S.1 6 0))) S := ⟨⟨hC.h, hC.p⟩, ⟨fun j hj => by rw [o1 7 b' (by omega)]; exact hC.pr j hj, fun j hj => by rw [o1 8 b' (by omega)]; exact hC.hc j hj⟩, ⟨fun j hj => by rw [o1 9 b' (by omega)]; exact hC.li j hj, hC.nt⟩⟩
  obtain ⟨d1, e1, c1, f1, g1⟩ := s_A_copyFrom hb ca
  have x1 : ∀ t i, ¬ ((7 ≤ t ∧ t ≤ 9) ∧ i = b) → ¬ (t = 1 ∧ i = b) → d1.1 t i = d.1 t i := fun t i h h' => (f1 t i h).trans (o1 t i h')
  obtain ⟨d2, e2, k1, k3, ki, ko, k2, kt, kb⟩ := s_Q_copyFrom (d := d1) (S := S) hb h1 h2 h6.1 h6.2 hl (by rw [x1 4 b' (by omega) (by omega)]; exact hC.ct) (by rw [x1 4 b' (by omega) (by omega)]; exact hC.wt) (fun i k hi hk => by rw [x1 13 _ (by omega) (by omega)]; exact hC.is i k hi hk) (fun k hk => by rw [x1 12 b' (by omega) (by omega)]; exact hC.od k hk)
  have y1 : ∀ t i, t ≠ 13 → ¬ ((7 ≤ t ∧ t ≤ 9) ∧ i = b) → ¬ (t = 1 ∧ i = b) → ¬ (t = 4 ∧ i = b) → ¬ (t = 12 ∧ i = b) → d2.1 t i = d.1 t i := fun t i ha hb hc hd he => (kt t i ha hd he).trans (x1 t i hb hc)
  have y2 : ∀ t i, ¬ ((t = 5 ∨ t = 6 ∨ t = 10) ∧ i = b) → d2.2 t i = d.2 t i := fun t i h => by rw [k2]; exact g1 t i h
  refine ⟨d2, ?_, ?_, ?_, fun t ht => ⟨?_, ?_⟩⟩
  · simp (disch := omega) only [e_B_copyFrom, k_B_copyFrom_0, k_B_copyFrom_19, k_B_copyFrom_30, hd, e1, e2, ↓reduceIte, Int.reduceAdd, Int.reduceSub, Int.reduceMul, Int.reduceToNat, gs_00, gs_ofi, gs_k0_m, gs_k1_m, gs_n8, gs_n16, gs_n_add, gs_n_sub, gs_n_mul, gs_n_neg, gs_m_add, gs_m_sub, gs_m_mul, gs_m_neg, gs_n_l, gs_m_n, gs_n_c, gs_eq_t, gs_eq_f1, gs_eq_f2, gs_lt_t, gs_lt_f, gs_le_t, gs_le_f, gs_cmp_lt, gs_cmp_eq, gs_cmp_gt, gs_ix_n, gs_nz_n, gs_nzl_g, gs_n_div, gs_af1, gs_af0, gs_ck0, gs_ck1, gs_ck2t, gs_ck2f, gs_ck3, gs_ck4, gs_zd_t, gs_zd_f, gs_zt_t, gs_zt_f, gs_nar1, gs_nar0, gs_tn, if_true, if_false, not_true_eq_false, not_false_eq_true]
  · refine ⟨⟨fun j hj => ?_, fun j hj => ?_⟩, ⟨fun j hj => ?_, fun j hj => ?_⟩, ⟨fun j hj => ?_, fun j hj => ?_⟩, ⟨?_, k1, k3⟩, ki, ko⟩
    · rw [k2]; exact c1.1.1 j hj
    · rw [k2]; exact c1.1.2 j hj
    · rw [kt 7 b (by omega) (by omega) (by omega)]; exact c1.2.1.1 j hj
    · rw [kt 8 b (by omega) (by omega) (by omega)]; exact c1.2.1.2 j hj
    · rw [kt 9 b (by omega) (by omega) (by omega)]; exact c1.2.2.1 j hj
    · rw [k2]; exact c1.2.2.2 j hj
    · rw [kt 1 b (by omega) (by omega) (by omega), f1 1 b (by omega)]; exact gs_wI_s
  · refine ⟨⟨fun j hj => ?_, fun j hj => ?_⟩, ⟨fun j hj => ?_, fun j hj => ?_⟩, ⟨fun j hj => ?_, fun j hj => ?_⟩, ⟨?_, ?_, ?_⟩, fun i k hi hk => ?_, fun k hk => ?_⟩
    · rw [y2 5 b' (by omega)]; exact hC.h j hj
    · rw [y2 6 b' (by omega)]; exact hC.p j hj
    · rw [y1 7 b' (by omega) (by omega) (by omega) (by omega) (by omega)]; exact hC.pr j hj
    · rw [y1 8 b' (by omega) (by omega) (by omega) (by omega) (by omega)]; exact hC.hc j hj
    · rw [y1 9 b' (by omega) (by omega) (by omega) (by omega) (by omega)]; exact hC.li j hj
    · rw [y2 10 b' (by omega)]; exact hC.nt j hj
    · rw [y1 1 b' (by omega) (by omega) (by omega) (by omega) (by omega)]; exact hC.dy
    · rw [y1 4 b' (by omega) (by omega) (by omega) (by omega) (by omega)]; exact hC.ct
    · rw [y1 4 b' (by omega) (by omega) (by omega) (by omega) (by omega)]; exact hC.wt
    · rw [kb i (by omega), x1 13 _ (by omega) (by omega)]; exact hC.is i k hi hk
    · rw [y1 12 b' (by omega) (by omega) (by omega) (by omega) (by omega)]; exact hC.od k hk
  · funext i
    exact y1 t i (by omega) (by omega) (by omega) (by omega) (by omega)
  · funext i
    exact y2 t i (by omega)
theorem s_G_sync (hC : gs_Cl 0 d S) (hw : gs_wb B S) (hl : S.2.length ≤ 10) : ∃ d', f_G_sync [gs_r 0 0] d = some (none, d') ∧ gs_Cl 1 d' S ∧ gs_Cl 0 d' S ∧ (∀ t, 20 ≤ t → d'.1 t = d.1 t ∧ d'.2 t = d.2 t) := by
  obtain ⟨d', e, r⟩ := s_B_copyFrom (b := 1) (b' := 0) (by decide) (by decide) (by decide) hC hw hl
  refine ⟨d', ?_, r⟩
  simp (disch := omega) only [e_G_sync, k_G_sync_0, k_G_sync_11, e, ↓reduceIte, Int.reduceAdd, Int.reduceSub, Int.reduceMul, Int.reduceToNat, gs_00, gs_ofi, gs_k0_m, gs_k1_m, gs_n8, gs_n16, gs_n_add, gs_n_sub, gs_n_mul, gs_n_neg, gs_m_add, gs_m_sub, gs_m_mul, gs_m_neg, gs_n_l, gs_m_n, gs_n_c, gs_eq_t, gs_eq_f1, gs_eq_f2, gs_lt_t, gs_lt_f, gs_le_t, gs_le_f, gs_cmp_lt, gs_cmp_eq, gs_cmp_gt, gs_ix_n, gs_nz_n, gs_nzl_g, gs_n_div, gs_af1, gs_af0, gs_ck0, gs_ck1, gs_ck2t, gs_ck2f, gs_ck3, gs_ck4, gs_zd_t, gs_zd_f, gs_zt_t, gs_zt_f, gs_nar1, gs_nar0, gs_tn, if_true, if_false, not_true_eq_false, not_false_eq_true]
theorem s_G_crash (hC : gs_Cl 1 d S) (hw : gs_wb B S) (hl : S.2.length ≤ 10) : ∃ d', f_G_crash [gs_r 0 0] d = some (none, d') ∧ gs_Cl 0 d' S ∧ gs_Cl 1 d' S ∧ (∀ t, 20 ≤ t → d'.1 t = d.1 t ∧ d'.2 t = d.2 t) := by
  obtain ⟨d', e, r⟩ := s_B_copyFrom (b := 0) (b' := 1) (by decide) (by decide) (by decide) hC hw hl
  refine ⟨d', ?_, r⟩
  simp (disch := omega) only [e_G_crash, k_G_crash_0, k_G_crash_11, e, ↓reduceIte, Int.reduceAdd, Int.reduceSub, Int.reduceMul, Int.reduceToNat, gs_00, gs_ofi, gs_k0_m, gs_k1_m, gs_n8, gs_n16, gs_n_add, gs_n_sub, gs_n_mul, gs_n_neg, gs_m_add, gs_m_sub, gs_m_mul, gs_m_neg, gs_n_l, gs_m_n, gs_n_c, gs_eq_t, gs_eq_f1, gs_eq_f2, gs_lt_t, gs_lt_f, gs_le_t, gs_le_f, gs_cmp_lt, gs_cmp_eq, gs_cmp_gt, gs_ix_n, gs_nz_n, gs_nzl_g, gs_n_div, gs_af1, gs_af0, gs_ck0, gs_ck1, gs_ck2t, gs_ck2f, gs_ck3, gs_ck4, gs_zd_t, gs_zd_f, gs_zt_t, gs_zt_f, gs_nar1, gs_nar0, gs_tn, if_true, if_false, not_true_eq_false, not_false_eq_true]
end CP
