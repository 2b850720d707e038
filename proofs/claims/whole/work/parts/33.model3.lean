-- the model settles
/-- only the model's row is changed -/
def gs_rf (d d' : gs_D) : Prop := d'.1 = d.1 ∧ ∀ t, t ≠ 21 → d'.2 t = d.2 t
theorem gs_rf.rf {d : gs_D} : gs_rf d d := ⟨rfl, fun _ _ => rfl⟩
theorem gs_rf.tr {d d' d'' : gs_D} (h : gs_rf d d') (h2 : gs_rf d' d'') : gs_rf d d'' := ⟨h2.1.trans h.1, fun t a => (h2.2 t a).trans (h.2 t a)⟩
theorem gs_rf.w {d d' : gs_D} {j : Nat} {x : Int64} (h : gs_rf d d') : gs_rf d (gs_wL d' 21 0 j x) := ⟨h.1, fun s a => by
  rw [← h.2 s a]
  funext p q
  exact if_neg fun z => a z.1⟩
section MS
variable {d : gs_D} {S : gs_S} {B : Int}
theorem gs_ms_u (S : gs_S) {f : Nat} (hf : f < 10) (j : Nat) (x : Int) (i c : Nat) : gs_ms (gs_u S f j x) i c = gs_ms S i c := by
  have e : ∀ k, (gs_u S f j x).1 (10 + i) k = S.1 (10 + i) k := fun k => gs_u_o S f j x k (by omega)
  unfold gs_ms
  simp only [e]
theorem gs_mr_u0 (S : gs_S) {j : Nat} (hj : j < 18) (x : Int) (n : Nat) : gs_mr (gs_u S 0 j x) n = if n = j then x else gs_mr S n := by
  have o : ∀ a c, a ≠ 0 → (gs_u S 0 j x).1 a c = S.1 a c := fun a c h => gs_u_o S 0 j x c h
  unfold gs_mr
  by_cases c : n < 18
  · rw [if_pos c, if_pos c]
    show (if 0 = 0 ∧ n = j then x else S.1 0 n) = _
    simp only [true_and]
  · rw [if_neg c, if_neg c, if_neg (show ¬ n = j by omega)]
    simp only [o 1 _ (by decide), o 2 _ (by decide), o 3 _ (by decide), o 4 _ (by decide), o 5 _ (by decide), o 6 _ (by decide), gs_ms_u S (show 0 < 10 by omega)]
theorem gs_mr_u5 (S : gs_S) {j : Nat} (hj : j < 36) (x : Int) (n : Nat) : gs_mr (gs_u S 5 j x) n = if n = 70 + j then x else gs_mr S n := by
  have o : ∀ a c, a ≠ 5 → (gs_u S 5 j x).1 a c = S.1 a c := fun a c h => gs_u_o S 5 j x c h
  by_cases c : 70 ≤ n ∧ n < 106
  · rw [gs_mr_n c.1 c.2, gs_mr_n c.1 c.2]
    show (if 5 = 5 ∧ n - 70 = j then x else S.1 5 (n - 70)) = _
    by_cases z : n = 70 + j
    · rw [if_pos ⟨rfl, by omega⟩, if_pos z]
    · rw [if_neg (by omega), if_neg z]
  · rw [if_neg (show ¬ n = 70 + j by omega)]
    unfold gs_mr
    simp only [o 0 _ (by decide), o 1 _ (by decide), o 2 _ (by decide), o 3 _ (by decide), o 4 _ (by decide), o 6 _ (by decide), gs_ms_u S (show 5 < 10 by omega)]
    repeat' split
    all_goals first | rfl | (exfalso; omega)
theorem gs_mr_u6 (S : gs_S) (i : Nat) (st : Int) (n : Nat) : gs_mr (gs_u S (10 + i) 6 st) n = (if n = 117 + 8 * i then S.1 (10 + i) 5 + 4 * st else gs_mr S n) ∨ n = 108 ∨ n = 109 := by
  have o : ∀ a c, a < 10 → (gs_u S (10 + i) 6 st).1 a c = S.1 a c := fun a c h => gs_u_o S (10 + i) 6 st c (by omega)
  by_cases c : n < 110
  · by_cases c8 : n = 108 ∨ n = 109
    · exact Or.inr c8
    · left
      rw [if_neg (show ¬ n = 117 + 8 * i by omega)]
      unfold gs_mr
      simp only [o 0 _ (by omega), o 1 _ (by omega), o 2 _ (by omega), o 3 _ (by omega), o 4 _ (by omega), o 5 _ (by omega), o 6 _ (by omega)]
      repeat' split
      all_goals first | rfl | (exfalso; omega)
  · left
    rw [gs_mr_i (by omega), gs_mr_i (by omega)]
    by_cases z : (n - 110) / 8 = i
    · have e : ∀ k, k ≠ 6 → (gs_u S (10 + i) 6 st).1 (10 + i) k = S.1 (10 + i) k := fun k hk => if_neg fun y => hk y.2
      have e6 : (gs_u S (10 + i) 6 st).1 (10 + i) 6 = st := if_pos ⟨rfl, rfl⟩
      rw [z]
      by_cases y : (n - 110) % 8 = 7
      · rw [if_pos (by omega), y]
        show (gs_u S (10 + i) 6 st).1 (10 + i) 5 + 4 * (gs_u S (10 + i) 6 st).1 (10 + i) 6 = _
        rw [e 5 (by omega), e6]
      · rw [if_neg (by omega)]
        have h8 : (n - 110) % 8 < 7 := by omega
        generalize (n - 110) % 8 = m at h8
        rcases m with _ | _ | _ | _ | _ | _ | _ | m
        · show (if 0 < (gs_u S (10 + i) 6 st).1 (10 + i) 4 then (gs_u S (10 + i) 6 st).1 (10 + i) 1 else -1) = _
          rw [e 4 (by omega), e 1 (by omega)]; rfl
        · show (if 0 < (gs_u S (10 + i) 6 st).1 (10 + i) 4 then (gs_u S (10 + i) 6 st).1 (10 + i) 0 else -1) = _
          rw [e 4 (by omega), e 0 (by omega)]; rfl
        · show (if 0 < (gs_u S (10 + i) 6 st).1 (10 + i) 3 then (gs_u S (10 + i) 6 st).1 (10 + i) 0 else -1) = _
          rw [e 3 (by omega), e 0 (by omega)]; rfl
        · show (if 0 < (gs_u S (10 + i) 6 st).1 (10 + i) 3 then (gs_u S (10 + i) 6 st).1 (10 + i) 1 else -1) = _
          rw [e 3 (by omega), e 1 (by omega)]; rfl
        · exact e 2 (by omega)
        · exact e 4 (by omega)
        · exact e 3 (by omega)
        · omega
    · rw [if_neg (by omega)]
      have e : ∀ k, (gs_u S (10 + i) 6 st).1 (10 + (n - 110) / 8) k = S.1 (10 + (n - 110) / 8) k := fun k => if_neg fun y => by omega
      unfold gs_ms
      simp only [e]
theorem gs_Mo.w {t n0 : Nat} {x : Int} {S' : gs_S} (hM : gs_Mo t d S) (hc : S'.1 6 1 = S.1 6 1) (h : ∀ n, gs_mr S' n = (if n = n0 then x else gs_mr S n) ∨ n = 108 ∨ n = 109) : gs_Mo t (gs_wL d t 0 n0 (gs_m x)) S' := by
  intro n h1 h2 h3
  rcases h n with e | e | e
  · rw [e]
    by_cases c : n = n0
    · rw [if_pos c, c]
      exact if_pos ⟨rfl, rfl, rfl⟩
    · rw [if_neg c, ← hM n (by rw [← hc]; exact h1) h2 h3]
      exact if_neg fun z => c z.2.2
  · exact absurd e h2
  · exact absurd e h3
theorem gs_Mo.aH {t : Nat} (hM : gs_Mo t d S) {j : Nat} (hj : j < 18) (x : Int) : gs_Mo t (gs_wL d t 0 j (gs_m (S.1 0 j + x))) (gs_ad S 0 j x) := hM.w (gs_u_o S 0 j _ 1 (by decide)) fun n => Or.inl (gs_mr_u0 S hj _ n)
theorem gs_Mo.sH {t : Nat} (hM : gs_Mo t d S) {j : Nat} (hj : j < 18) (x : Int) : gs_Mo t (gs_wL d t 0 j (gs_m (S.1 0 j - x))) (gs_sb S 0 j x) := hM.w (gs_u_o S 0 j _ 1 (by decide)) fun n => Or.inl (gs_mr_u0 S hj _ n)
theorem gs_Mo.aN {t : Nat} (hM : gs_Mo t d S) {j : Nat} (hj : j < 36) (x : Int) : gs_Mo t (gs_wL d t 0 (70 + j) (gs_m (S.1 5 j + x))) (gs_ad S 5 j x) := hM.w (gs_u_o S 5 j _ 1 (by decide)) fun n => Or.inl (gs_mr_u5 S hj _ n)
theorem gs_Mo.sN {t : Nat} (hM : gs_Mo t d S) {j : Nat} (hj : j < 36) (x : Int) : gs_Mo t (gs_wL d t 0 (70 + j) (gs_m (S.1 5 j - x))) (gs_sb S 5 j x) := hM.w (gs_u_o S 5 j _ 1 (by decide)) fun n => Or.inl (gs_mr_u5 S hj _ n)
theorem gs_Mo.st {t : Nat} (hM : gs_Mo t d S) (i : Nat) (st : Int) : gs_Mo t (gs_wL d t 0 (117 + 8 * i) (gs_m (S.1 (10 + i) 5 + 4 * st))) (gs_u S (10 + i) 6 st) := hM.w (gs_u_o S (10 + i) 6 _ 1 (by omega)) fun n => gs_mr_u6 S i st n
theorem s_M_setFate (hM : gs_Mo 21 d S) (hw : gs_wb B S) {i : Nat} (hi : (i : Int) < S.1 6 1) {st : Int} (h0 : 0 ≤ st) (h1 : st < 4) : f_M_setFate [gs_r 20 0, gs_i (gs_n i), gs_i (gs_n st)] d = some (none, gs_wL d 21 0 (117 + 8 * i) (gs_m (S.1 (10 + i) 5 + 4 * st))) := by
  have hp := s_M_priority hM hw hi
  have hc := hw.2.2.1.2.1
  have h3 := (hw.2.2.2 i hi).2.2
  have e : (117 + 8 * (i : Int)).toNat = 117 + 8 * i := by omega
  simp (disch := omega) only [e_M_setFate, k_M_setFate_0, k_M_setFate_16, k_M_setFate_22, hp, e, ↓reduceIte, Int.reduceAdd, Int.reduceSub, Int.reduceMul, Int.reduceToNat, gs_00, gs_ofi, gs_k0_m, gs_k1_m, gs_n8, gs_n16, gs_n_add, gs_n_sub, gs_n_mul, gs_n_neg, gs_m_add, gs_m_sub, gs_m_mul, gs_m_neg, gs_n_l, gs_m_n, gs_n_c, gs_eq_t, gs_eq_f1, gs_eq_f2, gs_lt_t, gs_lt_f, gs_le_t, gs_le_f, gs_cmp_lt, gs_cmp_eq, gs_cmp_gt, gs_ix_n, gs_nz_n, gs_nzl_g, gs_n_div, gs_af1, gs_af0, gs_ck0, gs_ck1, gs_ck2t, gs_ck2f, gs_ck3, gs_ck4, gs_zd_t, gs_zd_f, gs_zt_t, gs_zt_f, gs_nar1, gs_nar0, gs_tn, if_true, if_false, not_true_eq_false, not_false_eq_true]
end MS
