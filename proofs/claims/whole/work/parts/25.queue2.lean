-- the queue's changes
theorem gs_er (l : List Nat) (p j : Nat) : (l.eraseIdx p).getD j 0 = if j < p then l.getD j 0 else l.getD (j + 1) 0 := by
  rw [List.getD_eq_getElem?_getD, List.getElem?_eraseIdx]
  split <;> rw [List.getD_eq_getElem?_getD]
theorem gs_in (l : List Nat) (p i j : Nat) (h : p ≤ l.length) : (l.take p ++ i :: l.drop p).getD j 0 = if j < p then l.getD j 0 else if j = p then i else l.getD (j - 1) 0 := by
  have hl : (l.take p).length = p := by rw [List.length_take]; omega
  rw [List.getD_eq_getElem?_getD, List.getElem?_append, hl]
  by_cases c : j < p
  · rw [if_pos c, if_pos c, List.getElem?_take, if_pos c, List.getD_eq_getElem?_getD]
  · rw [if_neg c, if_neg c, List.getElem?_cons]
    by_cases c2 : j = p
    · rw [if_pos (by omega), if_pos c2]
      rfl
    · rw [if_neg (by omega), if_neg c2, List.getElem?_drop, List.getD_eq_getElem?_getD, show p + (j - p - 1) = j - 1 by omega]
/-- but for the list of book b nothing is changed -/
def gs_lf (b : Nat) (d d' : gs_D) : Prop := d'.2 = d.2 ∧ (∀ t i, ¬ (t = 12 ∧ i = b) → ¬ (t = 4 ∧ i = b) → d'.1 t i = d.1 t i) ∧ d'.1 4 b 1 = d.1 4 b 1
theorem gs_lf.fr {d d' : gs_D} (h : gs_lf 0 d d') : gs_fr d d' := fun t i e => ⟨h.2.1 t i (fun z => by rw [z.1, z.2] at e; cases e) (fun z => by rw [z.1, z.2] at e; cases e), by rw [h.1]⟩
theorem gs_lf.o {b : Nat} {d d' : gs_D} {j : Nat} {x : Int32} (h : gs_lf b d d') : gs_lf b d (gs_wI d' 12 b j x) := by
  refine ⟨h.1, fun t i a c => ?_, ?_⟩
  · rw [← h.2.1 t i a c]
    funext k
    exact if_neg fun z => a ⟨z.1, z.2.1⟩
  · rw [← h.2.2]
    exact gs_wI_o (by omega)
theorem gs_lf.w {b : Nat} {d d' : gs_D} {x : Int32} (h : gs_lf b d d') : gs_lf b d (gs_wI d' 4 b 3 x) := by
  refine ⟨h.1, fun t i a c => ?_, ?_⟩
  · rw [← h.2.1 t i a c]
    funext k
    exact if_neg fun z => c ⟨z.1, z.2.1⟩
  · rw [← h.2.2]
    exact gs_wI_o (by omega)
theorem gs_lf.rf {b : Nat} {d : gs_D} : gs_lf b d d := ⟨rfl, fun _ _ _ _ => rfl, rfl⟩
section QV
variable {b : Nat} {d : gs_D} {S : gs_S} {B : Int}
theorem s_Q_removeAt (hC : gs_Cl b d S) (hq : gs_wq S) {p : Int} (h0 : 0 ≤ p) (h1 : p < S.2.length) : ∃ d', f_Q_removeAt [gs_r 4 b, gs_i (gs_n p)] d = some (none, d') ∧ gs_Cl b d' (gs_ql S (S.2.eraseIdx p.toNat)) ∧ gs_lf b d d' := by
  have h5 := hq.2
  have hwt := hC.wt
  have key : ∀ (n : Nat) (k : Int) (dk : gs_D), p ≤ k → k + n = (S.2.length : Int) - 1 → gs_lf b d dk → dk.1 4 b 3 = gs_n ((S.2.length : Int) - 1) → (∀ j : Int, 0 ≤ j → j < k → dk.1 12 b j.toNat = gs_n ((S.2.eraseIdx p.toNat).getD j.toNat 0 : Nat)) → (∀ j : Int, k < j → j < S.2.length → dk.1 12 b j.toNat = gs_n (gs_qa S j : Nat)) →
      ∃ d', gs_g Y0 P_Q_removeAt 12 [some (gs_r 4 b), some (gs_i (gs_n p)), some (gs_i (gs_n k))] [] dk = some (none, d') ∧ gs_lf b d d' ∧ d'.1 4 b 3 = gs_n ((S.2.length : Int) - 1) ∧ (∀ j : Int, 0 ≤ j → j < (S.2.length : Int) - 1 → d'.1 12 b j.toNat = gs_n ((S.2.eraseIdx p.toNat).getD j.toNat 0 : Nat)) := by
    intro n
    induction n with
    | zero =>
      intro k dk k0 k1 hf hx ho hp
      refine ⟨dk, ?_, hf, hx, fun j j0 j1 => ho j j0 (by omega)⟩
      simp (disch := omega) only [e_Q_removeAt, k_Q_removeAt_0, k_Q_removeAt_12, k_Q_removeAt_20, k_Q_removeAt_33, k_Q_removeAt_34, k_Q_removeAt_40, hx, ↓reduceIte, Int.reduceAdd, Int.reduceSub, Int.reduceMul, Int.reduceToNat, gs_00, gs_ofi, gs_k0_m, gs_k1_m, gs_n8, gs_n16, gs_n_add, gs_n_sub, gs_n_mul, gs_n_neg, gs_m_add, gs_m_sub, gs_m_mul, gs_m_neg, gs_n_l, gs_m_n, gs_n_c, gs_eq_t, gs_eq_f1, gs_eq_f2, gs_lt_t, gs_lt_f, gs_le_t, gs_le_f, gs_cmp_lt, gs_cmp_eq, gs_cmp_gt, gs_ix_n, gs_nz_n, gs_nzl_g, gs_n_div, gs_af1, gs_af0, gs_ck0, gs_ck1, gs_ck2t, gs_ck2f, gs_ck3, gs_ck4, gs_zd_t, gs_zd_f, gs_zt_t, gs_zt_f, gs_nar1, gs_nar0, gs_tn, if_true, if_false, not_true_eq_false, not_false_eq_true]
    | succ n ih =>
      intro k dk k0 k1 hf hx ho hp
      have hv := hp (k + 1) (by omega) (by omega)
      obtain ⟨d', e, r⟩ := ih (k + 1) (gs_wI dk 12 b k.toNat (gs_n (gs_qa S (k + 1) : Nat))) (by omega) (by omega) hf.o (by rw [← hx]; exact gs_wI_o (by omega)) (fun j j0 j1 => by
          by_cases z : j = k
          · subst z
            rw [gs_er, if_neg (by omega)]
            rw [gs_wI_s]
            unfold gs_qa
            rw [show (j + 1).toNat = j.toNat + 1 by omega]
          · rw [← ho j j0 (by omega)]
            exact gs_wI_o (by omega)) (fun j j0 j1 => by
          rw [← hp j (by omega) j1]
          exact gs_wI_o (by omega))
      refine ⟨d', ?_, r⟩
      rw [k_Q_removeAt_12]
      simp (disch := omega) only [e_Q_removeAt, k_Q_removeAt_0, k_Q_removeAt_20, k_Q_removeAt_33, k_Q_removeAt_34, k_Q_removeAt_40, hx, hv, ↓reduceIte, Int.reduceAdd, Int.reduceSub, Int.reduceMul, Int.reduceToNat, gs_00, gs_ofi, gs_k0_m, gs_k1_m, gs_n8, gs_n16, gs_n_add, gs_n_sub, gs_n_mul, gs_n_neg, gs_m_add, gs_m_sub, gs_m_mul, gs_m_neg, gs_n_l, gs_m_n, gs_n_c, gs_eq_t, gs_eq_f1, gs_eq_f2, gs_lt_t, gs_lt_f, gs_le_t, gs_le_f, gs_cmp_lt, gs_cmp_eq, gs_cmp_gt, gs_ix_n, gs_nz_n, gs_nzl_g, gs_n_div, gs_af1, gs_af0, gs_ck0, gs_ck1, gs_ck2t, gs_ck2f, gs_ck3, gs_ck4, gs_zd_t, gs_zd_f, gs_zt_t, gs_zt_f, gs_nar1, gs_nar0, gs_tn, if_true, if_false, not_true_eq_false, not_false_eq_true]
      exact e
  have hk := key ((S.2.length : Int) - 1 - p).toNat p (gs_wI d 4 b 3 (gs_n ((S.2.length : Int) - 1))) (by omega) (by omega) gs_lf.rf.w (gs_wI_s) (fun j j0 j1 => by
      have : (gs_wI d 4 b 3 (gs_n ((S.2.length : Int) - 1))).1 12 b j.toNat = d.1 12 b j.toNat := gs_wI_o (by omega)
      rw [this, hC.oi j j0 (by omega), gs_er, if_pos (by omega)]
      rfl) (fun j j0 j1 => by
      have : (gs_wI d 4 b 3 (gs_n ((S.2.length : Int) - 1))).1 12 b j.toNat = d.1 12 b j.toNat := gs_wI_o (by omega)
      rw [this, hC.oi j (by omega) (by omega)])
  obtain ⟨d', e, hf, hx, ho⟩ := hk
  have hlen : (S.2.eraseIdx p.toNat).length = S.2.length - 1 := List.length_eraseIdx_of_lt (by omega)
  refine ⟨d', ?_, hC.ls hf.1 hf.2.1 hf.2.2 (by rw [hx, hlen]; congr 1; omega) (fun k hk => by
    have := ho k (by omega) (by omega)
    rw [gs_tn] at this
    exact this), hf⟩
  simp (disch := omega) only [e_Q_removeAt, k_Q_removeAt_0, hwt, e, ↓reduceIte, Int.reduceAdd, Int.reduceSub, Int.reduceMul, Int.reduceToNat, gs_00, gs_ofi, gs_k0_m, gs_k1_m, gs_n8, gs_n16, gs_n_add, gs_n_sub, gs_n_mul, gs_n_neg, gs_m_add, gs_m_sub, gs_m_mul, gs_m_neg, gs_n_l, gs_m_n, gs_n_c, gs_eq_t, gs_eq_f1, gs_eq_f2, gs_lt_t, gs_lt_f, gs_le_t, gs_le_f, gs_cmp_lt, gs_cmp_eq, gs_cmp_gt, gs_ix_n, gs_nz_n, gs_nzl_g, gs_n_div, gs_af1, gs_af0, gs_ck0, gs_ck1, gs_ck2t, gs_ck2f, gs_ck3, gs_ck4, gs_zd_t, gs_zd_f, gs_zt_t, gs_zt_f, gs_nar1, gs_nar0, gs_tn, if_true, if_false, not_true_eq_false, not_false_eq_true]
theorem s_Q_enter (hC : gs_Cl b d S) (hw : gs_wb B S) (hq : gs_wq S) {i : Nat} (hi : (i : Int) < S.1 6 1) (hL : S.2.length < 10) : ∃ (d' : gs_D) (p : Int), (0 ≤ p ∧ p ≤ S.2.length) ∧ (∀ k : Int, p ≤ k → k < S.2.length → gs_key S i < gs_key S (gs_qa S k)) ∧ (p = 0 ∨ ¬ gs_key S i < gs_key S (gs_qa S (p - 1))) ∧ f_Q_enter [gs_r 4 b, gs_i (gs_n i)] d = some (none, d') ∧ gs_Cl b d' (gs_ql S (S.2.take p.toNat ++ i :: S.2.drop p.toNat)) ∧ gs_lf b d d' := by
  have hwt := hC.wt
  have h4 := hw.2.2.1.2.1
  have key : ∀ (n : Nat) (q : Int) (dk : gs_D), q = n → q ≤ S.2.length → gs_lf b d dk → dk.1 4 b 3 = gs_n S.2.length → (∀ j : Int, 0 ≤ j → j < q → dk.1 12 b j.toNat = gs_n (gs_qa S j : Nat)) → (∀ j : Int, q < j → j ≤ S.2.length → dk.1 12 b j.toNat = gs_n (gs_qa S (j - 1) : Nat)) → (∀ k : Int, q ≤ k → k < S.2.length → gs_key S i < gs_key S (gs_qa S k)) →
      ∃ (d' : gs_D) (p : Int), (0 ≤ p ∧ p ≤ S.2.length) ∧ (∀ k : Int, p ≤ k → k < S.2.length → gs_key S i < gs_key S (gs_qa S k)) ∧ (p = 0 ∨ ¬ gs_key S i < gs_key S (gs_qa S (p - 1))) ∧ gs_g Y0 P_Q_enter 5 [some (gs_r 4 b), some (gs_i (gs_n i)), some (gs_i (gs_n q))] [] dk = some (none, d') ∧ gs_lf b d d' ∧ d'.1 4 b 3 = gs_n (S.2.length + 1) ∧ (∀ j : Int, 0 ≤ j → j ≤ S.2.length → d'.1 12 b j.toNat = gs_n ((S.2.take p.toNat ++ i :: S.2.drop p.toNat).getD j.toNat 0 : Nat)) := by
    have fin : ∀ (q : Int) (dk : gs_D), 0 ≤ q → q ≤ S.2.length → gs_lf b d dk → dk.1 4 b 3 = gs_n S.2.length → (∀ j : Int, 0 ≤ j → j < q → dk.1 12 b j.toNat = gs_n (gs_qa S j : Nat)) → (∀ j : Int, q < j → j ≤ S.2.length → dk.1 12 b j.toNat = gs_n (gs_qa S (j - 1) : Nat)) →
        ∃ d', gs_g Y0 P_Q_enter 45 [some (gs_r 4 b), some (gs_i (gs_n i)), some (gs_i (gs_n q))] [] dk = some (none, d') ∧ gs_lf b d d' ∧ d'.1 4 b 3 = gs_n (S.2.length + 1) ∧ (∀ j : Int, 0 ≤ j → j ≤ S.2.length → d'.1 12 b j.toNat = gs_n ((S.2.take q.toNat ++ i :: S.2.drop q.toNat).getD j.toNat 0 : Nat)) := by
      intro q dk q0 q1 hf hx h1 h2
      have hx' : (gs_wI dk 12 b q.toNat (gs_n i)).1 4 b 3 = gs_n S.2.length := by
        rw [← hx]
        exact gs_wI_o (by omega)
      refine ⟨gs_wI (gs_wI dk 12 b q.toNat (gs_n i)) 4 b 3 (gs_n (S.2.length + 1)), ?_, hf.o.w, gs_wI_s, fun j j0 j1 => ?_⟩
      · simp (disch := omega) only [e_Q_enter, k_Q_enter_0, k_Q_enter_9, k_Q_enter_19, k_Q_enter_22, k_Q_enter_25, k_Q_enter_38, k_Q_enter_39, k_Q_enter_45, k_Q_enter_52, hx', ↓reduceIte, Int.reduceAdd, Int.reduceSub, Int.reduceMul, Int.reduceToNat, gs_00, gs_ofi, gs_k0_m, gs_k1_m, gs_n8, gs_n16, gs_n_add, gs_n_sub, gs_n_mul, gs_n_neg, gs_m_add, gs_m_sub, gs_m_mul, gs_m_neg, gs_n_l, gs_m_n, gs_n_c, gs_eq_t, gs_eq_f1, gs_eq_f2, gs_lt_t, gs_lt_f, gs_le_t, gs_le_f, gs_cmp_lt, gs_cmp_eq, gs_cmp_gt, gs_ix_n, gs_nz_n, gs_nzl_g, gs_n_div, gs_af1, gs_af0, gs_ck0, gs_ck1, gs_ck2t, gs_ck2f, gs_ck3, gs_ck4, gs_zd_t, gs_zd_f, gs_zt_t, gs_zt_f, gs_nar1, gs_nar0, gs_tn, if_true, if_false, not_true_eq_false, not_false_eq_true]
      · have e1 : (gs_wI (gs_wI dk 12 b q.toNat (gs_n i)) 4 b 3 (gs_n (S.2.length + 1))).1 12 b j.toNat = (gs_wI dk 12 b q.toNat (gs_n i)).1 12 b j.toNat := gs_wI_o (by omega)
        rw [e1, gs_in _ _ _ _ (by omega)]
        by_cases c1 : j < q
        · rw [if_pos (by omega), show (gs_wI dk 12 b q.toNat (gs_n i)).1 12 b j.toNat = dk.1 12 b j.toNat from gs_wI_o (by omega), h1 j j0 c1]
          rfl
        · by_cases c2 : j = q
          · subst c2
            rw [if_neg (by omega), if_pos rfl]
            exact gs_wI_s
          · rw [if_neg (by omega), if_neg (by omega), show (gs_wI dk 12 b q.toNat (gs_n i)).1 12 b j.toNat = dk.1 12 b j.toNat from gs_wI_o (by omega), h2 j (by omega) j1]
            unfold gs_qa
            rw [show (j - 1).toNat = j.toNat - 1 by omega]
    intro n
    induction n with
    | zero =>
      intro q dk q0 q1 hf hx h1 h2 h3
      obtain ⟨d', e, r⟩ := fin q dk (by omega) q1 hf hx h1 h2
      refine ⟨d', q, by omega, h3, Or.inl (by omega), ?_, r⟩
      rw [k_Q_enter_5]
      simp (disch := omega) only [↓reduceIte, Int.reduceAdd, Int.reduceSub, Int.reduceMul, Int.reduceToNat, gs_00, gs_ofi, gs_k0_m, gs_k1_m, gs_n8, gs_n16, gs_n_add, gs_n_sub, gs_n_mul, gs_n_neg, gs_m_add, gs_m_sub, gs_m_mul, gs_m_neg, gs_n_l, gs_m_n, gs_n_c, gs_eq_t, gs_eq_f1, gs_eq_f2, gs_lt_t, gs_lt_f, gs_le_t, gs_le_f, gs_cmp_lt, gs_cmp_eq, gs_cmp_gt, gs_ix_n, gs_nz_n, gs_nzl_g, gs_n_div, gs_af1, gs_af0, gs_ck0, gs_ck1, gs_ck2t, gs_ck2f, gs_ck3, gs_ck4, gs_zd_t, gs_zd_f, gs_zt_t, gs_zt_f, gs_nar1, gs_nar0, gs_tn, if_true, if_false, not_true_eq_false, not_false_eq_true]
      exact e
    | succ n ih =>
      intro q dk q0 q1 hf hx h1 h2 h3
      have hv := h1 (q - 1) (by omega) (by omega)
      have hm := hq.1 (q - 1) (by omega) (by omega)
      have hcb := s_Q_comesBefore (d := dk) (S := S) (b := b) (fun i k hi hk => by rw [hf.2.1 13 _ (by omega) (by omega)]; exact hC.is i k hi hk) hw hi hm
      by_cases c : gs_key S i < gs_key S (gs_qa S (q - 1))
      · obtain ⟨d', p, r1, r2, r3, e, r⟩ := ih (q - 1) (gs_wI dk 12 b q.toNat (gs_n (gs_qa S (q - 1) : Nat))) (by omega) (by omega) hf.o (by rw [← hx]; exact gs_wI_o (by omega)) (fun j j0 j1 => by
            rw [← h1 j j0 (by omega)]
            exact gs_wI_o (by omega)) (fun j j0 j1 => by
            by_cases z : j = q
            · subst z
              exact gs_wI_s
            · rw [← h2 j (by omega) j1]
              exact gs_wI_o (by omega)) (fun k k0 k1 => by
            by_cases z : k = q - 1
            · rw [z]; exact c
            · exact h3 k (by omega) k1)
        refine ⟨d', p, r1, r2, r3, ?_, r⟩
        rw [k_Q_enter_5]
        simp (disch := omega) only [e_Q_enter, k_Q_enter_0, k_Q_enter_9, k_Q_enter_19, k_Q_enter_22, k_Q_enter_25, k_Q_enter_38, k_Q_enter_39, hv, hcb, ↓reduceIte, Int.reduceAdd, Int.reduceSub, Int.reduceMul, Int.reduceToNat, gs_00, gs_ofi, gs_k0_m, gs_k1_m, gs_n8, gs_n16, gs_n_add, gs_n_sub, gs_n_mul, gs_n_neg, gs_m_add, gs_m_sub, gs_m_mul, gs_m_neg, gs_n_l, gs_m_n, gs_n_c, gs_eq_t, gs_eq_f1, gs_eq_f2, gs_lt_t, gs_lt_f, gs_le_t, gs_le_f, gs_cmp_lt, gs_cmp_eq, gs_cmp_gt, gs_ix_n, gs_nz_n, gs_nzl_g, gs_n_div, gs_af1, gs_af0, gs_ck0, gs_ck1, gs_ck2t, gs_ck2f, gs_ck3, gs_ck4, gs_zd_t, gs_zd_f, gs_zt_t, gs_zt_f, gs_nar1, gs_nar0, gs_tn, if_true, if_false, not_true_eq_false, not_false_eq_true]
        exact e
      · obtain ⟨d', e, r⟩ := fin q dk (by omega) q1 hf hx h1 h2
        refine ⟨d', q, by omega, h3, Or.inr c, ?_, r⟩
        rw [k_Q_enter_5]
        simp (disch := omega) only [e_Q_enter, k_Q_enter_0, k_Q_enter_9, k_Q_enter_19, k_Q_enter_22, k_Q_enter_25, k_Q_enter_38, k_Q_enter_39, hv, hcb, ↓reduceIte, Int.reduceAdd, Int.reduceSub, Int.reduceMul, Int.reduceToNat, gs_00, gs_ofi, gs_k0_m, gs_k1_m, gs_n8, gs_n16, gs_n_add, gs_n_sub, gs_n_mul, gs_n_neg, gs_m_add, gs_m_sub, gs_m_mul, gs_m_neg, gs_n_l, gs_m_n, gs_n_c, gs_eq_t, gs_eq_f1, gs_eq_f2, gs_lt_t, gs_lt_f, gs_le_t, gs_le_f, gs_cmp_lt, gs_cmp_eq, gs_cmp_gt, gs_ix_n, gs_nz_n, gs_nzl_g, gs_n_div, gs_af1, gs_af0, gs_ck0, gs_ck1, gs_ck2t, gs_ck2f, gs_ck3, gs_ck4, gs_zd_t, gs_zd_f, gs_zt_t, gs_zt_f, gs_nar1, gs_nar0, gs_tn, if_true, if_false, not_true_eq_false, not_false_eq_true]
        exact e
  obtain ⟨d', p, r1, r2, r3, e, hf, hx, ho⟩ := key S.2.length S.2.length d rfl (by omega) gs_lf.rf hwt (fun j j0 j1 => hC.oi j j0 j1) (fun j j0 j1 => by omega) (fun k k0 k1 => by omega)
  have hlen : (S.2.take p.toNat ++ i :: S.2.drop p.toNat).length = S.2.length + 1 := by
    rw [List.length_append, List.length_cons, List.length_take, List.length_drop]
    omega
  refine ⟨d', p, r1, r2, r3, ?_, hC.ls hf.1 hf.2.1 hf.2.2 (by rw [hx, hlen]; rfl) (fun k hk => by
    have := ho k (by omega) (by omega)
    rw [gs_tn] at this
    exact this), hf⟩
  simp (disch := omega) only [e_Q_enter, k_Q_enter_0, hwt, e, ↓reduceIte, Int.reduceAdd, Int.reduceSub, Int.reduceMul, Int.reduceToNat, gs_00, gs_ofi, gs_k0_m, gs_k1_m, gs_n8, gs_n16, gs_n_add, gs_n_sub, gs_n_mul, gs_n_neg, gs_m_add, gs_m_sub, gs_m_mul, gs_m_neg, gs_n_l, gs_m_n, gs_n_c, gs_eq_t, gs_eq_f1, gs_eq_f2, gs_lt_t, gs_lt_f, gs_le_t, gs_le_f, gs_cmp_lt, gs_cmp_eq, gs_cmp_gt, gs_ix_n, gs_nz_n, gs_nzl_g, gs_n_div, gs_af1, gs_af0, gs_ck0, gs_ck1, gs_ck2t, gs_ck2f, gs_ck3, gs_ck4, gs_zd_t, gs_zd_f, gs_zt_t, gs_zt_f, gs_nar1, gs_nar0, gs_tn, if_true, if_false, not_true_eq_false, not_false_eq_true]
end QV
