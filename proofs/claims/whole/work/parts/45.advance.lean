-- the day, nets and those that are returned
def gs_clk (S : gs_S) (k : Int) : gs_S := (fun f j => if f = 5 ∧ (j : Int) < k then 0 else S.1 f j, S.2)
def gs_rtk (S : gs_S) (k : Nat) : gs_S := (fun f j => if j = 6 ∧ f ∈ (S.2.take k).map (10 + ·) then 3 else S.1 f j, S.2)
/-- all that wait are returned -/
def gs_rta (S : gs_S) : gs_S := (fun f j => if j = 6 ∧ 10 ≤ f ∧ (f : Int) - 10 < S.1 6 1 ∧ S.1 f 6 = 0 then 3 else S.1 f j, [])
theorem gs_clk_o (S : gs_S) {k : Int} {a c : Nat} (h : ¬ (a = 5 ∧ (c : Int) < k)) : (gs_clk S k).1 a c = S.1 a c := if_neg h
theorem gs_rta_o (S : gs_S) {a c : Nat} (h : c ≠ 6) : (gs_rta S).1 a c = S.1 a c := if_neg fun z => h z.1
section AD
variable {d : gs_D} {S : gs_S} {B : Int}
theorem s_A_clearNets (hC : gs_Cl 0 d S) : ∃ d', f_A_clearNets [gs_r 3 0] d = some (none, d') ∧ gs_Cl 0 d' (gs_clk S 36) ∧ gs_fr d d' := by
  have key : ∀ (n : Nat) (k : Int) (dk : gs_D), 0 ≤ k → k + n = 36 → gs_Cl 0 dk (gs_clk S k) → gs_fr d dk → ∃ d', gs_g Y0 P_A_clearNets 2 [some (gs_r 3 0), some (gs_i (gs_n k))] [] dk = some (none, d') ∧ gs_Cl 0 d' (gs_clk S 36) ∧ gs_fr d d' := by
    intro n
    induction n with
    | zero =>
      intro k dk k0 k1 hc hf
      have e : k = 36 := by omega
      subst e
      refine ⟨dk, ?_, hc, hf⟩
      simp (disch := omega) only [e_A_clearNets, k_A_clearNets_0, k_A_clearNets_2, k_A_clearNets_8, k_A_clearNets_15, k_A_clearNets_21, ↓reduceIte, Int.reduceAdd, Int.reduceSub, Int.reduceMul, Int.reduceToNat, gs_00, gs_ofi, gs_k0_m, gs_k1_m, gs_n8, gs_n16, gs_n_add, gs_n_sub, gs_n_mul, gs_n_neg, gs_m_add, gs_m_sub, gs_m_mul, gs_m_neg, gs_n_l, gs_m_n, gs_n_c, gs_eq_t, gs_eq_f1, gs_eq_f2, gs_lt_t, gs_lt_f, gs_le_t, gs_le_f, gs_cmp_lt, gs_cmp_eq, gs_cmp_gt, gs_ix_n, gs_nz_n, gs_nzl_g, gs_n_div, gs_af1, gs_af0, gs_ck0, gs_ck1, gs_ck2t, gs_ck2f, gs_ck3, gs_ck4, gs_zd_t, gs_zd_f, gs_zt_t, gs_zt_f, gs_nar1, gs_nar0, gs_tn, if_true, if_false, not_true_eq_false, not_false_eq_true]
    | succ n ih =>
      intro k dk k0 k1 hc hf
      obtain ⟨d', e, r⟩ := ih (k + 1) (gs_wL dk 10 0 k.toNat (gs_m 0)) (by omega) (by omega) ((hc.wN k.toNat 0).cg (fun f j => by
          show (if f = 5 ∧ (j : Int) < k + 1 then 0 else S.1 f j) = (if f = 5 ∧ j = k.toNat then 0 else if f = 5 ∧ (j : Int) < k then 0 else S.1 f j)
          by_cases c1 : f = 5 ∧ j = k.toNat
          · rw [if_pos c1, if_pos (by omega)]
          · rw [if_neg c1]
            by_cases c2 : f = 5 ∧ (j : Int) < k
            · rw [if_pos c2, if_pos (by omega)]
            · rw [if_neg c2, if_neg (by omega)]) rfl) (hf.tr (gs_fr.L rfl))
      refine ⟨d', ?_, r⟩
      rw [k_A_clearNets_2]
      simp (disch := omega) only [e_A_clearNets, k_A_clearNets_0, k_A_clearNets_8, k_A_clearNets_15, k_A_clearNets_21, ↓reduceIte, Int.reduceAdd, Int.reduceSub, Int.reduceMul, Int.reduceToNat, gs_00, gs_ofi, gs_k0_m, gs_k1_m, gs_n8, gs_n16, gs_n_add, gs_n_sub, gs_n_mul, gs_n_neg, gs_m_add, gs_m_sub, gs_m_mul, gs_m_neg, gs_n_l, gs_m_n, gs_n_c, gs_eq_t, gs_eq_f1, gs_eq_f2, gs_lt_t, gs_lt_f, gs_le_t, gs_le_f, gs_cmp_lt, gs_cmp_eq, gs_cmp_gt, gs_ix_n, gs_nz_n, gs_nzl_g, gs_n_div, gs_af1, gs_af0, gs_ck0, gs_ck1, gs_ck2t, gs_ck2f, gs_ck3, gs_ck4, gs_zd_t, gs_zd_f, gs_zt_t, gs_zt_f, gs_nar1, gs_nar0, gs_tn, if_true, if_false, not_true_eq_false, not_false_eq_true]
      exact e
  obtain ⟨d', e, r⟩ := key 36 0 d (by omega) (by omega) (hC.cg (fun f j => if_neg (by omega)) rfl) gs_fr.rf
  refine ⟨d', ?_, r⟩
  simp (disch := omega) only [e_A_clearNets, k_A_clearNets_0, e, ↓reduceIte, Int.reduceAdd, Int.reduceSub, Int.reduceMul, Int.reduceToNat, gs_00, gs_ofi, gs_k0_m, gs_k1_m, gs_n8, gs_n16, gs_n_add, gs_n_sub, gs_n_mul, gs_n_neg, gs_m_add, gs_m_sub, gs_m_mul, gs_m_neg, gs_n_l, gs_m_n, gs_n_c, gs_eq_t, gs_eq_f1, gs_eq_f2, gs_lt_t, gs_lt_f, gs_le_t, gs_le_f, gs_cmp_lt, gs_cmp_eq, gs_cmp_gt, gs_ix_n, gs_nz_n, gs_nzl_g, gs_n_div, gs_af1, gs_af0, gs_ck0, gs_ck1, gs_ck2t, gs_ck2f, gs_ck3, gs_ck4, gs_zd_t, gs_zd_f, gs_zt_t, gs_zt_f, gs_nar1, gs_nar0, gs_tn, if_true, if_false, not_true_eq_false, not_false_eq_true]
theorem s_Q_returnAll (hC : gs_Cl 0 d S) (hw : gs_wb B S) (hv : gs_wv S) : ∃ d', f_Q_returnAll [gs_r 4 0] d = some (none, d') ∧ gs_Cl 0 d' (gs_rta S) ∧ gs_fr d d' := by
  have hq := hv.q hw
  have hl := hv.2
  have h6 := hw.2.2.1.2.1
  have mq : ∀ k : Nat, k < S.2.length → (S.2.getD k 0 : Int) < S.1 6 1 := fun k hk => by
    have := hq.1 (k : Int) (by omega) (by omega)
    unfold gs_qa at this
    rw [gs_tn] at this
    exact this
  have key : ∀ (n k : Nat) (dk : gs_D), k + n = S.2.length → gs_Cl 0 dk (gs_rtk S k) → gs_fr d dk → ∃ d', gs_g Y0 P_Q_returnAll 2 [some (gs_r 4 0), some (gs_i (gs_n k))] [] dk = some (none, d') ∧ gs_Cl 0 d' (gs_rta S) ∧ gs_fr d d' := by
    intro n
    induction n with
    | zero =>
      intro k dk hk hc hf
      have hwt := hc.wt
      have hwt : dk.1 4 0 3 = gs_n S.2.length := hwt
      have fin : gs_Cl 0 (gs_wI dk 4 0 3 (gs_n 0)) ((gs_rtk S k).1, ([] : List Nat)) := hc.ls rfl (fun t i _ z => by
          funext j
          exact gs_wI_o (fun y => z ⟨y.1, y.2.1⟩)) (gs_wI_o (by omega)) gs_wI_s (fun j hj => by cases hj)
      refine ⟨gs_wI dk 4 0 3 (gs_n 0), ?_, fin.cg (fun f j => ?_) rfl, hf.tr (gs_fr.I rfl)⟩
      · rw [k_Q_returnAll_2]
        simp (disch := omega) only [k_Q_returnAll_25, hwt, ↓reduceIte, Int.reduceAdd, Int.reduceSub, Int.reduceMul, Int.reduceToNat, gs_00, gs_ofi, gs_k0_m, gs_k1_m, gs_n8, gs_n16, gs_n_add, gs_n_sub, gs_n_mul, gs_n_neg, gs_m_add, gs_m_sub, gs_m_mul, gs_m_neg, gs_n_l, gs_m_n, gs_n_c, gs_eq_t, gs_eq_f1, gs_eq_f2, gs_lt_t, gs_lt_f, gs_le_t, gs_le_f, gs_cmp_lt, gs_cmp_eq, gs_cmp_gt, gs_ix_n, gs_nz_n, gs_nzl_g, gs_n_div, gs_af1, gs_af0, gs_ck0, gs_ck1, gs_ck2t, gs_ck2f, gs_ck3, gs_ck4, gs_zd_t, gs_zd_f, gs_zt_t, gs_zt_f, gs_nar1, gs_nar0, gs_tn, if_true, if_false, not_true_eq_false, not_false_eq_true]
      · have e : S.2.take k = S.2 := List.take_of_length_le (by omega)
        show (if j = 6 ∧ 10 ≤ f ∧ (f : Int) - 10 < S.1 6 1 ∧ S.1 f 6 = 0 then 3 else S.1 f j) = (if j = 6 ∧ f ∈ (S.2.take k).map (10 + ·) then 3 else S.1 f j)
        rw [e]
        have hm : f ∈ S.2.map (10 + ·) ↔ 10 ≤ f ∧ (f : Int) - 10 < S.1 6 1 ∧ S.1 f 6 = 0 := by
          rw [List.mem_map]
          constructor
          · rintro ⟨x, hx, rfl⟩
            have := (hv.mem hw x).mp hx
            exact ⟨by omega, by omega, this.2⟩
          · rintro ⟨h1, h2, h3⟩
            refine ⟨f - 10, (hv.mem hw _).mpr ⟨by omega, ?_⟩, by omega⟩
            rw [show 10 + (f - 10) = f by omega]
            exact h3
        by_cases c : j = 6 ∧ f ∈ S.2.map (10 + ·)
        · rw [if_pos c, if_pos ⟨c.1, hm.mp c.2⟩]
        · rw [if_neg c, if_neg fun z => c ⟨z.1, hm.mpr z.2⟩]
    | succ n ih =>
      intro k dk hk hc hf
      have hwt := hc.wt
      have hwt : dk.1 4 0 3 = gs_n S.2.length := hwt
      have hkm := mq k (by omega)
      have ha : f_Q_at [gs_r 4 0, gs_i (gs_n k)] dk = some (some (gs_r 13 (gs_ii 0 (S.2.getD k 0))), dk) := by
        have h2 := hc.oi (k : Int) (by omega) (by show (k : Int) < S.2.length; omega)
        have h2 : dk.1 12 0 (k : Int).toNat = gs_n (S.2.getD (k : Int).toNat 0 : Nat) := h2
        rw [gs_tn] at h2
        simp (disch := omega) only [e_Q_at, k_Q_at_0, k_Q_at_10, k_Q_at_11, h2, ↓reduceIte, Int.reduceAdd, Int.reduceSub, Int.reduceMul, Int.reduceToNat, gs_00, gs_ofi, gs_k0_m, gs_k1_m, gs_n8, gs_n16, gs_n_add, gs_n_sub, gs_n_mul, gs_n_neg, gs_m_add, gs_m_sub, gs_m_mul, gs_m_neg, gs_n_l, gs_m_n, gs_n_c, gs_eq_t, gs_eq_f1, gs_eq_f2, gs_lt_t, gs_lt_f, gs_le_t, gs_le_f, gs_cmp_lt, gs_cmp_eq, gs_cmp_gt, gs_ix_n, gs_nz_n, gs_nzl_g, gs_n_div, gs_af1, gs_af0, gs_ck0, gs_ck1, gs_ck2t, gs_ck2f, gs_ck3, gs_ck4, gs_zd_t, gs_zd_f, gs_zt_t, gs_zt_f, gs_nar1, gs_nar0, gs_tn, if_true, if_false, not_true_eq_false, not_false_eq_true]
      obtain ⟨d', e, r⟩ := ih (k + 1) (gs_wI dk 13 (gs_ii 0 (S.2.getD k 0)) 6 (gs_n 3)) (by omega) ((hc.wS (S.2.getD k 0) 6 3 (by omega)).cg (fun f j => by
          have et : S.2.take (k + 1) = S.2.take k ++ [S.2.getD k 0] := by
            rw [gs_getD (by omega), List.take_append_getElem (by omega)]
          show (if j = 6 ∧ f ∈ (S.2.take (k + 1)).map (10 + ·) then 3 else S.1 f j) = (if f = 10 + S.2.getD k 0 ∧ j = 6 then 3 else if j = 6 ∧ f ∈ (S.2.take k).map (10 + ·) then 3 else S.1 f j)
          have em : f ∈ (S.2.take (k + 1)).map (10 + ·) ↔ f ∈ (S.2.take k).map (10 + ·) ∨ f = 10 + S.2.getD k 0 := by
            rw [et, List.map_append, List.mem_append]
            simp
          by_cases c1 : f = 10 + S.2.getD k 0 ∧ j = 6
          · rw [if_pos c1, if_pos ⟨c1.2, em.mpr (Or.inr c1.1)⟩]
          · rw [if_neg c1]
            by_cases c2 : j = 6 ∧ f ∈ (S.2.take k).map (10 + ·)
            · rw [if_pos c2, if_pos ⟨c2.1, em.mpr (Or.inl c2.2)⟩]
            · rw [if_neg c2, if_neg fun z => (em.mp z.2).elim (fun y => c2 ⟨z.1, y⟩) (fun y => c1 ⟨y, z.1⟩)]) rfl) (hf.tr (gs_fr.I (gs_now13 (by omega))))
      refine ⟨d', ?_, r⟩
      rw [show ((k + 1 : Nat) : Int) = (k : Int) + 1 by omega] at e
      rw [k_Q_returnAll_2]
      simp (disch := omega) only [e_Q_returnAll, k_Q_returnAll_0, k_Q_returnAll_10, k_Q_returnAll_15, k_Q_returnAll_25, hwt, ha, ↓reduceIte, Int.reduceAdd, Int.reduceSub, Int.reduceMul, Int.reduceToNat, gs_00, gs_ofi, gs_k0_m, gs_k1_m, gs_n8, gs_n16, gs_n_add, gs_n_sub, gs_n_mul, gs_n_neg, gs_m_add, gs_m_sub, gs_m_mul, gs_m_neg, gs_n_l, gs_m_n, gs_n_c, gs_eq_t, gs_eq_f1, gs_eq_f2, gs_lt_t, gs_lt_f, gs_le_t, gs_le_f, gs_cmp_lt, gs_cmp_eq, gs_cmp_gt, gs_ix_n, gs_nz_n, gs_nzl_g, gs_n_div, gs_af1, gs_af0, gs_ck0, gs_ck1, gs_ck2t, gs_ck2f, gs_ck3, gs_ck4, gs_zd_t, gs_zd_f, gs_zt_t, gs_zt_f, gs_nar1, gs_nar0, gs_tn, if_true, if_false, not_true_eq_false, not_false_eq_true]
      exact e
  obtain ⟨d', e, r⟩ := key S.2.length 0 d (by omega) (hC.cg (fun f j => if_neg (by
    rintro ⟨-, z⟩
    simp at z)) rfl) gs_fr.rf
  refine ⟨d', ?_, r⟩
  rw [show ((0 : Nat) : Int) = 0 from rfl] at e
  simp (disch := omega) only [e_Q_returnAll, k_Q_returnAll_0, e, ↓reduceIte, Int.reduceAdd, Int.reduceSub, Int.reduceMul, Int.reduceToNat, gs_00, gs_ofi, gs_k0_m, gs_k1_m, gs_n8, gs_n16, gs_n_add, gs_n_sub, gs_n_mul, gs_n_neg, gs_m_add, gs_m_sub, gs_m_mul, gs_m_neg, gs_n_l, gs_m_n, gs_n_c, gs_eq_t, gs_eq_f1, gs_eq_f2, gs_lt_t, gs_lt_f, gs_le_t, gs_le_f, gs_cmp_lt, gs_cmp_eq, gs_cmp_gt, gs_ix_n, gs_nz_n, gs_nzl_g, gs_n_div, gs_af1, gs_af0, gs_ck0, gs_ck1, gs_ck2t, gs_ck2f, gs_ck3, gs_ck4, gs_zd_t, gs_zd_f, gs_zt_t, gs_zt_f, gs_nar1, gs_nar0, gs_tn, if_true, if_false, not_true_eq_false, not_false_eq_true]
/-- the next day -/
def o_advance (S : gs_S) : Int × gs_S := if S.1 6 0 = 2 then (0, gs_clk (gs_rta (gs_u S 6 0 0)) 36) else (S.1 6 0 + 1, gs_u S 6 0 (S.1 6 0 + 1))
theorem gs_wb_dy (hw : gs_wb B S) {x : Int} (h0 : 0 ≤ x) (h1 : x < 3) : gs_wb B (gs_u S 6 0 x) := by
  have o : ∀ f j, f ≠ 6 → (gs_u S 6 0 x).1 f j = S.1 f j := fun f j h => gs_u_o S _ _ _ j h
  have e0 : (gs_u S 6 0 x).1 6 0 = x := by
    show (if 6 = 6 ∧ 0 = 0 then x else S.1 6 0) = _
    rw [if_pos (by decide)]
  have e1 : (gs_u S 6 0 x).1 6 1 = S.1 6 1 := by
    show (if 6 = 6 ∧ 1 = 0 then x else S.1 6 1) = _
    rw [if_neg (by decide)]
  refine ⟨⟨fun j hj => ?_, fun j hj => ?_, fun j hj => ?_⟩, ⟨fun j hj => ?_, fun j hj => ?_, fun j hj => ?_⟩, ⟨?_, ?_, hw.2.2.1.2.2⟩, fun k hk => ?_⟩
  · rw [o 0 j (by omega)]; exact hw.1.1 j hj
  · rw [o 1 j (by omega)]; exact hw.1.2.1 j hj
  · rw [o 5 j (by omega)]; exact hw.1.2.2 j hj
  · rw [o 2 j (by omega)]; exact hw.2.1.1 j hj
  · rw [o 3 j (by omega)]; exact hw.2.1.2.1 j hj
  · rw [o 4 j (by omega)]; exact hw.2.1.2.2 j hj
  · rw [e0]; exact ⟨h0, h1⟩
  · rw [e1]; exact hw.2.2.1.2.1
  · rw [e1] at hk
    exact gs_iok_cg (hw.2.2.2 k hk) fun c _ => o _ c (by omega)
theorem gs_wv_dy (hv : gs_wv S) (x : Int) : gs_wv (gs_u S 6 0 x) := by
  have e1 : (gs_u S 6 0 x).1 6 1 = S.1 6 1 := by
    show (if 6 = 6 ∧ 1 = 0 then x else S.1 6 1) = _
    rw [if_neg (by decide)]
  have ep : ∀ c pr, gs_wp (gs_u S 6 0 x) c pr = gs_wp S c pr := by
    intro c pr
    unfold gs_wp
    congr 1
    funext y
    rw [gs_u_o S 6 0 x 6 (by omega), gs_u_o S 6 0 x 5 (by omega)]
  have e : gs_wl (gs_u S 6 0 x) = gs_wl S := by
    unfold gs_wl
    rw [e1, ep, ep, ep]
  exact ⟨by rw [e]; exact hv.1, hv.2⟩
theorem s_G_advance (hC : gs_Cl 0 d S) (hw : gs_wb B S) (hv : gs_wv S) : ∃ d', f_G_advance [gs_r 0 0] d = some (some (gs_i (gs_n (o_advance S).1)), d') ∧ gs_Cl 0 d' (o_advance S).2 ∧ gs_fr d d' := by
  have hd := hC.dy
  have h6 := hw.2.2.1.1
  unfold o_advance
  by_cases c : S.1 6 0 = 2
  · rw [if_pos c]
    have c1 := hC.wD 0
    obtain ⟨d2, e2, c2, f2⟩ := s_Q_returnAll c1 (gs_wb_dy hw (by omega) (by omega)) (gs_wv_dy hv 0)
    obtain ⟨d3, e3, c3, f3⟩ := s_A_clearNets c2
    have hd3 := c3.dy
    have hd3 : d3.1 1 0 0 = gs_n ((gs_clk (gs_rta (gs_u S 6 0 0)) 36).1 6 0) := hd3
    have ez : (gs_clk (gs_rta (gs_u S 6 0 0)) 36).1 6 0 = 0 := by
      rw [gs_clk_o _ (by omega), gs_rta_o _ (by omega), gs_u_s]
    rw [ez] at hd3
    have hs : (gs_wI d 1 0 0 (gs_n 0)).1 1 0 0 = gs_n 0 := gs_wI_s
    refine ⟨d3, ?_, c3, ((gs_fr.I rfl).tr f2).tr f3⟩
    simp (disch := omega) only [e_G_advance, k_G_advance_0, k_G_advance_15, k_G_advance_19, k_G_advance_41, k_G_advance_51, k_G_advance_61, hd, hs, e2, e3, hd3, ↓reduceIte, Int.reduceAdd, Int.reduceSub, Int.reduceMul, Int.reduceToNat, gs_00, gs_ofi, gs_k0_m, gs_k1_m, gs_n8, gs_n16, gs_n_add, gs_n_sub, gs_n_mul, gs_n_neg, gs_m_add, gs_m_sub, gs_m_mul, gs_m_neg, gs_n_l, gs_m_n, gs_n_c, gs_eq_t, gs_eq_f1, gs_eq_f2, gs_lt_t, gs_lt_f, gs_le_t, gs_le_f, gs_cmp_lt, gs_cmp_eq, gs_cmp_gt, gs_ix_n, gs_nz_n, gs_nzl_g, gs_n_div, gs_af1, gs_af0, gs_ck0, gs_ck1, gs_ck2t, gs_ck2f, gs_ck3, gs_ck4, gs_zd_t, gs_zd_f, gs_zt_t, gs_zt_f, gs_nar1, gs_nar0, gs_tn, if_true, if_false, not_true_eq_false, not_false_eq_true]
  · rw [if_neg c]
    have c1 := hC.wD (S.1 6 0 + 1)
    have hs : (gs_wI d 1 0 0 (gs_n (S.1 6 0 + 1))).1 1 0 0 = gs_n (S.1 6 0 + 1) := gs_wI_s
    refine ⟨_, ?_, c1, gs_fr.I rfl⟩
    simp (disch := omega) only [e_G_advance, k_G_advance_0, k_G_advance_15, k_G_advance_19, k_G_advance_41, k_G_advance_51, k_G_advance_61, hd, hs, ↓reduceIte, Int.reduceAdd, Int.reduceSub, Int.reduceMul, Int.reduceToNat, gs_00, gs_ofi, gs_k0_m, gs_k1_m, gs_n8, gs_n16, gs_n_add, gs_n_sub, gs_n_mul, gs_n_neg, gs_m_add, gs_m_sub, gs_m_mul, gs_m_neg, gs_n_l, gs_m_n, gs_n_c, gs_eq_t, gs_eq_f1, gs_eq_f2, gs_lt_t, gs_lt_f, gs_le_t, gs_le_f, gs_cmp_lt, gs_cmp_eq, gs_cmp_gt, gs_ix_n, gs_nz_n, gs_nzl_g, gs_n_div, gs_af1, gs_af0, gs_ck0, gs_ck1, gs_ck2t, gs_ck2f, gs_ck3, gs_ck4, gs_zd_t, gs_zd_f, gs_zt_t, gs_zt_f, gs_nar1, gs_nar0, gs_tn, if_true, if_false, not_true_eq_false, not_false_eq_true]
end AD
