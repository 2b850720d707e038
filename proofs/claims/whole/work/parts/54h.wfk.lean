-- what every call keeps
def gs_pz (S : gs_S) : Prop := ∀ p : Int, 0 ≤ p → p < 6 → S.1 1 (p * 3 + 0).toNat = 0
def gs_WF (B : Int) (S : gs_S) : Prop := gs_wb B S ∧ gs_wv S ∧ gs_wg S ∧ gs_pz S
section WK
variable {d : gs_D} {S : gs_S} {B : Int}
theorem gs_wb.mono {B' : Int} (hw : gs_wb B S) (h : B ≤ B') (h2 : B' ≤ 1000000000000) : gs_wb B' S := by
  refine ⟨⟨fun j hj => ?_, fun j hj => ?_, fun j hj => ?_⟩, hw.2.1, ⟨hw.2.2.1.1, hw.2.2.1.2.1, h2⟩, hw.2.2.2⟩
  · have := hw.1.1 j hj; omega
  · have := hw.1.2.1 j hj; omega
  · have := hw.1.2.2 j hj; omega
theorem gs_WF.mono {B' : Int} (h : gs_WF B S) (h1 : B ≤ B') (h2 : B' ≤ 1000000000000) : gs_WF B' S := ⟨h.1.mono h1 h2, h.2⟩
theorem gs_ln_cg {S' : gs_S} (e : ∀ f j, 1 ≤ f → f < 4 → S'.1 f j = S.1 f j) (p : Int) : gs_ln S' p = gs_ln S p := by
  unfold gs_ln
  simp only [e 1 _ (by decide) (by decide), e 2 _ (by decide) (by decide), e 3 _ (by decide) (by decide)]
theorem gs_rm_cg {S' : gs_S} (e : ∀ f j, f < 6 → S'.1 f j = S.1 f j) (x : Int) : gs_rm S' x = gs_rm S x := by
  unfold gs_rm
  rw [gs_ln_cg fun f j _ h => e f j (by omega)]
  simp only [e 0 _ (by decide), e 4 _ (by decide), e 5 _ (by decide)]
theorem gs_wg.cg {S' : gs_S} (h : gs_wg S) (e : ∀ f j, f < 6 → S'.1 f j = S.1 f j) : gs_wg S' := fun x a b => by
  rw [gs_rm_cg e]
  exact h x a b
theorem gs_pz.cg {S' : gs_S} (h : gs_pz S) (e : ∀ j, S'.1 1 j = S.1 1 j) : gs_pz S' := fun p a b => by
  rw [e]
  exact h p a b
theorem gs_fst_r {S : gs_S} : ∀ {n k p : Nat}, gs_fst S n k = some p → gs_rdy S p = true
  | 0, _, _, h => by cases h
  | n + 1, k, p, h => by
    cases hr : gs_rdy S k
    · simp only [gs_fst, hr] at h
      exact gs_fst_r h
    · simp only [gs_fst, hr] at h
      cases h
      exact hr
theorem gs_thr_wf : ∀ (n : Nat) (S : gs_S) (B : Int), gs_WF B S → B + 6000000 * n ≤ 1000000000000 → gs_WF (B + 6000000 * n) (gs_thr n S).2
  | 0, S, B, h, hB => by
    rw [show B + 6000000 * ((0 : Nat) : Int) = B by omega]
    exact h
  | n + 1, S, B, h, hB => by
    simp only [gs_thr]
    cases hf : gs_fst S S.2.length 0 with
    | none => exact h.mono (by omega) hB
    | some k =>
      have hk : k < S.2.length := by
        have := gs_fst_lt hf
        omega
      have hc := gs_fst_r hf
      unfold gs_rdy at hc
      rw [Bool.and_eq_true] at hc
      have hi := (h.2.1.q h.1).a hk
      have w1 : gs_wb (B + 6000000) (gs_stl S k) := gs_wb_st (gs_wb_mvd h.1 (Or.inl rfl) hi (by omega)) _ (by omega) (by omega)
      have v1 := h.2.1.stl h.1 hk (by omega)
      have g1 : gs_wg (gs_stl S k) := (gs_wg_mvd h.1 h.2.2.1 hi hc.2).cg fun f j hf => if_neg (by omega)
      have z1 : gs_pz (gs_stl S k) := h.2.2.2.cg fun j => by
        show (if 1 = _ ∧ j = 6 then _ else (gs_mvd S (S.2.getD k 0) 1).1 1 j) = _
        rw [if_neg (by omega), gs_mvd_ins S _ 1 j (by decide) (by decide)]
      have := gs_thr_wf n (gs_stl S k) (B + 6000000) ⟨w1, v1, g1, z1⟩ (by omega)
      rw [show B + 6000000 * ((n + 1 : Nat) : Int) = B + 6000000 + 6000000 * (n : Int) by omega]
      exact this
theorem gs_thr_WF (h : gs_WF B S) (hB : B + 60000000 ≤ 1000000000000) : gs_WF (B + 60000000) (gs_thr 10 S).2 := gs_thr_wf 10 S B h hB
theorem o_issue_wf (h : gs_WF B S) (hB : B + 80000000 ≤ 1000000000000) (p a x : Int) : gs_WF (B + 80000000) (o_issue S p a x).2 := by
  unfold o_issue
  by_cases c : ((0 ≤ p ∧ p < 6) ∧ (0 ≤ a ∧ a < 3) ∧ (1 ≤ x ∧ x ≤ 1000000)) ∧ S.1 6 0 = 0
  · rw [if_pos c]
    have o : ∀ f j, f ≠ 0 → (gs_ad S 0 (p * 3 + a).toNat x).1 f j = S.1 f j := fun f j hf => gs_u_o S 0 _ _ j hf
    have o0 : ∀ j, (gs_ad S 0 (p * 3 + a).toNat x).1 0 j = S.1 0 j + if j = (p * 3 + a).toNat then x else 0 := fun j => by
      rw [gs_ad_at]
      simp
    refine ⟨⟨⟨fun j hj => ?_, fun j hj => ?_, fun j hj => ?_⟩, ⟨fun j hj => ?_, fun j hj => ?_, fun j hj => ?_⟩, ⟨?_, ?_, hB⟩, fun k hk => ?_⟩, h.2.1.cg (fun f j hf => o f j (by omega)) rfl, fun y y0 y1 => ?_, h.2.2.2.cg fun j => o 1 j (by decide)⟩
    · have := h.1.1.1 j hj
      rw [o0]
      split <;> omega
    · rw [o 1 j (by decide)]; have := h.1.1.2.1 j hj; omega
    · rw [o 5 j (by decide)]; have := h.1.1.2.2 j hj; omega
    · rw [o 2 j (by decide)]; exact h.1.2.1.1 j hj
    · rw [o 3 j (by decide)]; exact h.1.2.1.2.1 j hj
    · rw [o 4 j (by decide)]; exact h.1.2.1.2.2 j hj
    · rw [o 6 0 (by decide)]; exact h.1.2.2.1.1
    · rw [o 6 1 (by decide)]; exact h.1.2.2.1.2.1
    · rw [o 6 1 (by decide)] at hk
      exact gs_iok_cg (h.1.2.2.2 k hk) fun c _ => o _ c (by omega)
    · have := h.2.2.1 y y0 y1
      unfold gs_rm at this ⊢
      rw [gs_ln_cg fun f j hf _ => o f j (by omega), o 4 _ (by decide), o 5 _ (by decide), o0]
      revert this
      split
      · exact id
      · split
        · split <;> intro <;> omega
        · split <;> intro <;> omega
  · rw [if_neg c]
    exact h.mono (by omega) hB
theorem o_terms_wf (h : gs_WF B S) (hB : B + 80000000 ≤ 1000000000000) (s pr hc : Int) : gs_WF (B + 80000000) (o_terms S s pr hc).2 := by
  unfold o_terms
  by_cases c : ((1 ≤ s ∧ s < 3) ∧ (0 ≤ pr ∧ pr ≤ 1000) ∧ (0 ≤ hc ∧ hc ≤ 100)) ∧ S.1 6 0 = 0
  · rw [if_pos c]
    by_cases c2 : gs_flo (gs_tm S s pr hc) = true
    · rw [if_pos c2]
      have o : ∀ f j, f ≠ 2 → f ≠ 3 → (gs_tm S s pr hc).1 f j = S.1 f j := fun f j h2 h3 => (gs_u_o _ 3 _ _ j h3).trans (gs_u_o S 2 _ _ j h2)
      exact ⟨(gs_wb_tm h.1 c.1.2.1.1 c.1.2.1.2 c.1.2.2.1 c.1.2.2.2).mono (by omega) hB, h.2.1.cg (fun f j hf => o f j (by omega) (by omega)) rfl, (gs_flo_iff _).mp c2, h.2.2.2.cg fun j => o 1 j (by decide) (by decide)⟩
    · rw [if_neg c2]
      exact h.mono (by omega) hB
  · rw [if_neg c]
    exact h.mono (by omega) hB
theorem gs_hp_0 (S : gs_S) (j : Nat) (x y : Int) (z : Nat) : (gs_ad (gs_sb S 0 j x) 1 j y).1 0 z = S.1 0 z - if z = j then x else 0 := by
  rw [gs_ad_at, gs_sb_at, if_neg (show ¬ (0 = 1 ∧ z = j) by omega)]
  by_cases h : z = j
  · rw [if_pos ⟨rfl, h⟩, if_pos h]
    omega
  · rw [if_neg (fun y => h y.2), if_neg h]
    omega
theorem gs_hp_1 (S : gs_S) (j : Nat) (x y : Int) (z : Nat) : (gs_ad (gs_sb S 0 j x) 1 j y).1 1 z = S.1 1 z + if z = j then y else 0 := by
  rw [gs_ad_at, gs_sb_at, if_neg (show ¬ (1 = 0 ∧ z = j) by omega)]
  simp
theorem gs_hp_o (S : gs_S) (j : Nat) (x y : Int) {f : Nat} (z : Nat) (h0 : f ≠ 0) (h1 : f ≠ 1) : (gs_ad (gs_sb S 0 j x) 1 j y).1 f z = S.1 f z := (gs_u_o _ 1 _ _ z h1).trans (gs_u_o S 0 _ _ z h0)
theorem gs_mul_mono {a b u v : Int} (h : a ≤ b) (hu : 0 ≤ u) (hv : 0 ≤ v) : a * u * v / 100 ≤ b * u * v / 100 := Int.ediv_le_ediv (by omega) (Int.mul_le_mul_of_nonneg_right (Int.mul_le_mul_of_nonneg_right h hu) hv)
/-- the line with more pledged -/
theorem gs_ln_hp (hw : gs_wb B S) (j : Nat) (x : Int) {y : Int} (hy : 0 ≤ y) (p : Int) : gs_ln S p ≤ gs_ln (gs_ad (gs_sb S 0 j x) 1 j y) p := by
  unfold gs_ln
  simp only [gs_hp_1, gs_hp_o S j x y _ (show 2 ≠ 0 by decide) (show 2 ≠ 1 by decide), gs_hp_o S j x y _ (show 3 ≠ 0 by decide) (show 3 ≠ 1 by decide)]
  have a1 := hw.2.1.1 1 (by decide)
  have a2 := hw.2.1.1 2 (by decide)
  have b1 := hw.2.1.2.1 1 (by decide)
  have b2 := hw.2.1.2.1 2 (by decide)
  have e1 := gs_mul_mono (a := S.1 1 (p * 3 + 1).toNat) (b := S.1 1 (p * 3 + 1).toNat + if (p * 3 + 1).toNat = j then y else 0) (u := S.1 2 1) (v := 100 - S.1 3 1) (by split <;> omega) a1.1 (by omega)
  have e2 := gs_mul_mono (a := S.1 1 (p * 3 + 2).toNat) (b := S.1 1 (p * 3 + 2).toNat + if (p * 3 + 2).toNat = j then y else 0) (u := S.1 2 2) (v := 100 - S.1 3 2) (by split <;> omega) a2.1 (by omega)
  omega
theorem gs_ln_hpo {j : Nat} {x y p : Int} (h1 : (p * 3 + 1).toNat ≠ j) (h2 : (p * 3 + 2).toNat ≠ j) : gs_ln (gs_ad (gs_sb S 0 j x) 1 j y) p = gs_ln S p := by
  unfold gs_ln
  simp only [gs_hp_1, gs_hp_o S j x y _ (show 2 ≠ 0 by decide) (show 2 ≠ 1 by decide), gs_hp_o S j x y _ (show 3 ≠ 0 by decide) (show 3 ≠ 1 by decide)]
  rw [if_neg h1, if_neg h2, Int.add_zero, Int.add_zero]
theorem gs_hp_pz (h : gs_pz S) {p s : Int} (x y : Int) (p0 : 0 ≤ p) (s1 : 1 ≤ s) (s2 : s < 3) : gs_pz (gs_ad (gs_sb S 0 (p * 3 + s).toNat x) 1 (p * 3 + s).toNat y) := fun q a b => by
  rw [gs_hp_1, if_neg (by omega), Int.add_zero]
  exact h q a b
theorem o_pledge_wf (h : gs_WF B S) (hB : B + 80000000 ≤ 1000000000000) (p s x : Int) : gs_WF (B + 80000000) (o_pledge S p s x).2 := by
  unfold o_pledge
  by_cases c : (0 ≤ p ∧ p < 6) ∧ (1 ≤ s ∧ s < 3) ∧ (1 ≤ x ∧ x ≤ 1000000)
  · rw [if_pos c]
    by_cases c2 : S.1 0 (p * 3 + s).toNat < x
    · rw [if_pos c2]
      exact h.mono (by omega) hB
    · rw [if_neg c2]
      have hp := (h.1.1.2.1 (p * 3 + s).toNat (by omega)).1
      have w1 := gs_wb_hp h.1 (j := (p * 3 + s).toNat) (x := x) (y := x) (by omega) (by omega) (by omega) (by omega) (by omega) (by omega)
      refine (gs_thr_WF (B := B + 1000000) ⟨w1, gs_wv_hp h.2.1 _ _ _, fun y y0 y1 => ?_, gs_hp_pz h.2.2.2 x x c.1.1 c.2.1.1 c.2.1.2⟩ (by omega)).mono (by omega) hB
      have hr := h.2.2.1 y y0 y1
      have hl := gs_ln_hp h.1 (p * 3 + s).toNat x (y := x) (by omega) (y / 3)
      unfold gs_rm at hr ⊢
      rw [gs_hp_o S _ _ _ _ (by decide) (by decide), gs_hp_o S _ _ _ _ (by decide) (by decide), gs_hp_0]
      by_cases z1 : 18 ≤ y
      · rw [if_pos z1] at hr ⊢
        exact hr
      · rw [if_neg z1] at hr ⊢
        by_cases z2 : y % 3 = 0
        · rw [if_pos z2] at hr ⊢
          rw [if_neg (by omega)]
          omega
        · rw [if_neg z2] at hr ⊢
          by_cases z3 : y.toNat = (p * 3 + s).toNat
          · rw [if_pos z3, z3]
            omega
          · rw [if_neg z3]
            omega
  · rw [if_neg c]
    exact h.mono (by omega) hB
theorem o_release_wf (h : gs_WF B S) (hB : B + 80000000 ≤ 1000000000000) (p s x : Int) : gs_WF (B + 80000000) (o_release S p s x).2 := by
  unfold o_release
  by_cases c : (0 ≤ p ∧ p < 6) ∧ (1 ≤ s ∧ s < 3) ∧ (1 ≤ x ∧ x ≤ 1000000)
  · rw [if_pos c]
    by_cases c2 : S.1 1 (p * 3 + s).toNat < x
    · rw [if_pos c2]
      exact h.mono (by omega) hB
    · rw [if_neg c2]
      by_cases c3 : gs_rm (gs_ad (gs_sb S 0 (p * 3 + s).toNat (-x)) 1 (p * 3 + s).toNat (-x)) (p * 3 + 0) < 0
      · rw [if_pos c3]
        exact h.mono (by omega) hB
      · rw [if_neg c3]
        have w1 := gs_wb_hp h.1 (j := (p * 3 + s).toNat) (x := -x) (y := -x) (by omega) (by omega) (by omega) (by omega) (by omega) (by omega)
        refine (gs_thr_WF (B := B + 1000000) ⟨w1, gs_wv_hp h.2.1 _ _ _, fun y y0 y1 => ?_, gs_hp_pz h.2.2.2 (-x) (-x) c.1.1 c.2.1.1 c.2.1.2⟩ (by omega)).mono (by omega) hB
        by_cases z0 : y = p * 3 + 0
        · rw [z0]
          omega
        · have hr := h.2.2.1 y y0 y1
          unfold gs_rm at hr ⊢
          rw [gs_hp_o S _ _ _ _ (by decide) (by decide), gs_hp_o S _ _ _ _ (by decide) (by decide), gs_hp_0]
          by_cases z1 : 18 ≤ y
          · rw [if_pos z1] at hr ⊢
            exact hr
          · rw [if_neg z1] at hr ⊢
            by_cases z2 : y % 3 = 0
            · rw [if_pos z2] at hr ⊢
              rw [if_neg (by omega), gs_ln_hpo (by omega) (by omega)]
              omega
            · rw [if_neg z2] at hr ⊢
              by_cases z3 : y.toNat = (p * 3 + s).toNat
              · rw [if_pos z3]
                omega
              · rw [if_neg z3]
                omega
  · rw [if_neg c]
    exact h.mono (by omega) hB
theorem o_limit_wf (h : gs_WF B S) (hB : B + 80000000 ≤ 1000000000000) (p q x : Int) : gs_WF (B + 80000000) (o_limit S p q x).2 := by
  unfold o_limit
  by_cases c : ((0 ≤ p ∧ p < 6) ∧ (0 ≤ q ∧ q < 6) ∧ ¬ p = q) ∧ (-1 ≤ x ∧ x ≤ 1000000)
  · rw [if_pos c]
    by_cases c2 : ¬ x = -1 ∧ x < S.1 5 (p * 6 + q).toNat
    · rw [if_pos c2]
      exact h.mono (by omega) hB
    · rw [if_neg c2]
      have o : ∀ f j, f ≠ 4 → (gs_u S 4 (p * 6 + q).toNat x).1 f j = S.1 f j := fun f j hf => gs_u_o S 4 _ _ j hf
      refine (gs_thr_WF (B := B) ⟨gs_wb_li h.1 _ c.2.1 c.2.2, gs_wv_li h.2.1 _ _, fun y y0 y1 => ?_, h.2.2.2.cg fun j => o 1 j (by decide)⟩ (by omega)).mono (by omega) hB
      have hr := h.2.2.1 y y0 y1
      unfold gs_rm at hr ⊢
      rw [o 0 _ (by decide), o 5 _ (by decide), gs_ln_cg fun f j _ hf => o f j (by omega)]
      by_cases z1 : 18 ≤ y
      · rw [if_pos z1] at hr ⊢
        by_cases z2 : (y - 18).toNat = (p * 6 + q).toNat
        · have e : (gs_u S 4 (p * 6 + q).toNat x).1 4 (y - 18).toNat = x := if_pos ⟨rfl, z2⟩
          rw [e, z2]
          split <;> omega
        · have e : (gs_u S 4 (p * 6 + q).toNat x).1 4 (y - 18).toNat = S.1 4 (y - 18).toNat := if_neg (by omega)
          rw [e]
          exact hr
      · rw [if_neg z1] at hr ⊢
        exact hr
  · rw [if_neg c]
    exact h.mono (by omega) hB
/-- lists of those that wait, behind a call -/
theorem gs_hv_c (hw : gs_wb B S) (hv : gs_wv S) : ∀ i : Int, 0 ≤ i → i < S.1 6 1 → S.1 (10 + i.toNat) 6 = 0 → gs_wv (gs_cl2 (gs_u S (10 + i.toNat) 6 2)) := by
  intro i i0 i1 hs
  have hm := (hv.mem hw i.toNat).mpr ⟨by omega, hs⟩
  obtain ⟨k, hk, e⟩ := List.getElem_of_mem hm
  have eq : S.2.getD k 0 = i.toNat := by rw [gs_getD hk, e]
  have v1 := hv.lv hw hk (st := 2) (by omega) (by omega)
  have es : gs_lv S k 2 = gs_cl2 (gs_u S (10 + i.toNat) 6 2) := by
    have e1 : (gs_lv S k 2).1 = (gs_u S (10 + i.toNat) 6 2).1 := by
      show (gs_u S (10 + S.2.getD k 0) 6 2).1 = _
      rw [eq]
    have e2 := v1.1
    refine Prod.ext e1 ?_
    rw [e2]
    show gs_wl _ = gs_wl _
    unfold gs_wl gs_wp
    rw [e1]
  rw [es] at v1
  exact v1
theorem gs_hv_p (hC : gs_Cl 0 d S) (hw : gs_wb B S) (hv : gs_wv S) : ∀ i pr : Int, 0 ≤ i → i < S.1 6 1 → S.1 (10 + i.toNat) 6 = 0 → 0 ≤ pr → pr < 3 → gs_wv (gs_rp S i.toNat pr) := by
  intro i pr i0 i1 hs r0 r1
  have hm := (hv.mem hw i.toNat).mpr ⟨by omega, hs⟩
  obtain ⟨k, hk, e⟩ := List.getElem_of_mem hm
  have eq : gs_qa S (k : Int) = i.toNat := by
    unfold gs_qa
    rw [gs_tn, gs_getD hk, e]
  obtain ⟨d', -, -, -, v⟩ := s_Q_reorder hC hw hv (k := (k : Int)) (by omega) (by omega) r0 r1
  rw [eq] at v
  exact v
theorem gs_hv_a (hC : gs_Cl 0 d S) (hw : gs_wb B S) (hv : gs_wv S) : ∀ g t s am mo pr : Int, gs_okn g t s am mo pr → S.2.length < 10 → S.1 6 1 < 40 → gs_wv (gs_cl2 (gs_nw S g t s am mo pr)) := by
  intro g t s am mo pr ho h1 h2
  obtain ⟨d', -, -, -, v⟩ := s_Q_append hC hw hv ho h2 h1
  exact v
theorem o_accept_wf (hC : gs_Cl 0 d S) (h : gs_WF B S) (hB : B + 80000000 ≤ 1000000000000) {g t s am mo pr : Int} (ho : gs_okn g t s am mo pr) : gs_WF (B + 80000000) (o_accept S g t s am mo pr).2 := by
  have h61 := h.1.2.2.1.2.1
  unfold o_accept
  by_cases c : ¬ S.1 6 0 = 1
  · rw [if_pos c]
    exact h.mono (by omega) hB
  · rw [if_neg c]
    by_cases c2 : 10 ≤ S.2.length ∨ 40 ≤ S.1 6 1
    · rw [if_pos c2]
      exact h.mono (by omega) hB
    · rw [if_neg c2]
      have o : ∀ f j, f < 6 → (gs_cl2 (gs_nw S g t s am mo pr)).1 f j = S.1 f j := fun f j hf => gs_nw_o g t s am mo pr j (by omega) (by omega)
      have w1 : gs_wb B (gs_cl2 (gs_nw S g t s am mo pr)) := gs_wb_nw h.1 ho (by omega)
      exact (gs_thr_WF (B := B) ⟨w1, gs_hv_a hC h.1 h.2.1 _ _ _ _ _ _ ho (by omega) (by omega), h.2.2.1.cg o, h.2.2.2.cg fun j => o 1 j (by decide)⟩ (by omega)).mono (by omega) hB
theorem o_pay_wf (hC : gs_Cl 0 d S) (h : gs_WF B S) (hB : B + 80000000 ≤ 1000000000000) (p q x pr : Int) : gs_WF (B + 80000000) (o_pay S p q x pr).2 := by
  unfold o_pay
  by_cases c : ((0 ≤ p ∧ p < 6) ∧ (0 ≤ q ∧ q < 6) ∧ ¬ p = q) ∧ (1 ≤ x ∧ x ≤ 1000000) ∧ (0 ≤ pr ∧ pr < 3)
  · rw [if_pos c]
    exact o_accept_wf hC h hB (by unfold gs_okn; omega)
  · rw [if_neg c]
    exact h.mono (by omega) hB
theorem o_deliver_wf (hC : gs_Cl 0 d S) (h : gs_WF B S) (hB : B + 80000000 ≤ 1000000000000) (p q s x : Int) : gs_WF (B + 80000000) (o_deliver S p q s x).2 := by
  unfold o_deliver
  by_cases c : ((0 ≤ p ∧ p < 6) ∧ (0 ≤ q ∧ q < 6) ∧ ¬ p = q) ∧ (1 ≤ s ∧ s < 3) ∧ (1 ≤ x ∧ x ≤ 1000000)
  · rw [if_pos c]
    exact o_accept_wf hC h hB (by unfold gs_okn; omega)
  · rw [if_neg c]
    exact h.mono (by omega) hB
theorem o_exchange_wf (hC : gs_Cl 0 d S) (h : gs_WF B S) (hB : B + 80000000 ≤ 1000000000000) (p q s x m : Int) : gs_WF (B + 80000000) (o_exchange S p q s x m).2 := by
  unfold o_exchange
  by_cases c : ((0 ≤ p ∧ p < 6) ∧ (0 ≤ q ∧ q < 6) ∧ ¬ p = q) ∧ (1 ≤ s ∧ s < 3) ∧ (1 ≤ x ∧ x ≤ 1000000) ∧ (1 ≤ m ∧ m ≤ 1000000)
  · rw [if_pos c]
    exact o_accept_wf hC h hB (by unfold gs_okn; omega)
  · rw [if_neg c]
    exact h.mono (by omega) hB
theorem o_cancel_wf (h : gs_WF B S) (hB : B + 80000000 ≤ 1000000000000) (i : Int) : gs_WF (B + 80000000) (o_cancel S i).2 := by
  unfold o_cancel
  by_cases c : (0 ≤ i ∧ i < S.1 6 1) ∧ S.1 (10 + i.toNat) 6 = 0
  · rw [if_pos c]
    have o : ∀ f j, f < 6 → (gs_cl2 (gs_u S (10 + i.toNat) 6 2)).1 f j = S.1 f j := fun f j hf => gs_u_o S _ _ _ j (by omega)
    have w1 : gs_wb B (gs_cl2 (gs_u S (10 + i.toNat) 6 2)) := gs_wb_st h.1 i.toNat (by omega) (by omega)
    exact (gs_thr_WF (B := B) ⟨w1, gs_hv_c h.1 h.2.1 i c.1.1 c.1.2 c.2, h.2.2.1.cg o, h.2.2.2.cg fun j => o 1 j (by decide)⟩ (by omega)).mono (by omega) hB
  · rw [if_neg c]
    exact h.mono (by omega) hB
theorem o_prefer_wf (hC : gs_Cl 0 d S) (h : gs_WF B S) (hB : B + 80000000 ≤ 1000000000000) (i pr : Int) : gs_WF (B + 80000000) (o_prefer S i pr).2 := by
  unfold o_prefer
  by_cases c : ((0 ≤ i ∧ i < S.1 6 1) ∧ S.1 (10 + i.toNat) 6 = 0) ∧ (0 ≤ pr ∧ pr < 3)
  · rw [if_pos c]
    have o : ∀ f j, f < 6 → (gs_rp S i.toNat pr).1 f j = S.1 f j := fun f j hf => gs_u_o S _ _ _ j (by omega)
    have w1 : gs_wb B (gs_rp S i.toNat pr) := gs_wb_pr h.1 i.toNat c.2.1 c.2.2
    exact (gs_thr_WF (B := B) ⟨w1, gs_hv_p hC h.1 h.2.1 i pr c.1.1.1 c.1.1.2 c.1.2 c.2.1 c.2.2, h.2.2.1.cg o, h.2.2.2.cg fun j => o 1 j (by decide)⟩ (by omega)).mono (by omega) hB
  · rw [if_neg c]
    exact h.mono (by omega) hB
theorem o_resolve_wf (hC : gs_Cl 0 d S) (h : gs_WF B S) (hB : B + 80000000 ≤ 1000000000000) : gs_WF (B + 80000000) (o_resolve S).2 := by
  obtain ⟨d', -, -, -, v, w, -, cv⟩ := s_G_resolve hC h.1 h.2.1 h.2.2.1 (by omega)
  have e : ∀ f j, f < 6 → (o_resolve S).2.1 f j = (gs_sm S (gs_mx S)).1 f j := fun f j hf => by
    show (if j = 6 ∧ gs_in6 S (gs_mx S) 0 f = true then 1 else (gs_sm S (gs_mx S)).1 f j) = _
    rw [if_neg]
    rintro ⟨-, z⟩
    obtain ⟨k, -, -, -, z4⟩ := gs_in6_t.mp z
    omega
  refine ⟨w.mono (by omega) hB, v, fun x x0 x1 => ?_, h.2.2.2.cg fun j => by rw [e 1 j (by decide), gs_sm_o j (by decide) (by decide)]⟩
  rw [gs_rm_cg e]
  have := cv x.toNat (by omega)
  rw [← gs_rm_sm, Int.toNat_of_nonneg x0] at this
  exact this
theorem o_advance_wf (h : gs_WF B S) (hB : B + 80000000 ≤ 1000000000000) : gs_WF (B + 80000000) (o_advance S).2 := by
  have h6 := h.1.2.2.1.1
  unfold o_advance
  by_cases c : S.1 6 0 = 2
  · rw [if_pos c]
    have o : ∀ f j, f ≠ 5 → f < 10 → ¬ (f = 6 ∧ j = 0) → (gs_clk (gs_rta (gs_u S 6 0 0)) 36).1 f j = S.1 f j := fun f j h1 h2 h3 => by
      show (if f = 5 ∧ (j : Int) < 36 then 0 else if j = 6 ∧ 10 ≤ f ∧ (f : Int) - 10 < (gs_u S 6 0 0).1 6 1 ∧ (gs_u S 6 0 0).1 f 6 = 0 then 3 else if f = 6 ∧ j = 0 then 0 else S.1 f j) = _
      rw [if_neg (by omega), if_neg (by omega), if_neg h3]
    have o5 : ∀ j, j < 36 → (gs_clk (gs_rta (gs_u S 6 0 0)) 36).1 5 j = 0 := fun j hj => if_pos ⟨rfl, by omega⟩
    have oi : ∀ i k, (gs_clk (gs_rta (gs_u S 6 0 0)) 36).1 (10 + i) k = if k = 6 ∧ (i : Int) < S.1 6 1 ∧ S.1 (10 + i) 6 = 0 then 3 else S.1 (10 + i) k := fun i k => by
      have e61 : (gs_u S 6 0 0).1 6 1 = S.1 6 1 := by
        show (if 6 = 6 ∧ 1 = 0 then 0 else S.1 6 1) = _
        rw [if_neg (by decide)]
      show (if 10 + i = 5 ∧ (k : Int) < 36 then 0 else if k = 6 ∧ 10 ≤ 10 + i ∧ ((10 + i : Nat) : Int) - 10 < (gs_u S 6 0 0).1 6 1 ∧ (gs_u S 6 0 0).1 (10 + i) 6 = 0 then 3 else if 10 + i = 6 ∧ k = 0 then 0 else S.1 (10 + i) k) = _
      rw [if_neg (by omega), e61, gs_u_o S 6 0 0 6 (by omega), if_neg (show ¬ (10 + i = 6 ∧ k = 0) by omega)]
      by_cases z : k = 6 ∧ (i : Int) < S.1 6 1 ∧ S.1 (10 + i) 6 = 0
      · rw [if_pos z, if_pos ⟨z.1, by omega, by omega, z.2.2⟩]
      · rw [if_neg z, if_neg]
        rintro ⟨z1, z2, z3, z4⟩
        exact z ⟨z1, by omega, z4⟩
    have w : gs_wb B (gs_clk (gs_rta (gs_u S 6 0 0)) 36) := by
      refine ⟨⟨fun j hj => ?_, fun j hj => ?_, fun j hj => ?_⟩, ⟨fun j hj => ?_, fun j hj => ?_, fun j hj => ?_⟩, ⟨?_, ?_, h.1.2.2.1.2.2⟩, fun k hk => ?_⟩
      · rw [o 0 j (by decide) (by decide) (by omega)]; exact h.1.1.1 j hj
      · rw [o 1 j (by decide) (by decide) (by omega)]; exact h.1.1.2.1 j hj
      · rw [o5 j hj]; have := h.1.1.2.2 j hj; omega
      · rw [o 2 j (by decide) (by decide) (by omega)]; exact h.1.2.1.1 j hj
      · rw [o 3 j (by decide) (by decide) (by omega)]; exact h.1.2.1.2.1 j hj
      · rw [o 4 j (by decide) (by decide) (by omega)]; exact h.1.2.1.2.2 j hj
      · have : (gs_clk (gs_rta (gs_u S 6 0 0)) 36).1 6 0 = 0 := by
          show (if 6 = 5 ∧ ((0 : Nat) : Int) < 36 then 0 else if 0 = 6 ∧ 10 ≤ 6 ∧ ((6 : Nat) : Int) - 10 < (gs_u S 6 0 0).1 6 1 ∧ (gs_u S 6 0 0).1 6 6 = 0 then 3 else if 6 = 6 ∧ 0 = 0 then 0 else S.1 6 0) = 0
          rw [if_neg (by omega), if_neg (by omega), if_pos ⟨rfl, rfl⟩]
        rw [this]
        omega
      · rw [o 6 1 (by decide) (by decide) (by omega)]; exact h.1.2.2.1.2.1
      · rw [o 6 1 (by decide) (by decide) (by omega)] at hk
        have hk' := h.1.2.2.2 k hk
        unfold gs_iok at hk' ⊢
        have e : ∀ c, c ≠ 6 → (gs_clk (gs_rta (gs_u S 6 0 0)) 36).1 (10 + k) c = S.1 (10 + k) c := fun c hc => by
          rw [oi, if_neg fun z => hc z.1]
        rw [e 0 (by decide), e 1 (by decide), e 2 (by decide), e 3 (by decide), e 4 (by decide), e 5 (by decide), oi]
        refine ⟨hk'.1, hk'.2.1, hk'.2.2.1, ?_⟩
        have := hk'.2.2.2
        split <;> omega
    refine ⟨w.mono (by omega) hB, ⟨?_, by show (0 : Nat) ≤ 10; omega⟩, fun y y0 y1 => ?_, h.2.2.2.cg fun j => o 1 j (by decide) (by decide) (by omega)⟩
    · show [] = gs_wl _
      refine (List.eq_nil_iff_forall_not_mem.mpr fun i hi => ?_).symm
      rw [gs_wl_mem w.pr, o 6 1 (by decide) (by decide) (by omega), oi] at hi
      by_cases z : S.1 (10 + i) 6 = 0
      · rw [if_pos ⟨rfl, hi.1, z⟩] at hi
        have := hi.2
        omega
      · rw [if_neg fun y => z y.2.2] at hi
        exact z hi.2
    · have hr := h.2.2.1 y y0 y1
      have hl := h.1.2.1.2.2
      unfold gs_rm at hr ⊢
      rw [gs_ln_cg fun f j _ hf => o f j (by omega) (by omega) (by omega), o 0 _ (by decide) (by decide) (by omega), o 4 _ (by decide) (by decide) (by omega)]
      by_cases z1 : 18 ≤ y
      · rw [if_pos z1, o5 _ (by omega)]
        have := hl (y - 18).toNat (by omega)
        split <;> omega
      · rw [if_neg z1] at hr ⊢
        exact hr
  · rw [if_neg c]
    have o : ∀ f j, f < 6 → (gs_u S 6 0 (S.1 6 0 + 1)).1 f j = S.1 f j := fun f j hf => gs_u_o S _ _ _ j (by omega)
    exact ⟨(gs_wb_dy h.1 (by omega) (by omega)).mono (by omega) hB, gs_wv_dy h.2.1 _, h.2.2.1.cg o, h.2.2.2.cg fun j => o 1 j (by decide)⟩
end WK
