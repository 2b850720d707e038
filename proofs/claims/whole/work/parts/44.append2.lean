-- a new instruction in the component's queue
section AQ
variable {d : gs_D} {S : gs_S} {B : Int}
def gs_okn (g t s am mo pr : Int) : Prop := ((0 ≤ g ∧ g < 6) ∧ (0 ≤ t ∧ t < 6) ∧ ¬ g = t) ∧ ((0 ≤ s ∧ s < 3) ∧ (0 ≤ am ∧ am ≤ 1000000) ∧ (0 ≤ mo ∧ mo ≤ 1000000) ∧ (0 < am → 1 ≤ s)) ∧ (0 ≤ pr ∧ pr < 3)
theorem gs_nw_o (g t s am mo pr : Int) {a : Nat} (k : Nat) (h : a ≠ 10 + (S.1 6 1).toNat) (h6 : a ≠ 6) : (gs_nw S g t s am mo pr).1 a k = S.1 a k := by
  unfold gs_nw
  rw [gs_u_o _ _ _ _ k h6, gs_w7_o _ _ _ _ _ _ _ _ _ k h]
theorem gs_nw_i (g t s am mo pr : Int) (k : Nat) : (gs_nw S g t s am mo pr).1 (10 + (S.1 6 1).toNat) k = (gs_w7 S (S.1 6 1).toNat g t s am mo pr 0).1 (10 + (S.1 6 1).toNat) k := gs_u_o _ _ _ _ k (by omega)
theorem gs_nw_60 (g t s am mo pr : Int) : (gs_nw S g t s am mo pr).1 6 0 = S.1 6 0 := by
  unfold gs_nw
  rw [gs_u_j _ _ (by omega), gs_w7_o _ _ _ _ _ _ _ _ _ 0 (by omega)]
theorem gs_nw_61 (g t s am mo pr : Int) : (gs_nw S g t s am mo pr).1 6 1 = S.1 6 1 + 1 := by
  unfold gs_nw
  rw [gs_u_s]
theorem gs_wb_nw (hw : gs_wb B S) {g t s am mo pr : Int} (ho : gs_okn g t s am mo pr) (hc : S.1 6 1 < 40) : gs_wb B (gs_nw S g t s am mo pr) := by
  have h6 := hw.2.2.1.2.1
  have o : ∀ a k, a < 10 → a ≠ 6 → (gs_nw S g t s am mo pr).1 a k = S.1 a k := fun a k h z => gs_nw_o g t s am mo pr k (by omega) z
  refine ⟨⟨fun j hj => ?_, fun j hj => ?_, fun j hj => ?_⟩, ⟨fun j hj => ?_, fun j hj => ?_, fun j hj => ?_⟩, ⟨?_, ?_, hw.2.2.1.2.2⟩, fun k hk => ?_⟩
  · rw [o 0 j (by omega) (by omega)]; exact hw.1.1 j hj
  · rw [o 1 j (by omega) (by omega)]; exact hw.1.2.1 j hj
  · rw [o 5 j (by omega) (by omega)]; exact hw.1.2.2 j hj
  · rw [o 2 j (by omega) (by omega)]; exact hw.2.1.1 j hj
  · rw [o 3 j (by omega) (by omega)]; exact hw.2.1.2.1 j hj
  · rw [o 4 j (by omega) (by omega)]; exact hw.2.1.2.2 j hj
  · rw [gs_nw_60]; exact hw.2.2.1.1
  · rw [gs_nw_61]; omega
  · rw [gs_nw_61] at hk
    by_cases z : k = (S.1 6 1).toNat
    · subst z
      obtain ⟨e0, e1, e2, e3, e4, e5, e6⟩ := gs_w7_s S (S.1 6 1).toNat g t s am mo pr 0
      unfold gs_iok
      rw [gs_nw_i, gs_nw_i, gs_nw_i, gs_nw_i, gs_nw_i, gs_nw_i, gs_nw_i, e0, e1, e2, e3, e4, e5, e6]
      exact ⟨ho.1, ho.2.1, ho.2.2, by omega⟩
    · exact gs_iok_cg (hw.2.2.2 k (by omega)) fun c _ => gs_nw_o g t s am mo pr c (by omega) (by omega)
theorem gs_wv_nw (hw : gs_wb B S) (hv : gs_wv S) (g t s am mo pr : Int) : gs_srt (gs_key (gs_nw S g t s am mo pr)) S.2 ∧ (∀ x : Nat, x ∈ S.2 ↔ ((x : Int) < (gs_nw S g t s am mo pr).1 6 1 ∧ (gs_nw S g t s am mo pr).1 (10 + x) 6 = 0) ∧ x ≠ (S.1 6 1).toNat) := by
  have h6 := hw.2.2.1.2.1
  have lt : ∀ x, x ∈ S.2 → x ≠ (S.1 6 1).toNat := fun x hx => by
    have := ((hv.mem hw x).mp hx).1
    omega
  refine ⟨gs_srt_congr (fun x hx => ?_) (hv.srt hw), fun x => ?_⟩
  · unfold gs_key
    rw [gs_nw_o g t s am mo pr 5 (by have := lt x hx; omega) (by omega)]
  · rw [gs_nw_61]
    constructor
    · intro hx
      have h1 := lt x hx
      have h2 := (hv.mem hw x).mp hx
      refine ⟨⟨by omega, ?_⟩, h1⟩
      rw [gs_nw_o g t s am mo pr 6 (by omega) (by omega)]
      exact h2.2
    · rintro ⟨⟨h1, h2⟩, h3⟩
      rw [gs_nw_o g t s am mo pr 6 (by omega) (by omega)] at h2
      exact (hv.mem hw x).mpr ⟨by omega, h2⟩
theorem gs_ins_len {l : List Nat} {p i : Nat} : (l.take p ++ i :: l.drop p).length = l.length + 1 := by
  rw [List.length_append, List.length_cons, List.length_take, List.length_drop]
  omega
theorem s_Q_append (hC : gs_Cl 0 d S) (hw : gs_wb B S) (hv : gs_wv S) {g t s am mo pr : Int} (ho : gs_okn g t s am mo pr) (hc : S.1 6 1 < 40) (hL : S.2.length < 10) : ∃ d', f_Q_append [gs_r 4 0, gs_i (gs_n g), gs_i (gs_n t), gs_i (gs_n s), gs_i (gs_n am), gs_i (gs_n mo), gs_i (gs_n pr)] d = some (some (gs_i (gs_n (S.1 6 1))), d') ∧ gs_Cl 0 d' (gs_cl2 (gs_nw S g t s am mo pr)) ∧ gs_fr d d' ∧ gs_wv (gs_cl2 (gs_nw S g t s am mo pr)) := by
  have h6 := hw.2.2.1.2.1
  have hct := hC.ct
  have hcn : ((S.1 6 1).toNat : Int) = S.1 6 1 := by omega
  have c7 : gs_Cl 0 _ (gs_w7 S (S.1 6 1).toNat g t s am mo pr 0) := ((((((hC.wS (S.1 6 1).toNat 0 g (by omega)).wS (S.1 6 1).toNat 1 t (by omega)).wS (S.1 6 1).toNat 2 s (by omega)).wS (S.1 6 1).toNat 3 am (by omega)).wS (S.1 6 1).toNat 4 mo (by omega)).wS (S.1 6 1).toNat 5 pr (by omega)).wS (S.1 6 1).toNat 6 0 (by omega)
  obtain ⟨e0, e1, e2, e3, e4, e5, e6⟩ := gs_w7_s S (S.1 6 1).toNat g t s am mo pr 0
  have c8 := c7.wC (c := (S.1 6 1).toNat) (by rw [gs_w7_o _ _ _ _ _ _ _ _ _ 1 (by omega)]; exact hcn) (fun k hk => by
    have : k = 0 ∨ k = 1 ∨ k = 2 ∨ k = 3 ∨ k = 4 ∨ k = 5 ∨ k = 6 := by omega
    rcases this with z | z | z | z | z | z | z <;> subst z
    · rw [e0, gs_wI_o (by omega), gs_wI_o (by omega), gs_wI_o (by omega), gs_wI_o (by omega), gs_wI_o (by omega), gs_wI_o (by omega), gs_wI_s]
    · rw [e1, gs_wI_o (by omega), gs_wI_o (by omega), gs_wI_o (by omega), gs_wI_o (by omega), gs_wI_o (by omega), gs_wI_s]
    · rw [e2, gs_wI_o (by omega), gs_wI_o (by omega), gs_wI_o (by omega), gs_wI_o (by omega), gs_wI_s]
    · rw [e3, gs_wI_o (by omega), gs_wI_o (by omega), gs_wI_o (by omega), gs_wI_s]
    · rw [e4, gs_wI_o (by omega), gs_wI_o (by omega), gs_wI_s]
    · rw [e5, gs_wI_o (by omega), gs_wI_s]
    · rw [e6, gs_wI_s])
  rw [hcn] at c8
  have cm : ∀ (X : gs_D) (k : Nat) (x y : Int32), gs_wI (gs_wI X 4 0 1 x) 13 (gs_ii 0 (S.1 6 1).toNat) k y = gs_wI (gs_wI X 13 (gs_ii 0 (S.1 6 1).toNat) k y) 4 0 1 x := fun X k x y => gs_wI_comm (by omega)
  rw [← cm, ← cm, ← cm, ← cm, ← cm, ← cm, ← cm] at c8
  have c8 : gs_Cl 0 _ (gs_nw S g t s am mo pr) := c8
  have w8 := gs_wb_nw hw ho hc
  obtain ⟨hs, hm⟩ := gs_wv_nw hw hv g t s am mo pr
  have q8 : gs_wq (gs_nw S g t s am mo pr) := by
    refine ⟨fun k k0 k1 => ?_, hv.2⟩
    have hk : k.toNat < S.2.length := by
      have : (gs_nw S g t s am mo pr).2 = S.2 := rfl
      rw [this] at k1
      omega
    have : S.2.getD k.toNat 0 ∈ S.2 := by
      rw [gs_getD hk]
      exact List.getElem_mem hk
    exact ((hm _).mp this).1.1
  obtain ⟨d', p, r1, r2, r3, e, c9, hf⟩ := s_Q_enter (i := (S.1 6 1).toNat) c8 w8 q8 (by rw [gs_nw_61]; omega) hL
  have hl := gs_ins_wl w8 (l := S.2) (i := (S.1 6 1).toNat) (p := p) hs hm (by rw [gs_nw_61]; omega) (by rw [gs_nw_i]; exact e6) r1.1 r1.2 r2 r3
  have el : gs_ql (gs_nw S g t s am mo pr) ((gs_nw S g t s am mo pr).2.take p.toNat ++ (S.1 6 1).toNat :: (gs_nw S g t s am mo pr).2.drop p.toNat) = gs_cl2 (gs_nw S g t s am mo pr) := by
    show ((gs_nw S g t s am mo pr).1, S.2.take p.toNat ++ (S.1 6 1).toNat :: S.2.drop p.toNat) = _
    rw [hl]
    rfl
  rw [el] at c9
  refine ⟨d', ?_, c9, ?_, ⟨rfl, ?_⟩⟩
  · rw [hcn] at e
    simp (disch := omega) only [e_Q_append, k_Q_append_0, k_Q_append_23, k_Q_append_76, hct, e, ↓reduceIte, Int.reduceAdd, Int.reduceSub, Int.reduceMul, Int.reduceToNat, gs_00, gs_ofi, gs_k0_m, gs_k1_m, gs_n8, gs_n16, gs_n_add, gs_n_sub, gs_n_mul, gs_n_neg, gs_m_add, gs_m_sub, gs_m_mul, gs_m_neg, gs_n_l, gs_m_n, gs_n_c, gs_eq_t, gs_eq_f1, gs_eq_f2, gs_lt_t, gs_lt_f, gs_le_t, gs_le_f, gs_cmp_lt, gs_cmp_eq, gs_cmp_gt, gs_ix_n, gs_nz_n, gs_nzl_g, gs_n_div, gs_af1, gs_af0, gs_ck0, gs_ck1, gs_ck2t, gs_ck2f, gs_ck3, gs_ck4, gs_zd_t, gs_zd_f, gs_zt_t, gs_zt_f, gs_nar1, gs_nar0, gs_tn, if_true, if_false, not_true_eq_false, not_false_eq_true]
  · have n13 : gs_now 13 (gs_ii 0 (S.1 6 1).toNat) = true := gs_now13 (by omega)
    exact ((((((((gs_fr.I rfl).tr (gs_fr.I n13)).tr (gs_fr.I n13)).tr (gs_fr.I n13)).tr (gs_fr.I n13)).tr (gs_fr.I n13)).tr (gs_fr.I n13)).tr (gs_fr.I n13)).tr hf.fr
  · show (gs_wl (gs_nw S g t s am mo pr)).length ≤ 10
    rw [← hl, gs_ins_len]
    omega
/-- another priority -/
def gs_rp (S : gs_S) (i : Nat) (pr : Int) : gs_S := gs_cl2 (gs_u S (10 + i) 5 pr)
theorem gs_wb_pr (hw : gs_wb B S) (i : Nat) {pr : Int} (h0 : 0 ≤ pr) (h1 : pr < 3) : gs_wb B (gs_u S (10 + i) 5 pr) := by
  have o : ∀ f j, f < 10 → (gs_u S (10 + i) 5 pr).1 f j = S.1 f j := fun f j h => gs_u_o S _ _ _ j (by omega)
  refine ⟨⟨fun j hj => ?_, fun j hj => ?_, fun j hj => ?_⟩, ⟨fun j hj => ?_, fun j hj => ?_, fun j hj => ?_⟩, ⟨?_, ?_, hw.2.2.1.2.2⟩, fun k hk => ?_⟩
  · rw [o 0 j (by omega)]; exact hw.1.1 j hj
  · rw [o 1 j (by omega)]; exact hw.1.2.1 j hj
  · rw [o 5 j (by omega)]; exact hw.1.2.2 j hj
  · rw [o 2 j (by omega)]; exact hw.2.1.1 j hj
  · rw [o 3 j (by omega)]; exact hw.2.1.2.1 j hj
  · rw [o 4 j (by omega)]; exact hw.2.1.2.2 j hj
  · rw [o 6 0 (by omega)]; exact hw.2.2.1.1
  · rw [o 6 1 (by omega)]; exact hw.2.2.1.2.1
  · rw [o 6 1 (by omega)] at hk
    have hk' := hw.2.2.2 k hk
    have e : ∀ c, c ≠ 5 → (gs_u S (10 + i) 5 pr).1 (10 + k) c = S.1 (10 + k) c := fun c hc => if_neg fun z => hc z.2
    have e5 : (gs_u S (10 + i) 5 pr).1 (10 + k) 5 = pr ∨ (gs_u S (10 + i) 5 pr).1 (10 + k) 5 = S.1 (10 + k) 5 := by
      by_cases z : k = i
      · left
        exact if_pos ⟨by omega, rfl⟩
      · right
        exact if_neg fun y => by omega
    unfold gs_iok at hk' ⊢
    rw [e 0 (by omega), e 1 (by omega), e 2 (by omega), e 3 (by omega), e 4 (by omega), e 6 (by omega)]
    refine ⟨hk'.1, hk'.2.1, ?_, hk'.2.2.2⟩
    have := hk'.2.2.1
    rcases e5 with z | z <;> rw [z] <;> omega
theorem s_Q_reorder (hC : gs_Cl 0 d S) (hw : gs_wb B S) (hv : gs_wv S) {k pr : Int} (k0 : 0 ≤ k) (k1 : k < S.2.length) (h0 : 0 ≤ pr) (h1 : pr < 3) : ∃ d', f_Q_reorder [gs_r 4 0, gs_i (gs_n k), gs_i (gs_n pr)] d = some (none, d') ∧ gs_Cl 0 d' (gs_rp S (gs_qa S k) pr) ∧ gs_fr d d' ∧ gs_wv (gs_rp S (gs_qa S k) pr) := by
  have hq := hv.q hw
  have hm := hq.1 k k0 k1
  have h6 := hw.2.2.1.2.1
  have hl := hv.2
  have ha := hC.oi k k0 k1
  have hs := hv.srt hw
  have hk : k.toNat < S.2.length := by omega
  obtain ⟨d1, e1, c1, f1⟩ := s_Q_removeAt hC hq k0 k1
  have c2 := c1.wS (gs_qa S k) 5 pr (by omega)
  have w2 := gs_wb_pr hw (gs_qa S k) h0 h1
  have el1 : (S.2.eraseIdx k.toNat).length = S.2.length - 1 := List.length_eraseIdx_of_lt hk
  have m1 : ∀ x, x ∈ S.2.eraseIdx k.toNat ↔ x ∈ S.2 ∧ ¬ x = gs_qa S k := fun x => gs_mem_er hs hk x
  have o6 : (gs_u S (10 + gs_qa S k) 5 pr).1 6 1 = S.1 6 1 := gs_u_o S _ _ _ 1 (by omega)
  have os : ∀ x, (gs_u S (10 + gs_qa S k) 5 pr).1 (10 + x) 6 = S.1 (10 + x) 6 := fun x => if_neg fun z => by omega
  have q2 : gs_wq (gs_u (gs_ql S (S.2.eraseIdx k.toNat)) (10 + gs_qa S k) 5 pr) := by
    refine ⟨fun j j0 j1 => ?_, ?_⟩
    · have hj : j.toNat < (S.2.eraseIdx k.toNat).length := by
        have : (gs_u (gs_ql S (S.2.eraseIdx k.toNat)) (10 + gs_qa S k) 5 pr).2 = S.2.eraseIdx k.toNat := rfl
        rw [this] at j1
        omega
      have mm : (S.2.eraseIdx k.toNat).getD j.toNat 0 ∈ S.2.eraseIdx k.toNat := by
        rw [gs_getD hj]
        exact List.getElem_mem hj
      have := ((hv.mem hw _).mp ((m1 _).mp mm).1).1
      rw [← o6] at this
      exact this
    · show (S.2.eraseIdx k.toNat).length ≤ 10
      omega
  obtain ⟨d', p, r1, r2, r3, e, c9, hf⟩ := s_Q_enter (i := gs_qa S k) c2 w2 q2 (by rw [show (gs_u (gs_ql S (S.2.eraseIdx k.toNat)) (10 + gs_qa S k) 5 pr).1 6 1 = S.1 6 1 from o6]; exact hm) (by show (S.2.eraseIdx k.toNat).length < 10; omega)
  have st0 := ((hv.mem hw (gs_qa S k)).mp (by unfold gs_qa; rw [gs_getD hk]; exact List.getElem_mem hk)).2
  have hl2 := gs_ins_wl w2 (l := S.2.eraseIdx k.toNat) (i := gs_qa S k) (p := p) (gs_srt_congr (fun x hx => by
      have hne := ((m1 x).mp hx).2
      unfold gs_key
      rw [show (gs_u S (10 + gs_qa S k) 5 pr).1 (10 + x) 5 = S.1 (10 + x) 5 from gs_u_o S _ _ _ 5 (by omega)]) (gs_srt_sub (List.eraseIdx_sublist _ _) hs)) (fun x => by
      rw [m1 x, hv.mem hw x, o6, os x]) (by rw [o6]; exact hm) (by rw [os]; exact st0) r1.1 r1.2 r2 r3
  have el : gs_ql (gs_u (gs_ql S (S.2.eraseIdx k.toNat)) (10 + gs_qa S k) 5 pr) ((S.2.eraseIdx k.toNat).take p.toNat ++ gs_qa S k :: (S.2.eraseIdx k.toNat).drop p.toNat) = gs_rp S (gs_qa S k) pr := by
    rw [hl2]
    rfl
  have c9 : gs_Cl 0 d' (gs_ql (gs_u (gs_ql S (S.2.eraseIdx k.toNat)) (10 + gs_qa S k) 5 pr) ((S.2.eraseIdx k.toNat).take p.toNat ++ gs_qa S k :: (S.2.eraseIdx k.toNat).drop p.toNat)) := c9
  rw [el] at c9
  refine ⟨d', ?_, c9, (f1.fr.tr (gs_fr.I (gs_now13 (by omega)))).tr hf.fr, ⟨rfl, ?_⟩⟩
  · simp (disch := omega) only [e_Q_reorder, k_Q_reorder_0, k_Q_reorder_6, k_Q_reorder_12, k_Q_reorder_18, k_Q_reorder_27, ha, e1, e, ↓reduceIte, Int.reduceAdd, Int.reduceSub, Int.reduceMul, Int.reduceToNat, gs_00, gs_ofi, gs_k0_m, gs_k1_m, gs_n8, gs_n16, gs_n_add, gs_n_sub, gs_n_mul, gs_n_neg, gs_m_add, gs_m_sub, gs_m_mul, gs_m_neg, gs_n_l, gs_m_n, gs_n_c, gs_eq_t, gs_eq_f1, gs_eq_f2, gs_lt_t, gs_lt_f, gs_le_t, gs_le_f, gs_cmp_lt, gs_cmp_eq, gs_cmp_gt, gs_ix_n, gs_nz_n, gs_nzl_g, gs_n_div, gs_af1, gs_af0, gs_ck0, gs_ck1, gs_ck2t, gs_ck2f, gs_ck3, gs_ck4, gs_zd_t, gs_zd_f, gs_zt_t, gs_zt_f, gs_nar1, gs_nar0, gs_tn, if_true, if_false, not_true_eq_false, not_false_eq_true]
  · show (gs_wl (gs_u S (10 + gs_qa S k) 5 pr)).length ≤ 10
    rw [← hl2, gs_ins_len]
    omega
end AQ
