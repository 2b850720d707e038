-- component and model side by side
def gs_RR (B : Int) (d : gs_D) (S T : gs_S) : Prop := (gs_Cl 0 d S ∧ gs_Cl 1 d T) ∧ (gs_Mo 21 d S ∧ gs_Mo 22 d T) ∧ gs_WF B S ∧ gs_WF B T
theorem gs_now_20 {t : Nat} (h : 20 ≤ t) (i : Nat) : gs_now t i = false := by
  have : Nat.ble t 19 = false := by
    cases hb : Nat.ble t 19
    · rfl
    · have := Nat.le_of_ble_eq_true hb
      omega
  unfold gs_now
  rw [this, Bool.false_and]
theorem gs_Mo.of {t : Nat} {d d' : gs_D} {S : gs_S} (hM : gs_Mo t d S) (e : d'.2 t 0 = d.2 t 0) : gs_Mo t d' S := fun n a b c => by
  rw [e]
  exact hM n a b c
theorem gs_fr.Mo {t : Nat} {d d' : gs_D} {S : gs_S} (h : gs_fr d d') (ht : 20 ≤ t) (hM : gs_Mo t d S) : gs_Mo t d' S := hM.of (h t 0 (gs_now_20 ht 0)).2
theorem gs_Cl.of {b : Nat} {d d' : gs_D} {S : gs_S} (hC : gs_Cl b d S) (e1 : ∀ t, t < 20 → d'.1 t = d.1 t) (e2 : ∀ t, t < 20 → d'.2 t = d.2 t) : gs_Cl b d' S := by
  unfold gs_Cl
  rw [e2 5 (by decide), e2 6 (by decide), e1 7 (by decide), e1 8 (by decide), e1 9 (by decide), e2 10 (by decide), e1 1 (by decide), e1 4 (by decide), e1 13 (by decide), e1 12 (by decide)]
  exact hC
theorem gs_mf.Cl {b : Nat} {d d' : gs_D} {S : gs_S} (h : gs_mf d d') (hC : gs_Cl b d S) : gs_Cl b d' S := hC.of (fun t ht => h.1 t (by omega) (by omega) (by omega)) (fun t ht => h.2 t (by omega) (by omega))
theorem gs_mf.Mo {d d' : gs_D} {S : gs_S} (h : gs_mf d d') (hM : gs_Mo 22 d S) : gs_Mo 22 d' S := hM.of (by rw [h.2 22 (by decide) (by decide)])
/-- one call of each -/
theorem gs_RR.st {B : Int} {d d1 d2 : gs_D} {S S' T : gs_S} (h : gs_RR B d S T) (c : gs_Cl 0 d1 S') (f : gs_fr d d1) (mo : gs_Mo 21 d2 S') (mf : gs_mf d1 d2) (w : gs_WF (B + 80000000) S') (hB : B + 80000000 ≤ 1000000000000) : gs_RR (B + 80000000) d2 S' T :=
  ⟨⟨mf.Cl c, mf.Cl (f.Cl h.1.2)⟩, ⟨mo, mf.Mo (f.Mo (by decide) h.2.1.2)⟩, w, h.2.2.2.mono (by omega) hB⟩
theorem gs_RR.mono {B : Int} {d : gs_D} {S T : gs_S} (h : gs_RR B d S T) (hB : B + 80000000 ≤ 1000000000000) : gs_RR (B + 80000000) d S T := ⟨h.1, h.2.1, h.2.2.1.mono (by omega) hB, h.2.2.2.mono (by omega) hB⟩
section RL
variable {B : Int} {d : gs_D} {S T : gs_S}
theorem l_issue (h : gs_RR B d S T) (hB : B + 80000000 ≤ 1000000000000) (a b c : Int32) : ∃ (v : Int32) (d1 d2 : gs_D) (S2 T2 : gs_S), f_G_issue [gs_r 0 0, gs_i a, gs_i b, gs_i c] d = some (some (gs_i v), d1) ∧ f_M_issue [gs_r 20 0, gs_i a, gs_i b, gs_i c] d1 = some (some (gs_i v), d2) ∧ gs_RR (B + 80000000) d2 S2 T2 := by
  have ra := gs_n_rg a
  have rb := gs_n_rg b
  have rc := gs_n_rg c
  obtain ⟨d1, e1, c1, f⟩ := s_G_issue h.1.1 h.2.2.1.1 ra.1 ra.2 rb.1 rb.2 rc.1 rc.2
  obtain ⟨d2, e2, c2, mf⟩ := s_M_issue (f.Mo (by decide) h.2.1.1) h.2.2.1.1 ra.1 ra.2 rb.1 rb.2 rc.1 rc.2
  simp only [gs_n_of] at e1 e2
  exact ⟨_, d1, d2, _, _, e1, e2, h.st c1 f c2 mf (o_issue_wf h.2.2.1 hB _ _ _) hB⟩
theorem l_terms (h : gs_RR B d S T) (hB : B + 80000000 ≤ 1000000000000) (a b c : Int32) : ∃ (v : Int32) (d1 d2 : gs_D) (S2 T2 : gs_S), f_G_terms [gs_r 0 0, gs_i a, gs_i b, gs_i c] d = some (some (gs_i v), d1) ∧ f_M_terms [gs_r 20 0, gs_i a, gs_i b, gs_i c] d1 = some (some (gs_i v), d2) ∧ gs_RR (B + 80000000) d2 S2 T2 := by
  have ra := gs_n_rg a
  have rb := gs_n_rg b
  have rc := gs_n_rg c
  obtain ⟨d1, e1, c1, f⟩ := s_G_terms h.1.1 h.2.2.1.1 ra.1 ra.2 rb.1 rb.2 rc.1 rc.2
  obtain ⟨d2, e2, c2, mf⟩ := s_M_terms (f.Mo (by decide) h.2.1.1) h.2.2.1.1 h.2.2.1.2.2.1 ra.1 ra.2 rb.1 rb.2 rc.1 rc.2
  simp only [gs_n_of] at e1 e2
  exact ⟨_, d1, d2, _, _, e1, e2, h.st c1 f c2 mf (o_terms_wf h.2.2.1 hB _ _ _) hB⟩
theorem l_pledge (h : gs_RR B d S T) (hB : B + 80000000 ≤ 1000000000000) (a b c : Int32) : ∃ (v : Int32) (d1 d2 : gs_D) (S2 T2 : gs_S), f_G_pledge [gs_r 0 0, gs_i a, gs_i b, gs_i c] d = some (some (gs_i v), d1) ∧ f_M_pledge [gs_r 20 0, gs_i a, gs_i b, gs_i c] d1 = some (some (gs_i v), d2) ∧ gs_RR (B + 80000000) d2 S2 T2 := by
  have ra := gs_n_rg a
  have rb := gs_n_rg b
  have rc := gs_n_rg c
  obtain ⟨d1, e1, c1, f⟩ := s_G_pledge h.1.1 h.2.2.1.1 h.2.2.1.2.1 (by omega) ra.1 ra.2 rb.1 rb.2 rc.1 rc.2
  obtain ⟨d2, e2, c2, mf⟩ := s_M_pledge (f.Mo (by decide) h.2.1.1) h.2.2.1.1 h.2.2.1.2.1 hB ra.1 ra.2 rb.1 rb.2 rc.1 rc.2
  simp only [gs_n_of] at e1 e2
  exact ⟨_, d1, d2, _, _, e1, e2, h.st c1 f c2 mf (o_pledge_wf h.2.2.1 hB _ _ _) hB⟩
theorem l_release (h : gs_RR B d S T) (hB : B + 80000000 ≤ 1000000000000) (a b c : Int32) : ∃ (v : Int32) (d1 d2 : gs_D) (S2 T2 : gs_S), f_G_release [gs_r 0 0, gs_i a, gs_i b, gs_i c] d = some (some (gs_i v), d1) ∧ f_M_release [gs_r 20 0, gs_i a, gs_i b, gs_i c] d1 = some (some (gs_i v), d2) ∧ gs_RR (B + 80000000) d2 S2 T2 := by
  have ra := gs_n_rg a
  have rb := gs_n_rg b
  have rc := gs_n_rg c
  obtain ⟨d1, e1, c1, f⟩ := s_G_release h.1.1 h.2.2.1.1 h.2.2.1.2.1 (by omega) ra.1 ra.2 rb.1 rb.2 rc.1 rc.2
  obtain ⟨d2, e2, c2, mf⟩ := s_M_release (f.Mo (by decide) h.2.1.1) h.2.2.1.1 h.2.2.1.2.1 hB ra.1 ra.2 rb.1 rb.2 rc.1 rc.2
  simp only [gs_n_of] at e1 e2
  exact ⟨_, d1, d2, _, _, e1, e2, h.st c1 f c2 mf (o_release_wf h.2.2.1 hB _ _ _) hB⟩
theorem l_limit (h : gs_RR B d S T) (hB : B + 80000000 ≤ 1000000000000) (a b c : Int32) : ∃ (v : Int32) (d1 d2 : gs_D) (S2 T2 : gs_S), f_G_limit [gs_r 0 0, gs_i a, gs_i b, gs_i c] d = some (some (gs_i v), d1) ∧ f_M_limit [gs_r 20 0, gs_i a, gs_i b, gs_i c] d1 = some (some (gs_i v), d2) ∧ gs_RR (B + 80000000) d2 S2 T2 := by
  have ra := gs_n_rg a
  have rb := gs_n_rg b
  have rc := gs_n_rg c
  obtain ⟨d1, e1, c1, f⟩ := s_G_limit h.1.1 h.2.2.1.1 h.2.2.1.2.1 (by omega) ra.1 ra.2 rb.1 rb.2 rc.1 rc.2
  obtain ⟨d2, e2, c2, mf⟩ := s_M_limit (f.Mo (by decide) h.2.1.1) h.2.2.1.1 h.2.2.1.2.1 hB ra.1 ra.2 rb.1 rb.2 rc.1 rc.2
  simp only [gs_n_of] at e1 e2
  exact ⟨_, d1, d2, _, _, e1, e2, h.st c1 f c2 mf (o_limit_wf h.2.2.1 hB _ _ _) hB⟩
theorem l_pay (h : gs_RR B d S T) (hB : B + 80000000 ≤ 1000000000000) (a b c x : Int32) : ∃ (v : Int32) (d1 d2 : gs_D) (S2 T2 : gs_S), f_G_pay [gs_r 0 0, gs_i a, gs_i b, gs_i c, gs_i x] d = some (some (gs_i v), d1) ∧ f_M_pay [gs_r 20 0, gs_i a, gs_i b, gs_i c, gs_i x] d1 = some (some (gs_i v), d2) ∧ gs_RR (B + 80000000) d2 S2 T2 := by
  have ra := gs_n_rg a
  have rb := gs_n_rg b
  have rc := gs_n_rg c
  have rx := gs_n_rg x
  obtain ⟨d1, e1, c1, f⟩ := s_G_pay h.1.1 h.2.2.1.1 h.2.2.1.2.1 (by omega) ra.1 ra.2 rb.1 rb.2 rc.1 rc.2 rx.1 rx.2
  obtain ⟨d2, e2, c2, mf⟩ := s_M_pay (f.Mo (by decide) h.2.1.1) h.2.2.1.1 h.2.2.1.2.1 hB (gs_hv_a h.1.1 h.2.2.1.1 h.2.2.1.2.1) ra.1 ra.2 rb.1 rb.2 rc.1 rc.2 rx.1 rx.2
  simp only [gs_n_of] at e1 e2
  exact ⟨_, d1, d2, _, _, e1, e2, h.st c1 f c2 mf (o_pay_wf h.1.1 h.2.2.1 hB _ _ _ _) hB⟩
theorem l_deliver (h : gs_RR B d S T) (hB : B + 80000000 ≤ 1000000000000) (a b c x : Int32) : ∃ (v : Int32) (d1 d2 : gs_D) (S2 T2 : gs_S), f_G_deliver [gs_r 0 0, gs_i a, gs_i b, gs_i c, gs_i x] d = some (some (gs_i v), d1) ∧ f_M_deliver [gs_r 20 0, gs_i a, gs_i b, gs_i c, gs_i x] d1 = some (some (gs_i v), d2) ∧ gs_RR (B + 80000000) d2 S2 T2 := by
  have ra := gs_n_rg a
  have rb := gs_n_rg b
  have rc := gs_n_rg c
  have rx := gs_n_rg x
  obtain ⟨d1, e1, c1, f⟩ := s_G_deliver h.1.1 h.2.2.1.1 h.2.2.1.2.1 (by omega) ra.1 ra.2 rb.1 rb.2 rc.1 rc.2 rx.1 rx.2
  obtain ⟨d2, e2, c2, mf⟩ := s_M_deliver (f.Mo (by decide) h.2.1.1) h.2.2.1.1 h.2.2.1.2.1 hB (gs_hv_a h.1.1 h.2.2.1.1 h.2.2.1.2.1) ra.1 ra.2 rb.1 rb.2 rc.1 rc.2 rx.1 rx.2
  simp only [gs_n_of] at e1 e2
  exact ⟨_, d1, d2, _, _, e1, e2, h.st c1 f c2 mf (o_deliver_wf h.1.1 h.2.2.1 hB _ _ _ _) hB⟩
theorem l_exchange (h : gs_RR B d S T) (hB : B + 80000000 ≤ 1000000000000) (a b c x y : Int32) : ∃ (v : Int32) (d1 d2 : gs_D) (S2 T2 : gs_S), f_G_exchange [gs_r 0 0, gs_i a, gs_i b, gs_i c, gs_i x, gs_i y] d = some (some (gs_i v), d1) ∧ f_M_exchange [gs_r 20 0, gs_i a, gs_i b, gs_i c, gs_i x, gs_i y] d1 = some (some (gs_i v), d2) ∧ gs_RR (B + 80000000) d2 S2 T2 := by
  have ra := gs_n_rg a
  have rb := gs_n_rg b
  have rc := gs_n_rg c
  have rx := gs_n_rg x
  have ry := gs_n_rg y
  obtain ⟨d1, e1, c1, f⟩ := s_G_exchange h.1.1 h.2.2.1.1 h.2.2.1.2.1 (by omega) ra.1 ra.2 rb.1 rb.2 rc.1 rc.2 rx.1 rx.2 ry.1 ry.2
  obtain ⟨d2, e2, c2, mf⟩ := s_M_exchange (f.Mo (by decide) h.2.1.1) h.2.2.1.1 h.2.2.1.2.1 hB (gs_hv_a h.1.1 h.2.2.1.1 h.2.2.1.2.1) ra.1 ra.2 rb.1 rb.2 rc.1 rc.2 rx.1 rx.2 ry.1 ry.2
  simp only [gs_n_of] at e1 e2
  exact ⟨_, d1, d2, _, _, e1, e2, h.st c1 f c2 mf (o_exchange_wf h.1.1 h.2.2.1 hB _ _ _ _ _) hB⟩
theorem l_cancel (h : gs_RR B d S T) (hB : B + 80000000 ≤ 1000000000000) (a : Int32) : ∃ (v : Int32) (d1 d2 : gs_D) (S2 T2 : gs_S), f_G_cancel [gs_r 0 0, gs_i a] d = some (some (gs_i v), d1) ∧ f_M_cancel [gs_r 20 0, gs_i a] d1 = some (some (gs_i v), d2) ∧ gs_RR (B + 80000000) d2 S2 T2 := by
  have ra := gs_n_rg a
  obtain ⟨d1, e1, c1, f⟩ := s_G_cancel h.1.1 h.2.2.1.1 h.2.2.1.2.1 (by omega) ra.1 ra.2
  obtain ⟨d2, e2, c2, mf⟩ := s_M_cancel (f.Mo (by decide) h.2.1.1) h.2.2.1.1 h.2.2.1.2.1 hB (gs_hv_c h.2.2.1.1 h.2.2.1.2.1) ra.1 ra.2
  simp only [gs_n_of] at e1 e2
  exact ⟨_, d1, d2, _, _, e1, e2, h.st c1 f c2 mf (o_cancel_wf h.2.2.1 hB _) hB⟩
theorem l_prefer (h : gs_RR B d S T) (hB : B + 80000000 ≤ 1000000000000) (a b : Int32) : ∃ (v : Int32) (d1 d2 : gs_D) (S2 T2 : gs_S), f_G_prefer [gs_r 0 0, gs_i a, gs_i b] d = some (some (gs_i v), d1) ∧ f_M_prefer [gs_r 20 0, gs_i a, gs_i b] d1 = some (some (gs_i v), d2) ∧ gs_RR (B + 80000000) d2 S2 T2 := by
  have ra := gs_n_rg a
  have rb := gs_n_rg b
  obtain ⟨d1, e1, c1, f⟩ := s_G_prefer h.1.1 h.2.2.1.1 h.2.2.1.2.1 (by omega) ra.1 ra.2 rb.1 rb.2
  obtain ⟨d2, e2, c2, mf⟩ := s_M_prefer (f.Mo (by decide) h.2.1.1) h.2.2.1.1 hB (gs_hv_p h.1.1 h.2.2.1.1 h.2.2.1.2.1) ra.1 ra.2 rb.1 rb.2
  simp only [gs_n_of] at e1 e2
  exact ⟨_, d1, d2, _, _, e1, e2, h.st c1 f c2 mf (o_prefer_wf h.1.1 h.2.2.1 hB _ _) hB⟩
theorem l_resolve (h : gs_RR B d S T) (hB : B + 80000000 ≤ 1000000000000) : ∃ (v : Int32) (d1 d2 : gs_D) (S2 T2 : gs_S), f_G_resolve [gs_r 0 0] d = some (some (gs_i v), d1) ∧ f_M_resolve [gs_r 20 0] d1 = some (some (gs_i v), d2) ∧ gs_RR (B + 80000000) d2 S2 T2 := by
  obtain ⟨d1, e1, c1, f, -⟩ := s_G_resolve h.1.1 h.2.2.1.1 h.2.2.1.2.1 h.2.2.1.2.2.1 (by omega)
  obtain ⟨d2, e2, c2, mf⟩ := s_M_resolve (f.Mo (by decide) h.2.1.1) h.2.2.1.1 h.2.2.1.2.1 h.2.2.1.2.2.1 (by omega)
  exact ⟨_, d1, d2, _, _, e1, e2, h.st c1 f c2 mf (o_resolve_wf h.1.1 h.2.2.1 hB) hB⟩
theorem l_advance (h : gs_RR B d S T) (hB : B + 80000000 ≤ 1000000000000) : ∃ (v : Int32) (d1 d2 : gs_D) (S2 T2 : gs_S), f_G_advance [gs_r 0 0] d = some (some (gs_i v), d1) ∧ f_M_advance [gs_r 20 0] d1 = some (some (gs_i v), d2) ∧ gs_RR (B + 80000000) d2 S2 T2 := by
  obtain ⟨d1, e1, c1, f⟩ := s_G_advance h.1.1 h.2.2.1.1 h.2.2.1.2.1
  obtain ⟨d2, e2, c2, mf⟩ := s_M_advance (f.Mo (by decide) h.2.1.1) h.2.2.1.1
  exact ⟨_, d1, d2, _, _, e1, e2, h.st c1 f c2 mf (o_advance_wf h.2.2.1 hB) hB⟩
theorem l_position (h : gs_RR B d S T) (hB : B + 80000000 ≤ 1000000000000) (a b c : Int32) : ∃ (v : Int64) (d1 d2 : gs_D) (S2 T2 : gs_S), f_G_position [gs_r 0 0, gs_i a, gs_i b, gs_i c] d = some (some (gs_l v), d1) ∧ f_M_position [gs_r 20 0, gs_i a, gs_i b, gs_i c] d1 = some (some (gs_l v), d2) ∧ gs_RR (B + 80000000) d2 S2 T2 := by
  have ra := gs_n_rg a
  have rb := gs_n_rg b
  have rc := gs_n_rg c
  have e1 := s_G_position h.1.1 ra.1 ra.2 rb.1 rb.2 rc.1 rc.2
  have e2 := s_M_position h.2.1.1 h.2.2.1.1 h.2.2.1.2.2.2 ra.1 ra.2 rb.1 rb.2 rc.1 rc.2
  simp only [gs_n_of] at e1 e2
  exact ⟨_, d, d, _, _, e1, e2, h.mono hB⟩
theorem l_line (h : gs_RR B d S T) (hB : B + 80000000 ≤ 1000000000000) (a : Int32) : ∃ (v : Int64) (d1 d2 : gs_D) (S2 T2 : gs_S), f_G_line [gs_r 0 0, gs_i a] d = some (some (gs_l v), d1) ∧ f_M_line [gs_r 20 0, gs_i a] d1 = some (some (gs_l v), d2) ∧ gs_RR (B + 80000000) d2 S2 T2 := by
  have ra := gs_n_rg a
  have e1 := s_G_line h.1.1 h.2.2.1.1 ra.1 ra.2
  have e2 := s_M_line h.2.1.1 h.2.2.1.1 ra.1 ra.2
  simp only [gs_n_of] at e1 e2
  exact ⟨_, d, d, _, _, e1, e2, h.mono hB⟩
theorem l_net (h : gs_RR B d S T) (hB : B + 80000000 ≤ 1000000000000) (a b : Int32) : ∃ (v : Int64) (d1 d2 : gs_D) (S2 T2 : gs_S), f_G_net [gs_r 0 0, gs_i a, gs_i b] d = some (some (gs_l v), d1) ∧ f_M_net [gs_r 20 0, gs_i a, gs_i b] d1 = some (some (gs_l v), d2) ∧ gs_RR (B + 80000000) d2 S2 T2 := by
  have ra := gs_n_rg a
  have rb := gs_n_rg b
  have e1 := s_G_net h.1.1 ra.1 ra.2 rb.1 rb.2
  have e2 := s_M_net h.2.1.1 h.2.2.1.1 ra.1 ra.2 rb.1 rb.2
  simp only [gs_n_of] at e1 e2
  exact ⟨_, d, d, _, _, e1, e2, h.mono hB⟩
theorem l_status (h : gs_RR B d S T) (hB : B + 80000000 ≤ 1000000000000) (a : Int32) : ∃ (v : Int32) (d1 d2 : gs_D) (S2 T2 : gs_S), f_G_status [gs_r 0 0, gs_i a] d = some (some (gs_i v), d1) ∧ f_M_status [gs_r 20 0, gs_i a] d1 = some (some (gs_i v), d2) ∧ gs_RR (B + 80000000) d2 S2 T2 := by
  have ra := gs_n_rg a
  have e1 := s_G_status h.1.1 h.2.2.1.1 ra.1 ra.2
  have e2 := s_M_status h.2.1.1 h.2.2.1.1 ra.1 ra.2
  simp only [gs_n_of] at e1 e2
  exact ⟨_, d, d, _, _, e1, e2, h.mono hB⟩
theorem l_waiting (h : gs_RR B d S T) (hB : B + 80000000 ≤ 1000000000000) (a : Int32) : ∃ (v : Int32) (d1 d2 : gs_D) (S2 T2 : gs_S), f_G_waiting [gs_r 0 0, gs_i a] d = some (some (gs_i v), d1) ∧ f_M_waiting [gs_r 20 0, gs_i a] d1 = some (some (gs_i v), d2) ∧ gs_RR (B + 80000000) d2 S2 T2 := by
  have ra := gs_n_rg a
  have e1 := s_G_waiting h.1.1 h.2.2.1.1 h.2.2.1.2.1 ra.1 ra.2
  obtain ⟨d2, e2, c2, mf⟩ := s_M_waiting h.2.1.1 h.2.2.1.1 h.2.2.1.2.1 ra.1 ra.2
  simp only [gs_n_of] at e1 e2
  exact ⟨_, d, d2, _, _, e1, e2, h.st h.1.1 gs_fr.rf c2 mf (h.2.2.1.mono (by omega) hB) hB⟩
theorem l_behind (h : gs_RR B d S T) (hB : B + 80000000 ≤ 1000000000000) (a : Int32) : ∃ (v : Int32) (d1 d2 : gs_D) (S2 T2 : gs_S), f_G_behind [gs_r 0 0, gs_i a] d = some (some (gs_i v), d1) ∧ f_M_behind [gs_r 20 0, gs_i a] d1 = some (some (gs_i v), d2) ∧ gs_RR (B + 80000000) d2 S2 T2 := by
  have ra := gs_n_rg a
  have e1 := s_G_behind h.1.1 h.2.2.1.1 h.2.2.1.2.1 ra.1 ra.2
  obtain ⟨d2, e2, c2, mf⟩ := s_M_behind h.2.1.1 h.2.2.1.1 h.2.2.1.2.1 ra.1 ra.2
  simp only [gs_n_of] at e1 e2
  exact ⟨_, d, d2, _, _, e1, e2, h.st h.1.1 gs_fr.rf c2 mf (h.2.2.1.mono (by omega) hB) hB⟩
theorem l_sync (h : gs_RR B d S T) (hB : B + 80000000 ≤ 1000000000000) : ∃ (d1 d2 : gs_D) (S2 T2 : gs_S), f_G_sync [gs_r 0 0] d = some (none, d1) ∧ f_M_sync [gs_r 20 0] d1 = some (none, d2) ∧ gs_RR (B + 80000000) d2 S2 T2 := by
  obtain ⟨d1, e1, c1, c0, f⟩ := s_G_sync h.1.1 h.2.2.1.1 h.2.2.1.2.1.2
  have m1 : gs_Mo 21 d1 S := h.2.1.1.of (by rw [(f 21 (by decide)).2])
  obtain ⟨d2, e2, g1, g2, g3⟩ := s_M_sync m1
  have k6 := h.2.2.1.1.2.2.1.2.1
  refine ⟨d1, d2, S, S, e1, e2, ⟨c0.of (fun t _ => by rw [g2]) (fun t _ => g3 t (by omega)), c1.of (fun t _ => by rw [g2]) (fun t _ => g3 t (by omega))⟩, ⟨m1.of (by rw [g3 21 (by decide)]), fun n a b c => ?_⟩, h.2.2.1.mono (by omega) hB, h.2.2.1.mono (by omega) hB⟩
  rw [g1 n (by omega)]
  exact m1 n a b c
theorem l_crash (h : gs_RR B d S T) (hB : B + 80000000 ≤ 1000000000000) : ∃ (d1 d2 : gs_D) (S2 T2 : gs_S), f_G_crash [gs_r 0 0] d = some (none, d1) ∧ f_M_crash [gs_r 20 0] d1 = some (none, d2) ∧ gs_RR (B + 80000000) d2 S2 T2 := by
  obtain ⟨d1, e1, c0, c1, f⟩ := s_G_crash h.1.2 h.2.2.2.1 h.2.2.2.2.1.2
  have m2 : gs_Mo 22 d1 T := h.2.1.2.of (by rw [(f 22 (by decide)).2])
  obtain ⟨d2, e2, g1, g2, g3⟩ := s_M_crash (d := d1)
  have k6 := h.2.2.2.1.2.2.1.2.1
  refine ⟨d1, d2, T, T, e1, e2, ⟨c0.of (fun t _ => by rw [g2]) (fun t _ => g3 t (by omega)), c1.of (fun t _ => by rw [g2]) (fun t _ => g3 t (by omega))⟩, ⟨fun n a b c => ?_, m2.of (by rw [g3 22 (by decide)])⟩, h.2.2.2.mono (by omega) hB, h.2.2.2.mono (by omega) hB⟩
  rw [g1 n (by omega)]
  exact m2 n a b c
end RL
