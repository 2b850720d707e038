-- from the entry to the end
theorem d_L_0 : decode code 0 = .ok (.new 7, 3) := by decide +kernel
theorem d_L_3 : decode code 3 = .ok (.dup, 1) := by decide +kernel
theorem d_L_4 : decode code 4 = .ok (.invokespecial 9, 3) := by decide +kernel
theorem d_L_7 : decode code 7 = .ok (.astore_n 1, 1) := by decide +kernel
theorem d_L_8 : decode code 8 = .ok (.new 10, 3) := by decide +kernel
theorem d_L_11 : decode code 11 = .ok (.dup, 1) := by decide +kernel
theorem d_L_12 : decode code 12 = .ok (.invokespecial 12, 3) := by decide +kernel
theorem d_L_15 : decode code 15 = .ok (.astore_n 2, 1) := by decide +kernel
theorem gs_known {s : State} {args : Array Value} (htb : ∀ w ∈ gs_tb, w.before args s = true) : ∃ D : va_G, va_K D gs_CL [] s := by
  obtain ⟨c0, i0, k0⟩ := u_known (C := "GrossSettlement") (T := gs_T0) (N := 3) (n := 3) htb (gs_cls_ok (ci := 0) rfl).1 (htb _ (gs_ww 45 (by decide +kernel) rfl))
  obtain ⟨c1, i1, k1⟩ := u_known (C := "GrossSettlement$Book") (T := gs_T1) (N := 3) (n := 3) htb (gs_cls_ok (ci := 1) rfl).1 (htb _ (gs_ww 53 (by decide +kernel) rfl))
  obtain ⟨c2, i2, k2⟩ := u_known (C := "GrossSettlement$Accounts") (T := gs_T2) (N := 6) (n := 6) htb (gs_cls_ok (ci := 2) rfl).1 (htb _ (gs_ww 59 (by decide +kernel) rfl))
  obtain ⟨c3, i3, k3⟩ := u_known (C := "GrossSettlement$Queue") (T := gs_T3) (N := 4) (n := 4) htb (gs_cls_ok (ci := 3) rfl).1 (htb _ (gs_ww 90 (by decide +kernel) rfl))
  obtain ⟨c4, i4, k4⟩ := u_known (C := "GrossSettlement$Instruction") (T := gs_T4) (N := 7) (n := 7) htb (gs_cls_ok (ci := 4) rfl).1 (htb _ (gs_ww 97 (by decide +kernel) rfl))
  obtain ⟨c5, i5, k5⟩ := u_known (C := "GrossSettlementModel") (T := gs_T5) (N := 6) (n := 6) htb (gs_cls_ok (ci := 5) rfl).1 (htb _ (gs_ww 450 (by decide +kernel) rfl))
  refine ⟨(fun ci => match ci with | 0 => c0 | 1 => c1 | 2 => c2 | 3 => c3 | 4 => c4 | _ => c5, fun ci => match ci with | 0 => i0 | 1 => i1 | 2 => i2 | 3 => i3 | 4 => i4 | _ => i5), fun ci q hq => ?_, fun k q hk => by cases hk⟩
  rcases ci with _ | _ | _ | _ | _ | _ | ci
  · cases hq
    exact k0
  · cases hq
    exact k1
  · cases hq
    exact k2
  · cases hq
    exact k3
  · cases hq
    exact k4
  · cases hq
    exact k5
  · cases hq
set_option maxHeartbeats 4000000 in
theorem whole_start {p : Program} {e : Env} {s : State} {m : MethodId} {below : List Frame} {meth : Method} {c : Code} (l : Launch) {b L : Nat} {xs : Nat → Int32} (hL : L ≤ 3072) (C0 : lw_At p s m meth c b L xs) : W p l e room_1 s m #[Value.ref b] below meth c s.heap [] 0 0 (lw_Z below #[Value.ref b] s) (entryFrame m ([Value.ref b] : List Value).toArray 4) := by
  obtain ⟨hx, hb, hr, hml, hown, hts, hX, hbl, hlocks, hgv⟩ := C0
  have hown : s.vm.findClass "GrossSettlementLaw" = some m.cls := hown
  have htb : ∀ w ∈ gs_tb, w.before #[Value.ref b] s = true := fun w h => hts w (List.mem_filter.mp h).1
  have hnw : ∀ w ∈ gs_NW, va_Nw w s := fun w h => va_Nw.of (gs_isN_t (gs_hN w h)) (hts w (List.mem_filter.mp h).1)
  have hao : va_AO "GrossSettlement$Instruction" s := va_AO.of (hts _ (List.mem_of_getElem? (i := 96) (by decide +kernel)))
  obtain ⟨D, hK⟩ := gs_known htb
  have hl := lv_entry ([.ref b]) (n := 4) (by show 1 ≤ 4; decide)
  rw [lg_entry_eq]
  generalize (lg_sl ([.ref b]) ++ List.replicate (4 - (lg_sl ([.ref b])).length) Slot.unset).toArray = ls at hl ⊢
  have hl : lv_has ls 4 [(0, .ref b)] := hl
  have hA : ∀ q : Nat, s.heap.size ≤ q → s.heap.size ≤ q := fun q h => h
  have hS : va_S (fun q => s.heap.size ≤ q) s.heap s.heap [] := va_S.rf
  have hP : va_P D gs_CL [] s.heap := fun k q hk => by cases hk
  have hD : va_D (fun q => s.heap.size ≤ q) [] := ⟨fun i j p q hi => (by cases hi), fun k q hk => (by cases hk)⟩
  refine gs_newc (A := fun q => s.heap.size ≤ q) (y := y_Gi) hx hb hml hown htb hnw hao hl.1 hK hP hD hS hA (n_G l) rfl b_Gi (ci := 0) rfl (gs_ww 44 (by decide +kernel) rfl) (gs_ww 45 (by decide +kernel) rfl) (gs_ww 37 (by decide +kernel) rfl) (Or.inl (gs_ww 46 (by decide +kernel) rfl)) (gs_ww 47 (by decide +kernel) rfl) ⟨rfl, by decide, by decide, by decide +kernel⟩ ⟨by decide, by decide⟩ (by decide) (by decide) (Nat.le_of_ble_eq_true rfl) d_L_0 d_L_3 d_L_4 (fun qg u H locs hK hP hD hS => ?_)
  refine lv_astore_n hx hb d_L_7 rfl hl (by decide) rfl (fun ls hl => ?_)
  have hl : lv_has ls 4 [(1, .ref qg), (0, .ref b)] := hl
  refine gs_newc (A := fun q => s.heap.size ≤ q) (y := y_Mi) hx hb hml hown htb hnw hao hl.1 hK hP hD hS hA (n_M l) rfl b_Mi (ci := 5) rfl (gs_ww 449 (by decide +kernel) rfl) (gs_ww 450 (by decide +kernel) rfl) (gs_ww 42 (by decide +kernel) rfl) (Or.inl (gs_ww 451 (by decide +kernel) rfl)) (gs_ww 452 (by decide +kernel) rfl) ⟨rfl, by decide, by decide, by decide +kernel⟩ ⟨by decide, by decide⟩ (by decide) (by decide) (Nat.le_of_ble_eq_true rfl) d_L_8 d_L_11 d_L_12 (fun qm um H locs hK hP hD hS => ?_)
  refine lv_astore_n hx hb d_L_15 rfl hl (by decide) rfl (fun ls hl => ?_)
  have hl : lv_has ls 4 [(2, .ref qm), (1, .ref qg), (0, .ref b)] := hl
  have hK : va_K D gs_CL (t_G u ++ t_M um) s := hK
  have hP : va_P D gs_CL (w_G qg u ++ w_M qm um) H := hP
  have hD : va_D (fun q => s.heap.size ≤ q) (w_G qg u ++ w_M qm um) := hD
  refine W.widen (k := 600000) (n := 7302250) (by decide) (by decide) ?_
  obtain ⟨hP, hD⟩ := gs_world D qg u qm um b hP hD
  replace hK := gs_worldK D u um hK
  obtain ⟨d1, h1⟩ := lw_all (xs := xs) hL gs_RR0
  obtain ⟨n, hn⟩ := gs_g_iff.mp h1
  have e1 : gs_n 1 = (1 : Int32) := by decide
  rw [e1] at hn
  have hB : gs_B (Y1 L xs) (gs_cA u um) (gs_adr qg u qm um b) D gs_CL gs_RL gs_pr1 (fun q => s.heap.size ≤ q) s.heap 4 [some (gs_r 30 0), some (gs_r 0 0), some (gs_r 20 0), none] gs_d0 ls H locs := by
    refine ⟨⟨_, hl, rfl, fun i v hv => ?_⟩, fun i v hv => ?_, by rw [gs_W_Y1]; exact hP, by rw [gs_W_Y1]; exact hD, hS⟩
    · rcases i with _ | _ | _ | _ | i
      · cases hv
        exact List.mem_of_getElem? (i := 2) rfl
      · cases hv
        exact List.mem_of_getElem? (i := 1) rfl
      · cases hv
        exact List.mem_of_getElem? (i := 0) rfl
      · cases hv
      · cases hv
    · rcases i with _ | _ | _ | _ | i
      · cases hv
        exact rfl
      · cases hv
        exact rfl
      · cases hv
        exact rfl
      · cases hv
      · cases hv
  refine gs_sound (Ts := lw_tbl) (Y := Y1 L xs) (P := P_L_law) (cA := gs_cA u um) (ad := gs_adr qg u qm um b) (pr := gs_pr1) (RL := gs_RL) (A := fun q => s.heap.size ≤ q) hx hb hown hts hK (gs_lay1 _ L xs) m_L_law (fun x n f hlk => ?_) (fun x n cr f hcr hlk => ?_) (fun t i h hk => ?_) (fun pc i tg st lo ls H locs hi hret hB hst => ?_) n 16 _ [] gs_d0 ls H locs hn hB (fun _ h => by cases h)
  · obtain ⟨f0, -, h9, -⟩ := q_L_law l _ (gs_lk_mem (show gs_lk C_L_law x = some _ from hlk))
    exact absurd (show (1000 : Nat) ≤ 999 from h9) (by decide)
  · obtain ⟨f0, e2, -, hv⟩ := q_L_law l _ (gs_lk_mem (show gs_lk C_L_law x = some _ from hlk))
    have e2 : f = gs_wr f0 := e2
    subst e2
    exact gs_co_L hx hb hml hown hts hK hnw hA ⟨by decide, by decide⟩ hv
  · unfold gs_pr1 at h
    rw [Bool.or_eq_true, Bool.and_eq_true] at h
    cases hb : Nat.beq t 30
    · rw [Y1_f hb] at hk
      exact absurd hk (Y0_5 t)
    · have e3 : t = 30 := Nat.eq_of_beq_eq_true hb
      subst e3
      have e4 : i = 0 := by
        rcases h with h | ⟨-, h⟩
        · exact absurd (Nat.le_of_ble_eq_true (show Nat.ble (i + 1) 0 = true from h)) (by omega)
        · exact Nat.eq_of_beq_eq_true h
      subst e4
      exact ⟨hX, hbl, Nat.not_le_of_lt hbl⟩
  · obtain ⟨len, hd, hln, -⟩ := m_L_law.1 pc i tg hi
    have hfr : ∀ q ∈ locs, s.heap.size ≤ q.base := hB.2.2.2.2.2.2
    unfold gs_ret at hret
    split at hret
    · split at hret
      · cases hret
      · cases hret
    · split at hret
      · cases hret
        cases hln 1 rfl
        exact va_forget hfr (lw_ret hx hb hr hlocks hd)
      · cases hret
    · split at hret
      · cases hret
      · cases hret
    · split at hret
      · cases hret
      · cases hret
    · cases hret
