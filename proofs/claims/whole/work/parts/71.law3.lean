-- the law's steps
def gs_pr1 (t i : Nat) : Bool := gs_pr t i || (Nat.beq t 30 && Nat.beq i 0)
section Y1S
variable {L : Nat} {xs : Nat → Int32} {t i : Nat}
theorem Y1_f (h : Nat.beq t 30 = false) : (Y1 L xs).1 t = Y0.1 t := by
  show (match Nat.beq t 30 with
    | true => (5, 0, L)
    | false => Y0.1 t) = Y0.1 t
  rw [h]
theorem Y1_n (h : ((Y1 L xs).1 t).1 ≠ 5) : (Y1 L xs).1 t = Y0.1 t := by
  cases hb : Nat.beq t 30
  · exact Y1_f hb
  · have e : t = 30 := Nat.eq_of_beq_eq_true hb
    subst e
    exact absurd rfl h
theorem gs_pr1_n (h : gs_pr1 t i = true) (hk : ((Y1 L xs).1 t).1 ≠ 5) : gs_pr t i = true := by
  unfold gs_pr1 at h
  rw [Bool.or_eq_true, Bool.and_eq_true] at h
  rcases h with h | ⟨h, -⟩
  · exact h
  · have e : t = 30 := Nat.eq_of_beq_eq_true h
    subst e
    exact absurd rfl hk
theorem gs_pr1_of (h : gs_pr t i = true) : gs_pr1 t i = true := by
  unfold gs_pr1
  rw [h]
  rfl
theorem gs_ok1 {v : gs_V} (h : gs_ok gs_pr v) : gs_ok gs_pr1 v := by
  rcases v with x | x | q
  · trivial
  · trivial
  · exact gs_pr1_of h
theorem gs_cont_Y1 {cA : Nat → Nat → ClassId} {ad : Nat → Nat → Nat} {d : gs_D} (h : ((Y1 L xs).1 t).1 ≠ 5) : gs_cont (Y1 L xs) cA ad d t i = gs_cont Y0 cA ad d t i := by
  have e := Y1_n h
  unfold gs_cont
  rw [e]
  rfl
theorem gs_W_Y1 {cA : Nat → Nat → ClassId} {ad : Nat → Nat → Nat} {d : gs_D} : gs_W (Y1 L xs) cA ad d gs_RL = gs_W Y0 cA ad d gs_RL := by
  have h30 : gs_RL.all (fun q => !(Nat.beq q.1 30)) = true := by decide +kernel
  unfold gs_W
  refine List.map_congr_left fun q hq => ?_
  have h1 : (!(Nat.beq q.1 30)) = true := List.all_eq_true.mp h30 q hq
  have hb : Nat.beq q.1 30 = false := by
    cases hb : Nat.beq q.1 30
    · rfl
    · rw [hb] at h1
      cases h1
  have hn : ((Y1 L xs).1 q.1).1 ≠ 5 := by
    rw [Y1_f hb]
    exact Y0_5 q.1
  show (ad q.1 q.2, gs_cont (Y1 L xs) cA ad d q.1 q.2) = (ad q.1 q.2, gs_cont Y0 cA ad d q.1 q.2)
  rw [gs_cont_Y1 hn]
end Y1S
theorem gs_lay1 (cA : Nat → Nat → ClassId) (L : Nat) (xs : Nat → Int32) : gs_lay (Y1 L xs) cA gs_RL gs_pr1 gs_CL (gs_T cA gs_RL gs_TL) lw_tbl := by
  obtain ⟨⟨a1, a2⟩, ⟨b1, b2, b3, b4⟩, ⟨c1, c2⟩, e1, e2⟩ := gs_lay0 cA (Ts := lw_tbl) (fun w h => (List.mem_filter.mp h).1)
  refine ⟨⟨fun t i h hk => gs_RL_pr (gs_pr1_n h hk), a2⟩, ⟨fun t i h hk => ?_, fun t i h hk => ?_, fun t i h hk => ?_, fun t i h hk => ?_⟩, ⟨fun t i k h hk hl => ?_, fun d t i k h hk hl => ?_⟩, e1, fun t C T N f hk hc hf => ?_⟩
  · have n : ((Y1 L xs).1 t).1 ≠ 5 := by rw [hk]; decide
    exact b1 t i (gs_pr1_n h n) (by rw [← Y1_n n]; exact hk)
  · have n : ((Y1 L xs).1 t).1 ≠ 5 := by rw [hk]; decide
    exact b2 t i (gs_pr1_n h n) (by rw [← Y1_n n]; exact hk)
  · have n : ((Y1 L xs).1 t).1 ≠ 5 := by rw [hk]; decide
    exact b3 t i (gs_pr1_n h n) (by rw [← Y1_n n]; exact hk)
  · have n : ((Y1 L xs).1 t).1 ≠ 5 := by rw [hk]; decide
    exact b4 t i (gs_pr1_n h n) (by rw [← Y1_n n]; exact hk)
  · have n : ((Y1 L xs).1 t).1 ≠ 5 := by rw [hk]; decide
    exact gs_pr1_of (c1 t i k (gs_pr1_n h n) (by rw [← Y1_n n]; exact hk) (by rw [← Y1_n n]; exact hl))
  · have n : ((Y1 L xs).1 t).1 ≠ 5 := by rw [hk]; decide
    exact gs_ok1 (c2 d t i k (gs_pr1_n h n) (by rw [← Y1_n n]; exact hk) (by rw [← Y1_n n]; exact hl))
  · have n : ((Y1 L xs).1 t).1 ≠ 5 := by rw [hk]; decide
    exact e2 t C T N f (by rw [← Y1_n n]; exact hk) (by rw [← Y1_n n]; exact hc) (by rw [← Y1_n n]; exact hf)
theorem gs_goodL {y : MethodName} {b : ByteArray} {n : Nat} {r : Option FieldType} (h : Cond.code y b n r ∈ lw_tbl) : GoodIn lw_tbl (Cond.code y b n r :: gs_tb) := by
  intro w hw
  rcases List.mem_cons.mp hw with e | e
  · rw [e]
    exact ⟨h, Or.inl rfl⟩
  · exact ⟨(List.mem_filter.mp e).1, good_of_word (List.mem_filter.mp e).2⟩
section CO
variable {p : Program} {l : Launch} {e : Env} {R : Room} {s : State} {m : MethodId} {args : Array Value} {below : List Frame} {meth : Method} {c : Code} {cells slots : Nat} {Q : State → Prop} {cc : ByteArray} {nL : Nat} {own : String} {D : va_G} {A : Nat → Prop} {cA : Nat → Nat → ClassId} {ad : Nat → Nat → Nat} {L : Nat} {xs : Nat → Int32}
theorem gs_co_L (hx : p.tables.exec = Jvm.exec) (hb : c.code = cc) (hml : c.maxLocals = nL) (hown : s.vm.findClass own = some m.cls) (hts : ∀ w ∈ lw_tbl, w.before args s = true) (hK : va_K D gs_CL (gs_T cA gs_RL gs_TL) s) (hnw : ∀ w ∈ gs_NW, va_Nw w s) (hA : ∀ q, s.heap.size ≤ q → A q) (hcl : cells ≤ R.cells ∧ slots ≤ R.slots) {x n cr : Nat} {f : gs_F} (h : gs_vc l Y0 gs_RL gs_pr gs_CL gs_TL gs_NW lw_tbl own R x n cr f) :
    gs_co p l e R s m args below meth c cells slots Q (Y1 L xs) cA ad D gs_CL gs_RL gs_pr1 A nL cc (.invokevirtual x) (gs_wr f) (gs_gv (Y1 L xs) n cr) := by
  intro pc ls H locs lo d av rest r d' hdc hB hav hgd hsum hf kk
  obtain ⟨hrel, hokl, hP, hD, hS⟩ := hB
  obtain ⟨h1, h2⟩ := gs_b_v hf
  have hav0 : gs_oks gs_pr av := fun v hv => by
    have h3 := List.all_eq_true.mp h1 v hv
    rcases v with x | x | q
    · trivial
    · trivial
    · exact h3
  have hgd0 : gs_gv Y0 n cr av := by
    obtain ⟨t, i, av', e1, e2, e3, e4⟩ := hgd
    have hn : ((Y1 L xs).1 t).1 ≠ 5 := by rw [e2]; decide
    exact ⟨t, i, av', e1, by rw [← Y1_n hn]; exact e2, by rw [← Y1_n hn]; exact e3, e4⟩
  have hno : ∀ (i : Nat) (v : gs_V), (List.replicate nL (none : Option gs_V)).getD i none = some v → False := fun i v hv => by
    rw [List.getD_eq_getElem?_getD, List.getElem?_replicate] at hv
    split at hv <;> cases hv
  have hrel0 : gs_rel ad ls nL (List.replicate nL none) := by
    obtain ⟨lv, g1, -, -⟩ := hrel
    exact ⟨lv, g1, List.length_replicate, fun i v hv => (hno i v hv).elim⟩
  refine gs_co_V hx hb hml hown hts hK gs_hN hnw hA hcl (fun t i h _ => gs_RL_pr h) h pc ls H locs (List.replicate nL none) d av rest r d' hdc ⟨hrel0, fun i v hv => (hno i v hv).elim, ?_, ?_, hS⟩ hav0 hgd0 hsum h2 (fun H' locs' hok hB' => kk H' locs' (fun v hv => gs_ok1 (hok v hv)) ⟨hrel, hokl, ?_, ?_, hB'.2.2.2.2⟩)
  · rw [← gs_W_Y1 (L := L) (xs := xs)]
    exact hP
  · rw [← gs_W_Y1 (L := L) (xs := xs)]
    exact hD
  · rw [gs_W_Y1]
    exact hB'.2.2.1
  · rw [gs_W_Y1]
    exact hB'.2.2.2.1
end CO
def gs_vL (l : Launch) (e : Nat × Nat × Nat × gs_F) : Prop := ∃ f, e.2.2.2 = gs_wr f ∧ e.2.2.1 ≤ 999 ∧ gs_vc l Y0 gs_RL gs_pr gs_CL gs_TL gs_NW lw_tbl "GrossSettlementLaw" room_1 e.1 e.2.1 e.2.2.1 f
theorem v_L_13 (l : Launch) : gs_vL l (13, 3, 0, gs_wr f_G_issue) := ⟨f_G_issue, rfl, by decide, y_G_issue, w_G_issue, gs_tb, r_G_issue, _, _, _, C_G_issue_ok l, gs_goodL (List.mem_of_getElem? (i := 180) (by decide +kernel)), rfl, ⟨rfl, rfl⟩, ⟨by decide, by decide⟩, Or.inl (List.mem_of_getElem? (i := 177) (by decide +kernel)), ⟨(List.mem_of_getElem? (i := 178) (by decide +kernel)), (List.mem_of_getElem? (i := 179) (by decide +kernel))⟩, (List.mem_of_getElem? (i := 37) (by decide +kernel)), ⟨by decide, by decide, by decide +kernel⟩, _, _, rfl⟩
theorem v_L_17 (l : Launch) : gs_vL l (17, 3, 5, gs_wr f_M_issue) := ⟨f_M_issue, rfl, by decide, y_M_issue, w_M_issue, gs_tb, r_M_issue, _, _, _, C_M_issue_ok l, gs_goodL (List.mem_of_getElem? (i := 478) (by decide +kernel)), rfl, ⟨rfl, rfl⟩, ⟨by decide, by decide⟩, Or.inl (List.mem_of_getElem? (i := 475) (by decide +kernel)), ⟨(List.mem_of_getElem? (i := 476) (by decide +kernel)), (List.mem_of_getElem? (i := 477) (by decide +kernel))⟩, (List.mem_of_getElem? (i := 42) (by decide +kernel)), ⟨by decide, by decide, by decide +kernel⟩, _, _, rfl⟩
theorem v_L_18 (l : Launch) : gs_vL l (18, 3, 0, gs_wr f_G_terms) := ⟨f_G_terms, rfl, by decide, y_G_terms, w_G_terms, gs_tb, r_G_terms, _, _, _, C_G_terms_ok l, gs_goodL (List.mem_of_getElem? (i := 197) (by decide +kernel)), rfl, ⟨rfl, rfl⟩, ⟨by decide, by decide⟩, Or.inl (List.mem_of_getElem? (i := 194) (by decide +kernel)), ⟨(List.mem_of_getElem? (i := 195) (by decide +kernel)), (List.mem_of_getElem? (i := 196) (by decide +kernel))⟩, (List.mem_of_getElem? (i := 37) (by decide +kernel)), ⟨by decide, by decide, by decide +kernel⟩, _, _, rfl⟩
theorem v_L_21 (l : Launch) : gs_vL l (21, 3, 5, gs_wr f_M_terms) := ⟨f_M_terms, rfl, by decide, y_M_terms, w_M_terms, gs_tb, r_M_terms, _, _, _, C_M_terms_ok l, gs_goodL (List.mem_of_getElem? (i := 493) (by decide +kernel)), rfl, ⟨rfl, rfl⟩, ⟨by decide, by decide⟩, Or.inl (List.mem_of_getElem? (i := 490) (by decide +kernel)), ⟨(List.mem_of_getElem? (i := 491) (by decide +kernel)), (List.mem_of_getElem? (i := 492) (by decide +kernel))⟩, (List.mem_of_getElem? (i := 42) (by decide +kernel)), ⟨by decide, by decide, by decide +kernel⟩, _, _, rfl⟩
theorem v_L_22 (l : Launch) : gs_vL l (22, 3, 0, gs_wr f_G_pledge) := ⟨f_G_pledge, rfl, by decide, y_G_pledge, w_G_pledge, gs_tb, r_G_pledge, _, _, _, C_G_pledge_ok l, gs_goodL (List.mem_of_getElem? (i := 222) (by decide +kernel)), rfl, ⟨rfl, rfl⟩, ⟨by decide, by decide⟩, Or.inl (List.mem_of_getElem? (i := 219) (by decide +kernel)), ⟨(List.mem_of_getElem? (i := 220) (by decide +kernel)), (List.mem_of_getElem? (i := 221) (by decide +kernel))⟩, (List.mem_of_getElem? (i := 37) (by decide +kernel)), ⟨by decide, by decide, by decide +kernel⟩, _, _, rfl⟩
theorem v_L_26 (l : Launch) : gs_vL l (26, 3, 5, gs_wr f_M_pledge) := ⟨f_M_pledge, rfl, by decide, y_M_pledge, w_M_pledge, gs_tb, r_M_pledge, _, _, _, C_M_pledge_ok l, gs_goodL (List.mem_of_getElem? (i := 513) (by decide +kernel)), rfl, ⟨rfl, rfl⟩, ⟨by decide, by decide⟩, Or.inl (List.mem_of_getElem? (i := 510) (by decide +kernel)), ⟨(List.mem_of_getElem? (i := 511) (by decide +kernel)), (List.mem_of_getElem? (i := 512) (by decide +kernel))⟩, (List.mem_of_getElem? (i := 42) (by decide +kernel)), ⟨by decide, by decide, by decide +kernel⟩, _, _, rfl⟩
theorem v_L_27 (l : Launch) : gs_vL l (27, 3, 0, gs_wr f_G_release) := ⟨f_G_release, rfl, by decide, y_G_release, w_G_release, gs_tb, r_G_release, _, _, _, C_G_release_ok l, gs_goodL (List.mem_of_getElem? (i := 275) (by decide +kernel)), rfl, ⟨rfl, rfl⟩, ⟨by decide, by decide⟩, Or.inl (List.mem_of_getElem? (i := 272) (by decide +kernel)), ⟨(List.mem_of_getElem? (i := 273) (by decide +kernel)), (List.mem_of_getElem? (i := 274) (by decide +kernel))⟩, (List.mem_of_getElem? (i := 37) (by decide +kernel)), ⟨by decide, by decide, by decide +kernel⟩, _, _, rfl⟩
theorem v_L_30 (l : Launch) : gs_vL l (30, 3, 5, gs_wr f_M_release) := ⟨f_M_release, rfl, by decide, y_M_release, w_M_release, gs_tb, r_M_release, _, _, _, C_M_release_ok l, gs_goodL (List.mem_of_getElem? (i := 573) (by decide +kernel)), rfl, ⟨rfl, rfl⟩, ⟨by decide, by decide⟩, Or.inl (List.mem_of_getElem? (i := 570) (by decide +kernel)), ⟨(List.mem_of_getElem? (i := 571) (by decide +kernel)), (List.mem_of_getElem? (i := 572) (by decide +kernel))⟩, (List.mem_of_getElem? (i := 42) (by decide +kernel)), ⟨by decide, by decide, by decide +kernel⟩, _, _, rfl⟩
theorem v_L_31 (l : Launch) : gs_vL l (31, 3, 0, gs_wr f_G_limit) := ⟨f_G_limit, rfl, by decide, y_G_limit, w_G_limit, gs_tb, r_G_limit, _, _, _, C_G_limit_ok l, gs_goodL (List.mem_of_getElem? (i := 284) (by decide +kernel)), rfl, ⟨rfl, rfl⟩, ⟨by decide, by decide⟩, Or.inl (List.mem_of_getElem? (i := 281) (by decide +kernel)), ⟨(List.mem_of_getElem? (i := 282) (by decide +kernel)), (List.mem_of_getElem? (i := 283) (by decide +kernel))⟩, (List.mem_of_getElem? (i := 37) (by decide +kernel)), ⟨by decide, by decide, by decide +kernel⟩, _, _, rfl⟩
theorem v_L_34 (l : Launch) : gs_vL l (34, 3, 5, gs_wr f_M_limit) := ⟨f_M_limit, rfl, by decide, y_M_limit, w_M_limit, gs_tb, r_M_limit, _, _, _, C_M_limit_ok l, gs_goodL (List.mem_of_getElem? (i := 577) (by decide +kernel)), rfl, ⟨rfl, rfl⟩, ⟨by decide, by decide⟩, Or.inl (List.mem_of_getElem? (i := 574) (by decide +kernel)), ⟨(List.mem_of_getElem? (i := 575) (by decide +kernel)), (List.mem_of_getElem? (i := 576) (by decide +kernel))⟩, (List.mem_of_getElem? (i := 42) (by decide +kernel)), ⟨by decide, by decide, by decide +kernel⟩, _, _, rfl⟩
theorem v_L_35 (l : Launch) : gs_vL l (35, 4, 0, gs_wr f_G_pay) := ⟨f_G_pay, rfl, by decide, y_G_pay, w_G_pay, gs_tb, r_G_pay, _, _, _, C_G_pay_ok l, gs_goodL (List.mem_of_getElem? (i := 291) (by decide +kernel)), rfl, ⟨rfl, rfl⟩, ⟨by decide, by decide⟩, Or.inl (List.mem_of_getElem? (i := 288) (by decide +kernel)), ⟨(List.mem_of_getElem? (i := 289) (by decide +kernel)), (List.mem_of_getElem? (i := 290) (by decide +kernel))⟩, (List.mem_of_getElem? (i := 37) (by decide +kernel)), ⟨by decide, by decide, by decide +kernel⟩, _, _, rfl⟩
theorem v_L_39 (l : Launch) : gs_vL l (39, 4, 5, gs_wr f_M_pay) := ⟨f_M_pay, rfl, by decide, y_M_pay, w_M_pay, gs_tb, r_M_pay, _, _, _, C_M_pay_ok l, gs_goodL (List.mem_of_getElem? (i := 584) (by decide +kernel)), rfl, ⟨rfl, rfl⟩, ⟨by decide, by decide⟩, Or.inl (List.mem_of_getElem? (i := 581) (by decide +kernel)), ⟨(List.mem_of_getElem? (i := 582) (by decide +kernel)), (List.mem_of_getElem? (i := 583) (by decide +kernel))⟩, (List.mem_of_getElem? (i := 42) (by decide +kernel)), ⟨by decide, by decide, by decide +kernel⟩, _, _, rfl⟩
theorem v_L_40 (l : Launch) : gs_vL l (40, 4, 0, gs_wr f_G_deliver) := ⟨f_G_deliver, rfl, by decide, y_G_deliver, w_G_deliver, gs_tb, r_G_deliver, _, _, _, C_G_deliver_ok l, gs_goodL (List.mem_of_getElem? (i := 318) (by decide +kernel)), rfl, ⟨rfl, rfl⟩, ⟨by decide, by decide⟩, Or.inl (List.mem_of_getElem? (i := 315) (by decide +kernel)), ⟨(List.mem_of_getElem? (i := 316) (by decide +kernel)), (List.mem_of_getElem? (i := 317) (by decide +kernel))⟩, (List.mem_of_getElem? (i := 37) (by decide +kernel)), ⟨by decide, by decide, by decide +kernel⟩, _, _, rfl⟩
theorem v_L_43 (l : Launch) : gs_vL l (43, 4, 5, gs_wr f_M_deliver) := ⟨f_M_deliver, rfl, by decide, y_M_deliver, w_M_deliver, gs_tb, r_M_deliver, _, _, _, C_M_deliver_ok l, gs_goodL (List.mem_of_getElem? (i := 596) (by decide +kernel)), rfl, ⟨rfl, rfl⟩, ⟨by decide, by decide⟩, Or.inl (List.mem_of_getElem? (i := 593) (by decide +kernel)), ⟨(List.mem_of_getElem? (i := 594) (by decide +kernel)), (List.mem_of_getElem? (i := 595) (by decide +kernel))⟩, (List.mem_of_getElem? (i := 42) (by decide +kernel)), ⟨by decide, by decide, by decide +kernel⟩, _, _, rfl⟩
theorem v_L_44 (l : Launch) : gs_vL l (44, 5, 0, gs_wr f_G_exchange) := ⟨f_G_exchange, rfl, by decide, y_G_exchange, w_G_exchange, gs_tb, r_G_exchange, _, _, _, C_G_exchange_ok l, gs_goodL (List.mem_of_getElem? (i := 322) (by decide +kernel)), rfl, ⟨rfl, rfl⟩, ⟨by decide, by decide⟩, Or.inl (List.mem_of_getElem? (i := 319) (by decide +kernel)), ⟨(List.mem_of_getElem? (i := 320) (by decide +kernel)), (List.mem_of_getElem? (i := 321) (by decide +kernel))⟩, (List.mem_of_getElem? (i := 37) (by decide +kernel)), ⟨by decide, by decide, by decide +kernel⟩, _, _, rfl⟩
theorem v_L_48 (l : Launch) : gs_vL l (48, 5, 5, gs_wr f_M_exchange) := ⟨f_M_exchange, rfl, by decide, y_M_exchange, w_M_exchange, gs_tb, r_M_exchange, _, _, _, C_M_exchange_ok l, gs_goodL (List.mem_of_getElem? (i := 600) (by decide +kernel)), rfl, ⟨rfl, rfl⟩, ⟨by decide, by decide⟩, Or.inl (List.mem_of_getElem? (i := 597) (by decide +kernel)), ⟨(List.mem_of_getElem? (i := 598) (by decide +kernel)), (List.mem_of_getElem? (i := 599) (by decide +kernel))⟩, (List.mem_of_getElem? (i := 42) (by decide +kernel)), ⟨by decide, by decide, by decide +kernel⟩, _, _, rfl⟩
theorem v_L_49 (l : Launch) : gs_vL l (49, 1, 0, gs_wr f_G_cancel) := ⟨f_G_cancel, rfl, by decide, y_G_cancel, w_G_cancel, gs_tb, r_G_cancel, _, _, _, C_G_cancel_ok l, gs_goodL (List.mem_of_getElem? (i := 326) (by decide +kernel)), rfl, ⟨rfl, rfl⟩, ⟨by decide, by decide⟩, Or.inl (List.mem_of_getElem? (i := 323) (by decide +kernel)), ⟨(List.mem_of_getElem? (i := 324) (by decide +kernel)), (List.mem_of_getElem? (i := 325) (by decide +kernel))⟩, (List.mem_of_getElem? (i := 37) (by decide +kernel)), ⟨by decide, by decide, by decide +kernel⟩, _, _, rfl⟩
theorem v_L_53 (l : Launch) : gs_vL l (53, 1, 5, gs_wr f_M_cancel) := ⟨f_M_cancel, rfl, by decide, y_M_cancel, w_M_cancel, gs_tb, r_M_cancel, _, _, _, C_M_cancel_ok l, gs_goodL (List.mem_of_getElem? (i := 604) (by decide +kernel)), rfl, ⟨rfl, rfl⟩, ⟨by decide, by decide⟩, Or.inl (List.mem_of_getElem? (i := 601) (by decide +kernel)), ⟨(List.mem_of_getElem? (i := 602) (by decide +kernel)), (List.mem_of_getElem? (i := 603) (by decide +kernel))⟩, (List.mem_of_getElem? (i := 42) (by decide +kernel)), ⟨by decide, by decide, by decide +kernel⟩, _, _, rfl⟩
theorem v_L_54 (l : Launch) : gs_vL l (54, 2, 0, gs_wr f_G_prefer) := ⟨f_G_prefer, rfl, by decide, y_G_prefer, w_G_prefer, gs_tb, r_G_prefer, _, _, _, C_G_prefer_ok l, gs_goodL (List.mem_of_getElem? (i := 334) (by decide +kernel)), rfl, ⟨rfl, rfl⟩, ⟨by decide, by decide⟩, Or.inl (List.mem_of_getElem? (i := 331) (by decide +kernel)), ⟨(List.mem_of_getElem? (i := 332) (by decide +kernel)), (List.mem_of_getElem? (i := 333) (by decide +kernel))⟩, (List.mem_of_getElem? (i := 37) (by decide +kernel)), ⟨by decide, by decide, by decide +kernel⟩, _, _, rfl⟩
theorem v_L_58 (l : Launch) : gs_vL l (58, 2, 5, gs_wr f_M_prefer) := ⟨f_M_prefer, rfl, by decide, y_M_prefer, w_M_prefer, gs_tb, r_M_prefer, _, _, _, C_M_prefer_ok l, gs_goodL (List.mem_of_getElem? (i := 612) (by decide +kernel)), rfl, ⟨rfl, rfl⟩, ⟨by decide, by decide⟩, Or.inl (List.mem_of_getElem? (i := 609) (by decide +kernel)), ⟨(List.mem_of_getElem? (i := 610) (by decide +kernel)), (List.mem_of_getElem? (i := 611) (by decide +kernel))⟩, (List.mem_of_getElem? (i := 42) (by decide +kernel)), ⟨by decide, by decide, by decide +kernel⟩, _, _, rfl⟩
theorem v_L_59 (l : Launch) : gs_vL l (59, 0, 0, gs_wr f_G_resolve) := ⟨f_G_resolve, rfl, by decide, y_G_resolve, w_G_resolve, gs_tb, r_G_resolve, _, _, _, C_G_resolve_ok l, gs_goodL (List.mem_of_getElem? (i := 342) (by decide +kernel)), rfl, ⟨rfl, rfl⟩, ⟨by decide, by decide⟩, Or.inl (List.mem_of_getElem? (i := 339) (by decide +kernel)), ⟨(List.mem_of_getElem? (i := 340) (by decide +kernel)), (List.mem_of_getElem? (i := 341) (by decide +kernel))⟩, (List.mem_of_getElem? (i := 37) (by decide +kernel)), ⟨by decide, by decide, by decide +kernel⟩, _, _, rfl⟩
theorem v_L_63 (l : Launch) : gs_vL l (63, 0, 5, gs_wr f_M_resolve) := ⟨f_M_resolve, rfl, by decide, y_M_resolve, w_M_resolve, gs_tb, r_M_resolve, _, _, _, C_M_resolve_ok l, gs_goodL (List.mem_of_getElem? (i := 616) (by decide +kernel)), rfl, ⟨rfl, rfl⟩, ⟨by decide, by decide⟩, Or.inl (List.mem_of_getElem? (i := 613) (by decide +kernel)), ⟨(List.mem_of_getElem? (i := 614) (by decide +kernel)), (List.mem_of_getElem? (i := 615) (by decide +kernel))⟩, (List.mem_of_getElem? (i := 42) (by decide +kernel)), ⟨by decide, by decide, by decide +kernel⟩, _, _, rfl⟩
theorem v_L_64 (l : Launch) : gs_vL l (64, 0, 0, gs_wr f_G_advance) := ⟨f_G_advance, rfl, by decide, y_G_advance, w_G_advance, gs_tb, r_G_advance, _, _, _, C_G_advance_ok l, gs_goodL (List.mem_of_getElem? (i := 378) (by decide +kernel)), rfl, ⟨rfl, rfl⟩, ⟨by decide, by decide⟩, Or.inl (List.mem_of_getElem? (i := 375) (by decide +kernel)), ⟨(List.mem_of_getElem? (i := 376) (by decide +kernel)), (List.mem_of_getElem? (i := 377) (by decide +kernel))⟩, (List.mem_of_getElem? (i := 37) (by decide +kernel)), ⟨by decide, by decide, by decide +kernel⟩, _, _, rfl⟩
theorem v_L_67 (l : Launch) : gs_vL l (67, 0, 5, gs_wr f_M_advance) := ⟨f_M_advance, rfl, by decide, y_M_advance, w_M_advance, gs_tb, r_M_advance, _, _, _, C_M_advance_ok l, gs_goodL (List.mem_of_getElem? (i := 632) (by decide +kernel)), rfl, ⟨rfl, rfl⟩, ⟨by decide, by decide⟩, Or.inl (List.mem_of_getElem? (i := 629) (by decide +kernel)), ⟨(List.mem_of_getElem? (i := 630) (by decide +kernel)), (List.mem_of_getElem? (i := 631) (by decide +kernel))⟩, (List.mem_of_getElem? (i := 42) (by decide +kernel)), ⟨by decide, by decide, by decide +kernel⟩, _, _, rfl⟩
theorem v_L_68 (l : Launch) : gs_vL l (68, 0, 0, gs_wr f_G_sync) := ⟨f_G_sync, rfl, by decide, y_G_sync, w_G_sync, gs_tb, r_G_sync, _, _, _, C_G_sync_ok l, gs_goodL (List.mem_of_getElem? (i := 390) (by decide +kernel)), rfl, ⟨rfl, rfl⟩, ⟨by decide, by decide⟩, Or.inl (List.mem_of_getElem? (i := 387) (by decide +kernel)), ⟨(List.mem_of_getElem? (i := 388) (by decide +kernel)), (List.mem_of_getElem? (i := 389) (by decide +kernel))⟩, (List.mem_of_getElem? (i := 37) (by decide +kernel)), ⟨by decide, by decide, by decide +kernel⟩, _, _, rfl⟩
theorem v_L_71 (l : Launch) : gs_vL l (71, 0, 5, gs_wr f_M_sync) := ⟨f_M_sync, rfl, by decide, y_M_sync, w_M_sync, gs_tb, r_M_sync, _, _, _, C_M_sync_ok l, gs_goodL (List.mem_of_getElem? (i := 637) (by decide +kernel)), rfl, ⟨rfl, rfl⟩, ⟨by decide, by decide⟩, Or.inl (List.mem_of_getElem? (i := 634) (by decide +kernel)), ⟨(List.mem_of_getElem? (i := 635) (by decide +kernel)), (List.mem_of_getElem? (i := 636) (by decide +kernel))⟩, (List.mem_of_getElem? (i := 42) (by decide +kernel)), ⟨by decide, by decide, by decide +kernel⟩, _, _, rfl⟩
theorem v_L_72 (l : Launch) : gs_vL l (72, 0, 0, gs_wr f_G_crash) := ⟨f_G_crash, rfl, by decide, y_G_crash, w_G_crash, gs_tb, r_G_crash, _, _, _, C_G_crash_ok l, gs_goodL (List.mem_of_getElem? (i := 414) (by decide +kernel)), rfl, ⟨rfl, rfl⟩, ⟨by decide, by decide⟩, Or.inl (List.mem_of_getElem? (i := 411) (by decide +kernel)), ⟨(List.mem_of_getElem? (i := 412) (by decide +kernel)), (List.mem_of_getElem? (i := 413) (by decide +kernel))⟩, (List.mem_of_getElem? (i := 37) (by decide +kernel)), ⟨by decide, by decide, by decide +kernel⟩, _, _, rfl⟩
theorem v_L_75 (l : Launch) : gs_vL l (75, 0, 5, gs_wr f_M_crash) := ⟨f_M_crash, rfl, by decide, y_M_crash, w_M_crash, gs_tb, r_M_crash, _, _, _, C_M_crash_ok l, gs_goodL (List.mem_of_getElem? (i := 641) (by decide +kernel)), rfl, ⟨rfl, rfl⟩, ⟨by decide, by decide⟩, Or.inl (List.mem_of_getElem? (i := 638) (by decide +kernel)), ⟨(List.mem_of_getElem? (i := 639) (by decide +kernel)), (List.mem_of_getElem? (i := 640) (by decide +kernel))⟩, (List.mem_of_getElem? (i := 42) (by decide +kernel)), ⟨by decide, by decide, by decide +kernel⟩, _, _, rfl⟩
theorem v_L_76 (l : Launch) : gs_vL l (76, 3, 0, gs_wr f_G_position) := ⟨f_G_position, rfl, by decide, y_G_position, w_G_position, gs_tb, r_G_position, _, _, _, C_G_position_ok l, gs_goodL (List.mem_of_getElem? (i := 418) (by decide +kernel)), rfl, ⟨rfl, rfl⟩, ⟨by decide, by decide⟩, Or.inl (List.mem_of_getElem? (i := 415) (by decide +kernel)), ⟨(List.mem_of_getElem? (i := 416) (by decide +kernel)), (List.mem_of_getElem? (i := 417) (by decide +kernel))⟩, (List.mem_of_getElem? (i := 37) (by decide +kernel)), ⟨by decide, by decide, by decide +kernel⟩, _, _, rfl⟩
theorem v_L_80 (l : Launch) : gs_vL l (80, 3, 5, gs_wr f_M_position) := ⟨f_M_position, rfl, by decide, y_M_position, w_M_position, gs_tb, r_M_position, _, _, _, C_M_position_ok l, gs_goodL (List.mem_of_getElem? (i := 645) (by decide +kernel)), rfl, ⟨rfl, rfl⟩, ⟨by decide, by decide⟩, Or.inl (List.mem_of_getElem? (i := 642) (by decide +kernel)), ⟨(List.mem_of_getElem? (i := 643) (by decide +kernel)), (List.mem_of_getElem? (i := 644) (by decide +kernel))⟩, (List.mem_of_getElem? (i := 42) (by decide +kernel)), ⟨by decide, by decide, by decide +kernel⟩, _, _, rfl⟩
theorem v_L_81 (l : Launch) : gs_vL l (81, 1, 0, gs_wr f_G_line) := ⟨f_G_line, rfl, by decide, y_G_line, w_G_line, gs_tb, r_G_line, _, _, _, C_G_line_ok l, gs_goodL (List.mem_of_getElem? (i := 423) (by decide +kernel)), rfl, ⟨rfl, rfl⟩, ⟨by decide, by decide⟩, Or.inl (List.mem_of_getElem? (i := 420) (by decide +kernel)), ⟨(List.mem_of_getElem? (i := 421) (by decide +kernel)), (List.mem_of_getElem? (i := 422) (by decide +kernel))⟩, (List.mem_of_getElem? (i := 37) (by decide +kernel)), ⟨by decide, by decide, by decide +kernel⟩, _, _, rfl⟩
theorem v_L_85 (l : Launch) : gs_vL l (85, 1, 5, gs_wr f_M_line) := ⟨f_M_line, rfl, by decide, y_M_line, w_M_line, gs_tb, r_M_line, _, _, _, C_M_line_ok l, gs_goodL (List.mem_of_getElem? (i := 649) (by decide +kernel)), rfl, ⟨rfl, rfl⟩, ⟨by decide, by decide⟩, Or.inl (List.mem_of_getElem? (i := 646) (by decide +kernel)), ⟨(List.mem_of_getElem? (i := 647) (by decide +kernel)), (List.mem_of_getElem? (i := 648) (by decide +kernel))⟩, (List.mem_of_getElem? (i := 42) (by decide +kernel)), ⟨by decide, by decide, by decide +kernel⟩, _, _, rfl⟩
theorem v_L_86 (l : Launch) : gs_vL l (86, 2, 0, gs_wr f_G_net) := ⟨f_G_net, rfl, by decide, y_G_net, w_G_net, gs_tb, r_G_net, _, _, _, C_G_net_ok l, gs_goodL (List.mem_of_getElem? (i := 428) (by decide +kernel)), rfl, ⟨rfl, rfl⟩, ⟨by decide, by decide⟩, Or.inl (List.mem_of_getElem? (i := 425) (by decide +kernel)), ⟨(List.mem_of_getElem? (i := 426) (by decide +kernel)), (List.mem_of_getElem? (i := 427) (by decide +kernel))⟩, (List.mem_of_getElem? (i := 37) (by decide +kernel)), ⟨by decide, by decide, by decide +kernel⟩, _, _, rfl⟩
theorem v_L_90 (l : Launch) : gs_vL l (90, 2, 5, gs_wr f_M_net) := ⟨f_M_net, rfl, by decide, y_M_net, w_M_net, gs_tb, r_M_net, _, _, _, C_M_net_ok l, gs_goodL (List.mem_of_getElem? (i := 653) (by decide +kernel)), rfl, ⟨rfl, rfl⟩, ⟨by decide, by decide⟩, Or.inl (List.mem_of_getElem? (i := 650) (by decide +kernel)), ⟨(List.mem_of_getElem? (i := 651) (by decide +kernel)), (List.mem_of_getElem? (i := 652) (by decide +kernel))⟩, (List.mem_of_getElem? (i := 42) (by decide +kernel)), ⟨by decide, by decide, by decide +kernel⟩, _, _, rfl⟩
theorem v_L_91 (l : Launch) : gs_vL l (91, 1, 0, gs_wr f_G_status) := ⟨f_G_status, rfl, by decide, y_G_status, w_G_status, gs_tb, r_G_status, _, _, _, C_G_status_ok l, gs_goodL (List.mem_of_getElem? (i := 432) (by decide +kernel)), rfl, ⟨rfl, rfl⟩, ⟨by decide, by decide⟩, Or.inl (List.mem_of_getElem? (i := 429) (by decide +kernel)), ⟨(List.mem_of_getElem? (i := 430) (by decide +kernel)), (List.mem_of_getElem? (i := 431) (by decide +kernel))⟩, (List.mem_of_getElem? (i := 37) (by decide +kernel)), ⟨by decide, by decide, by decide +kernel⟩, _, _, rfl⟩
theorem v_L_94 (l : Launch) : gs_vL l (94, 1, 5, gs_wr f_M_status) := ⟨f_M_status, rfl, by decide, y_M_status, w_M_status, gs_tb, r_M_status, _, _, _, C_M_status_ok l, gs_goodL (List.mem_of_getElem? (i := 657) (by decide +kernel)), rfl, ⟨rfl, rfl⟩, ⟨by decide, by decide⟩, Or.inl (List.mem_of_getElem? (i := 654) (by decide +kernel)), ⟨(List.mem_of_getElem? (i := 655) (by decide +kernel)), (List.mem_of_getElem? (i := 656) (by decide +kernel))⟩, (List.mem_of_getElem? (i := 42) (by decide +kernel)), ⟨by decide, by decide, by decide +kernel⟩, _, _, rfl⟩
theorem v_L_95 (l : Launch) : gs_vL l (95, 1, 0, gs_wr f_G_waiting) := ⟨f_G_waiting, rfl, by decide, y_G_waiting, w_G_waiting, gs_tb, r_G_waiting, _, _, _, C_G_waiting_ok l, gs_goodL (List.mem_of_getElem? (i := 440) (by decide +kernel)), rfl, ⟨rfl, rfl⟩, ⟨by decide, by decide⟩, Or.inl (List.mem_of_getElem? (i := 437) (by decide +kernel)), ⟨(List.mem_of_getElem? (i := 438) (by decide +kernel)), (List.mem_of_getElem? (i := 439) (by decide +kernel))⟩, (List.mem_of_getElem? (i := 37) (by decide +kernel)), ⟨by decide, by decide, by decide +kernel⟩, _, _, rfl⟩
theorem v_L_98 (l : Launch) : gs_vL l (98, 1, 5, gs_wr f_M_waiting) := ⟨f_M_waiting, rfl, by decide, y_M_waiting, w_M_waiting, gs_tb, r_M_waiting, _, _, _, C_M_waiting_ok l, gs_goodL (List.mem_of_getElem? (i := 661) (by decide +kernel)), rfl, ⟨rfl, rfl⟩, ⟨by decide, by decide⟩, Or.inl (List.mem_of_getElem? (i := 658) (by decide +kernel)), ⟨(List.mem_of_getElem? (i := 659) (by decide +kernel)), (List.mem_of_getElem? (i := 660) (by decide +kernel))⟩, (List.mem_of_getElem? (i := 42) (by decide +kernel)), ⟨by decide, by decide, by decide +kernel⟩, _, _, rfl⟩
theorem v_L_99 (l : Launch) : gs_vL l (99, 1, 0, gs_wr f_G_behind) := ⟨f_G_behind, rfl, by decide, y_G_behind, w_G_behind, gs_tb, r_G_behind, _, _, _, C_G_behind_ok l, gs_goodL (List.mem_of_getElem? (i := 448) (by decide +kernel)), rfl, ⟨rfl, rfl⟩, ⟨by decide, by decide⟩, Or.inl (List.mem_of_getElem? (i := 445) (by decide +kernel)), ⟨(List.mem_of_getElem? (i := 446) (by decide +kernel)), (List.mem_of_getElem? (i := 447) (by decide +kernel))⟩, (List.mem_of_getElem? (i := 37) (by decide +kernel)), ⟨by decide, by decide, by decide +kernel⟩, _, _, rfl⟩
theorem v_L_102 (l : Launch) : gs_vL l (102, 1, 5, gs_wr f_M_behind) := ⟨f_M_behind, rfl, by decide, y_M_behind, w_M_behind, gs_tb, r_M_behind, _, _, _, C_M_behind_ok l, gs_goodL (List.mem_of_getElem? (i := 665) (by decide +kernel)), rfl, ⟨rfl, rfl⟩, ⟨by decide, by decide⟩, Or.inl (List.mem_of_getElem? (i := 662) (by decide +kernel)), ⟨(List.mem_of_getElem? (i := 663) (by decide +kernel)), (List.mem_of_getElem? (i := 664) (by decide +kernel))⟩, (List.mem_of_getElem? (i := 42) (by decide +kernel)), ⟨by decide, by decide, by decide +kernel⟩, _, _, rfl⟩
theorem q_L_law (l : Launch) : ∀ e ∈ C_L_law, gs_vL l e := List.forall_mem_cons.mpr ⟨v_L_13 l, List.forall_mem_cons.mpr ⟨v_L_17 l, List.forall_mem_cons.mpr ⟨v_L_18 l, List.forall_mem_cons.mpr ⟨v_L_21 l, List.forall_mem_cons.mpr ⟨v_L_22 l, List.forall_mem_cons.mpr ⟨v_L_26 l, List.forall_mem_cons.mpr ⟨v_L_27 l, List.forall_mem_cons.mpr ⟨v_L_30 l, List.forall_mem_cons.mpr ⟨v_L_31 l, List.forall_mem_cons.mpr ⟨v_L_34 l, List.forall_mem_cons.mpr ⟨v_L_35 l, List.forall_mem_cons.mpr ⟨v_L_39 l, List.forall_mem_cons.mpr ⟨v_L_40 l, List.forall_mem_cons.mpr ⟨v_L_43 l, List.forall_mem_cons.mpr ⟨v_L_44 l, List.forall_mem_cons.mpr ⟨v_L_48 l, List.forall_mem_cons.mpr ⟨v_L_49 l, List.forall_mem_cons.mpr ⟨v_L_53 l, List.forall_mem_cons.mpr ⟨v_L_54 l, List.forall_mem_cons.mpr ⟨v_L_58 l, List.forall_mem_cons.mpr ⟨v_L_59 l, List.forall_mem_cons.mpr ⟨v_L_63 l, List.forall_mem_cons.mpr ⟨v_L_64 l, List.forall_mem_cons.mpr ⟨v_L_67 l, List.forall_mem_cons.mpr ⟨v_L_68 l, List.forall_mem_cons.mpr ⟨v_L_71 l, List.forall_mem_cons.mpr ⟨v_L_72 l, List.forall_mem_cons.mpr ⟨v_L_75 l, List.forall_mem_cons.mpr ⟨v_L_76 l, List.forall_mem_cons.mpr ⟨v_L_80 l, List.forall_mem_cons.mpr ⟨v_L_81 l, List.forall_mem_cons.mpr ⟨v_L_85 l, List.forall_mem_cons.mpr ⟨v_L_86 l, List.forall_mem_cons.mpr ⟨v_L_90 l, List.forall_mem_cons.mpr ⟨v_L_91 l, List.forall_mem_cons.mpr ⟨v_L_94 l, List.forall_mem_cons.mpr ⟨v_L_95 l, List.forall_mem_cons.mpr ⟨v_L_98 l, List.forall_mem_cons.mpr ⟨v_L_99 l, List.forall_mem_cons.mpr ⟨v_L_102 l, fun _ h => absurd h List.not_mem_nil⟩⟩⟩⟩⟩⟩⟩⟩⟩⟩⟩⟩⟩⟩⟩⟩⟩⟩⟩⟩⟩⟩⟩⟩⟩⟩⟩⟩⟩⟩⟩⟩⟩⟩⟩⟩⟩⟩⟩⟩
