-- the cells after both are made: names and places
def gs_bk (u : gs_SG) (i : Nat) : gs_SB := match i with
  | 0 => u.1.1.2
  | _ => u.1.2.2
def gs_bh (u : gs_SG) (i : Nat) : Nat := match i with
  | 0 => u.1.1.1
  | _ => u.1.2.1
def gs_g2 (u : gs_SG) (i : Nat) : Nat := if i < 40 then u.1.1.2.2.2.2 i else u.1.2.2.2.2.2 (i - 40)
def gs_adr (qg : Nat) (u : gs_SG) (qm : Nat) (um : gs_SA) (b : Nat) (t i : Nat) : Nat := gs_or (gs_lk ([(0, fun _ => qg), (1, fun i => gs_bh u i), (2, fun _ => u.2.1), (3, fun i => (gs_bk u i).1.1), (4, fun i => (gs_bk u i).2.1), (5, fun i => (gs_bk u i).1.2.1 5), (6, fun i => (gs_bk u i).1.2.1 6), (7, fun i => (gs_bk u i).1.2.1 7), (8, fun i => (gs_bk u i).1.2.1 8), (9, fun i => (gs_bk u i).1.2.1 9), (10, fun i => (gs_bk u i).1.2.1 10), (11, fun i => (gs_bk u i).2.2.1.1 11), (12, fun i => (gs_bk u i).2.2.1.1 12), (13, fun i => gs_g2 u i), (20, fun _ => qm), (21, fun _ => um.1 21), (22, fun _ => um.1 22), (23, fun _ => um.1 23), (24, fun _ => um.1 24), (25, fun _ => um.1 25), (30, fun _ => b)] : List (Nat × (Nat → Nat))) t) (fun _ => 0) i
def gs_cA (u : gs_SG) (um : gs_SA) (t i : Nat) : ClassId := gs_or (gs_lk ([(2, fun _ => u.2.2), (5, fun i => (gs_bk u i).1.2.2 5), (6, fun i => (gs_bk u i).1.2.2 6), (7, fun i => (gs_bk u i).1.2.2 7), (8, fun i => (gs_bk u i).1.2.2 8), (9, fun i => (gs_bk u i).1.2.2 9), (10, fun i => (gs_bk u i).1.2.2 10), (11, fun i => (gs_bk u i).2.2.1.2 11), (12, fun i => (gs_bk u i).2.2.1.2 12), (21, fun _ => um.2 21), (22, fun _ => um.2 22), (23, fun _ => um.2 23), (24, fun _ => um.2 24), (25, fun _ => um.2 25)] : List (Nat × (Nat → ClassId))) t) (fun _ => (0 : ClassId)) i
def gs_pz9 (t i : Nat) : Nat := match Nat.beq t 13 with
  | true => if i < 40 then 12 + i else 23 + i
  | false => gs_or (gs_lk [(0, 0), (2, 1), (3, 52), (4, 103), (6, 2), (7, 53), (8, 9), (9, 60), (10, 3), (11, 54), (12, 4), (13, 55), (14, 5), (15, 56), (16, 6), (17, 57), (18, 7), (19, 58), (20, 8), (21, 59), (22, 10), (23, 61), (24, 11), (25, 62), (40, 104), (42, 105), (44, 106), (46, 107), (48, 108), (50, 109)] (2 * t + i)) 999
def gs_fx : List (Nat × Nat) := [(0, 0), (1, 0), (1, 1), (2, 0), (3, 0), (3, 1), (4, 0), (4, 1), (5, 0), (5, 1), (6, 0), (6, 1), (7, 0), (7, 1), (8, 0), (8, 1), (9, 0), (9, 1), (10, 0), (10, 1), (11, 0), (11, 1), (12, 0), (12, 1), (20, 0), (21, 0), (22, 0), (23, 0), (24, 0), (25, 0)]
theorem gs_all {P : Nat → Nat → Prop} (hf : ∀ q ∈ gs_fx, P q.1 q.2) (h13 : ∀ i, i < 80 → P 13 i) : ∀ q ∈ gs_RL, P q.1 q.2 := by
  have k1 : gs_RL.all (fun q => !(Nat.beq q.1 13) || Nat.ble (q.2 + 1) 80) = true := by decide +kernel
  have k2 : gs_RL.all (fun q => Nat.beq q.1 13 || decide (q ∈ gs_fx)) = true := by decide +kernel
  intro q hq
  have a1 := List.all_eq_true.mp k1 q hq
  have a2 := List.all_eq_true.mp k2 q hq
  obtain ⟨t, i⟩ := q
  have a1 : (!(Nat.beq t 13) || Nat.ble (i + 1) 80) = true := a1
  have a2 : (Nat.beq t 13 || decide ((t, i) ∈ gs_fx)) = true := a2
  cases hb : Nat.beq t 13
  · rw [hb, Bool.false_or] at a2
    exact hf (t, i) (of_decide_eq_true a2)
  · rw [hb, Bool.not_true, Bool.false_or] at a1
    have e : t = 13 := Nat.eq_of_beq_eq_true hb
    subst e
    exact h13 i (Nat.le_of_ble_eq_true a1)
theorem gs_pz9_inj {i j : Nat} {r1 r2 : Nat × Nat} (h1 : gs_RL[i]? = some r1) (h2 : gs_RL[j]? = some r2) (h : gs_pz9 r1.1 r1.2 = gs_pz9 r2.1 r2.2) : i = j := by
  have nd : (gs_RL.map fun q => gs_pz9 q.1 q.2).Nodup := by decide +kernel
  have a1 : (gs_RL.map fun q => gs_pz9 q.1 q.2)[i]? = some (gs_pz9 r1.1 r1.2) := by
    rw [List.getElem?_map, h1]
    rfl
  have a2 : (gs_RL.map fun q => gs_pz9 q.1 q.2)[j]? = some (gs_pz9 r2.1 r2.2) := by
    rw [List.getElem?_map, h2]
    rfl
  obtain ⟨x1, y1⟩ := List.getElem?_eq_some_iff.mp a1
  obtain ⟨x2, y2⟩ := List.getElem?_eq_some_iff.mp a2
  exact (List.getElem_inj nd).mp (y1.trans (h.trans y2.symm))
theorem gs_sg2 {α : Type} {a b : List α} {n : Nat} (k : Nat) (h : a.length = n) : (a ++ b)[n + k]? = b[k]? := by
  subst h
  rw [List.getElem?_append_right (Nat.le_add_right _ _), Nat.add_sub_cancel_left]
theorem gs_sg3 {α : Type} {a b c : List α} {n : Nat} (k : Nat) (h : a.length + b.length = n) : (a ++ (b ++ c))[n + k]? = c[k]? := by
  rw [← List.append_assoc]
  exact gs_sg2 k (by rw [List.length_append]; exact h)
theorem gs_sg4 {α : Type} {a b c d : List α} {n : Nat} (k : Nat) (h : a.length + b.length + c.length = n) : (a ++ (b ++ (c ++ d)))[n + k]? = d[k]? := by
  rw [← List.append_assoc]
  exact gs_sg3 k (by rw [List.length_append]; exact h)
theorem gs_sg5 {α : Type} {a b c d e : List α} {n : Nat} (k : Nat) (h : a.length + b.length + c.length + d.length = n) : (a ++ (b ++ (c ++ (d ++ e))))[n + k]? = e[k]? := by
  rw [← List.append_assoc]
  exact gs_sg4 k (by rw [List.length_append]; exact h)
theorem gs_is_len (g : Nat → Nat) (k : Nat) : (gs_is g k).length = k := by
  unfold gs_is
  rw [List.length_map, List.length_range]
theorem gs_is_at (g : Nat → Nat) {k i : Nat} (h : i < k) : (gs_is g k)[i]? = some (g i, gs_bl 4) := by
  unfold gs_is
  rw [List.getElem?_map, List.getElem?_range h]
  rfl
def gs_bp (h : Nat) (u : gs_SB) : va_W := (h, .inr (1, [.int 0, .ref u.1.1, .ref u.2.1])) :: (w_A u.1.1 u.1.2 ++ [(u.2.1, .inr (3, [.ref (u.2.2.1.1 11), .int 0, .ref (u.2.2.1.1 12), .int 0])), (u.2.2.1.1 11, .inl (u.2.2.1.2 11, 40, .inr (.inr (.inr (.inr fun j => some (u.2.2.2 j)))))), (u.2.2.1.1 12, .inl (u.2.2.1.2 12, 10, .inl fun _ => 0))])
theorem w_B_s (h : Nat) (u : gs_SB) : w_B h u = gs_bp h u ++ gs_is u.2.2.2 40 := by
  unfold w_B gs_bp w_Q
  simp only [List.cons_append, List.append_assoc, List.nil_append]
def gs_p0 (qg : Nat) (u : gs_SG) : va_W := (qg, .inr (0, [.ref u.1.1.1, .ref u.1.2.1, .ref u.2.1])) :: gs_bp u.1.1.1 u.1.1.2
def gs_p4 (u : gs_SG) (qm : Nat) (um : gs_SA) : va_W := (u.2.1, .inl (u.2.2, 10, .inl fun _ => 0)) :: w_M qm um
theorem w_G_s (qg : Nat) (u : gs_SG) (qm : Nat) (um : gs_SA) : w_G qg u ++ w_M qm um = gs_p0 qg u ++ (gs_is u.1.1.2.2.2.2 40 ++ (gs_bp u.1.2.1 u.1.2.2 ++ (gs_is u.1.2.2.2.2.2 40 ++ gs_p4 u qm um))) := by
  unfold w_G gs_p0 gs_p4
  rw [w_B_s, w_B_s]
  simp only [List.append_assoc, List.cons_append, List.nil_append]
def gs_plc (D : va_G) (X : va_W) (ad : Nat → Nat → Nat) (cA : Nat → Nat → ClassId) (t i : Nat) : Prop := ∃ e, X[gs_pz9 t i]? = some (ad t i, e) ∧ ∀ H, va_at D gs_CL (ad t i, e) H → va_at D gs_CL (ad t i, gs_cont Y0 cA ad gs_d0 t i) H
section PL
variable (D : va_G) (qg : Nat) (u : gs_SG) (qm : Nat) (um : gs_SA) (b : Nat)
theorem gs_x0 (k : Nat) (hk : k < 12) : (w_G qg u ++ w_M qm um)[k]? = (gs_p0 qg u)[k]? := by
  rw [w_G_s, List.getElem?_append_left hk]
theorem gs_x1 (i : Nat) (hi : i < 40) : (w_G qg u ++ w_M qm um)[12 + i]? = some (u.1.1.2.2.2.2 i, gs_bl 4) := by
  rw [w_G_s, gs_sg2 i (show (gs_p0 qg u).length = 12 from rfl), List.getElem?_append_left (by rw [gs_is_len]; exact hi), gs_is_at _ hi]
theorem gs_x2 (k : Nat) (hk : k < 11) : (w_G qg u ++ w_M qm um)[52 + k]? = (gs_bp u.1.2.1 u.1.2.2)[k]? := by
  rw [w_G_s, gs_sg3 k (by rw [gs_is_len]; rfl), List.getElem?_append_left hk]
theorem gs_x3 (i : Nat) (hi : i < 40) : (w_G qg u ++ w_M qm um)[63 + i]? = some (u.1.2.2.2.2.2 i, gs_bl 4) := by
  rw [w_G_s, gs_sg4 i (by rw [gs_is_len]; rfl), List.getElem?_append_left (by rw [gs_is_len]; exact hi), gs_is_at _ hi]
theorem gs_x4 (k : Nat) : (w_G qg u ++ w_M qm um)[103 + k]? = (gs_p4 u qm um)[k]? := by
  rw [w_G_s, gs_sg5 k (by rw [gs_is_len, gs_is_len]; rfl)]
/-- only the places of an array of references count -/
theorem gs_arr {q n : Nat} {c : ClassId} {f f' : Nat → Option Nat} {H : Heap} (hf : ∀ j, j < n → f j = f' j) (h : va_at D gs_CL (q, .inl (c, n, .inr (.inr (.inr (.inr f))))) H) : va_at D gs_CL (q, .inl (c, n, .inr (.inr (.inr (.inr f'))))) H := by
  have h1 : H[q]? = some (vp_cell c (n, .inr (.inr (.inr (.inr f))))) := h
  show H[q]? = some (vp_cell c (n, .inr (.inr (.inr (.inr f')))))
  rw [h1]
  show some (arrV c n (fun j => va_rf (f j))) = some (arrV c n (fun j => va_rf (f' j)))
  unfold arrV
  congr 2
  congr 1
  funext j
  show va_rf (f j.val) = va_rf (f' j.val)
  rw [hf j.val j.isLt]
theorem gs_pl_0_0 : gs_plc D (w_G qg u ++ w_M qm um) (gs_adr qg u qm um b) (gs_cA u um) 0 0 := ⟨_, (gs_x0 qg u qm um 0 (by decide)).trans rfl, fun _ h => h⟩
theorem gs_pl_1_0 : gs_plc D (w_G qg u ++ w_M qm um) (gs_adr qg u qm um b) (gs_cA u um) 1 0 := ⟨_, (gs_x0 qg u qm um 1 (by decide)).trans rfl, fun _ h => h⟩
theorem gs_pl_1_1 : gs_plc D (w_G qg u ++ w_M qm um) (gs_adr qg u qm um b) (gs_cA u um) 1 1 := ⟨_, (gs_x2 qg u qm um 0 (by decide)).trans rfl, fun _ h => h⟩
theorem gs_pl_2_0 : gs_plc D (w_G qg u ++ w_M qm um) (gs_adr qg u qm um b) (gs_cA u um) 2 0 := ⟨_, (gs_x4 qg u qm um 0).trans rfl, fun _ h => h⟩
theorem gs_pl_3_0 : gs_plc D (w_G qg u ++ w_M qm um) (gs_adr qg u qm um b) (gs_cA u um) 3 0 := ⟨_, (gs_x0 qg u qm um 2 (by decide)).trans rfl, fun _ h => h⟩
theorem gs_pl_3_1 : gs_plc D (w_G qg u ++ w_M qm um) (gs_adr qg u qm um b) (gs_cA u um) 3 1 := ⟨_, (gs_x2 qg u qm um 1 (by decide)).trans rfl, fun _ h => h⟩
theorem gs_pl_4_0 : gs_plc D (w_G qg u ++ w_M qm um) (gs_adr qg u qm um b) (gs_cA u um) 4 0 := ⟨_, (gs_x0 qg u qm um 9 (by decide)).trans rfl, fun _ h => h⟩
theorem gs_pl_4_1 : gs_plc D (w_G qg u ++ w_M qm um) (gs_adr qg u qm um b) (gs_cA u um) 4 1 := ⟨_, (gs_x2 qg u qm um 8 (by decide)).trans rfl, fun _ h => h⟩
theorem gs_pl_5_0 : gs_plc D (w_G qg u ++ w_M qm um) (gs_adr qg u qm um b) (gs_cA u um) 5 0 := ⟨_, (gs_x0 qg u qm um 3 (by decide)).trans rfl, fun _ h => h⟩
theorem gs_pl_5_1 : gs_plc D (w_G qg u ++ w_M qm um) (gs_adr qg u qm um b) (gs_cA u um) 5 1 := ⟨_, (gs_x2 qg u qm um 2 (by decide)).trans rfl, fun _ h => h⟩
theorem gs_pl_6_0 : gs_plc D (w_G qg u ++ w_M qm um) (gs_adr qg u qm um b) (gs_cA u um) 6 0 := ⟨_, (gs_x0 qg u qm um 4 (by decide)).trans rfl, fun _ h => h⟩
theorem gs_pl_6_1 : gs_plc D (w_G qg u ++ w_M qm um) (gs_adr qg u qm um b) (gs_cA u um) 6 1 := ⟨_, (gs_x2 qg u qm um 3 (by decide)).trans rfl, fun _ h => h⟩
theorem gs_pl_7_0 : gs_plc D (w_G qg u ++ w_M qm um) (gs_adr qg u qm um b) (gs_cA u um) 7 0 := ⟨_, (gs_x0 qg u qm um 5 (by decide)).trans rfl, fun _ h => h⟩
theorem gs_pl_7_1 : gs_plc D (w_G qg u ++ w_M qm um) (gs_adr qg u qm um b) (gs_cA u um) 7 1 := ⟨_, (gs_x2 qg u qm um 4 (by decide)).trans rfl, fun _ h => h⟩
theorem gs_pl_8_0 : gs_plc D (w_G qg u ++ w_M qm um) (gs_adr qg u qm um b) (gs_cA u um) 8 0 := ⟨_, (gs_x0 qg u qm um 6 (by decide)).trans rfl, fun _ h => h⟩
theorem gs_pl_8_1 : gs_plc D (w_G qg u ++ w_M qm um) (gs_adr qg u qm um b) (gs_cA u um) 8 1 := ⟨_, (gs_x2 qg u qm um 5 (by decide)).trans rfl, fun _ h => h⟩
theorem gs_pl_9_0 : gs_plc D (w_G qg u ++ w_M qm um) (gs_adr qg u qm um b) (gs_cA u um) 9 0 := ⟨_, (gs_x0 qg u qm um 7 (by decide)).trans rfl, fun _ h => h⟩
theorem gs_pl_9_1 : gs_plc D (w_G qg u ++ w_M qm um) (gs_adr qg u qm um b) (gs_cA u um) 9 1 := ⟨_, (gs_x2 qg u qm um 6 (by decide)).trans rfl, fun _ h => h⟩
theorem gs_pl_10_0 : gs_plc D (w_G qg u ++ w_M qm um) (gs_adr qg u qm um b) (gs_cA u um) 10 0 := ⟨_, (gs_x0 qg u qm um 8 (by decide)).trans rfl, fun _ h => h⟩
theorem gs_pl_10_1 : gs_plc D (w_G qg u ++ w_M qm um) (gs_adr qg u qm um b) (gs_cA u um) 10 1 := ⟨_, (gs_x2 qg u qm um 7 (by decide)).trans rfl, fun _ h => h⟩
theorem gs_pl_11_0 : gs_plc D (w_G qg u ++ w_M qm um) (gs_adr qg u qm um b) (gs_cA u um) 11 0 := by
  refine ⟨_, (gs_x0 qg u qm um 10 (by decide)).trans rfl, fun H h => ?_⟩
  refine gs_arr D (n := 40) (f := fun j => some (u.1.1.2.2.2.2 j)) (f' := fun j => some (gs_g2 u (gs_ii 0 j))) (fun j hj => ?_) h
  show some (u.1.1.2.2.2.2 j) = some (if 40 * 0 + j < 40 then u.1.1.2.2.2.2 (40 * 0 + j) else u.1.2.2.2.2.2 (40 * 0 + j - 40))
  rw [if_pos (by omega), show 40 * 0 + j = j by omega]
theorem gs_pl_11_1 : gs_plc D (w_G qg u ++ w_M qm um) (gs_adr qg u qm um b) (gs_cA u um) 11 1 := by
  refine ⟨_, (gs_x2 qg u qm um 9 (by decide)).trans rfl, fun H h => ?_⟩
  refine gs_arr D (n := 40) (f := fun j => some (u.1.2.2.2.2.2 j)) (f' := fun j => some (gs_g2 u (gs_ii 1 j))) (fun j hj => ?_) h
  show some (u.1.2.2.2.2.2 j) = some (if 40 * 1 + j < 40 then u.1.1.2.2.2.2 (40 * 1 + j) else u.1.2.2.2.2.2 (40 * 1 + j - 40))
  rw [if_neg (by omega), show 40 * 1 + j - 40 = j by omega]
theorem gs_pl_12_0 : gs_plc D (w_G qg u ++ w_M qm um) (gs_adr qg u qm um b) (gs_cA u um) 12 0 := ⟨_, (gs_x0 qg u qm um 11 (by decide)).trans rfl, fun _ h => h⟩
theorem gs_pl_12_1 : gs_plc D (w_G qg u ++ w_M qm um) (gs_adr qg u qm um b) (gs_cA u um) 12 1 := ⟨_, (gs_x2 qg u qm um 10 (by decide)).trans rfl, fun _ h => h⟩
theorem gs_pl_20_0 : gs_plc D (w_G qg u ++ w_M qm um) (gs_adr qg u qm um b) (gs_cA u um) 20 0 := ⟨_, (gs_x4 qg u qm um 1).trans rfl, fun _ h => h⟩
theorem gs_pl_21_0 : gs_plc D (w_G qg u ++ w_M qm um) (gs_adr qg u qm um b) (gs_cA u um) 21 0 := ⟨_, (gs_x4 qg u qm um 2).trans rfl, fun _ h => h⟩
theorem gs_pl_22_0 : gs_plc D (w_G qg u ++ w_M qm um) (gs_adr qg u qm um b) (gs_cA u um) 22 0 := ⟨_, (gs_x4 qg u qm um 3).trans rfl, fun _ h => h⟩
theorem gs_pl_23_0 : gs_plc D (w_G qg u ++ w_M qm um) (gs_adr qg u qm um b) (gs_cA u um) 23 0 := ⟨_, (gs_x4 qg u qm um 4).trans rfl, fun _ h => h⟩
theorem gs_pl_24_0 : gs_plc D (w_G qg u ++ w_M qm um) (gs_adr qg u qm um b) (gs_cA u um) 24 0 := ⟨_, (gs_x4 qg u qm um 5).trans rfl, fun _ h => h⟩
theorem gs_pl_25_0 : gs_plc D (w_G qg u ++ w_M qm um) (gs_adr qg u qm um b) (gs_cA u um) 25 0 := ⟨_, (gs_x4 qg u qm um 6).trans rfl, fun _ h => h⟩
theorem gs_pl_13 (i : Nat) (hi : i < 80) : gs_plc D (w_G qg u ++ w_M qm um) (gs_adr qg u qm um b) (gs_cA u um) 13 i := by
  by_cases h : i < 40
  · refine ⟨gs_bl 4, ?_, fun _ h => h⟩
    show (w_G qg u ++ w_M qm um)[if i < 40 then 12 + i else 23 + i]? = some (if i < 40 then u.1.1.2.2.2.2 i else u.1.2.2.2.2.2 (i - 40), gs_bl 4)
    rw [if_pos h, if_pos h, gs_x1 qg u qm um i h]
  · refine ⟨gs_bl 4, ?_, fun _ h => h⟩
    show (w_G qg u ++ w_M qm um)[if i < 40 then 12 + i else 23 + i]? = some (if i < 40 then u.1.1.2.2.2.2 i else u.1.2.2.2.2.2 (i - 40), gs_bl 4)
    rw [if_neg h, if_neg h, show 23 + i = 63 + (i - 40) by omega, gs_x3 qg u qm um (i - 40) (by omega)]
theorem gs_plall : ∀ q ∈ gs_RL, gs_plc D (w_G qg u ++ w_M qm um) (gs_adr qg u qm um b) (gs_cA u um) q.1 q.2 := gs_all (P := gs_plc D (w_G qg u ++ w_M qm um) (gs_adr qg u qm um b) (gs_cA u um)) (List.forall_mem_cons.mpr ⟨gs_pl_0_0 D qg u qm um b, List.forall_mem_cons.mpr ⟨gs_pl_1_0 D qg u qm um b, List.forall_mem_cons.mpr ⟨gs_pl_1_1 D qg u qm um b, List.forall_mem_cons.mpr ⟨gs_pl_2_0 D qg u qm um b, List.forall_mem_cons.mpr ⟨gs_pl_3_0 D qg u qm um b, List.forall_mem_cons.mpr ⟨gs_pl_3_1 D qg u qm um b, List.forall_mem_cons.mpr ⟨gs_pl_4_0 D qg u qm um b, List.forall_mem_cons.mpr ⟨gs_pl_4_1 D qg u qm um b, List.forall_mem_cons.mpr ⟨gs_pl_5_0 D qg u qm um b, List.forall_mem_cons.mpr ⟨gs_pl_5_1 D qg u qm um b, List.forall_mem_cons.mpr ⟨gs_pl_6_0 D qg u qm um b, List.forall_mem_cons.mpr ⟨gs_pl_6_1 D qg u qm um b, List.forall_mem_cons.mpr ⟨gs_pl_7_0 D qg u qm um b, List.forall_mem_cons.mpr ⟨gs_pl_7_1 D qg u qm um b, List.forall_mem_cons.mpr ⟨gs_pl_8_0 D qg u qm um b, List.forall_mem_cons.mpr ⟨gs_pl_8_1 D qg u qm um b, List.forall_mem_cons.mpr ⟨gs_pl_9_0 D qg u qm um b, List.forall_mem_cons.mpr ⟨gs_pl_9_1 D qg u qm um b, List.forall_mem_cons.mpr ⟨gs_pl_10_0 D qg u qm um b, List.forall_mem_cons.mpr ⟨gs_pl_10_1 D qg u qm um b, List.forall_mem_cons.mpr ⟨gs_pl_11_0 D qg u qm um b, List.forall_mem_cons.mpr ⟨gs_pl_11_1 D qg u qm um b, List.forall_mem_cons.mpr ⟨gs_pl_12_0 D qg u qm um b, List.forall_mem_cons.mpr ⟨gs_pl_12_1 D qg u qm um b, List.forall_mem_cons.mpr ⟨gs_pl_20_0 D qg u qm um b, List.forall_mem_cons.mpr ⟨gs_pl_21_0 D qg u qm um b, List.forall_mem_cons.mpr ⟨gs_pl_22_0 D qg u qm um b, List.forall_mem_cons.mpr ⟨gs_pl_23_0 D qg u qm um b, List.forall_mem_cons.mpr ⟨gs_pl_24_0 D qg u qm um b, List.forall_mem_cons.mpr ⟨gs_pl_25_0 D qg u qm um b, fun _ h => absurd h List.not_mem_nil⟩⟩⟩⟩⟩⟩⟩⟩⟩⟩⟩⟩⟩⟩⟩⟩⟩⟩⟩⟩⟩⟩⟩⟩⟩⟩⟩⟩⟩⟩) (gs_pl_13 D qg u qm um b)
theorem gs_world {A : Nat → Prop} {H : Heap} (hP : va_P D gs_CL (w_G qg u ++ w_M qm um) H) (hD : va_D A (w_G qg u ++ w_M qm um)) : va_P D gs_CL (gs_W Y0 (gs_cA u um) (gs_adr qg u qm um b) gs_d0 gs_RL) H ∧ va_D A (gs_W Y0 (gs_cA u um) (gs_adr qg u qm um b) gs_d0 gs_RL) := by
  have key : ∀ (k : Nat) (q : Nat × va_E), (gs_W Y0 (gs_cA u um) (gs_adr qg u qm um b) gs_d0 gs_RL)[k]? = some q → ∃ r : Nat × Nat, gs_RL[k]? = some r ∧ q = (gs_adr qg u qm um b r.1 r.2, gs_cont Y0 (gs_cA u um) (gs_adr qg u qm um b) gs_d0 r.1 r.2) := by
    intro k q hk
    unfold gs_W at hk
    rw [List.getElem?_map] at hk
    cases hr : gs_RL[k]? with
    | none =>
      rw [hr] at hk
      cases hk
    | some r =>
      rw [hr] at hk
      cases hk
      exact ⟨r, rfl, rfl⟩
  refine ⟨fun k q hk => ?_, fun i j x y hx hy hxy => ?_, fun k q hk => ?_⟩
  · obtain ⟨r, h1, rfl⟩ := key k q hk
    obtain ⟨e, h2, h3⟩ := gs_plall D qg u qm um b r (List.mem_of_getElem? h1)
    exact h3 H (hP _ _ h2)
  · obtain ⟨r1, a1, rfl⟩ := key i x hx
    obtain ⟨r2, a2, rfl⟩ := key j y hy
    obtain ⟨e1, b1, -⟩ := gs_plall D qg u qm um b r1 (List.mem_of_getElem? a1)
    obtain ⟨e2, b2, -⟩ := gs_plall D qg u qm um b r2 (List.mem_of_getElem? a2)
    exact gs_pz9_inj a1 a2 (hD.1 _ _ _ _ b1 b2 hxy)
  · obtain ⟨r, h1, rfl⟩ := key k q hk
    obtain ⟨e, h2, -⟩ := gs_plall D qg u qm um b r (List.mem_of_getElem? h1)
    have h4 := hD.2 _ _ h2
    exact h4
theorem gs_worldT : ∀ q ∈ gs_RL, ∀ ty, gs_TL q.1 = some ty → (gs_cA u um q.1 q.2, ty) ∈ t_G u ++ t_M um := gs_all (P := fun t i => ∀ ty, gs_TL t = some ty → (gs_cA u um t i, ty) ∈ t_G u ++ t_M um) (List.forall_mem_cons.mpr ⟨fun ty h => (by cases (show (none : Option FieldType) = some ty from h)), List.forall_mem_cons.mpr ⟨fun ty h => (by cases (show (none : Option FieldType) = some ty from h)), List.forall_mem_cons.mpr ⟨fun ty h => (by cases (show (none : Option FieldType) = some ty from h)), List.forall_mem_cons.mpr ⟨fun ty h => (by cases (show some (.boolean : FieldType) = some ty from h); exact List.mem_of_getElem? (i := 16) rfl), List.forall_mem_cons.mpr ⟨fun ty h => (by cases (show (none : Option FieldType) = some ty from h)), List.forall_mem_cons.mpr ⟨fun ty h => (by cases (show (none : Option FieldType) = some ty from h)), List.forall_mem_cons.mpr ⟨fun ty h => (by cases (show (none : Option FieldType) = some ty from h)), List.forall_mem_cons.mpr ⟨fun ty h => (by cases (show (none : Option FieldType) = some ty from h)), List.forall_mem_cons.mpr ⟨fun ty h => (by cases (show some (.long : FieldType) = some ty from h); exact List.mem_of_getElem? (i := 0) rfl), List.forall_mem_cons.mpr ⟨fun ty h => (by cases (show some (.long : FieldType) = some ty from h); exact List.mem_of_getElem? (i := 8) rfl), List.forall_mem_cons.mpr ⟨fun ty h => (by cases (show some (.long : FieldType) = some ty from h); exact List.mem_of_getElem? (i := 1) rfl), List.forall_mem_cons.mpr ⟨fun ty h => (by cases (show some (.long : FieldType) = some ty from h); exact List.mem_of_getElem? (i := 9) rfl), List.forall_mem_cons.mpr ⟨fun ty h => (by cases (show some (.int : FieldType) = some ty from h); exact List.mem_of_getElem? (i := 2) rfl), List.forall_mem_cons.mpr ⟨fun ty h => (by cases (show some (.int : FieldType) = some ty from h); exact List.mem_of_getElem? (i := 10) rfl), List.forall_mem_cons.mpr ⟨fun ty h => (by cases (show some (.int : FieldType) = some ty from h); exact List.mem_of_getElem? (i := 3) rfl), List.forall_mem_cons.mpr ⟨fun ty h => (by cases (show some (.int : FieldType) = some ty from h); exact List.mem_of_getElem? (i := 11) rfl), List.forall_mem_cons.mpr ⟨fun ty h => (by cases (show some (.int : FieldType) = some ty from h); exact List.mem_of_getElem? (i := 4) rfl), List.forall_mem_cons.mpr ⟨fun ty h => (by cases (show some (.int : FieldType) = some ty from h); exact List.mem_of_getElem? (i := 12) rfl), List.forall_mem_cons.mpr ⟨fun ty h => (by cases (show some (.long : FieldType) = some ty from h); exact List.mem_of_getElem? (i := 5) rfl), List.forall_mem_cons.mpr ⟨fun ty h => (by cases (show some (.long : FieldType) = some ty from h); exact List.mem_of_getElem? (i := 13) rfl), List.forall_mem_cons.mpr ⟨fun ty h => (by cases (show some (.object "GrossSettlement$Instruction" : FieldType) = some ty from h); exact List.mem_of_getElem? (i := 6) rfl), List.forall_mem_cons.mpr ⟨fun ty h => (by cases (show some (.object "GrossSettlement$Instruction" : FieldType) = some ty from h); exact List.mem_of_getElem? (i := 14) rfl), List.forall_mem_cons.mpr ⟨fun ty h => (by cases (show some (.int : FieldType) = some ty from h); exact List.mem_of_getElem? (i := 7) rfl), List.forall_mem_cons.mpr ⟨fun ty h => (by cases (show some (.int : FieldType) = some ty from h); exact List.mem_of_getElem? (i := 15) rfl), List.forall_mem_cons.mpr ⟨fun ty h => (by cases (show (none : Option FieldType) = some ty from h)), List.forall_mem_cons.mpr ⟨fun ty h => (by cases (show some (.long : FieldType) = some ty from h); exact List.mem_of_getElem? (i := 17) rfl), List.forall_mem_cons.mpr ⟨fun ty h => (by cases (show some (.long : FieldType) = some ty from h); exact List.mem_of_getElem? (i := 18) rfl), List.forall_mem_cons.mpr ⟨fun ty h => (by cases (show some (.int : FieldType) = some ty from h); exact List.mem_of_getElem? (i := 19) rfl), List.forall_mem_cons.mpr ⟨fun ty h => (by cases (show some (.long : FieldType) = some ty from h); exact List.mem_of_getElem? (i := 20) rfl), List.forall_mem_cons.mpr ⟨fun ty h => (by cases (show some (.int : FieldType) = some ty from h); exact List.mem_of_getElem? (i := 21) rfl), fun _ h => absurd h List.not_mem_nil⟩⟩⟩⟩⟩⟩⟩⟩⟩⟩⟩⟩⟩⟩⟩⟩⟩⟩⟩⟩⟩⟩⟩⟩⟩⟩⟩⟩⟩⟩) (fun i _ ty h => (by cases (show (none : Option FieldType) = some ty from h)))
theorem gs_worldK {s : State} (hK : va_K D gs_CL (t_G u ++ t_M um) s) : va_K D gs_CL (gs_T (gs_cA u um) gs_RL gs_TL) s := ⟨hK.1, fun k q hk => by
  have hm := List.mem_of_getElem? hk
  unfold gs_T at hm
  obtain ⟨r, hr, e⟩ := List.mem_filterMap.mp hm
  cases hT : gs_TL r.1 with
  | none =>
    rw [hT] at e
    cases e
  | some ty =>
    rw [hT] at e
    cases e
    obtain ⟨j, hj⟩ := List.getElem?_of_mem (gs_worldT u um r hr ty hT)
    exact hK.2 j _ hj⟩
end PL
