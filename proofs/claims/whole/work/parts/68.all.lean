-- the start: what the cells hold, and what that means
def gs_d0 : gs_D := (fun t _ => match Nat.beq t 9 with
  | true => gs_lim 36
  | false => fun _ => 0, fun t _ => match Nat.beq t 21 || Nat.beq t 22 with
  | true => gs_ro 70
  | false => fun _ => 0)
def gs_s0 : gs_S := (fun a _ => match Nat.beq a 4 with
  | true => -1
  | false => 0, [])
theorem gs_Cl0 (b : Nat) : gs_Cl b gs_d0 gs_s0 := by
  have z : (0 : Int32) = gs_n 0 := by decide
  have z2 : (0 : Int64) = gs_m 0 := by decide
  refine ⟨⟨fun j hj => z2, fun j hj => z2⟩, ⟨fun j hj => z, fun j hj => z⟩, ⟨fun j hj => ?_, fun j hj => z2⟩, ⟨z, z, z⟩, fun i k hi hk => ?_, fun k hk => ?_⟩
  · show (if j < 36 then -1 else 0 : Int32) = gs_n (-1)
    rw [if_pos hj]
    decide
  · have hi : (i : Int) < 0 := hi
    omega
  · have hk : k < 0 := hk
    omega
theorem gs_Mo0 {t : Nat} (ht : t = 21 ∨ t = 22) : gs_Mo t gs_d0 gs_s0 := by
  have key : ∀ n : Nat, n < 110 → n ≠ 108 → n ≠ 109 → gs_ro 70 n = gs_m (gs_mr gs_s0 n) := by decide +kernel
  intro n h1 h2 h3
  have h1 : (n : Int) < 110 + 8 * 0 := h1
  have h4 := key n (by omega) h2 h3
  rcases ht with rfl | rfl <;> exact h4
theorem gs_WF0 : gs_WF 0 gs_s0 := by
  have z : ∀ b : Int, 0 ≤ b → (-b ≤ (0 : Int) ∧ (0 : Int) ≤ b) := fun b hb => ⟨by omega, hb⟩
  have z1 : ∀ b : Int, 0 ≤ b → ((0 : Int) ≤ 0 ∧ (0 : Int) ≤ b) := fun b hb => ⟨by omega, hb⟩
  have k1 : ∀ n : Nat, n < 54 → 0 ≤ gs_rm gs_s0 n := by decide +kernel
  refine ⟨⟨⟨fun j hj => z 0 (by decide), fun j hj => z1 0 (by decide), fun j hj => z 0 (by decide)⟩, ⟨fun j hj => z1 1000 (by decide), fun j hj => z1 100 (by decide), fun j hj => ?_⟩, ⟨⟨by decide, by decide⟩, ⟨by decide, by decide⟩, by decide⟩, fun i hi => ?_⟩, ⟨by decide +kernel, by decide⟩, fun x x0 x1 => ?_, fun p _ _ => rfl⟩
  · show (-1 : Int) ≤ -1 ∧ (-1 : Int) ≤ 1000000
    decide
  · have hi : (i : Int) < 0 := hi
    omega
  · have := k1 x.toNat (by omega)
    rwa [Int.toNat_of_nonneg x0] at this
theorem gs_RR0 : gs_RR 0 gs_d0 gs_s0 gs_s0 := ⟨⟨gs_Cl0 0, gs_Cl0 1⟩, ⟨gs_Mo0 (Or.inl rfl), gs_Mo0 (Or.inr rfl)⟩, gs_WF0, gs_WF0⟩
-- the cells after both are made: names and places
def gs_bk (u : gs_SG) (i : Nat) : gs_SB := match i with
  | 0 => u.1.1.2
  | _ => u.1.2.2
def gs_bh (u : gs_SG) (i : Nat) : Nat := match i with
  | 0 => u.1.1.1
  | _ => u.1.2.1
def gs_g2 (u : gs_SG) (i : Nat) : Nat := if i < 40 then u.1.1.2.2.2.2 i else u.1.2.2.2.2.2 (i - 40)
def gs_adr (qg : Nat) (u : gs_SG) (qm : Nat) (um : gs_SA) (b : Nat) (t i : Nat) : Nat := gs_or (gs_lk ([(0, fun _ => qg), (1, fun i => gs_bh u i), (2, fun _ => u.2.1), (3, fun i => (gs_bk u i).1.1), (4, fun i => (gs_bk u i).2.1), (5, fun i => (gs_bk u i).1.2.1 5), (6, fun i => (gs_bk u i).1.2.1 6), (7, fun i => (gs_bk u i).1.2.1 7), (8, fun i => (gs_bk u i).1.2.1 8), (9, fun i => (gs_bk u i).1.2.1 9), (10, fun i => (gs_bk u i).1.2.1 10), (11, fun i => (gs_bk u i).2.2.1.1 11), (12, fun i => (gs_bk u i).2.2.1.1 12), (13, fun i => gs_g2 u i), (20, fun _ => qm), (21, fun _ => um.1 21), (22, fun _ => um.1 22), (23, fun _ => um.1 23), (24, fun _ => um.1 24), (25, fun _ => um.1 25), (30, fun _ => b)] : List (Nat × (Nat → Nat))) t) (fun _ => 0) i
def gs_cA (u : gs_SG) (um : gs_SA) (t i : Nat) : ClassId := gs_or (gs_lk ([(2, fun _ => u.2.2), (5, fun i => (gs_bk u i).1.2.2 5), (6, fun i => (gs_bk u i).1.2.2 6), (7, fun i => (gs_bk u i).1.2.2 7), (8, fun i => (gs_bk u i).1.2.2 8), (9, fun i => (gs_bk u i).1.2.2 9), (10, fun i => (gs_bk u i).1.2.2 10), (11, fun i => (gs_bk u i).2.2.1.2 11), (12, fun i => (gs_bk u i).2.2.1.2 12), (21, fun _ => um.2 21), (22, fun _ => um.2 22), (23, fun _ => um.2 23), (24, fun _ => um.2 24), (25, fun _ => um.2 25)] : List (Nat × (Nat → ClassId))) t) (fun _ => (0 : ClassId)) i
def gs_pz9 (t i : Nat) : Nat := match Nat.beq t 13 with
  | true => if i < 40 then 12 + i else 23 + i
  | false => gs_or (gs_lk [(0, 0), (2, 1), (3, 52), (4, 103), (6, 2), (7, 53), (8, 9), (9, 60), (10, 3), (11, 54), (12, 4), (13, 55), (14, 5), (15, 56), (16, 6), (17, 57), (18, 7), (19, 58), (20, 8), (21, 59), (22, 10), (23, 61), (24, 11), (25, 62), (40, 104), (42, 105), (44, 106), (46, 107), (48, 108), (50, 109)] (2 * t + i)) 999
def gs_fx : List (Nat × Nat) := [(0, 0), (1, 0), (1, 1), (2, 0), (3, 0), (3, 1), (4, 0), (4, 1), (5, 0), (5, 1), (6, 0), (6, 1), (7, 0), (7, 1), (8, 0), (8, 1), (9, 0), (9, 1), (10, 0), (10, 1), (11, 0), (11, 1), (12, 0), (12, 1), (20, 0), (21, 0), (22, 0), (23, 0), (24, 0), (25, 0)]
theorem gs_all {P : Nat → Nat → Prop} (hf : ∀ q ∈ gs_fx, P q.1 q.2) (h13 : ∀ i, i < 80 → P 13 i) : ∀ q ∈ gs_RL, P q.1 q.2 := by
  have k1 : gs_RL.all (fun q => !(Nat.beq q.1 13) || Nat.ble (q.2 + 1) 80) = true := by decide +kernel
  have k2 : gs_RL.all (fun q => Nat.beq q.1 13 || decide (q ∈ gs_fx)) = true := by decide +kernel
  intro q hq
  have a1 := List.all_eq_true.mp k1 q hq
  have a2 := List.all_eq_true.mp k2 q hq
  obtain ⟨t, i⟩ := q
  have a1 : (!(Nat.beq t 13) || Nat.ble (i + 1) 80) = true := a1
  have a2 : (Nat.beq t 13 || decide ((t, i) ∈ gs_fx)) = true := a2
  cases hb : Nat.beq t 13
  · rw [hb, Bool.false_or] at a2
    exact hf (t, i) (of_decide_eq_true a2)
  · rw [hb, Bool.not_true, Bool.false_or] at a1
    have e : t = 13 := Nat.eq_of_beq_eq_true hb
    subst e
    exact h13 i (Nat.le_of_ble_eq_true a1)
theorem gs_pz9_inj {i j : Nat} {r1 r2 : Nat × Nat} (h1 : gs_RL[i]? = some r1) (h2 : gs_RL[j]? = some r2) (h : gs_pz9 r1.1 r1.2 = gs_pz9 r2.1 r2.2) : i = j := by
  have nd : (gs_RL.map fun q => gs_pz9 q.1 q.2).Nodup := by decide +kernel
  have a1 : (gs_RL.map fun q => gs_pz9 q.1 q.2)[i]? = some (gs_pz9 r1.1 r1.2) := by
    rw [List.getElem?_map, h1]
    rfl
  have a2 : (gs_RL.map fun q => gs_pz9 q.1 q.2)[j]? = some (gs_pz9 r2.1 r2.2) := by
    rw [List.getElem?_map, h2]
    rfl
  obtain ⟨x1, y1⟩ := List.getElem?_eq_some_iff.mp a1
  obtain ⟨x2, y2⟩ := List.getElem?_eq_some_iff.mp a2
  exact (List.getElem_inj nd).mp (y1.trans (h.trans y2.symm))
theorem gs_sg2 {α : Type} {a b : List α} {n : Nat} (k : Nat) (h : a.length = n) : (a ++ b)[n + k]? = b[k]? := by
  subst h
  rw [List.getElem?_append_right (Nat.le_add_right _ _), Nat.add_sub_cancel_left]
theorem gs_sg3 {α : Type} {a b c : List α} {n : Nat} (k : Nat) (h : a.length + b.length = n) : (a ++ (b ++ c))[n + k]? = c[k]? := by
  rw [← List.append_assoc]
  exact gs_sg2 k (by rw [List.length_append]; exact h)
theorem gs_sg4 {α : Type} {a b c d : List α} {n : Nat} (k : Nat) (h : a.length + b.length + c.length = n) : (a ++ (b ++ (c ++ d)))[n + k]? = d[k]? := by
  rw [← List.append_assoc]
  exact gs_sg3 k (by rw [List.length_append]; exact h)
theorem gs_sg5 {α : Type} {a b c d e : List α} {n : Nat} (k : Nat) (h : a.length + b.length + c.length + d.length = n) : (a ++ (b ++ (c ++ (d ++ e))))[n + k]? = e[k]? := by
  rw [← List.append_assoc]
  exact gs_sg4 k (by rw [List.length_append]; exact h)
theorem gs_is_len (g : Nat → Nat) (k : Nat) : (gs_is g k).length = k := by
  unfold gs_is
  rw [List.length_map, List.length_range]
theorem gs_is_at (g : Nat → Nat) {k i : Nat} (h : i < k) : (gs_is g k)[i]? = some (g i, gs_bl 4) := by
  unfold gs_is
  rw [List.getElem?_map, List.getElem?_range h]
  rfl
def gs_bp (h : Nat) (u : gs_SB) : va_W := (h, .inr (1, [.int 0, .ref u.1.1, .ref u.2.1])) :: (w_A u.1.1 u.1.2 ++ [(u.2.1, .inr (3, [.ref (u.2.2.1.1 11), .int 0, .ref (u.2.2.1.1 12), .int 0])), (u.2.2.1.1 11, .inl (u.2.2.1.2 11, 40, .inr (.inr (.inr (.inr fun j => some (u.2.2.2 j)))))), (u.2.2.1.1 12, .inl (u.2.2.1.2 12, 10, .inl fun _ => 0))])
theorem w_B_s (h : Nat) (u : gs_SB) : w_B h u = gs_bp h u ++ gs_is u.2.2.2 40 := by
  unfold w_B gs_bp w_Q
  rw [List.cons_append, List.append_assoc]
def gs_p0 (qg : Nat) (u : gs_SG) : va_W := (qg, .inr (0, [.ref u.1.1.1, .ref u.1.2.1, .ref u.2.1])) :: gs_bp u.1.1.1 u.1.1.2
def gs_p4 (u : gs_SG) (qm : Nat) (um : gs_SA) : va_W := (u.2.1, .inl (u.2.2, 10, .inl fun _ => 0)) :: w_M qm um
theorem w_G_s (qg : Nat) (u : gs_SG) (qm : Nat) (um : gs_SA) : w_G qg u ++ w_M qm um = gs_p0 qg u ++ (gs_is u.1.1.2.2.2.2 40 ++ (gs_bp u.1.2.1 u.1.2.2 ++ (gs_is u.1.2.2.2.2.2 40 ++ gs_p4 u qm um))) := by
  unfold w_G gs_p0 gs_p4
  rw [w_B_s, w_B_s]
  simp only [List.append_assoc, List.cons_append, List.nil_append]
def gs_plc (D : va_G) (X : va_W) (ad : Nat → Nat → Nat) (cA : Nat → Nat → ClassId) (t i : Nat) : Prop := ∃ e, X[gs_pz9 t i]? = some (ad t i, e) ∧ ∀ H, va_at D gs_CL (ad t i, e) H → va_at D gs_CL (ad t i, gs_cont Y0 cA ad gs_d0 t i) H
section PL
variable (D : va_G) (qg : Nat) (u : gs_SG) (qm : Nat) (um : gs_SA) (b : Nat)
theorem gs_x0 (k : Nat) (hk : k < 12) : (w_G qg u ++ w_M qm um)[k]? = (gs_p0 qg u)[k]? := by
  rw [w_G_s, List.getElem?_append_left hk]
theorem gs_x1 (i : Nat) (hi : i < 40) : (w_G qg u ++ w_M qm um)[12 + i]? = some (u.1.1.2.2.2.2 i, gs_bl 4) := by
  rw [w_G_s, gs_sg2 i (show (gs_p0 qg u).length = 12 from rfl), List.getElem?_append_left (by rw [gs_is_len]; exact hi), gs_is_at _ hi]
theorem gs_x2 (k : Nat) (hk : k < 11) : (w_G qg u ++ w_M qm um)[52 + k]? = (gs_bp u.1.2.1 u.1.2.2)[k]? := by
  rw [w_G_s, gs_sg3 k (by rw [gs_is_len]; rfl), List.getElem?_append_left hk]
theorem gs_x3 (i : Nat) (hi : i < 40) : (w_G qg u ++ w_M qm um)[63 + i]? = some (u.1.2.2.2.2.2 i, gs_bl 4) := by
  rw [w_G_s, gs_sg4 i (by rw [gs_is_len]; rfl), List.getElem?_append_left (by rw [gs_is_len]; exact hi), gs_is_at _ hi]
theorem gs_x4 (k : Nat) : (w_G qg u ++ w_M qm um)[103 + k]? = (gs_p4 u qm um)[k]? := by
  rw [w_G_s, gs_sg5 k (by rw [gs_is_len, gs_is_len]; rfl)]
/-- only the places of an array of references count -/
theorem gs_arr {q n : Nat} {c : ClassId} {f f' : Nat → Option Nat} {H : Heap} (hf : ∀ j, j < n → f j = f' j) (h : va_at D gs_CL (q, .inl (c, n, .inr (.inr (.inr (.inr f))))) H) : va_at D gs_CL (q, .inl (c, n, .inr (.inr (.inr (.inr f'))))) H := by
  have h1 : H[q]? = some (vp_cell c (n, .inr (.inr (.inr (.inr f))))) := h
  show H[q]? = some (vp_cell c (n, .inr (.inr (.inr (.inr f')))))
  rw [h1]
  show some (arrV c n (fun j => va_rf (f j))) = some (arrV c n (fun j => va_rf (f' j)))
  unfold arrV
  congr 2
  congr 1
  funext j
  show va_rf (f j.val) = va_rf (f' j.val)
  rw [hf j.val j.isLt]
theorem gs_pl_0_0 : gs_plc D (w_G qg u ++ w_M qm um) (gs_adr qg u qm um b) (gs_cA u um) 0 0 := ⟨_, (gs_x0 qg u qm um 0 (by decide)).trans rfl, fun _ h => h⟩
theorem gs_pl_1_0 : gs_plc D (w_G qg u ++ w_M qm um) (gs_adr qg u qm um b) (gs_cA u um) 1 0 := ⟨_, (gs_x0 qg u qm um 1 (by decide)).trans rfl, fun _ h => h⟩
theorem gs_pl_1_1 : gs_plc D (w_G qg u ++ w_M qm um) (gs_adr qg u qm um b) (gs_cA u um) 1 1 := ⟨_, (gs_x2 qg u qm um 0 (by decide)).trans rfl, fun _ h => h⟩
theorem gs_pl_2_0 : gs_plc D (w_G qg u ++ w_M qm um) (gs_adr qg u qm um b) (gs_cA u um) 2 0 := ⟨_, (gs_x4 qg u qm um 0).trans rfl, fun _ h => h⟩
theorem gs_pl_3_0 : gs_plc D (w_G qg u ++ w_M qm um) (gs_adr qg u qm um b) (gs_cA u um) 3 0 := ⟨_, (gs_x0 qg u qm um 2 (by decide)).trans rfl, fun _ h => h⟩
theorem gs_pl_3_1 : gs_plc D (w_G qg u ++ w_M qm um) (gs_adr qg u qm um b) (gs_cA u um) 3 1 := ⟨_, (gs_x2 qg u qm um 1 (by decide)).trans rfl, fun _ h => h⟩
theorem gs_pl_4_0 : gs_plc D (w_G qg u ++ w_M qm um) (gs_adr qg u qm um b) (gs_cA u um) 4 0 := ⟨_, (gs_x0 qg u qm um 9 (by decide)).trans rfl, fun _ h => h⟩
theorem gs_pl_4_1 : gs_plc D (w_G qg u ++ w_M qm um) (gs_adr qg u qm um b) (gs_cA u um) 4 1 := ⟨_, (gs_x2 qg u qm um 8 (by decide)).trans rfl, fun _ h => h⟩
theorem gs_pl_5_0 : gs_plc D (w_G qg u ++ w_M qm um) (gs_adr qg u qm um b) (gs_cA u um) 5 0 := ⟨_, (gs_x0 qg u qm um 3 (by decide)).trans rfl, fun _ h => h⟩
theorem gs_pl_5_1 : gs_plc D (w_G qg u ++ w_M qm um) (gs_adr qg u qm um b) (gs_cA u um) 5 1 := ⟨_, (gs_x2 qg u qm um 2 (by decide)).trans rfl, fun _ h => h⟩
theorem gs_pl_6_0 : gs_plc D (w_G qg u ++ w_M qm um) (gs_adr qg u qm um b) (gs_cA u um) 6 0 := ⟨_, (gs_x0 qg u qm um 4 (by decide)).trans rfl, fun _ h => h⟩
theorem gs_pl_6_1 : gs_plc D (w_G qg u ++ w_M qm um) (gs_adr qg u qm um b) (gs_cA u um) 6 1 := ⟨_, (gs_x2 qg u qm um 3 (by decide)).trans rfl, fun _ h => h⟩
theorem gs_pl_7_0 : gs_plc D (w_G qg u ++ w_M qm um) (gs_adr qg u qm um b) (gs_cA u um) 7 0 := ⟨_, (gs_x0 qg u qm um 5 (by decide)).trans rfl, fun _ h => h⟩
theorem gs_pl_7_1 : gs_plc D (w_G qg u ++ w_M qm um) (gs_adr qg u qm um b) (gs_cA u um) 7 1 := ⟨_, (gs_x2 qg u qm um 4 (by decide)).trans rfl, fun _ h => h⟩
theorem gs_pl_8_0 : gs_plc D (w_G qg u ++ w_M qm um) (gs_adr qg u qm um b) (gs_cA u um) 8 0 := ⟨_, (gs_x0 qg u qm um 6 (by decide)).trans rfl, fun _ h => h⟩
theorem gs_pl_8_1 : gs_plc D (w_G qg u ++ w_M qm um) (gs_adr qg u qm um b) (gs_cA u um) 8 1 := ⟨_, (gs_x2 qg u qm um 5 (by decide)).trans rfl, fun _ h => h⟩
theorem gs_pl_9_0 : gs_plc D (w_G qg u ++ w_M qm um) (gs_adr qg u qm um b) (gs_cA u um) 9 0 := ⟨_, (gs_x0 qg u qm um 7 (by decide)).trans rfl, fun _ h => h⟩
theorem gs_pl_9_1 : gs_plc D (w_G qg u ++ w_M qm um) (gs_adr qg u qm um b) (gs_cA u um) 9 1 := ⟨_, (gs_x2 qg u qm um 6 (by decide)).trans rfl, fun _ h => h⟩
theorem gs_pl_10_0 : gs_plc D (w_G qg u ++ w_M qm um) (gs_adr qg u qm um b) (gs_cA u um) 10 0 := ⟨_, (gs_x0 qg u qm um 8 (by decide)).trans rfl, fun _ h => h⟩
theorem gs_pl_10_1 : gs_plc D (w_G qg u ++ w_M qm um) (gs_adr qg u qm um b) (gs_cA u um) 10 1 := ⟨_, (gs_x2 qg u qm um 7 (by decide)).trans rfl, fun _ h => h⟩
theorem gs_pl_11_0 : gs_plc D (w_G qg u ++ w_M qm um) (gs_adr qg u qm um b) (gs_cA u um) 11 0 := by
  refine ⟨_, (gs_x0 qg u qm um 10 (by decide)).trans rfl, fun H h => ?_⟩
  refine gs_arr D (n := 40) (f := fun j => some (u.1.1.2.2.2.2 j)) (f' := fun j => some (gs_g2 u (gs_ii 0 j))) (fun j hj => ?_) h
  show some (u.1.1.2.2.2.2 j) = some (if 40 * 0 + j < 40 then u.1.1.2.2.2.2 (40 * 0 + j) else u.1.2.2.2.2.2 (40 * 0 + j - 40))
  rw [if_pos (by omega), show 40 * 0 + j = j by omega]
theorem gs_pl_11_1 : gs_plc D (w_G qg u ++ w_M qm um) (gs_adr qg u qm um b) (gs_cA u um) 11 1 := by
  refine ⟨_, (gs_x2 qg u qm um 9 (by decide)).trans rfl, fun H h => ?_⟩
  refine gs_arr D (n := 40) (f := fun j => some (u.1.2.2.2.2.2 j)) (f' := fun j => some (gs_g2 u (gs_ii 1 j))) (fun j hj => ?_) h
  show some (u.1.2.2.2.2.2 j) = some (if 40 * 1 + j < 40 then u.1.1.2.2.2.2 (40 * 1 + j) else u.1.2.2.2.2.2 (40 * 1 + j - 40))
  rw [if_neg (by omega), show 40 * 1 + j - 40 = j by omega]
theorem gs_pl_12_0 : gs_plc D (w_G qg u ++ w_M qm um) (gs_adr qg u qm um b) (gs_cA u um) 12 0 := ⟨_, (gs_x0 qg u qm um 11 (by decide)).trans rfl, fun _ h => h⟩
theorem gs_pl_12_1 : gs_plc D (w_G qg u ++ w_M qm um) (gs_adr qg u qm um b) (gs_cA u um) 12 1 := ⟨_, (gs_x2 qg u qm um 10 (by decide)).trans rfl, fun _ h => h⟩
theorem gs_pl_20_0 : gs_plc D (w_G qg u ++ w_M qm um) (gs_adr qg u qm um b) (gs_cA u um) 20 0 := ⟨_, (gs_x4 qg u qm um 1).trans rfl, fun _ h => h⟩
theorem gs_pl_21_0 : gs_plc D (w_G qg u ++ w_M qm um) (gs_adr qg u qm um b) (gs_cA u um) 21 0 := ⟨_, (gs_x4 qg u qm um 2).trans rfl, fun _ h => h⟩
theorem gs_pl_22_0 : gs_plc D (w_G qg u ++ w_M qm um) (gs_adr qg u qm um b) (gs_cA u um) 22 0 := ⟨_, (gs_x4 qg u qm um 3).trans rfl, fun _ h => h⟩
theorem gs_pl_23_0 : gs_plc D (w_G qg u ++ w_M qm um) (gs_adr qg u qm um b) (gs_cA u um) 23 0 := ⟨_, (gs_x4 qg u qm um 4).trans rfl, fun _ h => h⟩
theorem gs_pl_24_0 : gs_plc D (w_G qg u ++ w_M qm um) (gs_adr qg u qm um b) (gs_cA u um) 24 0 := ⟨_, (gs_x4 qg u qm um 5).trans rfl, fun _ h => h⟩
theorem gs_pl_25_0 : gs_plc D (w_G qg u ++ w_M qm um) (gs_adr qg u qm um b) (gs_cA u um) 25 0 := ⟨_, (gs_x4 qg u qm um 6).trans rfl, fun _ h => h⟩
theorem gs_pl_13 (i : Nat) (hi : i < 80) : gs_plc D (w_G qg u ++ w_M qm um) (gs_adr qg u qm um b) (gs_cA u um) 13 i := by
  by_cases h : i < 40
  · refine ⟨gs_bl 4, ?_, fun _ h => h⟩
    show (w_G qg u ++ w_M qm um)[if i < 40 then 12 + i else 23 + i]? = some (if i < 40 then u.1.1.2.2.2.2 i else u.1.2.2.2.2.2 (i - 40), gs_bl 4)
    rw [if_pos h, if_pos h, gs_x1 qg u qm um i h]
  · refine ⟨gs_bl 4, ?_, fun _ h => h⟩
    show (w_G qg u ++ w_M qm um)[if i < 40 then 12 + i else 23 + i]? = some (if i < 40 then u.1.1.2.2.2.2 i else u.1.2.2.2.2.2 (i - 40), gs_bl 4)
    rw [if_neg h, if_neg h, show 23 + i = 63 + (i - 40) by omega, gs_x3 qg u qm um (i - 40) (by omega)]
theorem gs_plall : ∀ q ∈ gs_RL, gs_plc D (w_G qg u ++ w_M qm um) (gs_adr qg u qm um b) (gs_cA u um) q.1 q.2 := gs_all (P := gs_plc D (w_G qg u ++ w_M qm um) (gs_adr qg u qm um b) (gs_cA u um)) (List.forall_mem_cons.mpr ⟨gs_pl_0_0 D qg u qm um b, List.forall_mem_cons.mpr ⟨gs_pl_1_0 D qg u qm um b, List.forall_mem_cons.mpr ⟨gs_pl_1_1 D qg u qm um b, List.forall_mem_cons.mpr ⟨gs_pl_2_0 D qg u qm um b, List.forall_mem_cons.mpr ⟨gs_pl_3_0 D qg u qm um b, List.forall_mem_cons.mpr ⟨gs_pl_3_1 D qg u qm um b, List.forall_mem_cons.mpr ⟨gs_pl_4_0 D qg u qm um b, List.forall_mem_cons.mpr ⟨gs_pl_4_1 D qg u qm um b, List.forall_mem_cons.mpr ⟨gs_pl_5_0 D qg u qm um b, List.forall_mem_cons.mpr ⟨gs_pl_5_1 D qg u qm um b, List.forall_mem_cons.mpr ⟨gs_pl_6_0 D qg u qm um b, List.forall_mem_cons.mpr ⟨gs_pl_6_1 D qg u qm um b, List.forall_mem_cons.mpr ⟨gs_pl_7_0 D qg u qm um b, List.forall_mem_cons.mpr ⟨gs_pl_7_1 D qg u qm um b, List.forall_mem_cons.mpr ⟨gs_pl_8_0 D qg u qm um b, List.forall_mem_cons.mpr ⟨gs_pl_8_1 D qg u qm um b, List.forall_mem_cons.mpr ⟨gs_pl_9_0 D qg u qm um b, List.forall_mem_cons.mpr ⟨gs_pl_9_1 D qg u qm um b, List.forall_mem_cons.mpr ⟨gs_pl_10_0 D qg u qm um b, List.forall_mem_cons.mpr ⟨gs_pl_10_1 D qg u qm um b, List.forall_mem_cons.mpr ⟨gs_pl_11_0 D qg u qm um b, List.forall_mem_cons.mpr ⟨gs_pl_11_1 D qg u qm um b, List.forall_mem_cons.mpr ⟨gs_pl_12_0 D qg u qm um b, List.forall_mem_cons.mpr ⟨gs_pl_12_1 D qg u qm um b, List.forall_mem_cons.mpr ⟨gs_pl_20_0 D qg u qm um b, List.forall_mem_cons.mpr ⟨gs_pl_21_0 D qg u qm um b, List.forall_mem_cons.mpr ⟨gs_pl_22_0 D qg u qm um b, List.forall_mem_cons.mpr ⟨gs_pl_23_0 D qg u qm um b, List.forall_mem_cons.mpr ⟨gs_pl_24_0 D qg u qm um b, List.forall_mem_cons.mpr ⟨gs_pl_25_0 D qg u qm um b, fun _ h => absurd h List.not_mem_nil⟩⟩⟩⟩⟩⟩⟩⟩⟩⟩⟩⟩⟩⟩⟩⟩⟩⟩⟩⟩⟩⟩⟩⟩⟩⟩⟩⟩⟩⟩) (gs_pl_13 D qg u qm um b)
theorem gs_world {A : Nat → Prop} {H : Heap} (hP : va_P D gs_CL (w_G qg u ++ w_M qm um) H) (hD : va_D A (w_G qg u ++ w_M qm um)) : va_P D gs_CL (gs_W Y0 (gs_cA u um) (gs_adr qg u qm um b) gs_d0 gs_RL) H ∧ va_D A (gs_W Y0 (gs_cA u um) (gs_adr qg u qm um b) gs_d0 gs_RL) := by
  have key : ∀ (k : Nat) (q : Nat × va_E), (gs_W Y0 (gs_cA u um) (gs_adr qg u qm um b) gs_d0 gs_RL)[k]? = some q → ∃ r : Nat × Nat, gs_RL[k]? = some r ∧ q = (gs_adr qg u qm um b r.1 r.2, gs_cont Y0 (gs_cA u um) (gs_adr qg u qm um b) gs_d0 r.1 r.2) := by
    intro k q hk
    unfold gs_W at hk
    rw [List.getElem?_map] at hk
    cases hr : gs_RL[k]? with
    | none =>
      rw [hr] at hk
      cases hk
    | some r =>
      rw [hr] at hk
      cases hk
      exact ⟨r, rfl, rfl⟩
  refine ⟨fun k q hk => ?_, fun i j x y hx hy hxy => ?_, fun k q hk => ?_⟩
  · obtain ⟨r, h1, rfl⟩ := key k q hk
    obtain ⟨e, h2, h3⟩ := gs_plall D qg u qm um b r (List.mem_of_getElem? h1)
    exact h3 H (hP _ _ h2)
  · obtain ⟨r1, a1, rfl⟩ := key i x hx
    obtain ⟨r2, a2, rfl⟩ := key j y hy
    obtain ⟨e1, b1, -⟩ := gs_plall D qg u qm um b r1 (List.mem_of_getElem? a1)
    obtain ⟨e2, b2, -⟩ := gs_plall D qg u qm um b r2 (List.mem_of_getElem? a2)
    exact gs_pz9_inj a1 a2 (hD.1 _ _ _ _ b1 b2 hxy)
  · obtain ⟨r, h1, rfl⟩ := key k q hk
    obtain ⟨e, h2, -⟩ := gs_plall D qg u qm um b r (List.mem_of_getElem? h1)
    exact hD.2 _ _ h2
theorem gs_worldT : ∀ q ∈ gs_RL, ∀ ty, gs_TL q.1 = some ty → (gs_cA u um q.1 q.2, ty) ∈ t_G u ++ t_M um := gs_all (P := fun t i => ∀ ty, gs_TL t = some ty → (gs_cA u um t i, ty) ∈ t_G u ++ t_M um) (List.forall_mem_cons.mpr ⟨fun ty h => Option.noConfusion (show (none : Option FieldType) = some ty from h), List.forall_mem_cons.mpr ⟨fun ty h => Option.noConfusion (show (none : Option FieldType) = some ty from h), List.forall_mem_cons.mpr ⟨fun ty h => Option.noConfusion (show (none : Option FieldType) = some ty from h), List.forall_mem_cons.mpr ⟨fun ty h => by cases (show some (.boolean : FieldType) = some ty from h); exact List.mem_of_getElem? (i := 16) rfl, List.forall_mem_cons.mpr ⟨fun ty h => Option.noConfusion (show (none : Option FieldType) = some ty from h), List.forall_mem_cons.mpr ⟨fun ty h => Option.noConfusion (show (none : Option FieldType) = some ty from h), List.forall_mem_cons.mpr ⟨fun ty h => Option.noConfusion (show (none : Option FieldType) = some ty from h), List.forall_mem_cons.mpr ⟨fun ty h => Option.noConfusion (show (none : Option FieldType) = some ty from h), List.forall_mem_cons.mpr ⟨fun ty h => by cases (show some (.long : FieldType) = some ty from h); exact List.mem_of_getElem? (i := 0) rfl, List.forall_mem_cons.mpr ⟨fun ty h => by cases (show some (.long : FieldType) = some ty from h); exact List.mem_of_getElem? (i := 8) rfl, List.forall_mem_cons.mpr ⟨fun ty h => by cases (show some (.long : FieldType) = some ty from h); exact List.mem_of_getElem? (i := 1) rfl, List.forall_mem_cons.mpr ⟨fun ty h => by cases (show some (.long : FieldType) = some ty from h); exact List.mem_of_getElem? (i := 9) rfl, List.forall_mem_cons.mpr ⟨fun ty h => by cases (show some (.int : FieldType) = some ty from h); exact List.mem_of_getElem? (i := 2) rfl, List.forall_mem_cons.mpr ⟨fun ty h => by cases (show some (.int : FieldType) = some ty from h); exact List.mem_of_getElem? (i := 10) rfl, List.forall_mem_cons.mpr ⟨fun ty h => by cases (show some (.int : FieldType) = some ty from h); exact List.mem_of_getElem? (i := 3) rfl, List.forall_mem_cons.mpr ⟨fun ty h => by cases (show some (.int : FieldType) = some ty from h); exact List.mem_of_getElem? (i := 11) rfl, List.forall_mem_cons.mpr ⟨fun ty h => by cases (show some (.int : FieldType) = some ty from h); exact List.mem_of_getElem? (i := 4) rfl, List.forall_mem_cons.mpr ⟨fun ty h => by cases (show some (.int : FieldType) = some ty from h); exact List.mem_of_getElem? (i := 12) rfl, List.forall_mem_cons.mpr ⟨fun ty h => by cases (show some (.long : FieldType) = some ty from h); exact List.mem_of_getElem? (i := 5) rfl, List.forall_mem_cons.mpr ⟨fun ty h => by cases (show some (.long : FieldType) = some ty from h); exact List.mem_of_getElem? (i := 13) rfl, List.forall_mem_cons.mpr ⟨fun ty h => by cases (show some (.object "GrossSettlement$Instruction" : FieldType) = some ty from h); exact List.mem_of_getElem? (i := 6) rfl, List.forall_mem_cons.mpr ⟨fun ty h => by cases (show some (.object "GrossSettlement$Instruction" : FieldType) = some ty from h); exact List.mem_of_getElem? (i := 14) rfl, List.forall_mem_cons.mpr ⟨fun ty h => by cases (show some (.int : FieldType) = some ty from h); exact List.mem_of_getElem? (i := 7) rfl, List.forall_mem_cons.mpr ⟨fun ty h => by cases (show some (.int : FieldType) = some ty from h); exact List.mem_of_getElem? (i := 15) rfl, List.forall_mem_cons.mpr ⟨fun ty h => Option.noConfusion (show (none : Option FieldType) = some ty from h), List.forall_mem_cons.mpr ⟨fun ty h => by cases (show some (.long : FieldType) = some ty from h); exact List.mem_of_getElem? (i := 17) rfl, List.forall_mem_cons.mpr ⟨fun ty h => by cases (show some (.long : FieldType) = some ty from h); exact List.mem_of_getElem? (i := 18) rfl, List.forall_mem_cons.mpr ⟨fun ty h => by cases (show some (.int : FieldType) = some ty from h); exact List.mem_of_getElem? (i := 19) rfl, List.forall_mem_cons.mpr ⟨fun ty h => by cases (show some (.long : FieldType) = some ty from h); exact List.mem_of_getElem? (i := 20) rfl, List.forall_mem_cons.mpr ⟨fun ty h => by cases (show some (.int : FieldType) = some ty from h); exact List.mem_of_getElem? (i := 21) rfl, fun _ h => absurd h List.not_mem_nil⟩⟩⟩⟩⟩⟩⟩⟩⟩⟩⟩⟩⟩⟩⟩⟩⟩⟩⟩⟩⟩⟩⟩⟩⟩⟩⟩⟩⟩⟩) (fun i _ ty h => Option.noConfusion (show (none : Option FieldType) = some ty from h))
theorem gs_worldK {s : State} (hK : va_K D gs_CL (t_G u ++ t_M um) s) : va_K D gs_CL (gs_T (gs_cA u um) gs_RL gs_TL) s := ⟨hK.1, fun k q hk => by
  have hm := List.mem_of_getElem? hk
  unfold gs_T at hm
  obtain ⟨r, hr, e⟩ := List.mem_filterMap.mp hm
  cases hT : gs_TL r.1 with
  | none =>
    rw [hT] at e
    cases e
  | some ty =>
    rw [hT] at e
    cases e
    obtain ⟨j, hj⟩ := List.getElem?_of_mem (gs_worldT u um r hr ty hT)
    exact hK.2 j _ hj⟩
end PL
-- the law's end
def R_law : String := "GrossSettlementLaw"
def lw_P (b : Addr) (xs : List Int32) (args : Array Value) (s : State) : Prop := args = #[.ref b] ∧ s.IntsAt b xs ∧ xs.length ≤ 3072 ∧ (Jvm.Cond.and given_1 narrow_1).before args s = true
def lw_Q (_ : Array Value) (s : State) (o : Outcome) (t : State) : Prop := o = .returned (some (.int 1)) ∧ Framed s o t [] 600000 7302250
def lw_Z (below : List Frame) (a : Array Value) (s : State) : State → Prop := fun t => ∃ o, t.status = .running ∧ Ended t below o ∧ lw_Q a s o t
/-- the law's own end, with 1 on the stack, nothing written that was there before, its room as the claim has it -/
theorem lw_ret {p : Program} {l : Launch} {e : Env} {s : State} {m : MethodId} {below : List Frame} {meth : Method} {c : Code} {b : Nat} (hx : p.tables.exec = Jvm.exec) (hb : c.code = code) (hr : meth.sig.returnType = ret) (hlocks : meth.locks = false) {pc : Nat} {H : Heap} {ls : Array Slot} (hdg : decode code pc = .ok (.ireturn, 1)) : W p l e room_1 s m #[Value.ref b] below meth c H [] 600000 7302250 (lw_Z below #[Value.ref b] s) (F0 m pc ls [.int 1]) := by
  intro T hT X
  obtain ⟨fs, hret, hrun, hended, hW, hframe⟩ := X.leave (v := some (.int 1)) (hlocks := hlocks) (fun h => by rw [hr] at h; cases h)
  have hmeth' : T.vm.method? m = some meth := X.method'
  refine ⟨T.setFrames fs, ?_, .returned (some (.int 1)), hrun, hended, rfl, ⟨_, rfl⟩, hW, hframe⟩
  jvm_step X.here [X.here.top, hx, hb, hdg, hmeth', hr, ret, narrow_b1]
  (try refine ⟨rfl, ?_⟩); (try refine ⟨rfl, ?_⟩)
  first | (intro acts; rw [hret _ acts rfl rfl rfl]) | rw [hret _ _ rfl rfl rfl]
  exact Steps.refl _
/-- what holds at the law's entry: the machine, the code, the tables' words (any of lw_tbl by 'hts w (by decide +kernel)'), the script of L ints xs at the cell b, what the Statement gives of the start (any of its parts by flat_of_before) -/
def lw_At (p : Program) (s : State) (m : MethodId) (meth : Method) (c : Code) (b L : Nat) (xs : Nat → Int32) : Prop :=
  p.tables.exec = Jvm.exec ∧ c.code = code ∧ meth.sig.returnType = ret ∧ c.maxLocals = 4 ∧ s.vm.findClass R_law = some m.cls ∧ (∀ w ∈ lw_tbl, w.before #[Value.ref b] s = true) ∧ va_X b L xs s s.heap ∧ b < s.heap.size ∧ meth.locks = false ∧ (Jvm.Cond.and given_1 narrow_1).before #[Value.ref b] s = true
-- the law's steps
def gs_pr1 (t i : Nat) : Bool := gs_pr t i || (Nat.beq t 30 && Nat.beq i 0)
section Y1S
variable {L : Nat} {xs : Nat → Int32} {t i : Nat}
theorem Y1_f (h : Nat.beq t 30 = false) : (Y1 L xs).1 t = Y0.1 t := by
  show (match Nat.beq t 30 with
    | true => (5, 0, L)
    | false => Y0.1 t) = Y0.1 t
  rw [h]
theorem Y1_n (h : ((Y1 L xs).1 t).1 ≠ 5) : (Y1 L xs).1 t = Y0.1 t := by
  cases hb : Nat.beq t 30
  · exact Y1_f hb
  · have e : t = 30 := Nat.eq_of_beq_eq_true hb
    subst e
    exact absurd rfl h
theorem gs_pr1_n (h : gs_pr1 t i = true) (hk : ((Y1 L xs).1 t).1 ≠ 5) : gs_pr t i = true := by
  unfold gs_pr1 at h
  rw [Bool.or_eq_true, Bool.and_eq_true] at h
  rcases h with h | ⟨h, -⟩
  · exact h
  · have e : t = 30 := Nat.eq_of_beq_eq_true h
    subst e
    exact absurd rfl hk
theorem gs_pr1_of (h : gs_pr t i = true) : gs_pr1 t i = true := by
  unfold gs_pr1
  rw [h]
  rfl
theorem gs_ok1 {v : gs_V} (h : gs_ok gs_pr v) : gs_ok gs_pr1 v := by
  rcases v with x | x | q
  · trivial
  · trivial
  · exact gs_pr1_of h
theorem gs_cont_Y1 {cA : Nat → Nat → ClassId} {ad : Nat → Nat → Nat} {d : gs_D} (h : ((Y1 L xs).1 t).1 ≠ 5) : gs_cont (Y1 L xs) cA ad d t i = gs_cont Y0 cA ad d t i := by
  have e := Y1_n h
  unfold gs_cont
  rw [e]
  rfl
theorem gs_W_Y1 {cA : Nat → Nat → ClassId} {ad : Nat → Nat → Nat} {d : gs_D} : gs_W (Y1 L xs) cA ad d gs_RL = gs_W Y0 cA ad d gs_RL := by
  have h30 : gs_RL.all (fun q => !(Nat.beq q.1 30)) = true := by decide +kernel
  unfold gs_W
  refine List.map_congr_left fun q hq => ?_
  have h1 : (!(Nat.beq q.1 30)) = true := List.all_eq_true.mp h30 q hq
  have hb : Nat.beq q.1 30 = false := by
    cases hb : Nat.beq q.1 30
    · rfl
    · rw [hb] at h1
      cases h1
  have hn : ((Y1 L xs).1 q.1).1 ≠ 5 := by
    rw [Y1_f hb]
    exact Y0_5 q.1
  show (ad q.1 q.2, gs_cont (Y1 L xs) cA ad d q.1 q.2) = (ad q.1 q.2, gs_cont Y0 cA ad d q.1 q.2)
  rw [gs_cont_Y1 hn]
end Y1S
theorem gs_lay1 (cA : Nat → Nat → ClassId) (L : Nat) (xs : Nat → Int32) : gs_lay (Y1 L xs) cA gs_RL gs_pr1 gs_CL (gs_T cA gs_RL gs_TL) lw_tbl := by
  obtain ⟨⟨a1, a2⟩, ⟨b1, b2, b3, b4⟩, ⟨c1, c2⟩, e1, e2⟩ := gs_lay0 cA (Ts := lw_tbl) (fun w h => (List.mem_filter.mp h).1)
  refine ⟨⟨fun t i h hk => gs_RL_pr (gs_pr1_n h hk), a2⟩, ⟨fun t i h hk => ?_, fun t i h hk => ?_, fun t i h hk => ?_, fun t i h hk => ?_⟩, ⟨fun t i k h hk hl => ?_, fun d t i k h hk hl => ?_⟩, e1, fun t C T N f hk hc hf => ?_⟩
  · have n : ((Y1 L xs).1 t).1 ≠ 5 := by rw [hk]; decide
    exact b1 t i (gs_pr1_n h n) (by rw [← Y1_n n]; exact hk)
  · have n : ((Y1 L xs).1 t).1 ≠ 5 := by rw [hk]; decide
    exact b2 t i (gs_pr1_n h n) (by rw [← Y1_n n]; exact hk)
  · have n : ((Y1 L xs).1 t).1 ≠ 5 := by rw [hk]; decide
    exact b3 t i (gs_pr1_n h n) (by rw [← Y1_n n]; exact hk)
  · have n : ((Y1 L xs).1 t).1 ≠ 5 := by rw [hk]; decide
    exact b4 t i (gs_pr1_n h n) (by rw [← Y1_n n]; exact hk)
  · have n : ((Y1 L xs).1 t).1 ≠ 5 := by rw [hk]; decide
    exact gs_pr1_of (c1 t i k (gs_pr1_n h n) (by rw [← Y1_n n]; exact hk) (by rw [← Y1_n n]; exact hl))
  · have n : ((Y1 L xs).1 t).1 ≠ 5 := by rw [hk]; decide
    exact gs_ok1 (c2 d t i k (gs_pr1_n h n) (by rw [← Y1_n n]; exact hk) (by rw [← Y1_n n]; exact hl))
  · have n : ((Y1 L xs).1 t).1 ≠ 5 := by rw [hk]; decide
    exact e2 t C T N f (by rw [← Y1_n n]; exact hk) (by rw [← Y1_n n]; exact hc) (by rw [← Y1_n n]; exact hf)
theorem gs_goodL {y : MethodName} {b : ByteArray} {n : Nat} {r : Option FieldType} (h : Cond.code y b n r ∈ lw_tbl) : GoodIn lw_tbl (Cond.code y b n r :: gs_tb) := by
  intro w hw
  rcases List.mem_cons.mp hw with e | e
  · rw [e]
    exact ⟨h, Or.inl rfl⟩
  · exact ⟨(List.mem_filter.mp e).1, good_of_word (List.mem_filter.mp e).2⟩
section CO
variable {p : Program} {l : Launch} {e : Env} {R : Room} {s : State} {m : MethodId} {args : Array Value} {below : List Frame} {meth : Method} {c : Code} {cells slots : Nat} {Q : State → Prop} {cc : ByteArray} {nL : Nat} {own : String} {D : va_G} {A : Nat → Prop} {cA : Nat → Nat → ClassId} {ad : Nat → Nat → Nat} {L : Nat} {xs : Nat → Int32}
theorem gs_co_L (hx : p.tables.exec = Jvm.exec) (hb : c.code = cc) (hml : c.maxLocals = nL) (hown : s.vm.findClass own = some m.cls) (hts : ∀ w ∈ lw_tbl, w.before args s = true) (hK : va_K D gs_CL (gs_T cA gs_RL gs_TL) s) (hnw : ∀ w ∈ gs_NW, va_Nw w s) (hA : ∀ q, s.heap.size ≤ q → A q) (hcl : cells ≤ R.cells ∧ slots ≤ R.slots) {x n cr : Nat} {f : gs_F} (h : gs_vc l Y0 gs_RL gs_pr gs_CL gs_TL gs_NW lw_tbl own R x n cr f) :
    gs_co p l e R s m args below meth c cells slots Q (Y1 L xs) cA ad D gs_CL gs_RL gs_pr1 A nL cc (.invokevirtual x) (gs_wr f) (gs_gv (Y1 L xs) n cr) := by
  intro pc ls H locs lo d av rest r d' hdc hB hav hgd hsum hf kk
  obtain ⟨hrel, hokl, hP, hD, hS⟩ := hB
  obtain ⟨h1, h2⟩ := gs_b_v hf
  have hav0 : gs_oks gs_pr av := fun v hv => by
    have h3 := List.all_eq_true.mp h1 v hv
    rcases v with x | x | q
    · trivial
    · trivial
    · exact h3
  have hgd0 : gs_gv Y0 n cr av := by
    obtain ⟨t, i, av', e1, e2, e3, e4⟩ := hgd
    have hn : ((Y1 L xs).1 t).1 ≠ 5 := by rw [e2]; decide
    exact ⟨t, i, av', e1, by rw [← Y1_n hn]; exact e2, by rw [← Y1_n hn]; exact e3, e4⟩
  have hno : ∀ (i : Nat) (v : gs_V), (List.replicate nL (none : Option gs_V)).getD i none = some v → False := fun i v hv => by
    rw [List.getD_eq_getElem?_getD, List.getElem?_replicate] at hv
    split at hv <;> cases hv
  have hrel0 : gs_rel ad ls nL (List.replicate nL none) := by
    obtain ⟨lv, g1, -, -⟩ := hrel
    exact ⟨lv, g1, List.length_replicate, fun i v hv => (hno i v hv).elim⟩
  refine gs_co_V hx hb hml hown hts hK gs_hN hnw hA hcl (fun t i h _ => gs_RL_pr h) h pc ls H locs (List.replicate nL none) d av rest r d' hdc ⟨hrel0, fun i v hv => (hno i v hv).elim, ?_, ?_, hS⟩ hav0 hgd0 hsum h2 (fun H' locs' hok hB' => kk H' locs' (fun v hv => gs_ok1 (hok v hv)) ⟨hrel, hokl, ?_, ?_, hB'.2.2.2.2⟩)
  · rw [← gs_W_Y1 (L := L) (xs := xs)]
    exact hP
  · rw [← gs_W_Y1 (L := L) (xs := xs)]
    exact hD
  · rw [gs_W_Y1]
    exact hB'.2.2.1
  · rw [gs_W_Y1]
    exact hB'.2.2.2.1
end CO
def gs_vL (l : Launch) (e : Nat × Nat × Nat × gs_F) : Prop := ∃ f, e.2.2.2 = gs_wr f ∧ e.2.2.1 ≤ 999 ∧ gs_vc l Y0 gs_RL gs_pr gs_CL gs_TL gs_NW lw_tbl "GrossSettlementLaw" room_1 e.1 e.2.1 e.2.2.1 f
theorem m_L_law : gs_mok code lw_tbl "GrossSettlementLaw" gs_CL P_L_law := gs_mok_of (host := "GrossSettlement") (Tb := []) (fun _ h => absurd h List.not_mem_nil) (by decide +kernel) (by decide +kernel) (by decide +kernel) (by decide +kernel)
theorem v_L_13 (l : Launch) : gs_vL l (13, 3, 0, gs_wr f_G_issue) := ⟨f_G_issue, rfl, by decide, y_G_issue, w_G_issue, gs_tb, r_G_issue, _, _, _, C_G_issue_ok l, gs_goodL (List.mem_of_getElem? (i := 180) (by decide +kernel)), rfl, ⟨rfl, rfl⟩, ⟨by decide, by decide⟩, Or.inl (List.mem_of_getElem? (i := 177) (by decide +kernel)), ⟨(List.mem_of_getElem? (i := 178) (by decide +kernel)), (List.mem_of_getElem? (i := 179) (by decide +kernel))⟩, (List.mem_of_getElem? (i := 37) (by decide +kernel)), ⟨by decide, by decide, by decide +kernel⟩, _, _, rfl⟩
theorem v_L_17 (l : Launch) : gs_vL l (17, 3, 5, gs_wr f_M_issue) := ⟨f_M_issue, rfl, by decide, y_M_issue, w_M_issue, gs_tb, r_M_issue, _, _, _, C_M_issue_ok l, gs_goodL (List.mem_of_getElem? (i := 478) (by decide +kernel)), rfl, ⟨rfl, rfl⟩, ⟨by decide, by decide⟩, Or.inl (List.mem_of_getElem? (i := 475) (by decide +kernel)), ⟨(List.mem_of_getElem? (i := 476) (by decide +kernel)), (List.mem_of_getElem? (i := 477) (by decide +kernel))⟩, (List.mem_of_getElem? (i := 42) (by decide +kernel)), ⟨by decide, by decide, by decide +kernel⟩, _, _, rfl⟩
theorem v_L_18 (l : Launch) : gs_vL l (18, 3, 0, gs_wr f_G_terms) := ⟨f_G_terms, rfl, by decide, y_G_terms, w_G_terms, gs_tb, r_G_terms, _, _, _, C_G_terms_ok l, gs_goodL (List.mem_of_getElem? (i := 197) (by decide +kernel)), rfl, ⟨rfl, rfl⟩, ⟨by decide, by decide⟩, Or.inl (List.mem_of_getElem? (i := 194) (by decide +kernel)), ⟨(List.mem_of_getElem? (i := 195) (by decide +kernel)), (List.mem_of_getElem? (i := 196) (by decide +kernel))⟩, (List.mem_of_getElem? (i := 37) (by decide +kernel)), ⟨by decide, by decide, by decide +kernel⟩, _, _, rfl⟩
theorem v_L_21 (l : Launch) : gs_vL l (21, 3, 5, gs_wr f_M_terms) := ⟨f_M_terms, rfl, by decide, y_M_terms, w_M_terms, gs_tb, r_M_terms, _, _, _, C_M_terms_ok l, gs_goodL (List.mem_of_getElem? (i := 493) (by decide +kernel)), rfl, ⟨rfl, rfl⟩, ⟨by decide, by decide⟩, Or.inl (List.mem_of_getElem? (i := 490) (by decide +kernel)), ⟨(List.mem_of_getElem? (i := 491) (by decide +kernel)), (List.mem_of_getElem? (i := 492) (by decide +kernel))⟩, (List.mem_of_getElem? (i := 42) (by decide +kernel)), ⟨by decide, by decide, by decide +kernel⟩, _, _, rfl⟩
theorem v_L_22 (l : Launch) : gs_vL l (22, 3, 0, gs_wr f_G_pledge) := ⟨f_G_pledge, rfl, by decide, y_G_pledge, w_G_pledge, gs_tb, r_G_pledge, _, _, _, C_G_pledge_ok l, gs_goodL (List.mem_of_getElem? (i := 222) (by decide +kernel)), rfl, ⟨rfl, rfl⟩, ⟨by decide, by decide⟩, Or.inl (List.mem_of_getElem? (i := 219) (by decide +kernel)), ⟨(List.mem_of_getElem? (i := 220) (by decide +kernel)), (List.mem_of_getElem? (i := 221) (by decide +kernel))⟩, (List.mem_of_getElem? (i := 37) (by decide +kernel)), ⟨by decide, by decide, by decide +kernel⟩, _, _, rfl⟩
theorem v_L_26 (l : Launch) : gs_vL l (26, 3, 5, gs_wr f_M_pledge) := ⟨f_M_pledge, rfl, by decide, y_M_pledge, w_M_pledge, gs_tb, r_M_pledge, _, _, _, C_M_pledge_ok l, gs_goodL (List.mem_of_getElem? (i := 513) (by decide +kernel)), rfl, ⟨rfl, rfl⟩, ⟨by decide, by decide⟩, Or.inl (List.mem_of_getElem? (i := 510) (by decide +kernel)), ⟨(List.mem_of_getElem? (i := 511) (by decide +kernel)), (List.mem_of_getElem? (i := 512) (by decide +kernel))⟩, (List.mem_of_getElem? (i := 42) (by decide +kernel)), ⟨by decide, by decide, by decide +kernel⟩, _, _, rfl⟩
theorem v_L_27 (l : Launch) : gs_vL l (27, 3, 0, gs_wr f_G_release) := ⟨f_G_release, rfl, by decide, y_G_release, w_G_release, gs_tb, r_G_release, _, _, _, C_G_release_ok l, gs_goodL (List.mem_of_getElem? (i := 275) (by decide +kernel)), rfl, ⟨rfl, rfl⟩, ⟨by decide, by decide⟩, Or.inl (List.mem_of_getElem? (i := 272) (by decide +kernel)), ⟨(List.mem_of_getElem? (i := 273) (by decide +kernel)), (List.mem_of_getElem? (i := 274) (by decide +kernel))⟩, (List.mem_of_getElem? (i := 37) (by decide +kernel)), ⟨by decide, by decide, by decide +kernel⟩, _, _, rfl⟩
theorem v_L_30 (l : Launch) : gs_vL l (30, 3, 5, gs_wr f_M_release) := ⟨f_M_release, rfl, by decide, y_M_release, w_M_release, gs_tb, r_M_release, _, _, _, C_M_release_ok l, gs_goodL (List.mem_of_getElem? (i := 573) (by decide +kernel)), rfl, ⟨rfl, rfl⟩, ⟨by decide, by decide⟩, Or.inl (List.mem_of_getElem? (i := 570) (by decide +kernel)), ⟨(List.mem_of_getElem? (i := 571) (by decide +kernel)), (List.mem_of_getElem? (i := 572) (by decide +kernel))⟩, (List.mem_of_getElem? (i := 42) (by decide +kernel)), ⟨by decide, by decide, by decide +kernel⟩, _, _, rfl⟩
theorem v_L_31 (l : Launch) : gs_vL l (31, 3, 0, gs_wr f_G_limit) := ⟨f_G_limit, rfl, by decide, y_G_limit, w_G_limit, gs_tb, r_G_limit, _, _, _, C_G_limit_ok l, gs_goodL (List.mem_of_getElem? (i := 284) (by decide +kernel)), rfl, ⟨rfl, rfl⟩, ⟨by decide, by decide⟩, Or.inl (List.mem_of_getElem? (i := 281) (by decide +kernel)), ⟨(List.mem_of_getElem? (i := 282) (by decide +kernel)), (List.mem_of_getElem? (i := 283) (by decide +kernel))⟩, (List.mem_of_getElem? (i := 37) (by decide +kernel)), ⟨by decide, by decide, by decide +kernel⟩, _, _, rfl⟩
theorem v_L_34 (l : Launch) : gs_vL l (34, 3, 5, gs_wr f_M_limit) := ⟨f_M_limit, rfl, by decide, y_M_limit, w_M_limit, gs_tb, r_M_limit, _, _, _, C_M_limit_ok l, gs_goodL (List.mem_of_getElem? (i := 577) (by decide +kernel)), rfl, ⟨rfl, rfl⟩, ⟨by decide, by decide⟩, Or.inl (List.mem_of_getElem? (i := 574) (by decide +kernel)), ⟨(List.mem_of_getElem? (i := 575) (by decide +kernel)), (List.mem_of_getElem? (i := 576) (by decide +kernel))⟩, (List.mem_of_getElem? (i := 42) (by decide +kernel)), ⟨by decide, by decide, by decide +kernel⟩, _, _, rfl⟩
theorem v_L_35 (l : Launch) : gs_vL l (35, 4, 0, gs_wr f_G_pay) := ⟨f_G_pay, rfl, by decide, y_G_pay, w_G_pay, gs_tb, r_G_pay, _, _, _, C_G_pay_ok l, gs_goodL (List.mem_of_getElem? (i := 291) (by decide +kernel)), rfl, ⟨rfl, rfl⟩, ⟨by decide, by decide⟩, Or.inl (List.mem_of_getElem? (i := 288) (by decide +kernel)), ⟨(List.mem_of_getElem? (i := 289) (by decide +kernel)), (List.mem_of_getElem? (i := 290) (by decide +kernel))⟩, (List.mem_of_getElem? (i := 37) (by decide +kernel)), ⟨by decide, by decide, by decide +kernel⟩, _, _, rfl⟩
theorem v_L_39 (l : Launch) : gs_vL l (39, 4, 5, gs_wr f_M_pay) := ⟨f_M_pay, rfl, by decide, y_M_pay, w_M_pay, gs_tb, r_M_pay, _, _, _, C_M_pay_ok l, gs_goodL (List.mem_of_getElem? (i := 584) (by decide +kernel)), rfl, ⟨rfl, rfl⟩, ⟨by decide, by decide⟩, Or.inl (List.mem_of_getElem? (i := 581) (by decide +kernel)), ⟨(List.mem_of_getElem? (i := 582) (by decide +kernel)), (List.mem_of_getElem? (i := 583) (by decide +kernel))⟩, (List.mem_of_getElem? (i := 42) (by decide +kernel)), ⟨by decide, by decide, by decide +kernel⟩, _, _, rfl⟩
theorem v_L_40 (l : Launch) : gs_vL l (40, 4, 0, gs_wr f_G_deliver) := ⟨f_G_deliver, rfl, by decide, y_G_deliver, w_G_deliver, gs_tb, r_G_deliver, _, _, _, C_G_deliver_ok l, gs_goodL (List.mem_of_getElem? (i := 318) (by decide +kernel)), rfl, ⟨rfl, rfl⟩, ⟨by decide, by decide⟩, Or.inl (List.mem_of_getElem? (i := 315) (by decide +kernel)), ⟨(List.mem_of_getElem? (i := 316) (by decide +kernel)), (List.mem_of_getElem? (i := 317) (by decide +kernel))⟩, (List.mem_of_getElem? (i := 37) (by decide +kernel)), ⟨by decide, by decide, by decide +kernel⟩, _, _, rfl⟩
theorem v_L_43 (l : Launch) : gs_vL l (43, 4, 5, gs_wr f_M_deliver) := ⟨f_M_deliver, rfl, by decide, y_M_deliver, w_M_deliver, gs_tb, r_M_deliver, _, _, _, C_M_deliver_ok l, gs_goodL (List.mem_of_getElem? (i := 596) (by decide +kernel)), rfl, ⟨rfl, rfl⟩, ⟨by decide, by decide⟩, Or.inl (List.mem_of_getElem? (i := 593) (by decide +kernel)), ⟨(List.mem_of_getElem? (i := 594) (by decide +kernel)), (List.mem_of_getElem? (i := 595) (by decide +kernel))⟩, (List.mem_of_getElem? (i := 42) (by decide +kernel)), ⟨by decide, by decide, by decide +kernel⟩, _, _, rfl⟩
theorem v_L_44 (l : Launch) : gs_vL l (44, 5, 0, gs_wr f_G_exchange) := ⟨f_G_exchange, rfl, by decide, y_G_exchange, w_G_exchange, gs_tb, r_G_exchange, _, _, _, C_G_exchange_ok l, gs_goodL (List.mem_of_getElem? (i := 322) (by decide +kernel)), rfl, ⟨rfl, rfl⟩, ⟨by decide, by decide⟩, Or.inl (List.mem_of_getElem? (i := 319) (by decide +kernel)), ⟨(List.mem_of_getElem? (i := 320) (by decide +kernel)), (List.mem_of_getElem? (i := 321) (by decide +kernel))⟩, (List.mem_of_getElem? (i := 37) (by decide +kernel)), ⟨by decide, by decide, by decide +kernel⟩, _, _, rfl⟩
theorem v_L_48 (l : Launch) : gs_vL l (48, 5, 5, gs_wr f_M_exchange) := ⟨f_M_exchange, rfl, by decide, y_M_exchange, w_M_exchange, gs_tb, r_M_exchange, _, _, _, C_M_exchange_ok l, gs_goodL (List.mem_of_getElem? (i := 600) (by decide +kernel)), rfl, ⟨rfl, rfl⟩, ⟨by decide, by decide⟩, Or.inl (List.mem_of_getElem? (i := 597) (by decide +kernel)), ⟨(List.mem_of_getElem? (i := 598) (by decide +kernel)), (List.mem_of_getElem? (i := 599) (by decide +kernel))⟩, (List.mem_of_getElem? (i := 42) (by decide +kernel)), ⟨by decide, by decide, by decide +kernel⟩, _, _, rfl⟩
theorem v_L_49 (l : Launch) : gs_vL l (49, 1, 0, gs_wr f_G_cancel) := ⟨f_G_cancel, rfl, by decide, y_G_cancel, w_G_cancel, gs_tb, r_G_cancel, _, _, _, C_G_cancel_ok l, gs_goodL (List.mem_of_getElem? (i := 326) (by decide +kernel)), rfl, ⟨rfl, rfl⟩, ⟨by decide, by decide⟩, Or.inl (List.mem_of_getElem? (i := 323) (by decide +kernel)), ⟨(List.mem_of_getElem? (i := 324) (by decide +kernel)), (List.mem_of_getElem? (i := 325) (by decide +kernel))⟩, (List.mem_of_getElem? (i := 37) (by decide +kernel)), ⟨by decide, by decide, by decide +kernel⟩, _, _, rfl⟩
theorem v_L_53 (l : Launch) : gs_vL l (53, 1, 5, gs_wr f_M_cancel) := ⟨f_M_cancel, rfl, by decide, y_M_cancel, w_M_cancel, gs_tb, r_M_cancel, _, _, _, C_M_cancel_ok l, gs_goodL (List.mem_of_getElem? (i := 604) (by decide +kernel)), rfl, ⟨rfl, rfl⟩, ⟨by decide, by decide⟩, Or.inl (List.mem_of_getElem? (i := 601) (by decide +kernel)), ⟨(List.mem_of_getElem? (i := 602) (by decide +kernel)), (List.mem_of_getElem? (i := 603) (by decide +kernel))⟩, (List.mem_of_getElem? (i := 42) (by decide +kernel)), ⟨by decide, by decide, by decide +kernel⟩, _, _, rfl⟩
theorem v_L_54 (l : Launch) : gs_vL l (54, 2, 0, gs_wr f_G_prefer) := ⟨f_G_prefer, rfl, by decide, y_G_prefer, w_G_prefer, gs_tb, r_G_prefer, _, _, _, C_G_prefer_ok l, gs_goodL (List.mem_of_getElem? (i := 334) (by decide +kernel)), rfl, ⟨rfl, rfl⟩, ⟨by decide, by decide⟩, Or.inl (List.mem_of_getElem? (i := 331) (by decide +kernel)), ⟨(List.mem_of_getElem? (i := 332) (by decide +kernel)), (List.mem_of_getElem? (i := 333) (by decide +kernel))⟩, (List.mem_of_getElem? (i := 37) (by decide +kernel)), ⟨by decide, by decide, by decide +kernel⟩, _, _, rfl⟩
theorem v_L_58 (l : Launch) : gs_vL l (58, 2, 5, gs_wr f_M_prefer) := ⟨f_M_prefer, rfl, by decide, y_M_prefer, w_M_prefer, gs_tb, r_M_prefer, _, _, _, C_M_prefer_ok l, gs_goodL (List.mem_of_getElem? (i := 612) (by decide +kernel)), rfl, ⟨rfl, rfl⟩, ⟨by decide, by decide⟩, Or.inl (List.mem_of_getElem? (i := 609) (by decide +kernel)), ⟨(List.mem_of_getElem? (i := 610) (by decide +kernel)), (List.mem_of_getElem? (i := 611) (by decide +kernel))⟩, (List.mem_of_getElem? (i := 42) (by decide +kernel)), ⟨by decide, by decide, by decide +kernel⟩, _, _, rfl⟩
theorem v_L_59 (l : Launch) : gs_vL l (59, 0, 0, gs_wr f_G_resolve) := ⟨f_G_resolve, rfl, by decide, y_G_resolve, w_G_resolve, gs_tb, r_G_resolve, _, _, _, C_G_resolve_ok l, gs_goodL (List.mem_of_getElem? (i := 342) (by decide +kernel)), rfl, ⟨rfl, rfl⟩, ⟨by decide, by decide⟩, Or.inl (List.mem_of_getElem? (i := 339) (by decide +kernel)), ⟨(List.mem_of_getElem? (i := 340) (by decide +kernel)), (List.mem_of_getElem? (i := 341) (by decide +kernel))⟩, (List.mem_of_getElem? (i := 37) (by decide +kernel)), ⟨by decide, by decide, by decide +kernel⟩, _, _, rfl⟩
theorem v_L_63 (l : Launch) : gs_vL l (63, 0, 5, gs_wr f_M_resolve) := ⟨f_M_resolve, rfl, by decide, y_M_resolve, w_M_resolve, gs_tb, r_M_resolve, _, _, _, C_M_resolve_ok l, gs_goodL (List.mem_of_getElem? (i := 616) (by decide +kernel)), rfl, ⟨rfl, rfl⟩, ⟨by decide, by decide⟩, Or.inl (List.mem_of_getElem? (i := 613) (by decide +kernel)), ⟨(List.mem_of_getElem? (i := 614) (by decide +kernel)), (List.mem_of_getElem? (i := 615) (by decide +kernel))⟩, (List.mem_of_getElem? (i := 42) (by decide +kernel)), ⟨by decide, by decide, by decide +kernel⟩, _, _, rfl⟩
theorem v_L_64 (l : Launch) : gs_vL l (64, 0, 0, gs_wr f_G_advance) := ⟨f_G_advance, rfl, by decide, y_G_advance, w_G_advance, gs_tb, r_G_advance, _, _, _, C_G_advance_ok l, gs_goodL (List.mem_of_getElem? (i := 378) (by decide +kernel)), rfl, ⟨rfl, rfl⟩, ⟨by decide, by decide⟩, Or.inl (List.mem_of_getElem? (i := 375) (by decide +kernel)), ⟨(List.mem_of_getElem? (i := 376) (by decide +kernel)), (List.mem_of_getElem? (i := 377) (by decide +kernel))⟩, (List.mem_of_getElem? (i := 37) (by decide +kernel)), ⟨by decide, by decide, by decide +kernel⟩, _, _, rfl⟩
theorem v_L_67 (l : Launch) : gs_vL l (67, 0, 5, gs_wr f_M_advance) := ⟨f_M_advance, rfl, by decide, y_M_advance, w_M_advance, gs_tb, r_M_advance, _, _, _, C_M_advance_ok l, gs_goodL (List.mem_of_getElem? (i := 632) (by decide +kernel)), rfl, ⟨rfl, rfl⟩, ⟨by decide, by decide⟩, Or.inl (List.mem_of_getElem? (i := 629) (by decide +kernel)), ⟨(List.mem_of_getElem? (i := 630) (by decide +kernel)), (List.mem_of_getElem? (i := 631) (by decide +kernel))⟩, (List.mem_of_getElem? (i := 42) (by decide +kernel)), ⟨by decide, by decide, by decide +kernel⟩, _, _, rfl⟩
theorem v_L_68 (l : Launch) : gs_vL l (68, 0, 0, gs_wr f_G_sync) := ⟨f_G_sync, rfl, by decide, y_G_sync, w_G_sync, gs_tb, r_G_sync, _, _, _, C_G_sync_ok l, gs_goodL (List.mem_of_getElem? (i := 390) (by decide +kernel)), rfl, ⟨rfl, rfl⟩, ⟨by decide, by decide⟩, Or.inl (List.mem_of_getElem? (i := 387) (by decide +kernel)), ⟨(List.mem_of_getElem? (i := 388) (by decide +kernel)), (List.mem_of_getElem? (i := 389) (by decide +kernel))⟩, (List.mem_of_getElem? (i := 37) (by decide +kernel)), ⟨by decide, by decide, by decide +kernel⟩, _, _, rfl⟩
theorem v_L_71 (l : Launch) : gs_vL l (71, 0, 5, gs_wr f_M_sync) := ⟨f_M_sync, rfl, by decide, y_M_sync, w_M_sync, gs_tb, r_M_sync, _, _, _, C_M_sync_ok l, gs_goodL (List.mem_of_getElem? (i := 637) (by decide +kernel)), rfl, ⟨rfl, rfl⟩, ⟨by decide, by decide⟩, Or.inl (List.mem_of_getElem? (i := 634) (by decide +kernel)), ⟨(List.mem_of_getElem? (i := 635) (by decide +kernel)), (List.mem_of_getElem? (i := 636) (by decide +kernel))⟩, (List.mem_of_getElem? (i := 42) (by decide +kernel)), ⟨by decide, by decide, by decide +kernel⟩, _, _, rfl⟩
theorem v_L_72 (l : Launch) : gs_vL l (72, 0, 0, gs_wr f_G_crash) := ⟨f_G_crash, rfl, by decide, y_G_crash, w_G_crash, gs_tb, r_G_crash, _, _, _, C_G_crash_ok l, gs_goodL (List.mem_of_getElem? (i := 414) (by decide +kernel)), rfl, ⟨rfl, rfl⟩, ⟨by decide, by decide⟩, Or.inl (List.mem_of_getElem? (i := 411) (by decide +kernel)), ⟨(List.mem_of_getElem? (i := 412) (by decide +kernel)), (List.mem_of_getElem? (i := 413) (by decide +kernel))⟩, (List.mem_of_getElem? (i := 37) (by decide +kernel)), ⟨by decide, by decide, by decide +kernel⟩, _, _, rfl⟩
theorem v_L_75 (l : Launch) : gs_vL l (75, 0, 5, gs_wr f_M_crash) := ⟨f_M_crash, rfl, by decide, y_M_crash, w_M_crash, gs_tb, r_M_crash, _, _, _, C_M_crash_ok l, gs_goodL (List.mem_of_getElem? (i := 641) (by decide +kernel)), rfl, ⟨rfl, rfl⟩, ⟨by decide, by decide⟩, Or.inl (List.mem_of_getElem? (i := 638) (by decide +kernel)), ⟨(List.mem_of_getElem? (i := 639) (by decide +kernel)), (List.mem_of_getElem? (i := 640) (by decide +kernel))⟩, (List.mem_of_getElem? (i := 42) (by decide +kernel)), ⟨by decide, by decide, by decide +kernel⟩, _, _, rfl⟩
theorem v_L_76 (l : Launch) : gs_vL l (76, 3, 0, gs_wr f_G_position) := ⟨f_G_position, rfl, by decide, y_G_position, w_G_position, gs_tb, r_G_position, _, _, _, C_G_position_ok l, gs_goodL (List.mem_of_getElem? (i := 418) (by decide +kernel)), rfl, ⟨rfl, rfl⟩, ⟨by decide, by decide⟩, Or.inl (List.mem_of_getElem? (i := 415) (by decide +kernel)), ⟨(List.mem_of_getElem? (i := 416) (by decide +kernel)), (List.mem_of_getElem? (i := 417) (by decide +kernel))⟩, (List.mem_of_getElem? (i := 37) (by decide +kernel)), ⟨by decide, by decide, by decide +kernel⟩, _, _, rfl⟩
theorem v_L_80 (l : Launch) : gs_vL l (80, 3, 5, gs_wr f_M_position) := ⟨f_M_position, rfl, by decide, y_M_position, w_M_position, gs_tb, r_M_position, _, _, _, C_M_position_ok l, gs_goodL (List.mem_of_getElem? (i := 645) (by decide +kernel)), rfl, ⟨rfl, rfl⟩, ⟨by decide, by decide⟩, Or.inl (List.mem_of_getElem? (i := 642) (by decide +kernel)), ⟨(List.mem_of_getElem? (i := 643) (by decide +kernel)), (List.mem_of_getElem? (i := 644) (by decide +kernel))⟩, (List.mem_of_getElem? (i := 42) (by decide +kernel)), ⟨by decide, by decide, by decide +kernel⟩, _, _, rfl⟩
theorem v_L_81 (l : Launch) : gs_vL l (81, 1, 0, gs_wr f_G_line) := ⟨f_G_line, rfl, by decide, y_G_line, w_G_line, gs_tb, r_G_line, _, _, _, C_G_line_ok l, gs_goodL (List.mem_of_getElem? (i := 423) (by decide +kernel)), rfl, ⟨rfl, rfl⟩, ⟨by decide, by decide⟩, Or.inl (List.mem_of_getElem? (i := 420) (by decide +kernel)), ⟨(List.mem_of_getElem? (i := 421) (by decide +kernel)), (List.mem_of_getElem? (i := 422) (by decide +kernel))⟩, (List.mem_of_getElem? (i := 37) (by decide +kernel)), ⟨by decide, by decide, by decide +kernel⟩, _, _, rfl⟩
theorem v_L_85 (l : Launch) : gs_vL l (85, 1, 5, gs_wr f_M_line) := ⟨f_M_line, rfl, by decide, y_M_line, w_M_line, gs_tb, r_M_line, _, _, _, C_M_line_ok l, gs_goodL (List.mem_of_getElem? (i := 649) (by decide +kernel)), rfl, ⟨rfl, rfl⟩, ⟨by decide, by decide⟩, Or.inl (List.mem_of_getElem? (i := 646) (by decide +kernel)), ⟨(List.mem_of_getElem? (i := 647) (by decide +kernel)), (List.mem_of_getElem? (i := 648) (by decide +kernel))⟩, (List.mem_of_getElem? (i := 42) (by decide +kernel)), ⟨by decide, by decide, by decide +kernel⟩, _, _, rfl⟩
theorem v_L_86 (l : Launch) : gs_vL l (86, 2, 0, gs_wr f_G_net) := ⟨f_G_net, rfl, by decide, y_G_net, w_G_net, gs_tb, r_G_net, _, _, _, C_G_net_ok l, gs_goodL (List.mem_of_getElem? (i := 428) (by decide +kernel)), rfl, ⟨rfl, rfl⟩, ⟨by decide, by decide⟩, Or.inl (List.mem_of_getElem? (i := 425) (by decide +kernel)), ⟨(List.mem_of_getElem? (i := 426) (by decide +kernel)), (List.mem_of_getElem? (i := 427) (by decide +kernel))⟩, (List.mem_of_getElem? (i := 37) (by decide +kernel)), ⟨by decide, by decide, by decide +kernel⟩, _, _, rfl⟩
theorem v_L_90 (l : Launch) : gs_vL l (90, 2, 5, gs_wr f_M_net) := ⟨f_M_net, rfl, by decide, y_M_net, w_M_net, gs_tb, r_M_net, _, _, _, C_M_net_ok l, gs_goodL (List.mem_of_getElem? (i := 653) (by decide +kernel)), rfl, ⟨rfl, rfl⟩, ⟨by decide, by decide⟩, Or.inl (List.mem_of_getElem? (i := 650) (by decide +kernel)), ⟨(List.mem_of_getElem? (i := 651) (by decide +kernel)), (List.mem_of_getElem? (i := 652) (by decide +kernel))⟩, (List.mem_of_getElem? (i := 42) (by decide +kernel)), ⟨by decide, by decide, by decide +kernel⟩, _, _, rfl⟩
theorem v_L_91 (l : Launch) : gs_vL l (91, 1, 0, gs_wr f_G_status) := ⟨f_G_status, rfl, by decide, y_G_status, w_G_status, gs_tb, r_G_status, _, _, _, C_G_status_ok l, gs_goodL (List.mem_of_getElem? (i := 432) (by decide +kernel)), rfl, ⟨rfl, rfl⟩, ⟨by decide, by decide⟩, Or.inl (List.mem_of_getElem? (i := 429) (by decide +kernel)), ⟨(List.mem_of_getElem? (i := 430) (by decide +kernel)), (List.mem_of_getElem? (i := 431) (by decide +kernel))⟩, (List.mem_of_getElem? (i := 37) (by decide +kernel)), ⟨by decide, by decide, by decide +kernel⟩, _, _, rfl⟩
theorem v_L_94 (l : Launch) : gs_vL l (94, 1, 5, gs_wr f_M_status) := ⟨f_M_status, rfl, by decide, y_M_status, w_M_status, gs_tb, r_M_status, _, _, _, C_M_status_ok l, gs_goodL (List.mem_of_getElem? (i := 657) (by decide +kernel)), rfl, ⟨rfl, rfl⟩, ⟨by decide, by decide⟩, Or.inl (List.mem_of_getElem? (i := 654) (by decide +kernel)), ⟨(List.mem_of_getElem? (i := 655) (by decide +kernel)), (List.mem_of_getElem? (i := 656) (by decide +kernel))⟩, (List.mem_of_getElem? (i := 42) (by decide +kernel)), ⟨by decide, by decide, by decide +kernel⟩, _, _, rfl⟩
theorem v_L_95 (l : Launch) : gs_vL l (95, 1, 0, gs_wr f_G_waiting) := ⟨f_G_waiting, rfl, by decide, y_G_waiting, w_G_waiting, gs_tb, r_G_waiting, _, _, _, C_G_waiting_ok l, gs_goodL (List.mem_of_getElem? (i := 440) (by decide +kernel)), rfl, ⟨rfl, rfl⟩, ⟨by decide, by decide⟩, Or.inl (List.mem_of_getElem? (i := 437) (by decide +kernel)), ⟨(List.mem_of_getElem? (i := 438) (by decide +kernel)), (List.mem_of_getElem? (i := 439) (by decide +kernel))⟩, (List.mem_of_getElem? (i := 37) (by decide +kernel)), ⟨by decide, by decide, by decide +kernel⟩, _, _, rfl⟩
theorem v_L_98 (l : Launch) : gs_vL l (98, 1, 5, gs_wr f_M_waiting) := ⟨f_M_waiting, rfl, by decide, y_M_waiting, w_M_waiting, gs_tb, r_M_waiting, _, _, _, C_M_waiting_ok l, gs_goodL (List.mem_of_getElem? (i := 661) (by decide +kernel)), rfl, ⟨rfl, rfl⟩, ⟨by decide, by decide⟩, Or.inl (List.mem_of_getElem? (i := 658) (by decide +kernel)), ⟨(List.mem_of_getElem? (i := 659) (by decide +kernel)), (List.mem_of_getElem? (i := 660) (by decide +kernel))⟩, (List.mem_of_getElem? (i := 42) (by decide +kernel)), ⟨by decide, by decide, by decide +kernel⟩, _, _, rfl⟩
theorem v_L_99 (l : Launch) : gs_vL l (99, 1, 0, gs_wr f_G_behind) := ⟨f_G_behind, rfl, by decide, y_G_behind, w_G_behind, gs_tb, r_G_behind, _, _, _, C_G_behind_ok l, gs_goodL (List.mem_of_getElem? (i := 448) (by decide +kernel)), rfl, ⟨rfl, rfl⟩, ⟨by decide, by decide⟩, Or.inl (List.mem_of_getElem? (i := 445) (by decide +kernel)), ⟨(List.mem_of_getElem? (i := 446) (by decide +kernel)), (List.mem_of_getElem? (i := 447) (by decide +kernel))⟩, (List.mem_of_getElem? (i := 37) (by decide +kernel)), ⟨by decide, by decide, by decide +kernel⟩, _, _, rfl⟩
theorem v_L_102 (l : Launch) : gs_vL l (102, 1, 5, gs_wr f_M_behind) := ⟨f_M_behind, rfl, by decide, y_M_behind, w_M_behind, gs_tb, r_M_behind, _, _, _, C_M_behind_ok l, gs_goodL (List.mem_of_getElem? (i := 665) (by decide +kernel)), rfl, ⟨rfl, rfl⟩, ⟨by decide, by decide⟩, Or.inl (List.mem_of_getElem? (i := 662) (by decide +kernel)), ⟨(List.mem_of_getElem? (i := 663) (by decide +kernel)), (List.mem_of_getElem? (i := 664) (by decide +kernel))⟩, (List.mem_of_getElem? (i := 42) (by decide +kernel)), ⟨by decide, by decide, by decide +kernel⟩, _, _, rfl⟩
theorem q_L_law (l : Launch) : ∀ e ∈ C_L_law, gs_vL l e := List.forall_mem_cons.mpr ⟨v_L_13 l, List.forall_mem_cons.mpr ⟨v_L_17 l, List.forall_mem_cons.mpr ⟨v_L_18 l, List.forall_mem_cons.mpr ⟨v_L_21 l, List.forall_mem_cons.mpr ⟨v_L_22 l, List.forall_mem_cons.mpr ⟨v_L_26 l, List.forall_mem_cons.mpr ⟨v_L_27 l, List.forall_mem_cons.mpr ⟨v_L_30 l, List.forall_mem_cons.mpr ⟨v_L_31 l, List.forall_mem_cons.mpr ⟨v_L_34 l, List.forall_mem_cons.mpr ⟨v_L_35 l, List.forall_mem_cons.mpr ⟨v_L_39 l, List.forall_mem_cons.mpr ⟨v_L_40 l, List.forall_mem_cons.mpr ⟨v_L_43 l, List.forall_mem_cons.mpr ⟨v_L_44 l, List.forall_mem_cons.mpr ⟨v_L_48 l, List.forall_mem_cons.mpr ⟨v_L_49 l, List.forall_mem_cons.mpr ⟨v_L_53 l, List.forall_mem_cons.mpr ⟨v_L_54 l, List.forall_mem_cons.mpr ⟨v_L_58 l, List.forall_mem_cons.mpr ⟨v_L_59 l, List.forall_mem_cons.mpr ⟨v_L_63 l, List.forall_mem_cons.mpr ⟨v_L_64 l, List.forall_mem_cons.mpr ⟨v_L_67 l, List.forall_mem_cons.mpr ⟨v_L_68 l, List.forall_mem_cons.mpr ⟨v_L_71 l, List.forall_mem_cons.mpr ⟨v_L_72 l, List.forall_mem_cons.mpr ⟨v_L_75 l, List.forall_mem_cons.mpr ⟨v_L_76 l, List.forall_mem_cons.mpr ⟨v_L_80 l, List.forall_mem_cons.mpr ⟨v_L_81 l, List.forall_mem_cons.mpr ⟨v_L_85 l, List.forall_mem_cons.mpr ⟨v_L_86 l, List.forall_mem_cons.mpr ⟨v_L_90 l, List.forall_mem_cons.mpr ⟨v_L_91 l, List.forall_mem_cons.mpr ⟨v_L_94 l, List.forall_mem_cons.mpr ⟨v_L_95 l, List.forall_mem_cons.mpr ⟨v_L_98 l, List.forall_mem_cons.mpr ⟨v_L_99 l, List.forall_mem_cons.mpr ⟨v_L_102 l, fun _ h => absurd h List.not_mem_nil⟩⟩⟩⟩⟩⟩⟩⟩⟩⟩⟩⟩⟩⟩⟩⟩⟩⟩⟩⟩⟩⟩⟩⟩⟩⟩⟩⟩⟩⟩⟩⟩⟩⟩⟩⟩⟩⟩⟩⟩
-- from the entry to the end
theorem d_L_0 : decode code 0 = .ok (.new 7, 3) := by decide +kernel
theorem d_L_3 : decode code 3 = .ok (.dup, 1) := by decide +kernel
theorem d_L_4 : decode code 4 = .ok (.invokespecial 9, 3) := by decide +kernel
theorem d_L_7 : decode code 7 = .ok (.astore_n 1, 1) := by decide +kernel
theorem d_L_8 : decode code 8 = .ok (.new 10, 3) := by decide +kernel
theorem d_L_11 : decode code 11 = .ok (.dup, 1) := by decide +kernel
theorem d_L_12 : decode code 12 = .ok (.invokespecial 12, 3) := by decide +kernel
theorem d_L_15 : decode code 15 = .ok (.astore_n 2, 1) := by decide +kernel
theorem gs_known {s : State} {args : Array Value} (htb : ∀ w ∈ gs_tb, w.before args s = true) : ∃ D : va_G, va_K D gs_CL [] s := by
  obtain ⟨c0, i0, k0⟩ := u_known (C := "GrossSettlement") (T := gs_T0) (N := 3) (n := 3) htb (gs_cls_ok (ci := 0) rfl).1 (htb _ (gs_ww 45 (by decide +kernel) rfl))
  obtain ⟨c1, i1, k1⟩ := u_known (C := "GrossSettlement$Book") (T := gs_T1) (N := 3) (n := 3) htb (gs_cls_ok (ci := 1) rfl).1 (htb _ (gs_ww 53 (by decide +kernel) rfl))
  obtain ⟨c2, i2, k2⟩ := u_known (C := "GrossSettlement$Accounts") (T := gs_T2) (N := 6) (n := 6) htb (gs_cls_ok (ci := 2) rfl).1 (htb _ (gs_ww 59 (by decide +kernel) rfl))
  obtain ⟨c3, i3, k3⟩ := u_known (C := "GrossSettlement$Queue") (T := gs_T3) (N := 4) (n := 4) htb (gs_cls_ok (ci := 3) rfl).1 (htb _ (gs_ww 90 (by decide +kernel) rfl))
  obtain ⟨c4, i4, k4⟩ := u_known (C := "GrossSettlement$Instruction") (T := gs_T4) (N := 7) (n := 7) htb (gs_cls_ok (ci := 4) rfl).1 (htb _ (gs_ww 97 (by decide +kernel) rfl))
  obtain ⟨c5, i5, k5⟩ := u_known (C := "GrossSettlementModel") (T := gs_T5) (N := 6) (n := 6) htb (gs_cls_ok (ci := 5) rfl).1 (htb _ (gs_ww 450 (by decide +kernel) rfl))
  refine ⟨(fun ci => match ci with | 0 => c0 | 1 => c1 | 2 => c2 | 3 => c3 | 4 => c4 | _ => c5, fun ci => match ci with | 0 => i0 | 1 => i1 | 2 => i2 | 3 => i3 | 4 => i4 | _ => i5), fun ci q hq => ?_, fun k q hk => by cases hk⟩
  rcases ci with _ | _ | _ | _ | _ | _ | ci
  · cases hq
    exact k0
  · cases hq
    exact k1
  · cases hq
    exact k2
  · cases hq
    exact k3
  · cases hq
    exact k4
  · cases hq
    exact k5
  · cases hq
set_option maxHeartbeats 4000000 in
theorem whole_start {p : Program} {e : Env} {s : State} {m : MethodId} {below : List Frame} {meth : Method} {c : Code} (l : Launch) {b L : Nat} {xs : Nat → Int32} (hL : L ≤ 3072) (C0 : lw_At p s m meth c b L xs) : W p l e room_1 s m #[Value.ref b] below meth c s.heap [] 0 0 (lw_Z below #[Value.ref b] s) (entryFrame m ([Value.ref b] : List Value).toArray 4) := by
  obtain ⟨hx, hb, hr, hml, hown, hts, hX, hbl, hlocks, hgv⟩ := C0
  have hown : s.vm.findClass "GrossSettlementLaw" = some m.cls := hown
  have htb : ∀ w ∈ gs_tb, w.before #[Value.ref b] s = true := fun w h => hts w (List.mem_filter.mp h).1
  have hnw : ∀ w ∈ gs_NW, va_Nw w s := fun w h => va_Nw.of (gs_isN_t (gs_hN w h)) (hts w (List.mem_filter.mp h).1)
  have hao : va_AO "GrossSettlement$Instruction" s := va_AO.of (hts _ (List.mem_of_getElem? (i := 96) (by decide +kernel)))
  obtain ⟨D, hK⟩ := gs_known htb
  have hl := lv_entry ([.ref b]) (n := 4) (by show 1 ≤ 4; decide)
  rw [lg_entry_eq]
  generalize (lg_sl ([.ref b]) ++ List.replicate (4 - (lg_sl ([.ref b])).length) Slot.unset).toArray = ls at hl ⊢
  have hl : lv_has ls 4 [(0, .ref b)] := hl
  have hA : ∀ q : Nat, s.heap.size ≤ q → s.heap.size ≤ q := fun q h => h
  have hS : va_S (fun q => s.heap.size ≤ q) s.heap s.heap [] := va_S.rf
  have hP : va_P D gs_CL [] s.heap := fun k q hk => by cases hk
  have hD : va_D (fun q => s.heap.size ≤ q) [] := ⟨fun i j p q hi => by cases hi, fun k q hk => by cases hk⟩
  refine gs_newc (A := fun q => s.heap.size ≤ q) (y := y_Gi) hx hb hml hown htb hnw hao hl.1 hK hP hD hS hA (n_G l) rfl b_Gi (ci := 0) rfl (gs_ww 44 (by decide +kernel) rfl) (gs_ww 45 (by decide +kernel) rfl) (gs_ww 37 (by decide +kernel) rfl) (Or.inl (gs_ww 46 (by decide +kernel) rfl)) (gs_ww 47 (by decide +kernel) rfl) ⟨rfl, by decide, by decide, by decide +kernel⟩ ⟨by decide, by decide⟩ (by decide) (by decide) (Nat.le_of_ble_eq_true rfl) d_L_0 d_L_3 d_L_4 (fun qg u H locs hK hP hD hS => ?_)
  refine lv_astore_n hx hb d_L_7 rfl hl (by decide) rfl (fun ls hl => ?_)
  have hl : lv_has ls 4 [(1, .ref qg), (0, .ref b)] := hl
  refine gs_newc (A := fun q => s.heap.size ≤ q) (y := y_Mi) hx hb hml hown htb hnw hao hl.1 hK hP hD hS hA (n_M l) rfl b_Mi (ci := 5) rfl (gs_ww 449 (by decide +kernel) rfl) (gs_ww 450 (by decide +kernel) rfl) (gs_ww 42 (by decide +kernel) rfl) (Or.inl (gs_ww 451 (by decide +kernel) rfl)) (gs_ww 452 (by decide +kernel) rfl) ⟨rfl, by decide, by decide, by decide +kernel⟩ ⟨by decide, by decide⟩ (by decide) (by decide) (Nat.le_of_ble_eq_true rfl) d_L_8 d_L_11 d_L_12 (fun qm um H locs hK hP hD hS => ?_)
  refine lv_astore_n hx hb d_L_15 rfl hl (by decide) rfl (fun ls hl => ?_)
  have hl : lv_has ls 4 [(2, .ref qm), (1, .ref qg), (0, .ref b)] := hl
  have hK : va_K D gs_CL (t_G u ++ t_M um) s := hK
  have hP : va_P D gs_CL (w_G qg u ++ w_M qm um) H := hP
  have hD : va_D (fun q => s.heap.size ≤ q) (w_G qg u ++ w_M qm um) := hD
  refine W.widen (k := 600000) (n := 7302250) (by decide) (by decide) ?_
  obtain ⟨hP, hD⟩ := gs_world D qg u qm um b hP hD
  replace hK := gs_worldK D u um hK
  obtain ⟨d1, h1⟩ := lw_all (xs := xs) hL gs_RR0
  obtain ⟨n, hn⟩ := gs_g_iff.mp h1
  have e1 : gs_n 1 = (1 : Int32) := by decide
  rw [e1] at hn
  have hB : gs_B (Y1 L xs) (gs_cA u um) (gs_adr qg u qm um b) D gs_CL gs_RL gs_pr1 (fun q => s.heap.size ≤ q) s.heap 4 [some (gs_r 30 0), some (gs_r 0 0), some (gs_r 20 0), none] gs_d0 ls H locs := by
    refine ⟨⟨_, hl, rfl, fun i v hv => ?_⟩, fun i v hv => ?_, by rw [gs_W_Y1]; exact hP, by rw [gs_W_Y1]; exact hD, hS⟩
    · rcases i with _ | _ | _ | _ | i
      · cases hv
        exact List.mem_of_getElem? (i := 2) rfl
      · cases hv
        exact List.mem_of_getElem? (i := 1) rfl
      · cases hv
        exact List.mem_of_getElem? (i := 0) rfl
      · cases hv
      · cases hv
    · rcases i with _ | _ | _ | _ | i
      · cases hv
        exact rfl
      · cases hv
        exact rfl
      · cases hv
        exact rfl
      · cases hv
      · cases hv
  refine gs_sound (Ts := lw_tbl) (Y := Y1 L xs) (P := P_L_law) (cA := gs_cA u um) (ad := gs_adr qg u qm um b) (pr := gs_pr1) (RL := gs_RL) (A := fun q => s.heap.size ≤ q) hx hb hown hts hK (gs_lay1 _ L xs) m_L_law (fun x n f hlk => ?_) (fun x n cr f hcr hlk => ?_) (fun t i h hk => ?_) (fun pc i tg st lo ls H locs hi hret hB hst => ?_) n 16 _ [] gs_d0 ls H locs hn hB (fun _ h => by cases h)
  · obtain ⟨f0, -, h9, -⟩ := q_L_law l _ (gs_lk_mem (show gs_lk C_L_law x = some _ from hlk))
    exact absurd (show (1000 : Nat) ≤ 999 from h9) (by decide)
  · obtain ⟨f0, e2, -, hv⟩ := q_L_law l _ (gs_lk_mem (show gs_lk C_L_law x = some _ from hlk))
    have e2 : f = gs_wr f0 := e2
    subst e2
    exact gs_co_L hx hb hml hown hts hK hnw hA ⟨by decide, by decide⟩ hv
  · unfold gs_pr1 at h
    rw [Bool.or_eq_true, Bool.and_eq_true] at h
    cases hb : Nat.beq t 30
    · rw [Y1_f hb] at hk
      exact absurd hk (Y0_5 t)
    · have e3 : t = 30 := Nat.eq_of_beq_eq_true hb
      subst e3
      have e4 : i = 0 := by
        rcases h with h | ⟨-, h⟩
        · exact absurd (Nat.le_of_ble_eq_true (show Nat.ble (i + 1) 0 = true from h)) (by omega)
        · exact Nat.eq_of_beq_eq_true h
      subst e4
      exact ⟨hX, hbl, Nat.not_le_of_lt hbl⟩
  · obtain ⟨len, hd, hln, -⟩ := m_L_law.1 pc i tg hi
    have hfr : ∀ q ∈ locs, s.heap.size ≤ q.base := hB.2.2.2.2.2.2
    unfold gs_ret at hret
    split at hret
    · split at hret
      · cases hret
      · cases hret
    · split at hret
      · cases hret
        cases hln 1 rfl
        exact va_forget hfr (lw_ret hx hb hr hlocks hd)
      · cases hret
    · split at hret
      · cases hret
      · cases hret
    · split at hret
      · cases hret
      · cases hret
    · cases hret
-- the claim out of the walk
set_option maxHeartbeats 4000000 in
theorem lw_walk (l : Launch) (b : Addr) (xs : List Int32) : MetFree l x (headSpec (Jvm.Cond.code x code maxLocals ret :: tables_1) room_1) (lw_P b xs) (fun _ _ _ _ _ => True) lw_Q := by
  refine MetFree.of_bodyS (code := code) (maxLocals := maxLocals) (ret := ret) (by decide) ?_ ?_
  · intro args s m h hn
    obtain ⟨meth, c, h1, h2, h3, h4, h5, h6, -, -⟩ := Cond.code_spec hn (atoms_spec (ws := Jvm.Cond.code x code maxLocals ret :: tables_1) h _ List.mem_cons_self)
    exact ⟨meth, c, h1, h2, h3, h4, h5, h6⟩
  · intro p e s m args below meth c s₁ B hml0 hP _
    obtain ⟨rfl, hx, hbd, hgv⟩ := hP
    obtain ⟨scr, harrAt, hlist, hof, hsmall⟩ := hx
    obtain ⟨hcb, hkn, -, -⟩ := State.arrayAt?_spec harrAt
    have hown : s.vm.findClass R_law = some m.cls := findClass_of_methodNamed B.named
    have hts0 : ∀ c ∈ (Jvm.Cond.code x code maxLocals ret :: tables_1), c.before #[Value.ref b] s = true := atoms_spec (ws := Jvm.Cond.code x code maxLocals ret :: tables_1) B.pre
    have hts : ∀ w ∈ lw_tbl, w.before #[Value.ref b] s = true := k2_hts_sels lw_privs (fun w hw => hts0 w (List.mem_cons_of_mem _ hw)) lw_privs_ok
    have hml : c.maxLocals = 4 := B.maxLocals_eq (hts0 _ List.mem_cons_self)
    have X₀ : Stand p l e room_1 s m #[Value.ref b] below meth c s₁ [] 0 0 := Stand.of_body B
    have hh0 : s₁.heap = s.heap := by rw [B.state]; rfl
    have hsz : scr.slots.size = xs.length := by rw [← Array.length_toList, hlist, List.length_map]
    have hval : ∀ j : Nat, j < xs.length → scr.slots[j]? = some (.int (xs.getD j 0)) := fun j hj => by
      rw [← Array.getElem?_toList, hlist]
      simp [hj]
    have hbl : b < s.heap.size := (Array.getElem?_eq_some_iff.mp hcb).1
    have hX : va_X b xs.length (fun j => xs.getD j 0) s s.heap := ⟨scr, hcb, hof, hkn, hsz, hval⟩
    have K : W p l e room_1 s m #[Value.ref b] below meth c s₁.heap [] 0 0 (lw_Z below #[Value.ref b] s) (entryFrame m ([Value.ref b] : List Value).toArray 4) := by
      rw [hh0]
      exact whole_start l hbd ⟨B.exec, B.bytes, B.returns, hml, hown, hts, hX, hbl, B.notSynchronized, hgv⟩
    obtain ⟨t, a1, o, b1, b2, b3⟩ := K s₁ rfl X₀
    exact ⟨t, o, a1, b1, b2, b3⟩
theorem lw_pre_spec {args : Array Value} {s : State} (h : (Jvm.Cond.and given_1 narrow_1).before args s = true) (hr : rest_1_c.before args s = true) : ∃ (b : Addr) (xs : List Int32), lw_P b xs args s := by
  have hs := flat_of_before _ h
  have hq := flat_of_before _ hr
  have hc : (Cond.count 1).before args s = true := hs _ (by decide +kernel)
  have harr : (Cond.arrayOf (.arg 0) .int).before args s = true := hs _ (by decide +kernel)
  have hle : (Cond.le (.length (.arg 0)) (.int 3072)).before args s = true := hs _ (by decide +kernel)
  have hlen : (Cond.isInt (.length (.arg 0))).before args s = true := hq _ (by decide +kernel)
  have hall : (Cond.all (.arg 0) (.isInt (.elem (.arg 0) (.index 0)))).before args s = true := hq _ (by decide +kernel)
  obtain ⟨b, xs, hb, hx⟩ := State.ints_of_pre rfl harr hlen hall
  have hsm : xs.length < 2 ^ 31 := hx.choose_spec.2.2.2
  have hev : (Term.length (.arg 0)).eval args s none [] s = some (.int xs.length.toInt32) := hx.length_eval hb
  have hv := Cond.le_ints hev (show (Term.int 3072).eval args s none [] s = some (.int 3072) from rfl)
  have hd : xs.length.toInt32 ≤ 3072 := by
    simpa [Cond.before, Cond.holds, hv] using hle
  have hN : xs.length ≤ 3072 := (Int32.ofNat_le_ofNat hsm (by decide)).mp (show Int32.ofNat xs.length ≤ Int32.ofNat 3072 from hd)
  exact ⟨b, xs, Cond.one_arg hc (show args[0]? = some (.ref b) from hb), hx, hN, h⟩
theorem lw_comes (l : Launch) : Comes l x (Jvm.Cond.code x code maxLocals ret :: tables_1) room_1 (fun tb e args s => Calls_1 tb e args s ∧ rest_1 tb e args s ∧ Pre_1 tb e args s)
    (fun _ _ args s o t => lw_Q args s o t) := by
  intro p e ha hc hk s m args below hf hfit hheap happ hpre
  obtain ⟨b, xs, hP⟩ := lw_pre_spec hpre.2.2 hpre.2.1
  obtain ⟨k, o, h1, h2, h3, hQ⟩ := lw_walk l b xs p e ha hc hk s m args below hf ((Spec.applies_iff_loose hf).mp happ).1 hP trivial
  exact ⟨k, o, h1, h2, h3, hQ⟩
theorem lw_frame {s t : State} {o : Outcome} {args : Array Value} (h : Framed s o t [] 600000 7302250) :
    Framed s o t (fieldLocs frame_1_writes args s ++ arrayLocs frame_1_arrays args s ++ staticLocs frame_1_statics s) 600000 7302250 := h
theorem lw_limb (L : Cond) (hL : ∀ (args : Array Value) (s t : State), L.after args s (.returned (some (.int 1))) t = true) :
    ArmFor flags0 classFile x code maxLocals ret World_1 tables_1 room_1 Calls_1 rest_1 Pre_1
      (fun tb e a s o t => postC L tb e a s o t ∧ Framed s o t (fieldLocs frame_1_writes a s ++ arrayLocs frame_1_arrays a s ++ staticLocs frame_1_statics s) 600000 7302250) := by
  intro l _ _ _ p e ha hc hk s m args below hf hfit hheap happ hpre
  obtain ⟨k, o, h1, h2, h3, rfl, hF⟩ := lw_comes l p e ha hc hk s m args below hf hfit hheap happ hpre
  exact ⟨k, _, h1, h2, h3, hL args s _, lw_frame hF⟩
theorem i_vc : Claimed_1_1 ∧ Claimed_1_2 := ⟨lw_limb limb_1_1 (fun args s t => by simp [limb_1_1, Cond.after, Cond.holds, Cond.value]), lw_limb limb_1_2 (fun args s t => Cond.after_iff.mpr (by
  first | (rw [show limb_1_2 = Cond.eq .result (.int 1) from rfl, Cond.eq_ints (x := 1) (y := 1) rfl rfl]; simp; done) | (simp [limb_1_2, Cond.value, Term.eval]; done)))⟩
