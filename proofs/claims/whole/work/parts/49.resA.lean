-- RESOLVING: sets of places
theorem gs_sum_neg (f : Nat → Int) : ∀ n, gs_sum (fun k => -f k) n = -gs_sum f n
  | 0 => rfl
  | n + 1 => by
    simp only [gs_sum]
    rw [gs_sum_neg f n]
    omega
theorem gs_sum_rg {f : Nat → Int} {b : Int} (h : ∀ k, -b ≤ f k ∧ f k ≤ b) : ∀ n : Nat, -(b * n) ≤ gs_sum f n ∧ gs_sum f n ≤ b * n
  | 0 => by simp [gs_sum]
  | n + 1 => by
    have a := gs_sum_rg h n
    have c := h n
    have e : b * ((n + 1 : Nat) : Int) = b * n + b := by
      rw [Int.natCast_add, Int.mul_add]
      simp
    simp only [gs_sum]
    rw [e]
    omega
/-- S with those of C settled (their amounts alone) -/
def gs_sm (S : gs_S) (C : Nat → Bool) : gs_S := (fun f j => S.1 f j + gs_sum (fun k => if C k = true then gs_dl S (S.2.getD k 0) f j else 0) S.2.length, S.2)
section RA
variable {S : gs_S} {B : Int} {C : Nat → Bool}
theorem gs_sm_o {f : Nat} (j : Nat) (h0 : f ≠ 0) (h5 : f ≠ 5) : (gs_sm S C).1 f j = S.1 f j := by
  show S.1 f j + gs_sum _ _ = _
  rw [gs_sum_0 (fun k _ => by
    rw [gs_dl_o S _ j h0 h5]
    exact ite_self _), Int.add_zero]
theorem gs_dl_cg {S' : gs_S} {i : Nat} (e : ∀ k, S'.1 (10 + i) k = S.1 (10 + i) k) (f j : Nat) : gs_dl S' i f j = gs_dl S i f j := by
  unfold gs_dl
  simp only [e]
theorem gs_sm_set {C' : Nat → Bool} {k : Nat} {sg : Int} (hk : k < S.2.length) (h : ∀ j, j ≠ k → C' j = C j) (hs : gs_z (C' k) - gs_z (C k) = sg) : gs_mvd (gs_sm S C) (S.2.getD k 0) sg = gs_sm S C' := by
  refine Prod.ext ?_ rfl
  funext f j
  show (gs_sm S C).1 f j + sg * gs_dl (gs_sm S C) (S.2.getD k 0) f j = (gs_sm S C').1 f j
  rw [gs_dl_cg (fun c => gs_sm_o c (by omega) (by omega))]
  show S.1 f j + gs_sum (fun k => if C k = true then gs_dl S (S.2.getD k 0) f j else 0) S.2.length + sg * gs_dl S (S.2.getD k 0) f j = S.1 f j + gs_sum (fun k => if C' k = true then gs_dl S (S.2.getD k 0) f j else 0) S.2.length
  rw [gs_sum_up (f := fun k => if C k = true then gs_dl S (S.2.getD k 0) f j else 0) (g := fun k => if C' k = true then gs_dl S (S.2.getD k 0) f j else 0) hk (fun m _ hm => by simp only [h m hm])]
  have : (if C' k = true then gs_dl S (S.2.getD k 0) f j else 0) - (if C k = true then gs_dl S (S.2.getD k 0) f j else 0) = sg * gs_dl S (S.2.getD k 0) f j := by
    cases hc : C k <;> cases hc' : C' k <;> rw [hc, hc'] at hs <;> rw [← hs] <;> simp [gs_z]
  rw [this]
  omega
theorem gs_sm_wb (hw : gs_wb B S) (hv : gs_wv S) (hB : B + 60000000 ≤ 1000000000000) (C : Nat → Bool) : gs_wb (B + 60000000) (gs_sm S C) := by
  have hl := hv.2
  have ch : ∀ f j, -60000000 ≤ gs_sum (fun k => if C k = true then gs_dl S (S.2.getD k 0) f j else 0) S.2.length ∧ gs_sum (fun k => if C k = true then gs_dl S (S.2.getD k 0) f j else 0) S.2.length ≤ 60000000 := fun f j => by
    have e : gs_sum (fun k => if C k = true then gs_dl S (S.2.getD k 0) f j else 0) S.2.length = gs_sum (fun k => if C k = true ∧ k < S.2.length then gs_dl S (S.2.getD k 0) f j else 0) S.2.length := gs_sum_eq fun k hk => by
      by_cases c : C k = true
      · rw [if_pos c, if_pos ⟨c, hk⟩]
      · rw [if_neg c, if_neg fun z => c z.1]
    have := gs_sum_rg (f := fun k => if C k = true ∧ k < S.2.length then gs_dl S (S.2.getD k 0) f j else 0) (b := 6000000) (fun k => by
      show -6000000 ≤ (if C k = true ∧ k < S.2.length then gs_dl S (S.2.getD k 0) f j else 0) ∧ (if C k = true ∧ k < S.2.length then gs_dl S (S.2.getD k 0) f j else 0) ≤ 6000000
      by_cases c : C k = true ∧ k < S.2.length
      · rw [if_pos c]
        have hm := (hv.q hw).1 (k : Int) (by omega) (by omega)
        unfold gs_qa at hm
        rw [gs_tn] at hm
        exact gs_dl_rg (hw.2.2.2 _ hm) f j
      · rw [if_neg c]
        omega) S.2.length
    rw [e]
    omega
  refine ⟨⟨fun j hj => ?_, fun j hj => ?_, fun j hj => ?_⟩, ⟨fun j hj => ?_, fun j hj => ?_, fun j hj => ?_⟩, ⟨?_, ?_, hB⟩, fun k hk => ?_⟩
  · have a := hw.1.1 j hj
    have c := ch 0 j
    show -(B + 60000000) ≤ S.1 0 j + _ ∧ S.1 0 j + _ ≤ B + 60000000
    omega
  · rw [gs_sm_o j (by decide) (by decide)]
    have := hw.1.2.1 j hj
    omega
  · have a := hw.1.2.2 j hj
    have c := ch 5 j
    show -(B + 60000000) ≤ S.1 5 j + _ ∧ S.1 5 j + _ ≤ B + 60000000
    omega
  · rw [gs_sm_o j (by decide) (by decide)]; exact hw.2.1.1 j hj
  · rw [gs_sm_o j (by decide) (by decide)]; exact hw.2.1.2.1 j hj
  · rw [gs_sm_o j (by decide) (by decide)]; exact hw.2.1.2.2 j hj
  · rw [gs_sm_o 0 (by decide) (by decide)]; exact hw.2.2.1.1
  · rw [gs_sm_o 1 (by decide) (by decide)]; exact hw.2.2.1.2.1
  · rw [gs_sm_o 1 (by decide) (by decide)] at hk
    exact gs_iok_cg (hw.2.2.2 k hk) fun c _ => gs_sm_o c (by omega) (by omega)
theorem gs_sm_wv (hv : gs_wv S) (C : Nat → Bool) : gs_wv (gs_sm S C) := hv.cg (fun a c h => gs_sm_o c (by omega) (by omega)) rfl
-- places
def gs_pe (S : gs_S) (k x : Nat) : Int := gs_el S (S.2.getD k 0) (x : Nat)
def gs_pd (S : gs_S) (k x : Nat) : Bool := gs_db S (S.2.getD k 0) (x : Nat)
def gs_pm (S : gs_S) (k j : Nat) : Bool := gs_mt S (S.2.getD k 0) (S.2.getD j 0)
def gs_pr0 (S : gs_S) (x : Nat) : Int := gs_rm S (x : Nat)
theorem gs_rm_sm (S : gs_S) (C : Nat → Bool) (x : Nat) : gs_rm (gs_sm S C) (x : Nat) = gs_pr0 S x + gs_pos (gs_pe S) C S.2.length x := by
  have ln : ∀ p, gs_ln (gs_sm S C) p = gs_ln S p := fun p => by
    unfold gs_ln
    rw [gs_sm_o _ (by decide) (by decide), gs_sm_o _ (by decide) (by decide), gs_sm_o _ (by decide) (by decide), gs_sm_o _ (by decide) (by decide), gs_sm_o _ (by decide) (by decide), gs_sm_o _ (by decide) (by decide)]
  unfold gs_pr0 gs_pos gs_pe gs_rm
  rw [gs_sm_o _ (by decide) (by decide), ln]
  by_cases c1 : (18 : Int) ≤ x
  · rw [if_pos c1, if_pos c1]
    by_cases c2 : S.1 4 ((x : Int) - 18).toNat = -1
    · rw [if_pos c2, if_pos c2, gs_sum_0 (fun k _ => by
        show (if C k = true then gs_el S (S.2.getD k 0) x else 0) = 0
        unfold gs_el
        rw [if_pos c1, if_pos c2]
        exact ite_self _), Int.add_zero]
    · rw [if_neg c2, if_neg c2]
      have : gs_sum (fun k => if C k = true then gs_el S (S.2.getD k 0) x else 0) S.2.length = -gs_sum (fun k => if C k = true then gs_dl S (S.2.getD k 0) 5 ((x : Int) - 18).toNat else 0) S.2.length := by
        rw [← gs_sum_neg]
        refine gs_sum_eq fun k _ => ?_
        unfold gs_el
        rw [if_pos c1, if_neg c2]
        split
        · rfl
        · rfl
      rw [this]
      show S.1 4 ((x : Int) - 18).toNat - (S.1 5 ((x : Int) - 18).toNat + _) = _
      omega
  · rw [if_neg c1, if_neg c1]
    have : gs_sum (fun k => if C k = true then gs_el S (S.2.getD k 0) x else 0) S.2.length = gs_sum (fun k => if C k = true then gs_dl S (S.2.getD k 0) 0 (x : Int).toNat else 0) S.2.length := gs_sum_eq fun k _ => by
      unfold gs_el
      rw [if_neg c1]
    rw [this]
    by_cases c2 : (x : Int) % 3 = 0
    · rw [if_pos c2, if_pos c2]
      show S.1 0 (x : Int).toNat + _ + gs_ln S ((x : Int) / 3) = _
      omega
    · rw [if_neg c2, if_neg c2]
      rfl
theorem gs_pd_e (hw : gs_wb B S) (hv : gs_wv S) {x : Nat} (hx : x < 54) : ∀ k, k < S.2.length → gs_pe S k x < 0 → gs_pd S k x = true := fun k hk h => by
  have hm := (hv.q hw).1 (k : Int) (by omega) (by omega)
  unfold gs_qa at hm
  rw [gs_tn] at hm
  exact gs_el_db (hw.2.2.2 _ hm) (by omega) (by omega) h
theorem gs_pd_m (hw : gs_wb B S) (hv : gs_wv S) {x : Nat} : ∀ k j, k < S.2.length → j < k → gs_pd S k x = true → gs_pd S j x = true → gs_pm S k j = true := fun k j hk hj h1 h2 => by
  have m1 := (hv.q hw).1 (k : Int) (by omega) (by omega)
  have m2 := (hv.q hw).1 (j : Int) (by omega) (by omega)
  unfold gs_qa at m1 m2
  rw [gs_tn] at m1 m2
  have o1 := hw.2.2.2 _ m1
  have o2 := hw.2.2.2 _ m2
  obtain ⟨a0, a1, a2, a3, a4⟩ := o1.r
  obtain ⟨b0, b1, b2, b3, b4⟩ := o2.r
  have s1 := o1.2.1.2.2.2
  have s2 := o2.2.1.2.2.2
  unfold gs_pd gs_db at h1 h2
  rw [decide_eq_true_iff] at h1 h2
  unfold gs_pm gs_mt
  rw [decide_eq_true_iff]
  omega
/-- the greatest closed and covered set -/
noncomputable def gs_mx (S : gs_S) (k : Nat) : Bool := @decide (∃ U : Nat → Bool, gs_cl (gs_pm S) S.2.length U ∧ gs_cv2 (gs_pe S) (gs_pr0 S) S.2.length 54 U ∧ U k = true) (Classical.propDecidable _)
theorem gs_mx_eq (h1 : gs_cl (gs_pm S) S.2.length C) (h2 : gs_cv2 (gs_pe S) (gs_pr0 S) S.2.length 54 C) (h3 : ∀ U : Nat → Bool, gs_cl (gs_pm S) S.2.length U → gs_cv2 (gs_pe S) (gs_pr0 S) S.2.length 54 U → ∀ k, k < S.2.length → U k = true → C k = true) : ∀ k, k < S.2.length → C k = gs_mx S k := by
  intro k hk
  rw [Bool.eq_iff_iff]
  unfold gs_mx
  rw [@decide_eq_true_iff _ (Classical.propDecidable _)]
  exact ⟨fun h => ⟨C, h1, h2, h⟩, fun ⟨U, u1, u2, u3⟩ => h3 U u1 u2 k hk u3⟩
theorem gs_sm_cg {C' : Nat → Bool} (h : ∀ k, k < S.2.length → C' k = C k) : gs_sm S C' = gs_sm S C := by
  refine Prod.ext ?_ rfl
  funext f j
  show S.1 f j + gs_sum _ _ = S.1 f j + gs_sum _ _
  rw [gs_sum_eq fun k hk => by rw [h k hk]]
end RA
