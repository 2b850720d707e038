-- the start: what the cells hold, and what that means
def gs_d0 : gs_D := (fun t _ => match Nat.beq t 9 with
  | true => gs_lim 36
  | false => fun _ => 0, fun t _ => match Nat.beq t 21 || Nat.beq t 22 with
  | true => gs_ro 70
  | false => fun _ => 0)
def gs_s0 : gs_S := (fun a _ => match Nat.beq a 4 with
  | true => -1
  | false => 0, [])
theorem gs_Cl0 (b : Nat) : gs_Cl b gs_d0 gs_s0 := by
  have z : (0 : Int32) = gs_n 0 := by decide
  have z2 : (0 : Int64) = gs_m 0 := by decide
  refine ⟨⟨fun j hj => z2, fun j hj => z2⟩, ⟨fun j hj => z, fun j hj => z⟩, ⟨fun j hj => ?_, fun j hj => z2⟩, ⟨z, z, z⟩, fun i k hi hk => ?_, fun k hk => ?_⟩
  · show (if j < 36 then -1 else 0 : Int32) = gs_n (-1)
    rw [if_pos hj]
    decide
  · have hi : (i : Int) < 0 := hi
    omega
  · have hk : k < 0 := hk
    omega
theorem gs_Mo0 {t : Nat} (ht : t = 21 ∨ t = 22) : gs_Mo t gs_d0 gs_s0 := by
  have key : ∀ n : Nat, n < 110 → n ≠ 108 → n ≠ 109 → gs_ro 70 n = gs_m (gs_mr gs_s0 n) := by decide +kernel
  intro n h1 h2 h3
  have h1 : (n : Int) < 110 + 8 * 0 := h1
  have h4 := key n (by omega) h2 h3
  rcases ht with rfl | rfl <;> exact h4
theorem gs_WF0 : gs_WF 0 gs_s0 := by
  have z : ∀ b : Int, 0 ≤ b → (-b ≤ (0 : Int) ∧ (0 : Int) ≤ b) := fun b hb => ⟨by omega, hb⟩
  have z1 : ∀ b : Int, 0 ≤ b → ((0 : Int) ≤ 0 ∧ (0 : Int) ≤ b) := fun b hb => ⟨by omega, hb⟩
  have k1 : ∀ n : Nat, n < 54 → 0 ≤ gs_rm gs_s0 n := by decide +kernel
  refine ⟨⟨⟨fun j hj => z 0 (by decide), fun j hj => z1 0 (by decide), fun j hj => z 0 (by decide)⟩, ⟨fun j hj => z1 1000 (by decide), fun j hj => z1 100 (by decide), fun j hj => ?_⟩, ⟨⟨by decide, by decide⟩, ⟨by decide, by decide⟩, by decide⟩, fun i hi => ?_⟩, ⟨by decide +kernel, by decide⟩, fun x x0 x1 => ?_, fun p _ _ => rfl⟩
  · show (-1 : Int) ≤ -1 ∧ (-1 : Int) ≤ 1000000
    decide
  · have hi : (i : Int) < 0 := hi
    omega
  · have := k1 x.toNat (by omega)
    rwa [Int.toNat_of_nonneg x0] at this
theorem gs_RR0 : gs_RR 0 gs_d0 gs_s0 gs_s0 := ⟨⟨gs_Cl0 0, gs_Cl0 1⟩, ⟨gs_Mo0 (Or.inl rfl), gs_Mo0 (Or.inr rfl)⟩, gs_WF0, gs_WF0⟩
