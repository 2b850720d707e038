theorem gs_wI_o {d : gs_D} {t i j a b c : Nat} {x : Int32} (h : ¬ (a = t ∧ b = i ∧ c = j)) : (gs_wI d t i j x).1 a b c = d.1 a b c := if_neg h
theorem gs_wL_o {d : gs_D} {t i j a b c : Nat} {x : Int64} (h : ¬ (a = t ∧ b = i ∧ c = j)) : (gs_wL d t i j x).2 a b c = d.2 a b c := if_neg h
theorem gs_wI_s {d : gs_D} {t i j : Nat} {x : Int32} : (gs_wI d t i j x).1 t i j = x := if_pos ⟨rfl, rfl, rfl⟩
theorem gs_wL_s {d : gs_D} {t i j : Nat} {x : Int64} : (gs_wL d t i j x).2 t i j = x := if_pos ⟨rfl, rfl, rfl⟩
/-! The component's book b holds S; the model's row (tag t) holds S. -/
def gs_Cl (b : Nat) (d : gs_D) (S : gs_S) : Prop :=
  ((∀ j, j < 18 → d.2 5 b j = gs_m (S.1 0 j)) ∧ (∀ j, j < 18 → d.2 6 b j = gs_m (S.1 1 j)))
  ∧ ((∀ j, j < 3 → d.1 7 b j = gs_n (S.1 2 j)) ∧ (∀ j, j < 3 → d.1 8 b j = gs_n (S.1 3 j)))
  ∧ ((∀ j, j < 36 → d.1 9 b j = gs_n (S.1 4 j)) ∧ (∀ j, j < 36 → d.2 10 b j = gs_m (S.1 5 j)))
  ∧ (d.1 1 b 0 = gs_n (S.1 6 0) ∧ d.1 4 b 1 = gs_n (S.1 6 1) ∧ d.1 4 b 3 = gs_n S.2.length)
  ∧ (∀ i k : Nat, (i : Int) < S.1 6 1 → k < 7 → d.1 13 (gs_ii b i) k = gs_n (S.1 (10 + i) k))
  ∧ (∀ k : Nat, k < S.2.length → d.1 12 b k = gs_n (S.2.getD k 0 : Nat))
section CL
variable {b : Nat} {d : gs_D} {S : gs_S}
theorem gs_Cl.h (h : gs_Cl b d S) : ∀ j, j < 18 → d.2 5 b j = gs_m (S.1 0 j) := h.1.1
theorem gs_Cl.p (h : gs_Cl b d S) : ∀ j, j < 18 → d.2 6 b j = gs_m (S.1 1 j) := h.1.2
theorem gs_Cl.pr (h : gs_Cl b d S) : ∀ j, j < 3 → d.1 7 b j = gs_n (S.1 2 j) := h.2.1.1
theorem gs_Cl.hc (h : gs_Cl b d S) : ∀ j, j < 3 → d.1 8 b j = gs_n (S.1 3 j) := h.2.1.2
theorem gs_Cl.li (h : gs_Cl b d S) : ∀ j, j < 36 → d.1 9 b j = gs_n (S.1 4 j) := h.2.2.1.1
theorem gs_Cl.nt (h : gs_Cl b d S) : ∀ j, j < 36 → d.2 10 b j = gs_m (S.1 5 j) := h.2.2.1.2
theorem gs_Cl.dy (h : gs_Cl b d S) : d.1 1 b 0 = gs_n (S.1 6 0) := h.2.2.2.1.1
theorem gs_Cl.ct (h : gs_Cl b d S) : d.1 4 b 1 = gs_n (S.1 6 1) := h.2.2.2.1.2.1
theorem gs_Cl.wt (h : gs_Cl b d S) : d.1 4 b 3 = gs_n S.2.length := h.2.2.2.1.2.2
theorem gs_Cl.is (h : gs_Cl b d S) : ∀ i k : Nat, (i : Int) < S.1 6 1 → k < 7 → d.1 13 (gs_ii b i) k = gs_n (S.1 (10 + i) k) := h.2.2.2.2.1
theorem gs_Cl.od (h : gs_Cl b d S) : ∀ k : Nat, k < S.2.length → d.1 12 b k = gs_n (S.2.getD k 0 : Nat) := h.2.2.2.2.2
theorem gs_Cl.wH (h : gs_Cl b d S) (j : Nat) (x : Int) : gs_Cl b (gs_wL d 5 b j (gs_m x)) (gs_u S 0 j x) := by
  refine ⟨⟨fun k hk => ?_, fun k hk => ?_⟩, ⟨fun k hk => ?_, fun k hk => ?_⟩, ⟨fun k hk => ?_, fun k hk => ?_⟩, ⟨?_, ?_, ?_⟩, fun i k hi hk => ?_, fun k hk => ?_⟩
  · by_cases e : k = j
    · simp [gs_rL, gs_u, e]
    · simp [gs_rL, gs_u, e, h.h k hk]
  · simp [gs_rL, gs_u, h.p k hk]
  · simp [gs_rLI, gs_u, h.pr k hk]
  · simp [gs_rLI, gs_u, h.hc k hk]
  · simp [gs_rLI, gs_u, h.li k hk]
  · simp [gs_rL, gs_u, h.nt k hk]
  · simp [gs_rLI, gs_u, h.dy]
  · simp [gs_rLI, gs_u, h.ct]
  · simp [gs_rLI, gs_u, h.wt]
  · have e : (gs_u S 0 j x).1 (10 + i) k = S.1 (10 + i) k := if_neg (by omega)
    have hi : (i : Int) < S.1 6 1 := by simpa [gs_u] using hi
    rw [e, gs_rLI, h.is i k hi hk]
  · exact h.od k hk
theorem gs_Cl.wP (h : gs_Cl b d S) (j : Nat) (x : Int) : gs_Cl b (gs_wL d 6 b j (gs_m x)) (gs_u S 1 j x) := by
  refine ⟨⟨fun k hk => ?_, fun k hk => ?_⟩, ⟨fun k hk => ?_, fun k hk => ?_⟩, ⟨fun k hk => ?_, fun k hk => ?_⟩, ⟨?_, ?_, ?_⟩, fun i k hi hk => ?_, fun k hk => ?_⟩
  · simp [gs_rL, gs_u, h.h k hk]
  · by_cases e : k = j
    · simp [gs_rL, gs_u, e]
    · simp [gs_rL, gs_u, e, h.p k hk]
  · simp [gs_rLI, gs_u, h.pr k hk]
  · simp [gs_rLI, gs_u, h.hc k hk]
  · simp [gs_rLI, gs_u, h.li k hk]
  · simp [gs_rL, gs_u, h.nt k hk]
  · simp [gs_rLI, gs_u, h.dy]
  · simp [gs_rLI, gs_u, h.ct]
  · simp [gs_rLI, gs_u, h.wt]
  · have e : (gs_u S 1 j x).1 (10 + i) k = S.1 (10 + i) k := if_neg (by omega)
    have hi : (i : Int) < S.1 6 1 := by simpa [gs_u] using hi
    rw [e, gs_rLI, h.is i k hi hk]
  · exact h.od k hk
theorem gs_Cl.wN (h : gs_Cl b d S) (j : Nat) (x : Int) : gs_Cl b (gs_wL d 10 b j (gs_m x)) (gs_u S 5 j x) := by
  refine ⟨⟨fun k hk => ?_, fun k hk => ?_⟩, ⟨fun k hk => ?_, fun k hk => ?_⟩, ⟨fun k hk => ?_, fun k hk => ?_⟩, ⟨?_, ?_, ?_⟩, fun i k hi hk => ?_, fun k hk => ?_⟩
  · simp [gs_rL, gs_u, h.h k hk]
  · simp [gs_rL, gs_u, h.p k hk]
  · simp [gs_rLI, gs_u, h.pr k hk]
  · simp [gs_rLI, gs_u, h.hc k hk]
  · simp [gs_rLI, gs_u, h.li k hk]
  · by_cases e : k = j
    · simp [gs_rL, gs_u, e]
    · simp [gs_rL, gs_u, e, h.nt k hk]
  · simp [gs_rLI, gs_u, h.dy]
  · simp [gs_rLI, gs_u, h.ct]
  · simp [gs_rLI, gs_u, h.wt]
  · have e : (gs_u S 5 j x).1 (10 + i) k = S.1 (10 + i) k := if_neg (by omega)
    have hi : (i : Int) < S.1 6 1 := by simpa [gs_u] using hi
    rw [e, gs_rLI, h.is i k hi hk]
  · exact h.od k hk
/-- ints: prices (7, 2), haircuts (8, 3), limits (9, 4), the day (1, 6) -/
theorem gs_Cl.wI (h : gs_Cl b d S) {t f : Nat} (ht : (t = 7 ∧ f = 2) ∨ (t = 8 ∧ f = 3) ∨ (t = 9 ∧ f = 4)) (j : Nat) (x : Int) : gs_Cl b (gs_wI d t b j (gs_n x)) (gs_u S f j x) := by
  have ef : ∀ i k : Nat, (gs_u S f j x).1 (10 + i) k = S.1 (10 + i) k := fun i k => if_neg (by omega)
  have e6 : ∀ k : Nat, (gs_u S f j x).1 6 k = S.1 6 k := fun k => if_neg (by omega)
  have eo : ∀ a c : Nat, ∀ i : Nat, a ≠ t → (gs_wI d t b j (gs_n x)).1 a i c = d.1 a i c := fun a c i ha => if_neg (by omega)
  have eg : ∀ a c : Nat, a ≠ f → (gs_u S f j x).1 a c = S.1 a c := fun a c ha => if_neg (by omega)
  refine ⟨⟨fun k hk => ?_, fun k hk => ?_⟩, ⟨fun k hk => ?_, fun k hk => ?_⟩, ⟨fun k hk => ?_, fun k hk => ?_⟩, ⟨?_, ?_, ?_⟩, fun i k hi hk => ?_, fun k hk => ?_⟩
  · rw [eg 0 k (by omega), gs_rIL, h.h k hk]
  · rw [eg 1 k (by omega), gs_rIL, h.p k hk]
  · by_cases e : t = 7 ∧ k = j
    · obtain ⟨rfl, rfl⟩ := e
      have : f = 2 := by omega
      subst this
      simp [gs_rI, gs_u]
    · have : (gs_wI d t b j (gs_n x)).1 7 b k = d.1 7 b k := if_neg (by omega)
      rw [this, h.pr k hk, show (gs_u S f j x).1 2 k = S.1 2 k from if_neg (by omega)]
  · by_cases e : t = 8 ∧ k = j
    · obtain ⟨rfl, rfl⟩ := e
      have : f = 3 := by omega
      subst this
      simp [gs_rI, gs_u]
    · have : (gs_wI d t b j (gs_n x)).1 8 b k = d.1 8 b k := if_neg (by omega)
      rw [this, h.hc k hk, show (gs_u S f j x).1 3 k = S.1 3 k from if_neg (by omega)]
  · by_cases e : t = 9 ∧ k = j
    · obtain ⟨rfl, rfl⟩ := e
      have : f = 4 := by omega
      subst this
      simp [gs_rI, gs_u]
    · have : (gs_wI d t b j (gs_n x)).1 9 b k = d.1 9 b k := if_neg (by omega)
      rw [this, h.li k hk, show (gs_u S f j x).1 4 k = S.1 4 k from if_neg (by omega)]
  · rw [eg 5 k (by omega), gs_rIL, h.nt k hk]
  · rw [e6, eo 1 0 b (by omega), h.dy]
  · rw [e6, eo 4 1 b (by omega), h.ct]
  · rw [eo 4 3 b (by omega), h.wt]
    rfl
  · rw [ef, eo 13 k _ (by omega), h.is i k (by rw [e6] at hi; exact hi) hk]
  · rw [eo 12 k b (by omega)]
    exact h.od k hk
theorem gs_Cl.wD (h : gs_Cl b d S) (x : Int) : gs_Cl b (gs_wI d 1 b 0 (gs_n x)) (gs_u S 6 0 x) := by
  have ef : ∀ i k : Nat, (gs_u S 6 0 x).1 (10 + i) k = S.1 (10 + i) k := fun i k => if_neg (by omega)
  have eo : ∀ a c : Nat, ∀ i : Nat, a ≠ 1 → (gs_wI d 1 b 0 (gs_n x)).1 a i c = d.1 a i c := fun a c i ha => if_neg (by omega)
  have eg : ∀ a c : Nat, a ≠ 6 → (gs_u S 6 0 x).1 a c = S.1 a c := fun a c ha => if_neg (by omega)
  have e61 : (gs_u S 6 0 x).1 6 1 = S.1 6 1 := by
    show (if 6 = 6 ∧ 1 = 0 then x else S.1 6 1) = _
    rw [if_neg (by decide)]
  refine ⟨⟨fun k hk => ?_, fun k hk => ?_⟩, ⟨fun k hk => ?_, fun k hk => ?_⟩, ⟨fun k hk => ?_, fun k hk => ?_⟩, ⟨?_, ?_, ?_⟩, fun i k hi hk => ?_, fun k hk => ?_⟩
  · rw [eg 0 k (by omega), gs_rIL, h.h k hk]
  · rw [eg 1 k (by omega), gs_rIL, h.p k hk]
  · rw [eg 2 k (by omega), eo 7 k b (by omega), h.pr k hk]
  · rw [eg 3 k (by omega), eo 8 k b (by omega), h.hc k hk]
  · rw [eg 4 k (by omega), eo 9 k b (by omega), h.li k hk]
  · rw [eg 5 k (by omega), gs_rIL, h.nt k hk]
  · simp [gs_rI, gs_u]
  · rw [e61, eo 4 1 b (by omega), h.ct]
  · rw [eo 4 3 b (by omega), h.wt]
    rfl
  · rw [ef, eo 13 k _ (by omega), h.is i k (by rw [e61] at hi; exact hi) hk]
  · rw [eo 12 k b (by omega)]
    exact h.od k hk
/-- a field of an instruction -/
theorem gs_Cl.wS (h : gs_Cl b d S) (i k : Nat) (x : Int) (hk : k < 7) : gs_Cl b (gs_wI d 13 (gs_ii b i) k (gs_n x)) (gs_u S (10 + i) k x) := by
  have eo : ∀ a c : Nat, ∀ i' : Nat, a ≠ 13 → (gs_wI d 13 (gs_ii b i) k (gs_n x)).1 a i' c = d.1 a i' c := fun a c i ha => if_neg (by omega)
  have eg : ∀ a c : Nat, a < 10 → (gs_u S (10 + i) k x).1 a c = S.1 a c := fun a c ha => if_neg (by omega)
  refine ⟨⟨fun k hk => ?_, fun k hk => ?_⟩, ⟨fun k hk => ?_, fun k hk => ?_⟩, ⟨fun k hk => ?_, fun k hk => ?_⟩, ⟨?_, ?_, ?_⟩, fun i' k' hi hk' => ?_, fun k hk => ?_⟩
  · rw [eg 0 k (by omega), gs_rIL, h.h k hk]
  · rw [eg 1 k (by omega), gs_rIL, h.p k hk]
  · rw [eg 2 k (by omega), eo 7 k b (by omega), h.pr k hk]
  · rw [eg 3 k (by omega), eo 8 k b (by omega), h.hc k hk]
  · rw [eg 4 k (by omega), eo 9 k b (by omega), h.li k hk]
  · rw [eg 5 k (by omega), gs_rIL, h.nt k hk]
  · rw [eg 6 0 (by omega), eo 1 0 b (by omega), h.dy]
  · rw [eg 6 1 (by omega), eo 4 1 b (by omega), h.ct]
  · rw [eo 4 3 b (by omega), h.wt]
    rfl
  · by_cases e : i' = i ∧ k' = k
    · obtain ⟨rfl, rfl⟩ := e
      simp [gs_rI, gs_u]
    · have e1 : (gs_wI d 13 (gs_ii b i) k (gs_n x)).1 13 (gs_ii b i') k' = d.1 13 (gs_ii b i') k' := if_neg (by unfold gs_ii; omega)
      have e2 : (gs_u S (10 + i) k x).1 (10 + i') k' = S.1 (10 + i') k' := if_neg (by omega)
      rw [e1, e2, h.is i' k' (by rw [eg 6 1 (by omega)] at hi; exact hi) hk']
  · rw [eo 12 k b (by omega)]
    exact h.od k hk
end CL
-- what is left as it was: all but the book b = 0
def gs_now (t i : Nat) : Bool := Nat.ble t 19 && (match Nat.beq t 13 with
  | true => Nat.ble i 39
  | false => Nat.beq i 0)
def gs_fr (d d' : gs_D) : Prop := ∀ t i, gs_now t i = false → d'.1 t i = d.1 t i ∧ d'.2 t i = d.2 t i
theorem gs_fr.rf {d : gs_D} : gs_fr d d := fun _ _ _ => ⟨rfl, rfl⟩
theorem gs_fr.tr {d d' d'' : gs_D} (h : gs_fr d d') (h2 : gs_fr d' d'') : gs_fr d d'' := fun t i e => ⟨(h2 t i e).1.trans (h t i e).1, (h2 t i e).2.trans (h t i e).2⟩
theorem gs_fr.I {d : gs_D} {t i j : Nat} {x : Int32} (h : gs_now t i = true) : gs_fr d (gs_wI d t i j x) := fun a c e => by
  refine ⟨?_, rfl⟩
  funext k
  refine if_neg fun z => ?_
  rw [z.1, z.2.1, h] at e
  cases e
theorem gs_fr.L {d : gs_D} {t i j : Nat} {x : Int64} (h : gs_now t i = true) : gs_fr d (gs_wL d t i j x) := fun a c e => ⟨rfl, by
  funext k
  exact if_neg fun z => by rw [z.1, z.2.1, h] at e; cases e⟩
theorem gs_fr.i13 {i : Nat} (h : i < 40) : gs_now 13 i = true := by
  have : Nat.ble i 39 = true := Nat.ble_eq_true_of_le (by omega)
  exact this
theorem gs_fr.Cl {d d' : gs_D} {S : gs_S} (h : gs_fr d d') (h1 : gs_Cl 1 d S) : gs_Cl 1 d' S := by
  have e : ∀ t, t ≠ 13 → d'.1 t 1 = d.1 t 1 ∧ d'.2 t 1 = d.2 t 1 := fun t ht => h t 1 (by
    have : Nat.beq t 13 = false := by
      cases hb : Nat.beq t 13
      · rfl
      · exact absurd (Nat.eq_of_beq_eq_true hb) ht
    unfold gs_now
    rw [this]
    show (Nat.ble t 19 && Nat.beq 1 0) = false
    rw [show Nat.beq 1 0 = false from rfl, Bool.and_false])
  have e13 : ∀ i, d'.1 13 (gs_ii 1 i) = d.1 13 (gs_ii 1 i) := fun i => (h 13 _ (by
    have : Nat.ble (gs_ii 1 i) 39 = false := by
      cases hb : Nat.ble (gs_ii 1 i) 39
      · rfl
      · have := Nat.le_of_ble_eq_true hb
        unfold gs_ii at this
        omega
    exact this)).1
  unfold gs_Cl
  simp only [e13, (e 5 (by decide)).2, (e 6 (by decide)).2, (e 7 (by decide)).1, (e 8 (by decide)).1, (e 9 (by decide)).1, (e 10 (by decide)).2, (e 1 (by decide)).1, (e 4 (by decide)).1, (e 12 (by decide)).1]
  exact h1
