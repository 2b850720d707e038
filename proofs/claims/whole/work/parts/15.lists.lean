/-! Sorted lists of numbers. -/
def gs_srt (key : Nat → Int) (l : List Nat) : Prop := l.Pairwise fun a b => key a < key b
theorem gs_srt_uq {key : Nat → Int} : ∀ {l1 l2 : List Nat}, gs_srt key l1 → gs_srt key l2 → (∀ x, x ∈ l1 ↔ x ∈ l2) → l1 = l2
  | [], [], _, _, _ => rfl
  | [], b :: l2, _, _, h => absurd ((h b).mpr List.mem_cons_self) (by simp)
  | a :: l1, [], _, _, h => absurd ((h a).mp List.mem_cons_self) (by simp)
  | a :: l1, b :: l2, h1, h2, h => by
    obtain ⟨p1, q1⟩ := List.pairwise_cons.mp h1
    obtain ⟨p2, q2⟩ := List.pairwise_cons.mp h2
    have e : a = b := by
      rcases List.mem_cons.mp ((h a).mp List.mem_cons_self) with z | z
      · exact z
      · rcases List.mem_cons.mp ((h b).mpr List.mem_cons_self) with y | y
        · exact y.symm
        · have x1 := p2 a z
          have x2 := p1 b y
          omega
    subst e
    have r : ∀ x, x ∈ l1 ↔ x ∈ l2 := by
      intro x
      constructor
      · intro z
        rcases List.mem_cons.mp ((h x).mp (List.mem_cons_of_mem _ z)) with y | y
        · subst y
          have := p1 x z
          omega
        · exact y
      · intro z
        rcases List.mem_cons.mp ((h x).mpr (List.mem_cons_of_mem _ z)) with y | y
        · subst y
          have := p2 x z
          omega
        · exact y
    rw [gs_srt_uq q1 q2 r]
theorem gs_getD {l : List Nat} {i a : Nat} (h : i < l.length) : l.getD i a = l[i] := by
  rw [List.getD_eq_getElem?_getD, List.getElem?_eq_getElem h]
  rfl
theorem gs_srt_sub {key : Nat → Int} {l1 l2 : List Nat} (h : l1.Sublist l2) (h2 : gs_srt key l2) : gs_srt key l1 := List.Pairwise.sublist h h2
theorem gs_srt_congr {key key' : Nat → Int} {l : List Nat} (h : ∀ x, x ∈ l → key x = key' x) (h2 : gs_srt key l) : gs_srt key' l := by
  refine List.Pairwise.imp_of_mem (fun {a b} ha hb hab => ?_) h2
  rw [← h a ha, ← h b hb]
  exact hab
/-- where a new one goes in: behind all that are not after it -/
theorem gs_srt_ins {key : Nat → Int} {l : List Nat} {i p : Nat} (h : gs_srt key l) (hp : p ≤ l.length) (h1 : ∀ k, k < p → key (l.getD k 0) < key i) (h2 : ∀ k, p ≤ k → k < l.length → key i < key (l.getD k 0)) : gs_srt key (l.take p ++ i :: l.drop p) := by
  have hlt : ∀ x, x ∈ l.take p → key x < key i := by
    intro x hx
    obtain ⟨k, hk, e⟩ := List.getElem_of_mem hx
    rw [List.length_take] at hk
    rw [List.getElem_take] at e
    have := h1 k (by omega)
    rw [gs_getD (by omega), e] at this
    exact this
  have hgt : ∀ x, x ∈ l.drop p → key i < key x := by
    intro x hx
    obtain ⟨k, hk, e⟩ := List.getElem_of_mem hx
    rw [List.length_drop] at hk
    rw [List.getElem_drop] at e
    have := h2 (p + k) (by omega) (by omega)
    rw [gs_getD (by omega), e] at this
    exact this
  refine List.pairwise_append.mpr ⟨gs_srt_sub (List.take_sublist _ _) h, List.pairwise_cons.mpr ⟨fun x hx => hgt x hx, gs_srt_sub (List.drop_sublist _ _) h⟩, ?_⟩
  intro a ha b hb
  rcases List.mem_cons.mp hb with z | z
  · rw [z]
    exact hlt a ha
  · exact Int.lt_trans (hlt a ha) (hgt b z)
theorem gs_srt_nd {key : Nat → Int} {l : List Nat} (h : gs_srt key l) {i j : Nat} (hi : i < l.length) (hj : j < l.length) (e : l.getD i 0 = l.getD j 0) : i = j := by
  rw [gs_getD hi, gs_getD hj] at e
  have hp := List.pairwise_iff_getElem.mp h
  rcases Nat.lt_trichotomy i j with z | z | z
  · have := hp i j hi hj z
    rw [e] at this
    omega
  · exact z
  · have := hp j i hj hi z
    rw [e] at this
    omega
/-! What is kept: S.1 f j with f = 0 held, 1 pledged, 2 prices, 3 haircuts, 4 limits, 5 nets, 6 the day and the count, 10 + i the i-th instruction (giver, taker, security, amount, money, priority, status); S.2 those that wait. -/
abbrev gs_S : Type := (Nat → Nat → Int) × List Nat
def gs_u (S : gs_S) (f j : Nat) (x : Int) : gs_S := (fun a b => if a = f ∧ b = j then x else S.1 a b, S.2)
def gs_ql (S : gs_S) (l : List Nat) : gs_S := (S.1, l)
def gs_key (S : gs_S) (i : Nat) : Int := S.1 (10 + i) 5 * 64 + i
def gs_wp (S : gs_S) (c : Nat) (pr : Int) : List Nat := (List.range c).filter fun i => decide (S.1 (10 + i) 6 = 0 ∧ S.1 (10 + i) 5 = pr)
/-- those that wait, in their order -/
def gs_wl (S : gs_S) : List Nat := gs_wp S (S.1 6 1).toNat 0 ++ (gs_wp S (S.1 6 1).toNat 1 ++ gs_wp S (S.1 6 1).toNat 2)
theorem gs_wp_mem {S : gs_S} {c : Nat} {pr : Int} {i : Nat} : i ∈ gs_wp S c pr ↔ i < c ∧ S.1 (10 + i) 6 = 0 ∧ S.1 (10 + i) 5 = pr := by
  unfold gs_wp
  rw [List.mem_filter, List.mem_range, decide_eq_true_iff]
theorem gs_wl_mem {S : gs_S} (hp : ∀ i : Nat, (i : Int) < S.1 6 1 → 0 ≤ S.1 (10 + i) 5 ∧ S.1 (10 + i) 5 < 3) {i : Nat} : i ∈ gs_wl S ↔ (i : Int) < S.1 6 1 ∧ S.1 (10 + i) 6 = 0 := by
  unfold gs_wl
  rw [List.mem_append, List.mem_append, gs_wp_mem, gs_wp_mem, gs_wp_mem]
  constructor
  · intro h
    have : (i : Int) < S.1 6 1 := by omega
    omega
  · intro h
    have := hp i h.1
    omega
theorem gs_wp_srt {S : gs_S} {c : Nat} {pr : Int} : gs_srt (gs_key S) (gs_wp S c pr) := by
  have h : (gs_wp S c pr).Pairwise (· < ·) := List.Pairwise.sublist List.filter_sublist List.pairwise_lt_range
  refine List.Pairwise.imp_of_mem (fun {a b} ha hb hab => ?_) h
  have x1 := gs_wp_mem.mp ha
  have x2 := gs_wp_mem.mp hb
  unfold gs_key
  rw [x1.2.2, x2.2.2]
  omega
theorem gs_wl_srt {S : gs_S} (hc : S.1 6 1 ≤ 40) : gs_srt (gs_key S) (gs_wl S) := by
  have key : ∀ (p q : Int) a b, p < q → a ∈ gs_wp S (S.1 6 1).toNat p → b ∈ gs_wp S (S.1 6 1).toNat q → gs_key S a < gs_key S b := by
    intro p q a b hpq ha hb
    have x1 := gs_wp_mem.mp ha
    have x2 := gs_wp_mem.mp hb
    unfold gs_key
    rw [x1.2.2, x2.2.2]
    omega
  refine List.pairwise_append.mpr ⟨gs_wp_srt, List.pairwise_append.mpr ⟨gs_wp_srt, gs_wp_srt, fun a ha b hb => key 1 2 a b (by omega) ha hb⟩, fun a ha b hb => ?_⟩
  rcases List.mem_append.mp hb with z | z
  · exact key 0 1 a b (by omega) ha z
  · exact key 0 2 a b (by omega) ha z
/-- a sorted list of those that wait is the list -/
theorem gs_wl_uq {S : gs_S} {l : List Nat} (hc : S.1 6 1 ≤ 40) (hp : ∀ i : Nat, (i : Int) < S.1 6 1 → 0 ≤ S.1 (10 + i) 5 ∧ S.1 (10 + i) 5 < 3) (h : gs_srt (gs_key S) l) (hm : ∀ i, i ∈ l ↔ (i : Int) < S.1 6 1 ∧ S.1 (10 + i) 6 = 0) : l = gs_wl S :=
  gs_srt_uq h (gs_wl_srt hc) fun x => (hm x).trans (gs_wl_mem hp).symm
