/-! The layout: which cells there are, and what they are. -/
def gs_ii (b i : Nat) : Nat := 40 * b + i
/-- a tag's kind, its number, its length -/
def gs_y1 : List (Nat × Nat × Nat × Nat) := [(0, 0, 0, 3), (1, 0, 1, 3), (2, 2, 1, 10), (3, 0, 2, 6), (4, 0, 3, 4), (5, 3, 2, 18), (6, 3, 2, 18), (7, 1, 0, 3), (8, 1, 0, 3), (9, 1, 0, 36), (10, 3, 2, 36), (11, 4, 3, 40), (12, 1, 0, 10), (13, 0, 4, 7), (20, 0, 5, 6), (21, 3, 2, 430), (22, 3, 2, 430), (23, 1, 0, 10), (24, 3, 2, 540), (25, 1, 0, 10)]
/-- how many of a tag -/
def gs_y0 : List (Nat × Nat) := [(0, 1), (1, 2), (2, 1), (3, 2), (4, 2), (5, 2), (6, 2), (7, 2), (8, 2), (9, 2), (10, 2), (11, 2), (12, 2), (13, 80), (20, 1), (21, 1), (22, 1), (23, 1), (24, 1), (25, 1)]
/-- the int fields -/
def gs_y2 : List (Nat × List Nat) := [(1, [0]), (4, [1, 3]), (13, [0, 1, 2, 3, 4, 5, 6]), (20, [3])]
def gs_or {α : Type} (o : Option α) (a : α) : α := match o with
  | some x => x
  | none => a
def gs_k2 (t k : Nat) : Nat := match (gs_or (gs_lk gs_y2 t) []).elem k with
  | true => 0
  | false => 2
/-- where a reference leads: of an object's field -/
def gs_y3 : List (Nat × List (Nat × Nat)) := [(1, [(1, 3), (2, 4)]), (3, [(0, 5), (1, 6), (2, 7), (3, 8), (4, 9), (5, 10)]), (4, [(0, 11), (2, 12)]), (20, [(0, 21), (1, 22), (2, 23), (4, 24), (5, 25)])]
def gs_k3 (t i k : Nat) : Nat × Nat := match Nat.beq t 11 with
  | true => (13, gs_ii i k)
  | false => match Nat.beq t 0 with
    | true => gs_or (gs_lk [(0, 1, 0), (1, 1, 1), (2, 2, 0)] k) (99, 0)
    | false => (gs_or (gs_lk (gs_or (gs_lk gs_y3 t) []) k) 99, i)
def Y0 : gs_Y := (fun t => gs_or (gs_lk gs_y1 t) (9, 0, 0), gs_k2, gs_k3, fun _ => 0)
def gs_pr (t i : Nat) : Bool := Nat.ble (i + 1) (gs_or (gs_lk gs_y0 t) 0)
def gs_RL : List (Nat × Nat) := gs_y0.flatMap fun e => (List.range e.2).map fun i => (e.1, i)
theorem gs_RL_pr {t i : Nat} (h : gs_pr t i = true) : ∃ q : Nat, gs_RL[q]? = some (t, i) := by
  have h := Nat.le_of_ble_eq_true h
  refine List.getElem?_of_mem ?_
  unfold gs_RL
  cases e : gs_lk gs_y0 t with
  | none =>
    rw [e] at h
    exact absurd h (by simp [gs_or])
  | some n =>
    rw [e] at h
    exact List.mem_flatMap.mpr ⟨(t, n), gs_lk_mem e, List.mem_map.mpr ⟨i, List.mem_range.mpr h, rfl⟩⟩
theorem gs_RL_nd : gs_RL.Nodup := by decide +kernel
