-- settling the k-th that waits, and going through
/-- the k-th leaves with status st -/
def gs_lv (S : gs_S) (k : Nat) (st : Int) : gs_S := ((gs_u S (10 + S.2.getD k 0) 6 st).1, S.2.eraseIdx k)
/-- the k-th settles -/
def gs_stl (S : gs_S) (k : Nat) : gs_S := gs_lv (gs_mvd S (S.2.getD k 0) 1) k 1
/-- the k-th is ready -/
def gs_rdy (S : gs_S) (k : Nat) : Bool := decide (gs_cah S k k = 0) && gs_cov S (S.2.getD k 0)
/-- the first that is ready, from k on -/
def gs_fst (S : gs_S) : Nat → Nat → Option Nat
  | 0, _ => none
  | n + 1, k => match gs_rdy S k with
    | true => some k
    | false => gs_fst S n (k + 1)
theorem gs_fst_lt {S : gs_S} : ∀ {n k p : Nat}, gs_fst S n k = some p → k ≤ p ∧ p < k + n
  | 0, _, _, h => by cases h
  | n + 1, k, p, h => by
    cases hr : gs_rdy S k
    · simp only [gs_fst, hr] at h
      have := gs_fst_lt h
      omega
    · simp only [gs_fst, hr] at h
      cases h
      omega
/-- GOING THROUGH, at most n times -/
def gs_thr : Nat → gs_S → Int × gs_S
  | 0, S => (0, S)
  | n + 1, S => match gs_fst S S.2.length 0 with
    | none => (0, S)
    | some k => ((gs_thr n (gs_stl S k)).1 + 1, (gs_thr n (gs_stl S k)).2)
theorem gs_stl_len {S : gs_S} {k : Nat} (h : k < S.2.length) : (gs_stl S k).2.length = S.2.length - 1 := List.length_eraseIdx_of_lt h
theorem gs_thr_en : ∀ (n m : Nat) (S : gs_S), S.2.length ≤ n → S.2.length ≤ m → gs_thr n S = gs_thr m S
  | 0, 0, _, _, _ => rfl
  | 0, m + 1, S, h, _ => by
    have e : S.2.length = 0 := by omega
    simp only [gs_thr, e, gs_fst]
  | n + 1, 0, S, _, h => by
    have e : S.2.length = 0 := by omega
    simp only [gs_thr, e, gs_fst]
  | n + 1, m + 1, S, h1, h2 => by
    simp only [gs_thr]
    cases hf : gs_fst S S.2.length 0 with
    | none => rfl
    | some k =>
      have hk := gs_fst_lt hf
      have hl := gs_stl_len (S := S) (k := k) (by omega)
      simp only
      rw [gs_thr_en n m (gs_stl S k) (by omega) (by omega)]
