-- entering the list
theorem gs_wI_comm {d : gs_D} {t i j t' i' j' : Nat} {x y : Int32} (h : ¬ (t = t' ∧ i = i' ∧ j = j')) : gs_wI (gs_wI d t i j x) t' i' j' y = gs_wI (gs_wI d t' i' j' y) t i j x := by
  refine Prod.ext ?_ rfl
  funext a b c
  show (if a = t' ∧ b = i' ∧ c = j' then y else if a = t ∧ b = i ∧ c = j then x else d.1 a b c) = (if a = t ∧ b = i ∧ c = j then x else if a = t' ∧ b = i' ∧ c = j' then y else d.1 a b c)
  by_cases c1 : a = t' ∧ b = i' ∧ c = j'
  · rw [if_pos c1, if_neg (by omega), if_pos c1]
  · rw [if_neg c1]
    by_cases c2 : a = t ∧ b = i ∧ c = j
    · rw [if_pos c2, if_pos c2]
    · rw [if_neg c2, if_neg c2, if_neg c1]
theorem gs_u_s (S : gs_S) (f j : Nat) (x : Int) : (gs_u S f j x).1 f j = x := if_pos ⟨rfl, rfl⟩
theorem gs_u_j (S : gs_S) {f j a c : Nat} (x : Int) (h : ¬ (a = f ∧ c = j)) : (gs_u S f j x).1 a c = S.1 a c := if_neg h
theorem gs_key_inj {S : gs_S} {a b : Nat} (ha : a < 64) (hb : b < 64) (h : gs_key S a = gs_key S b) : a = b := by
  unfold gs_key at h
  omega
/-- a new one goes in at its place -/
theorem gs_ins_wl {S : gs_S} {B : Int} (hw : gs_wb B S) {l : List Nat} {i : Nat} {p : Int} (hs : gs_srt (gs_key S) l) (hm : ∀ x : Nat, x ∈ l ↔ ((x : Int) < S.1 6 1 ∧ S.1 (10 + x) 6 = 0) ∧ x ≠ i) (hi : (i : Int) < S.1 6 1) (hi0 : S.1 (10 + i) 6 = 0) (p0 : 0 ≤ p) (p1 : p ≤ l.length) (h2 : ∀ k : Int, p ≤ k → k < l.length → gs_key S i < gs_key S (l.getD k.toNat 0)) (h3 : p = 0 ∨ ¬ gs_key S i < gs_key S (l.getD (p - 1).toNat 0)) : l.take p.toNat ++ i :: l.drop p.toNat = gs_wl S := by
  have hc := hw.2.2.1.2.1
  have mem : ∀ k, k < l.length → l.getD k 0 ∈ l := fun k hk => by
    rw [gs_getD hk]
    exact List.getElem_mem hk
  have lt1 : ∀ k, k < p.toNat → gs_key S (l.getD k 0) < gs_key S i := by
    intro k hk
    rcases h3 with z | z
    · omega
    · have hq : (p - 1).toNat < l.length := by omega
      have m1 := (hm _).mp (mem _ hq)
      have ne : gs_key S (l.getD (p - 1).toNat 0) ≠ gs_key S i := fun e => m1.2 (gs_key_inj (by omega) (by omega) e)
      have a : gs_key S (l.getD (p - 1).toNat 0) < gs_key S i := by omega
      by_cases c : k = (p - 1).toNat
      · rw [c]; exact a
      · have := List.pairwise_iff_getElem.mp hs k (p - 1).toNat (by omega) hq (by omega)
        rw [← gs_getD (a := 0) (by omega : k < l.length), ← gs_getD (a := 0) hq] at this
        omega
  refine gs_wl_uq hc.2 hw.pr (gs_srt_ins hs (by omega) lt1 (fun k k0 k1 => ?_)) (fun x => ?_)
  · have := h2 (k : Int) (by omega) (by omega)
    rw [gs_tn] at this
    exact this
  · have e : x ∈ l.take p.toNat ++ i :: l.drop p.toNat ↔ x = i ∨ x ∈ l := by
      rw [List.mem_append, List.mem_cons]
      have := List.take_append_drop p.toNat l
      constructor
      · rintro (z | z | z)
        · exact Or.inr (List.mem_of_mem_take z)
        · exact Or.inl z
        · exact Or.inr (List.mem_of_mem_drop z)
      · rintro (z | z)
        · exact Or.inr (Or.inl z)
        · rw [← this, List.mem_append] at z
          rcases z with z | z
          · exact Or.inl z
          · exact Or.inr (Or.inr z)
    rw [e, hm x]
    constructor
    · rintro (z | z)
      · rw [z]; exact ⟨hi, hi0⟩
      · exact z.1
    · intro z
      by_cases c : x = i
      · exact Or.inl c
      · exact Or.inr ⟨z, c⟩
def gs_cl2 (S : gs_S) : gs_S := (S.1, gs_wl S)
section AP
variable {b : Nat} {d : gs_D} {S : gs_S} {B : Int}
theorem gs_Cl.cg {S' : gs_S} (h : gs_Cl b d S) (e : ∀ f j, S'.1 f j = S.1 f j) (e2 : S'.2 = S.2) : gs_Cl b d S' := by
  have : S' = S := Prod.ext (by funext f j; exact e f j) e2
  rw [this]
  exact h
theorem gs_Cl.wC (h : gs_Cl b d S) {c : Nat} (hc : (c : Int) = S.1 6 1) (hn : ∀ k, k < 7 → d.1 13 (gs_ii b c) k = gs_n (S.1 (10 + c) k)) : gs_Cl b (gs_wI d 4 b 1 (gs_n ((c : Int) + 1))) (gs_u S 6 1 ((c : Int) + 1)) := by
  have eg : ∀ a k : Nat, a ≠ 6 → (gs_u S 6 1 ((c : Int) + 1)).1 a k = S.1 a k := fun a k ha => gs_u_o S 6 1 _ k ha
  have e60 : (gs_u S 6 1 ((c : Int) + 1)).1 6 0 = S.1 6 0 := by
    show (if 6 = 6 ∧ 0 = 1 then ((c : Int) + 1) else S.1 6 0) = _
    rw [if_neg (by decide)]
  have e61 : (gs_u S 6 1 ((c : Int) + 1)).1 6 1 = (c : Int) + 1 := by
    show (if 6 = 6 ∧ 1 = 1 then ((c : Int) + 1) else S.1 6 1) = _
    rw [if_pos (by decide)]
  refine ⟨⟨fun k hk => ?_, fun k hk => ?_⟩, ⟨fun k hk => ?_, fun k hk => ?_⟩, ⟨fun k hk => ?_, fun k hk => ?_⟩, ⟨?_, ?_, ?_⟩, fun i k hi hk => ?_, fun k hk => ?_⟩
  · rw [eg 0 k (by omega), gs_rIL, h.h k hk]
  · rw [eg 1 k (by omega), gs_rIL, h.p k hk]
  · rw [eg 2 k (by omega), gs_wI_o (by omega), h.pr k hk]
  · rw [eg 3 k (by omega), gs_wI_o (by omega), h.hc k hk]
  · rw [eg 4 k (by omega), gs_wI_o (by omega), h.li k hk]
  · rw [eg 5 k (by omega), gs_rIL, h.nt k hk]
  · rw [e60, gs_wI_o (by omega), h.dy]
  · rw [e61, gs_wI_s]
  · rw [gs_wI_o (by omega), h.wt]
    rfl
  · rw [eg (10 + i) k (by omega), gs_wI_o (by omega)]
    rw [e61] at hi
    by_cases z : i = c
    · rw [z]; exact hn k hk
    · exact h.is i k (by omega) hk
  · rw [gs_wI_o (by omega)]
    exact h.od k hk
end AP
/-- the seven fields of instruction i -/
def gs_w7 (S : gs_S) (i : Nat) (g t s am mo pr st : Int) : gs_S := gs_u (gs_u (gs_u (gs_u (gs_u (gs_u (gs_u S (10 + i) 0 g) (10 + i) 1 t) (10 + i) 2 s) (10 + i) 3 am) (10 + i) 4 mo) (10 + i) 5 pr) (10 + i) 6 st
/-- a new instruction, not yet in the list -/
def gs_nw (S : gs_S) (g t s am mo pr : Int) : gs_S := gs_u (gs_w7 S (S.1 6 1).toNat g t s am mo pr 0) 6 1 (S.1 6 1 + 1)
theorem gs_w7_o (S : gs_S) (i : Nat) (g t s am mo pr st : Int) {a : Nat} (c : Nat) (h : a ≠ 10 + i) : (gs_w7 S i g t s am mo pr st).1 a c = S.1 a c := by
  unfold gs_w7
  rw [gs_u_o _ _ _ _ c h, gs_u_o _ _ _ _ c h, gs_u_o _ _ _ _ c h, gs_u_o _ _ _ _ c h, gs_u_o _ _ _ _ c h, gs_u_o _ _ _ _ c h, gs_u_o _ _ _ _ c h]
theorem gs_w7_s (S : gs_S) (i : Nat) (g t s am mo pr st : Int) : (gs_w7 S i g t s am mo pr st).1 (10 + i) 0 = g ∧ (gs_w7 S i g t s am mo pr st).1 (10 + i) 1 = t ∧ (gs_w7 S i g t s am mo pr st).1 (10 + i) 2 = s ∧ (gs_w7 S i g t s am mo pr st).1 (10 + i) 3 = am ∧ (gs_w7 S i g t s am mo pr st).1 (10 + i) 4 = mo ∧ (gs_w7 S i g t s am mo pr st).1 (10 + i) 5 = pr ∧ (gs_w7 S i g t s am mo pr st).1 (10 + i) 6 = st := by
  refine ⟨?_, ?_, ?_, ?_, ?_, ?_, ?_⟩ <;> simp [gs_w7, gs_u]
