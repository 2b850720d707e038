-- the list of those that wait is kept
theorem gs_mem_er {key : Nat → Int} {l : List Nat} (hs : gs_srt key l) {k : Nat} (hk : k < l.length) (x : Nat) : x ∈ l.eraseIdx k ↔ x ∈ l ∧ ¬ x = l.getD k 0 := by
  rw [List.mem_eraseIdx_iff_getElem?]
  constructor
  · rintro ⟨i, hi, e⟩
    obtain ⟨h1, h2⟩ := List.getElem?_eq_some_iff.mp e
    refine ⟨List.mem_of_getElem? e, fun z => hi (gs_srt_nd hs h1 hk ?_)⟩
    rw [gs_getD h1, h2, z]
  · rintro ⟨h1, h2⟩
    obtain ⟨i, e⟩ := List.getElem?_of_mem h1
    obtain ⟨h3, h4⟩ := List.getElem?_eq_some_iff.mp e
    refine ⟨i, fun z => h2 ?_, e⟩
    rw [← z, gs_getD h3, h4]
def gs_wv (S : gs_S) : Prop := S.2 = gs_wl S ∧ S.2.length ≤ 10
section WL
variable {S : gs_S} {B : Int}
theorem gs_wb.pr (hw : gs_wb B S) : ∀ i : Nat, (i : Int) < S.1 6 1 → 0 ≤ S.1 (10 + i) 5 ∧ S.1 (10 + i) 5 < 3 := fun i hi => (hw.2.2.2 i hi).2.2.1
theorem gs_wv.mem (hw : gs_wb B S) (h : gs_wv S) (i : Nat) : i ∈ S.2 ↔ (i : Int) < S.1 6 1 ∧ S.1 (10 + i) 6 = 0 := by
  rw [h.1]
  exact gs_wl_mem hw.pr
theorem gs_wv.srt (hw : gs_wb B S) (h : gs_wv S) : gs_srt (gs_key S) S.2 := by
  rw [h.1]
  exact gs_wl_srt hw.2.2.1.2.1.2
theorem gs_wv.q (hw : gs_wb B S) (h : gs_wv S) : gs_wq S := by
  refine ⟨fun k k0 k1 => ?_, h.2⟩
  have hk : k.toNat < S.2.length := by omega
  have : gs_qa S k ∈ S.2 := by
    unfold gs_qa
    rw [gs_getD hk]
    exact List.getElem_mem hk
  exact ((h.mem hw _).mp this).1
theorem gs_wv.lv (hw : gs_wb B S) (h : gs_wv S) {k : Nat} (hk : k < S.2.length) {st : Int} (h0 : 0 < st) (h1 : st < 4) : gs_wv (gs_lv S k st) := by
  have hs := h.srt hw
  have o : ∀ a c, ¬ (a = 10 + S.2.getD k 0 ∧ c = 6) → (gs_lv S k st).1 a c = S.1 a c := fun a c z => if_neg z
  have o6 : (gs_lv S k st).1 6 1 = S.1 6 1 := o 6 1 (by omega)
  have ok : ∀ i, (gs_lv S k st).1 (10 + i) 5 = S.1 (10 + i) 5 := fun i => o _ 5 (by omega)
  refine ⟨gs_wl_uq ?_ ?_ ?_ ?_, ?_⟩
  · rw [o6]; exact hw.2.2.1.2.1.2
  · intro i hi
    rw [o6] at hi
    rw [ok]
    exact hw.pr i hi
  · refine gs_srt_congr (fun x _ => ?_) (gs_srt_sub (List.eraseIdx_sublist _ _) hs)
    unfold gs_key
    rw [ok]
  · intro i
    show i ∈ S.2.eraseIdx k ↔ _
    rw [gs_mem_er hs hk, h.mem hw, o6]
    by_cases z : i = S.2.getD k 0
    · have e : (gs_lv S k st).1 (10 + i) 6 = st := if_pos ⟨by rw [z], rfl⟩
      rw [e]
      constructor
      · intro y; exact absurd z y.2
      · intro y; omega
    · rw [o (10 + i) 6 (by omega)]
      constructor
      · intro y; exact y.1
      · intro y; exact ⟨y, z⟩
  · have : (gs_lv S k st).2.length = S.2.length - 1 := List.length_eraseIdx_of_lt hk
    have := h.2
    omega
theorem gs_wv.mvd (h : gs_wv S) (i : Nat) (sg : Int) : gs_wv (gs_mvd S i sg) := by
  have o : ∀ f j, f ≠ 0 → f ≠ 5 → (gs_mvd S i sg).1 f j = S.1 f j := fun f j a c => gs_mvd_ins S i sg j a c
  have e : gs_wl (gs_mvd S i sg) = gs_wl S := by
    have ep : ∀ c pr, gs_wp (gs_mvd S i sg) c pr = gs_wp S c pr := by
      intro c pr
      unfold gs_wp
      congr 1
      funext x
      rw [o (10 + x) 6 (by omega) (by omega), o (10 + x) 5 (by omega) (by omega)]
    unfold gs_wl
    rw [o 6 1 (by decide) (by decide), ep, ep, ep]
  exact ⟨by rw [e]; exact h.1, h.2⟩
theorem gs_wv.stl (hw : gs_wb B S) (h : gs_wv S) {k : Nat} (hk : k < S.2.length) (hB : B + 6000000 ≤ 1000000000000) : gs_wv (gs_stl S k) := by
  have hm := (h.q hw).1 (k : Int) (by omega) (by omega)
  have e : gs_qa S (k : Int) = S.2.getD k 0 := by unfold gs_qa; rw [gs_tn]
  rw [e] at hm
  exact (h.mvd _ 1).lv (gs_wb_mvd hw (Or.inl rfl) hm hB) hk (by omega) (by omega)
end WL
-- rooms and settling
/-- what settling i does to the room of position x -/
def gs_el (S : gs_S) (i : Nat) (x : Int) : Int := if 18 ≤ x then (if S.1 4 (x - 18).toNat = -1 then 0 else -gs_dl S i 5 (x - 18).toNat) else gs_dl S i 0 x.toNat
theorem gs_ln_mvd (S : gs_S) (i : Nat) (sg p : Int) : gs_ln (gs_mvd S i sg) p = gs_ln S p := by
  have o : ∀ f j, f ≠ 0 → f ≠ 5 → (gs_mvd S i sg).1 f j = S.1 f j := fun f j a c => gs_mvd_ins S i sg j a c
  unfold gs_ln
  rw [o 1 _ (by decide) (by decide), o 1 _ (by decide) (by decide), o 2 _ (by decide) (by decide), o 2 _ (by decide) (by decide), o 3 _ (by decide) (by decide), o 3 _ (by decide) (by decide)]
theorem gs_rm_mvd (S : gs_S) (i : Nat) {sg : Int} (x : Int) : gs_rm (gs_mvd S i sg) x = gs_rm S x + sg * gs_el S i x := by
  have o : ∀ f j, f ≠ 0 → f ≠ 5 → (gs_mvd S i sg).1 f j = S.1 f j := fun f j a c => gs_mvd_ins S i sg j a c
  unfold gs_rm gs_el
  rw [o 4 _ (by decide) (by decide), gs_ln_mvd]
  by_cases c1 : 18 ≤ x
  · rw [if_pos c1, if_pos c1, if_pos c1]
    by_cases c2 : S.1 4 (x - 18).toNat = -1
    · rw [if_pos c2, if_pos c2, if_pos c2, Int.mul_zero, Int.add_zero]
    · rw [if_neg c2, if_neg c2, if_neg c2]
      show S.1 4 (x - 18).toNat - (S.1 5 (x - 18).toNat + sg * gs_dl S i 5 (x - 18).toNat) = _
      rw [Int.mul_neg]
      omega
  · rw [if_neg c1, if_neg c1, if_neg c1]
    by_cases c2 : x % 3 = 0
    · rw [if_pos c2, if_pos c2]
      show S.1 0 x.toNat + sg * gs_dl S i 0 x.toNat + gs_ln S (x / 3) = _
      omega
    · rw [if_neg c2, if_neg c2]
      rfl
/-- only what it debits gets less -/
theorem gs_el_db {S : gs_S} {i : Nat} (h : gs_iok S i) {x : Int} (x0 : 0 ≤ x) (x1 : x < 54) (hx : gs_el S i x < 0) : gs_db S i x = true := by
  obtain ⟨a0, a1, a2, a3, a4⟩ := h.r
  have hg := h.1.2.2
  have hs := h.2.1.2.2.2
  unfold gs_db
  rw [decide_eq_true_iff]
  unfold gs_el at hx
  by_cases c1 : 18 ≤ x
  · rw [if_pos c1] at hx
    by_cases c2 : S.1 4 (x - 18).toNat = -1
    · rw [if_pos c2] at hx
      omega
    · rw [if_neg c2] at hx
      unfold gs_dl at hx
      rw [if_neg (by omega), if_neg (by omega), if_neg (by omega), if_neg (by omega)] at hx
      by_cases z1 : 5 = 5 ∧ (x - 18).toNat = (S.1 (10 + i) 1 * 6 + S.1 (10 + i) 0).toNat
      · right
        rw [if_pos z1, if_neg (by omega)] at hx
        omega
      · rw [if_neg z1] at hx
        split at hx <;> omega
  · rw [if_neg c1] at hx
    unfold gs_dl at hx
    rw [if_neg (show ¬ (0 = 5 ∧ x.toNat = (S.1 (10 + i) 1 * 6 + S.1 (10 + i) 0).toNat) by omega), if_neg (show ¬ (0 = 5 ∧ x.toNat = (S.1 (10 + i) 0 * 6 + S.1 (10 + i) 1).toNat) by omega)] at hx
    by_cases z1 : x.toNat = (S.1 (10 + i) 0 * 3 + S.1 (10 + i) 2).toNat
    · by_cases z2 : x.toNat = (S.1 (10 + i) 1 * 3 + 0).toNat
      · omega
      · rw [if_pos ⟨rfl, z1⟩, if_neg (by omega), if_neg (by omega)] at hx
        split at hx <;> omega
    · rw [if_neg (by omega)] at hx
      by_cases z2 : x.toNat = (S.1 (10 + i) 1 * 3 + 0).toNat
      · right
        rw [if_pos (show 0 = 0 ∧ x.toNat = (S.1 (10 + i) 1 * 3 + 0).toNat from ⟨rfl, z2⟩), if_neg (show ¬ (0 = 0 ∧ x.toNat = (S.1 (10 + i) 0 * 3 + 0).toNat) by omega)] at hx
        split at hx <;> omega
      · rw [if_neg (show ¬ (0 = 0 ∧ x.toNat = (S.1 (10 + i) 1 * 3 + 0).toNat) by omega)] at hx
        split at hx <;> split at hx <;> omega
/-- it takes no more than its amounts -/
theorem gs_el_lo {S : gs_S} {i : Nat} (h : gs_iok S i) {x : Int} (x0 : 0 ≤ x) (x1 : x < 54) (hl : -1 ≤ S.1 4 (x - 18).toNat) : 0 ≤ gs_el S i x ∨ (x = S.1 (10 + i) 0 * 3 + S.1 (10 + i) 2 ∧ gs_el S i x = -S.1 (10 + i) 3) ∨ (x = S.1 (10 + i) 1 * 3 + 0 ∧ gs_el S i x = -S.1 (10 + i) 4) ∨ (x = 18 + (S.1 (10 + i) 1 * 6 + S.1 (10 + i) 0) ∧ gs_el S i x = -S.1 (10 + i) 4) := by
  obtain ⟨a0, a1, a2, a3, a4⟩ := h.r
  have hg := h.1.2.2
  have hs := h.2.1.2.2.2
  unfold gs_el
  by_cases c1 : 18 ≤ x
  · rw [if_pos c1]
    by_cases c2 : S.1 4 (x - 18).toNat = -1
    · rw [if_pos c2]
      omega
    · rw [if_neg c2]
      unfold gs_dl
      rw [if_neg (by omega), if_neg (by omega), if_neg (by omega), if_neg (by omega)]
      by_cases z1 : 5 = 5 ∧ (x - 18).toNat = (S.1 (10 + i) 1 * 6 + S.1 (10 + i) 0).toNat
      · rw [if_pos z1, if_neg (by omega)]
        omega
      · rw [if_neg z1]
        split <;> omega
  · rw [if_neg c1]
    unfold gs_dl
    rw [if_neg (show ¬ (0 = 5 ∧ x.toNat = (S.1 (10 + i) 1 * 6 + S.1 (10 + i) 0).toNat) by omega), if_neg (show ¬ (0 = 5 ∧ x.toNat = (S.1 (10 + i) 0 * 6 + S.1 (10 + i) 1).toNat) by omega)]
    by_cases z1 : x.toNat = (S.1 (10 + i) 0 * 3 + S.1 (10 + i) 2).toNat
    · rw [if_pos ⟨rfl, z1⟩, if_neg (show ¬ (0 = 0 ∧ x.toNat = (S.1 (10 + i) 1 * 3 + S.1 (10 + i) 2).toNat) by omega)]
      by_cases z2 : x.toNat = (S.1 (10 + i) 1 * 3 + 0).toNat
      · omega
      · rw [if_neg (by omega)]
        split <;> omega
    · rw [if_neg (by omega)]
      by_cases z2 : x.toNat = (S.1 (10 + i) 1 * 3 + 0).toNat
      · rw [if_pos (show 0 = 0 ∧ x.toNat = (S.1 (10 + i) 1 * 3 + 0).toNat from ⟨rfl, z2⟩), if_neg (show ¬ (0 = 0 ∧ x.toNat = (S.1 (10 + i) 0 * 3 + 0).toNat) by omega)]
        split <;> omega
      · rw [if_neg (show ¬ (0 = 0 ∧ x.toNat = (S.1 (10 + i) 1 * 3 + 0).toNat) by omega)]
        split <;> split <;> omega
/-- all positions at or above their floors -/
def gs_wg (S : gs_S) : Prop := ∀ x : Int, 0 ≤ x → x < 54 → 0 ≤ gs_rm S x
theorem gs_wg_mvd {S : gs_S} {B : Int} (hw : gs_wb B S) (hg : gs_wg S) {i : Nat} (hi : (i : Int) < S.1 6 1) (hc : gs_cov S i = true) : gs_wg (gs_mvd S i 1) := by
  intro x x0 x1
  rw [gs_rm_mvd, Int.one_mul]
  have h := hw.2.2.2 i hi
  obtain ⟨a0, a1, a2, a3, a4⟩ := h.r
  have r := hg x x0 x1
  unfold gs_cov at hc
  rw [decide_eq_true_iff] at hc
  have hl : -1 ≤ S.1 4 (x - 18).toNat := (hw.2.1.2.2 (x - 18).toNat (by omega)).1
  rcases gs_el_lo h x0 x1 hl with z | ⟨z, y⟩ | ⟨z, y⟩ | ⟨z, y⟩
  · omega
  · rw [y]
    rw [← z] at hc
    omega
  · rw [y]
    rw [← z] at hc
    omega
  · rw [y]
    rw [← z] at hc
    omega
