-- masks
def gs_bt (x : Int32) (i : Nat) : Bool := x.toBitVec.getLsbD i
theorem gs_bx {x y : Int32} (h : ∀ i, i < 32 → gs_bt x i = gs_bt y i) : x = y := Int32.toBitVec_inj.mp (BitVec.eq_of_getLsbD_eq (fun i hi => h i hi))
theorem gs_b_or (x y : Int32) (i : Nat) : gs_bt (x ||| y) i = (gs_bt x i || gs_bt y i) := by unfold gs_bt; rw [Int32.toBitVec_or, BitVec.getLsbD_or]
theorem gs_b_and (x y : Int32) (i : Nat) : gs_bt (x &&& y) i = (gs_bt x i && gs_bt y i) := by unfold gs_bt; rw [Int32.toBitVec_and, BitVec.getLsbD_and]
theorem gs_b_xor (x y : Int32) (i : Nat) : gs_bt (x ^^^ y) i = (gs_bt x i ^^ gs_bt y i) := by unfold gs_bt; rw [Int32.toBitVec_xor, BitVec.getLsbD_xor]
theorem gs_b_n (m : Nat) {i : Nat} (hi : i < 32) : gs_bt (gs_n m) i = m.testBit i := by
  unfold gs_bt
  show (BitVec.ofInt 32 (m : Int)).getLsbD i = _
  rw [BitVec.ofInt_natCast, BitVec.getLsbD_ofNat]
  simp [hi]
theorem gs_b_m1 : ∀ i, i < 32 → gs_bt (gs_n (-1)) i = true := by decide +kernel
theorem gs_b_1 : ∀ i, i < 32 → gs_bt (gs_n 1) i = decide (i = 0) := by decide +kernel
theorem gs_b_0 : ∀ i, i < 32 → gs_bt (gs_n 0) i = false := by decide +kernel
theorem gs_s_l : ∀ n : Nat, n < 32 → ((gs_n n &&& 31).toBitVec.smod 32).toNat = n := by decide +kernel
theorem gs_b_shl (n : Nat) (hn : n < 32) (x : Int32) {i : Nat} (hi : i < 32) : gs_bt (x <<< (gs_n n &&& 31)) i = (decide (n ≤ i) && gs_bt x (i - n)) := by
  unfold gs_bt
  rw [Int32.toBitVec_shiftLeft]
  show (x.toBitVec <<< ((gs_n n &&& 31).toBitVec.smod 32).toNat).getLsbD i = _
  rw [gs_s_l n hn, BitVec.getLsbD_shiftLeft]
  rcases Nat.lt_or_ge i n with h | h
  · simp [h, Nat.not_le.mpr h]
  · simp [hi, h, Nat.not_lt.mpr h]
theorem gs_b_shr (n : Nat) (hn : n < 32) (x : Int32) {i : Nat} (hi : i < 32) : gs_bt (x >>> (gs_n n &&& 31)) i = if n + i < 32 then gs_bt x (n + i) else gs_bt x 31 := by
  unfold gs_bt
  rw [Int32.toBitVec_shiftRight]
  show (x.toBitVec.sshiftRight ((gs_n n &&& 31).toBitVec.smod 32).toNat).getLsbD i = _
  rw [gs_s_l n hn, BitVec.getLsbD_sshiftRight, BitVec.msb_eq_getLsbD_last]
  simp [hi]
theorem gs_mask_bit (m : Nat) {k : Nat} (hk : k < 10) : (gs_n m >>> (gs_n k &&& 31)) &&& gs_n 1 = gs_n (gs_z (m.testBit k)) := by
  refine gs_bx fun i hi => ?_
  rw [gs_b_and, gs_b_shr k (by omega) _ hi, gs_b_1 i hi]
  by_cases z : i = 0
  · subst z
    rw [if_pos (by omega), gs_b_n m (by omega), Nat.add_zero]
    cases m.testBit k
    · rw [gs_zt_f, gs_b_0 0 hi]; rfl
    · rw [gs_zt_t, gs_b_1 0 hi]; rfl
  · rw [decide_eq_false z, Bool.and_false]
    cases m.testBit k
    · rw [gs_zt_f, gs_b_0 i hi]
    · rw [gs_zt_t, gs_b_1 i hi, decide_eq_false z]
theorem gs_mask_hi {a i : Nat} (ha : a < 1024) (hi : 10 ≤ i) : a.testBit i = false := Nat.testBit_lt_two_pow (Nat.lt_of_lt_of_le ha (Nat.pow_le_pow_right (n := 2) (by omega) hi))
theorem gs_mask_sub {a m : Nat} (ha : a < 1024) : (gs_n a &&& (gs_n m ^^^ gs_n (-1)) = gs_n 0) ↔ ∀ i, i < 10 → a.testBit i = true → m.testBit i = true := by
  constructor
  · intro h i hi h1
    have e := congrArg (fun x => gs_bt x i) h
    simp only [gs_b_and, gs_b_xor] at e
    rw [gs_b_n a (by omega), gs_b_n m (by omega), gs_b_m1 i (by omega), gs_b_0 i (by omega), h1] at e
    cases hm : m.testBit i
    · rw [hm] at e; cases e
    · rfl
  · intro h
    refine gs_bx fun i hi => ?_
    rw [gs_b_and, gs_b_xor, gs_b_n a hi, gs_b_n m hi, gs_b_m1 i hi, gs_b_0 i hi]
    by_cases z : i < 10
    · cases h1 : a.testBit i
      · rfl
      · rw [h i z h1]; rfl
    · rw [gs_mask_hi ha (by omega)]; rfl
theorem gs_mask_or (a m : Nat) : gs_n a ||| gs_n m = gs_n ((a ||| m : Nat) : Int) := by
  refine gs_bx fun i hi => ?_
  rw [gs_b_or, gs_b_n a hi, gs_b_n m hi, gs_b_n _ hi, Nat.testBit_or]
theorem gs_mask_set (a : Nat) {j : Nat} (hj : j < 10) : gs_n a ||| (gs_n 1 <<< (gs_n j &&& 31)) = gs_n ((a ||| 2 ^ j : Nat) : Int) := by
  refine gs_bx fun i hi => ?_
  rw [gs_b_or, gs_b_shl j (by omega) _ hi, gs_b_n a hi, gs_b_n _ hi, Nat.testBit_or, Nat.testBit_two_pow, gs_b_1 _ (by omega)]
  by_cases z : j = i
  · subst z; simp
  · rw [decide_eq_false z]
    by_cases y : j ≤ i
    · rw [decide_eq_false (show ¬ (i - j = 0) by omega), Bool.and_false]
    · rw [decide_eq_false y, Bool.false_and]
theorem gs_mask_top : ∀ n : Nat, n < 11 → gs_n 1 <<< (gs_n n &&& 31) = gs_n ((2 ^ n : Nat) : Int) := by decide +kernel
theorem gs_mk (U : Nat → Bool) : ∀ n : Nat, ∃ m : Nat, m < 2 ^ n ∧ ∀ k, m.testBit k = (decide (k < n) && U k)
  | 0 => ⟨0, by decide, fun k => by rw [Nat.zero_testBit, decide_eq_false (by omega)]; rfl⟩
  | n + 1 => by
    obtain ⟨m, h1, h2⟩ := gs_mk U n
    have h3 : m < 2 ^ (n + 1) := by rw [Nat.pow_succ]; omega
    cases hU : U n
    · refine ⟨m, h3, fun k => ?_⟩
      rw [h2 k]
      by_cases z : k = n
      · subst z; rw [hU, Bool.and_false, Bool.and_false]
      · by_cases y : k < n
        · rw [decide_eq_true y, decide_eq_true (show k < n + 1 by omega)]
        · rw [decide_eq_false y, decide_eq_false (show ¬ k < n + 1 by omega)]
    · refine ⟨m ||| 2 ^ n, Nat.or_lt_two_pow h3 (by rw [Nat.pow_succ]; have := Nat.two_pow_pos n; omega), fun k => ?_⟩
      rw [Nat.testBit_or, Nat.testBit_two_pow, h2 k]
      by_cases z : n = k
      · subst z
        rw [hU, decide_eq_true rfl, decide_eq_true (show n < n + 1 by omega), Bool.or_true]; rfl
      · rw [decide_eq_false z, Bool.or_false]
        by_cases y : k < n
        · rw [decide_eq_true y, decide_eq_true (show k < n + 1 by omega)]
        · rw [decide_eq_false y, decide_eq_false (show ¬ k < n + 1 by omega)]
-- what spread writes
def gs_Af (d : gs_D) (S : gs_S) (k n : Nat) : Prop := ∃ a : Nat, a < 2 ^ n ∧ d.1 25 0 k = gs_n a ∧ ∀ j, a.testBit j = (decide (j < n) && gs_pm S k j)
def gs_Mv (d : gs_D) (S : gs_S) (k n : Nat) : Prop := ∀ x : Nat, x < n → d.2 24 0 (54 * k + x) = gs_m (gs_mtk S (S.2.getD k 0) x)
def gs_Sp (d : gs_D) (S : gs_S) (n : Nat) : Prop := ∀ k, k < n → gs_Af d S k k ∧ gs_Mv d S k 54
def gs_sf (d d' : gs_D) : Prop := (∀ t, t ≠ 25 → d'.1 t = d.1 t) ∧ (∀ t, t ≠ 24 → d'.2 t = d.2 t)
theorem gs_sf.rf {d : gs_D} : gs_sf d d := ⟨fun _ _ => rfl, fun _ _ => rfl⟩
theorem gs_sf.tr {d d' d'' : gs_D} (h : gs_sf d d') (h2 : gs_sf d' d'') : gs_sf d d'' := ⟨fun t a => (h2.1 t a).trans (h.1 t a), fun t a => (h2.2 t a).trans (h.2 t a)⟩
theorem gs_sf.wI {d d' : gs_D} {i j : Nat} {x : Int32} (h : gs_sf d d') : gs_sf d (gs_wI d' 25 i j x) := ⟨fun t a => by
  rw [← h.1 t a]
  funext b c
  exact gs_wI_o fun z => a z.1, fun t a => h.2 t a⟩
theorem gs_sf.wL {d d' : gs_D} {i j : Nat} {x : Int64} (h : gs_sf d d') : gs_sf d (gs_wL d' 24 i j x) := ⟨fun t a => h.1 t a, fun t a => by
  rw [← h.2 t a]
  funext b c
  exact gs_wL_o fun z => a z.1⟩
theorem gs_sf.mf {d d' : gs_D} (h : gs_sf d d') : gs_mf d d' := ⟨fun t _ _ c => h.1 t c, fun t _ b => h.2 t b⟩
theorem gs_sf.Mo {d d' : gs_D} {S : gs_S} (h : gs_sf d d') (hM : gs_Mo 21 d S) : gs_Mo 21 d' S := fun n a b c => by rw [h.2 21 (by decide)]; exact hM n a b c
theorem gs_sf.Qu {d d' : gs_D} {l : List Nat} (h : gs_sf d d') (hq : gs_Qu d l) : gs_Qu d' l := by
  unfold gs_Qu
  rw [h.1 20 (by decide), h.1 23 (by decide)]
  exact hq
section SP
variable {d : gs_D} {S : gs_S} {B : Int}
theorem gs_wq.a (hq : gs_wq S) {k : Nat} (hk : k < S.2.length) : (S.2.getD k 0 : Int) < S.1 6 1 := by
  have := hq.1 (k : Int) (by omega) (by omega)
  unfold gs_qa at this
  rw [gs_tn] at this
  exact this
theorem s_M_spread_a (hM : gs_Mo 21 d S) (hw : gs_wb B S) (hq : gs_Qu d S.2) (hv : gs_wq S) {k : Nat} (hk : k < S.2.length) : ∀ (n j : Nat) (dk : gs_D), j + n = k → gs_sf d dk → gs_Sp dk S k → gs_Af dk S k j →
    ∃ d', gs_g Y0 P_M_spread 23 [some (gs_r 20 0), some (gs_i (gs_n k)), some (gs_i (gs_n j))] [] dk = gs_g Y0 P_M_spread 68 [some (gs_r 20 0), some (gs_i (gs_n k)), some (gs_i (gs_n k))] [] d' ∧ gs_sf d d' ∧ gs_Sp d' S k ∧ gs_Af d' S k k := by
  have hl := hv.2
  intro n
  induction n with
  | zero =>
    intro j dk e f h1 h2
    have : j = k := by omega
    subst this
    refine ⟨dk, ?_, f, h1, h2⟩
    rw [k_M_spread_23]
    simp (disch := omega) only [↓reduceIte, Int.reduceAdd, Int.reduceSub, Int.reduceMul, Int.reduceToNat, gs_00, gs_ofi, gs_k0_m, gs_k1_m, gs_n8, gs_n16, gs_n_add, gs_n_sub, gs_n_mul, gs_n_neg, gs_m_add, gs_m_sub, gs_m_mul, gs_m_neg, gs_n_l, gs_m_n, gs_n_c, gs_eq_t, gs_eq_f1, gs_eq_f2, gs_lt_t, gs_lt_f, gs_le_t, gs_le_f, gs_cmp_lt, gs_cmp_eq, gs_cmp_gt, gs_ix_n, gs_nz_n, gs_nzl_g, gs_n_div, gs_af1, gs_af0, gs_ck0, gs_ck1, gs_ck2t, gs_ck2f, gs_ck3, gs_ck4, gs_zd_t, gs_zd_f, gs_zt_t, gs_zt_f, gs_nar1, gs_nar0, gs_tn, if_true, if_false, not_true_eq_false, not_false_eq_true]
  | succ n ih =>
    intro j dk e f h1 h2
    have hb := s_M_isBehind (f.Mo hM) hw (f.Qu hq) hv (k := (k : Int)) (j := (j : Int)) (by omega) (by omega) (by omega) (by omega)
    have eq : gs_mt S (gs_qa S (k : Int)) (gs_qa S (j : Int)) = gs_pm S k j := by
      unfold gs_qa gs_pm
      rw [gs_tn, gs_tn]
    rw [eq] at hb
    obtain ⟨a, a1, a2, a3⟩ := h2
    have sp : ∀ x, gs_Sp (gs_wI dk 25 0 k x) S k := fun x m hm => by
      obtain ⟨⟨b, b1, b2, b3⟩, b4⟩ := h1 m hm
      exact ⟨⟨b, b1, by rw [gs_wI_o (by omega)]; exact b2, b3⟩, b4⟩
    have ej : (j : Int) + 1 = ((j + 1 : Nat) : Int) := by omega
    cases hp : gs_pm S k j
    · rw [hp] at hb
      obtain ⟨d', e1, r⟩ := ih (j + 1) (gs_wI dk 25 0 k (gs_n a)) (by omega) f.wI (sp _) ⟨a, by rw [Nat.pow_succ]; omega, gs_wI_s, fun i => by
        rw [a3 i]
        by_cases z : i = j
        · subst z; rw [hp, Bool.and_false, Bool.and_false]
        · by_cases y : i < j
          · rw [decide_eq_true y, decide_eq_true (show i < j + 1 by omega)]
          · rw [decide_eq_false y, decide_eq_false (show ¬ i < j + 1 by omega)]⟩
      refine ⟨d', ?_, r⟩
      rw [← e1, k_M_spread_23]
      simp (disch := omega) only [k_M_spread_28, k_M_spread_39, k_M_spread_55, k_M_spread_61, k_M_spread_62, hb, a2, ej, ↓reduceIte, Int.reduceAdd, Int.reduceSub, Int.reduceMul, Int.reduceToNat, gs_00, gs_ofi, gs_k0_m, gs_k1_m, gs_n8, gs_n16, gs_n_add, gs_n_sub, gs_n_mul, gs_n_neg, gs_m_add, gs_m_sub, gs_m_mul, gs_m_neg, gs_n_l, gs_m_n, gs_n_c, gs_eq_t, gs_eq_f1, gs_eq_f2, gs_lt_t, gs_lt_f, gs_le_t, gs_le_f, gs_cmp_lt, gs_cmp_eq, gs_cmp_gt, gs_ix_n, gs_nz_n, gs_nzl_g, gs_n_div, gs_af1, gs_af0, gs_ck0, gs_ck1, gs_ck2t, gs_ck2f, gs_ck3, gs_ck4, gs_zd_t, gs_zd_f, gs_zt_t, gs_zt_f, gs_nar1, gs_nar0, gs_tn, if_true, if_false, not_true_eq_false, not_false_eq_true]
    · rw [hp] at hb
      obtain ⟨d', e1, r⟩ := ih (j + 1) (gs_wI dk 25 0 k (gs_n ((a ||| 2 ^ j : Nat) : Int))) (by omega) f.wI (sp _) ⟨a ||| 2 ^ j, Nat.or_lt_two_pow (by rw [Nat.pow_succ]; omega) (by rw [Nat.pow_succ]; have := Nat.two_pow_pos j; omega), gs_wI_s, fun i => by
        rw [Nat.testBit_or, Nat.testBit_two_pow, a3 i]
        by_cases z : j = i
        · subst z
          rw [hp, decide_eq_true rfl, decide_eq_true (show j < j + 1 by omega), Bool.or_true]; rfl
        · rw [decide_eq_false z, Bool.or_false]
          by_cases y : i < j
          · rw [decide_eq_true y, decide_eq_true (show i < j + 1 by omega)]
          · rw [decide_eq_false y, decide_eq_false (show ¬ i < j + 1 by omega)]⟩
      refine ⟨d', ?_, r⟩
      have em := gs_mask_set a (j := j) (by omega)
      rw [← e1, k_M_spread_23]
      simp (disch := omega) only [k_M_spread_28, k_M_spread_39, k_M_spread_42, k_M_spread_48, k_M_spread_62, hb, a2, em, ej, ↓reduceIte, Int.reduceAdd, Int.reduceSub, Int.reduceMul, Int.reduceToNat, gs_00, gs_ofi, gs_k0_m, gs_k1_m, gs_n8, gs_n16, gs_n_add, gs_n_sub, gs_n_mul, gs_n_neg, gs_m_add, gs_m_sub, gs_m_mul, gs_m_neg, gs_n_l, gs_m_n, gs_n_c, gs_eq_t, gs_eq_f1, gs_eq_f2, gs_lt_t, gs_lt_f, gs_le_t, gs_le_f, gs_cmp_lt, gs_cmp_eq, gs_cmp_gt, gs_ix_n, gs_nz_n, gs_nzl_g, gs_n_div, gs_af1, gs_af0, gs_ck0, gs_ck1, gs_ck2t, gs_ck2f, gs_ck3, gs_ck4, gs_zd_t, gs_zd_f, gs_zt_t, gs_zt_f, gs_nar1, gs_nar0, gs_tn, if_true, if_false, not_true_eq_false, not_false_eq_true]
theorem s_M_spread_m (hM : gs_Mo 21 d S) (hw : gs_wb B S) (hq : gs_Qu d S.2) (hv : gs_wq S) {k : Nat} (hk : k < S.2.length) : ∀ (n x : Nat) (dk : gs_D), x + n = 54 → gs_sf d dk → gs_Sp dk S k → gs_Af dk S k k → gs_Mv dk S k x →
    ∃ d', gs_g Y0 P_M_spread 70 [some (gs_r 20 0), some (gs_i (gs_n k)), some (gs_i (gs_n x))] [] dk = gs_g Y0 P_M_spread 6 [some (gs_r 20 0), some (gs_i (gs_n ((k + 1 : Nat) : Int))), some (gs_i (gs_n 54))] [] d' ∧ gs_sf d d' ∧ gs_Sp d' S (k + 1) := by
  have hl := hv.2
  intro n
  induction n with
  | zero =>
    intro x dk e f h1 h2 h3
    have : x = 54 := by omega
    subst this
    have ek : (k : Int) + 1 = ((k + 1 : Nat) : Int) := by omega
    refine ⟨dk, ?_, f, fun m hm => ?_⟩
    · rw [k_M_spread_70]
      simp (disch := omega) only [k_M_spread_104, ek, ↓reduceIte, Int.reduceAdd, Int.reduceSub, Int.reduceMul, Int.reduceToNat, gs_00, gs_ofi, gs_k0_m, gs_k1_m, gs_n8, gs_n16, gs_n_add, gs_n_sub, gs_n_mul, gs_n_neg, gs_m_add, gs_m_sub, gs_m_mul, gs_m_neg, gs_n_l, gs_m_n, gs_n_c, gs_eq_t, gs_eq_f1, gs_eq_f2, gs_lt_t, gs_lt_f, gs_le_t, gs_le_f, gs_cmp_lt, gs_cmp_eq, gs_cmp_gt, gs_ix_n, gs_nz_n, gs_nzl_g, gs_n_div, gs_af1, gs_af0, gs_ck0, gs_ck1, gs_ck2t, gs_ck2f, gs_ck3, gs_ck4, gs_zd_t, gs_zd_f, gs_zt_t, gs_zt_f, gs_nar1, gs_nar0, gs_tn, if_true, if_false, not_true_eq_false, not_false_eq_true]
      rfl
    · by_cases z : m = k
      · subst z; exact ⟨h2, h3⟩
      · exact h1 m (by omega)
  | succ n ih =>
    intro x dk e f h1 h2 h3
    have hi := hv.a hk
    have ht := s_M_takes (f.Mo hM) hw hi (x := (x : Int)) (by omega) (by omega)
    have ha := (f.Qu hq).2 (k : Int) (by omega) (by omega)
    rw [gs_tn] at ha
    have ix : (54 * (k : Int) + (x : Int)).toNat = 54 * k + x := by omega
    have ej : (x : Int) + 1 = ((x + 1 : Nat) : Int) := by omega
    obtain ⟨d', e1, r⟩ := ih (x + 1) (gs_wL dk 24 0 (54 * k + x) (gs_m (gs_mtk S (S.2.getD k 0) x))) (by omega) f.wL (fun m hm => ⟨(h1 m hm).1, fun y hy => by
      rw [gs_wL_o (by omega)]
      exact (h1 m hm).2 y hy⟩) h2 (fun y hy => by
      by_cases z : y = x
      · subst z; exact gs_wL_s
      · rw [gs_wL_o (by omega)]
        exact h3 y (by omega))
    refine ⟨d', ?_, r⟩
    rw [← e1, k_M_spread_70]
    simp (disch := omega) only [k_M_spread_76, k_M_spread_93, k_M_spread_97, k_M_spread_98, ha, ht, ix, ej, ↓reduceIte, Int.reduceAdd, Int.reduceSub, Int.reduceMul, Int.reduceToNat, gs_00, gs_ofi, gs_k0_m, gs_k1_m, gs_n8, gs_n16, gs_n_add, gs_n_sub, gs_n_mul, gs_n_neg, gs_m_add, gs_m_sub, gs_m_mul, gs_m_neg, gs_n_l, gs_m_n, gs_n_c, gs_eq_t, gs_eq_f1, gs_eq_f2, gs_lt_t, gs_lt_f, gs_le_t, gs_le_f, gs_cmp_lt, gs_cmp_eq, gs_cmp_gt, gs_ix_n, gs_nz_n, gs_nzl_g, gs_n_div, gs_af1, gs_af0, gs_ck0, gs_ck1, gs_ck2t, gs_ck2f, gs_ck3, gs_ck4, gs_zd_t, gs_zd_f, gs_zt_t, gs_zt_f, gs_nar1, gs_nar0, gs_tn, if_true, if_false, not_true_eq_false, not_false_eq_true]
theorem s_M_spread (hM : gs_Mo 21 d S) (hw : gs_wb B S) (hv : gs_wv S) : ∃ d', f_M_spread [gs_r 20 0] d = some (none, d') ∧ gs_Qu d' S.2 ∧ gs_Sp d' S S.2.length ∧ gs_Mo 21 d' S ∧ gs_mf d d' := by
  have hl := hv.2
  have hwq := hv.q hw
  obtain ⟨d1, e1, q1, f1⟩ := s_M_order hM hw (by rw [← hv.1]; exact hv.2)
  rw [← hv.1] at q1
  have m1 := f1.Mo hM
  have key : ∀ (n k : Nat) (dk : gs_D) (o : Option gs_V), k + n = S.2.length → gs_sf d1 dk → gs_Sp dk S k → ∃ d', gs_g Y0 P_M_spread 6 [some (gs_r 20 0), some (gs_i (gs_n k)), o] [] dk = some (none, d') ∧ gs_sf d1 d' ∧ gs_Sp d' S S.2.length := by
    intro n
    induction n with
    | zero =>
      intro k dk o e f h1
      have hw0 := (f.Qu q1).1
      have : k = S.2.length := by omega
      subst this
      refine ⟨dk, ?_, f, h1⟩
      rw [k_M_spread_6]
      simp (disch := omega) only [k_M_spread_110, hw0, ↓reduceIte, Int.reduceAdd, Int.reduceSub, Int.reduceMul, Int.reduceToNat, gs_00, gs_ofi, gs_k0_m, gs_k1_m, gs_n8, gs_n16, gs_n_add, gs_n_sub, gs_n_mul, gs_n_neg, gs_m_add, gs_m_sub, gs_m_mul, gs_m_neg, gs_n_l, gs_m_n, gs_n_c, gs_eq_t, gs_eq_f1, gs_eq_f2, gs_lt_t, gs_lt_f, gs_le_t, gs_le_f, gs_cmp_lt, gs_cmp_eq, gs_cmp_gt, gs_ix_n, gs_nz_n, gs_nzl_g, gs_n_div, gs_af1, gs_af0, gs_ck0, gs_ck1, gs_ck2t, gs_ck2f, gs_ck3, gs_ck4, gs_zd_t, gs_zd_f, gs_zt_t, gs_zt_f, gs_nar1, gs_nar0, gs_tn, if_true, if_false, not_true_eq_false, not_false_eq_true]
    | succ n ih =>
      intro k dk o e f h1
      have hw0 := (f.Qu q1).1
      obtain ⟨d2, e2, f2, s2, a2⟩ := s_M_spread_a m1 hw q1 hwq (k := k) (by omega) k 0 (gs_wI dk 25 0 k (gs_n 0)) (by omega) f.wI (fun m hm => by
        obtain ⟨⟨b, b1, b2, b3⟩, b4⟩ := h1 m hm
        exact ⟨⟨b, b1, by rw [gs_wI_o (by omega)]; exact b2, b3⟩, b4⟩) ⟨0, by decide, gs_wI_s, fun j => by rw [Nat.zero_testBit, decide_eq_false (by omega)]; rfl⟩
      obtain ⟨d3, e3, f3, s3⟩ := s_M_spread_m m1 hw q1 hwq (k := k) (by omega) 54 0 d2 (by omega) f2 s2 a2 (fun x hx => by omega)
      obtain ⟨d4, e4, r4⟩ := ih (k + 1) d3 (some (gs_i (gs_n 54))) (by omega) f3 s3
      refine ⟨d4, ?_, r4⟩
      have e2 : gs_g Y0 P_M_spread 23 [some (gs_r 20 0), some (gs_i (gs_n k)), some (gs_i (gs_n 0))] [] (gs_wI dk 25 0 k (gs_n 0)) = _ := e2
      have e3 : gs_g Y0 P_M_spread 70 [some (gs_r 20 0), some (gs_i (gs_n k)), some (gs_i (gs_n 0))] [] d2 = _ := e3
      rw [k_M_spread_6]
      simp (disch := omega) only [k_M_spread_14, k_M_spread_21, k_M_spread_68, hw0, e2, e3, e4, ↓reduceIte, Int.reduceAdd, Int.reduceSub, Int.reduceMul, Int.reduceToNat, gs_00, gs_ofi, gs_k0_m, gs_k1_m, gs_n8, gs_n16, gs_n_add, gs_n_sub, gs_n_mul, gs_n_neg, gs_m_add, gs_m_sub, gs_m_mul, gs_m_neg, gs_n_l, gs_m_n, gs_n_c, gs_eq_t, gs_eq_f1, gs_eq_f2, gs_lt_t, gs_lt_f, gs_le_t, gs_le_f, gs_cmp_lt, gs_cmp_eq, gs_cmp_gt, gs_ix_n, gs_nz_n, gs_nzl_g, gs_n_div, gs_af1, gs_af0, gs_ck0, gs_ck1, gs_ck2t, gs_ck2f, gs_ck3, gs_ck4, gs_zd_t, gs_zd_f, gs_zt_t, gs_zt_f, gs_nar1, gs_nar0, gs_tn, if_true, if_false, not_true_eq_false, not_false_eq_true]
  obtain ⟨d', e2, f2, s2⟩ := key S.2.length 0 d1 none (by omega) gs_sf.rf (fun k hk => by omega)
  have e2 : gs_g Y0 P_M_spread 6 [some (gs_r 20 0), some (gs_i (gs_n 0)), none] [] d1 = _ := e2
  refine ⟨d', ?_, f2.Qu q1, s2, f2.Mo m1, f1.mf.tr f2.mf⟩
  simp (disch := omega) only [e_M_spread, k_M_spread_0, k_M_spread_4, e1, e2, ↓reduceIte, Int.reduceAdd, Int.reduceSub, Int.reduceMul, Int.reduceToNat, gs_00, gs_ofi, gs_k0_m, gs_k1_m, gs_n8, gs_n16, gs_n_add, gs_n_sub, gs_n_mul, gs_n_neg, gs_m_add, gs_m_sub, gs_m_mul, gs_m_neg, gs_n_l, gs_m_n, gs_n_c, gs_eq_t, gs_eq_f1, gs_eq_f2, gs_lt_t, gs_lt_f, gs_le_t, gs_le_f, gs_cmp_lt, gs_cmp_eq, gs_cmp_gt, gs_ix_n, gs_nz_n, gs_nzl_g, gs_n_div, gs_af1, gs_af0, gs_ck0, gs_ck1, gs_ck2t, gs_ck2f, gs_ck3, gs_ck4, gs_zd_t, gs_zd_f, gs_zt_t, gs_zt_f, gs_nar1, gs_nar0, gs_tn, if_true, if_false, not_true_eq_false, not_false_eq_true]
end SP
