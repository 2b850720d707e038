/-! Numbers: every int is gs_n of an integer, every long gs_m of one. -/
def gs_n (x : Int) : Int32 := Int32.ofInt x
def gs_m (x : Int) : Int64 := Int64.ofInt x
theorem gs_ofi (x : Int) : Int32.ofInt x = gs_n x := rfl
theorem gs_n_of (x : Int32) : gs_n x.toInt = x := Int32.ofInt_toInt x
theorem gs_m_of (x : Int64) : gs_m x.toInt = x := Int64.ofInt_toInt x
theorem gs_n_rg (x : Int32) : -2147483648 ≤ x.toInt ∧ x.toInt < 2147483648 := by
  have a := x.le_toInt
  have b := x.toInt_lt
  omega
theorem gs_n_i {a : Int} (h1 : -2147483648 ≤ a) (h2 : a < 2147483648) : (gs_n a).toInt = a := Int32.toInt_ofInt_of_le (by omega) (by omega)
theorem gs_m_i {a : Int} (h1 : -9223372036854775808 ≤ a) (h2 : a < 9223372036854775808) : (gs_m a).toInt = a := Int64.toInt_ofInt_of_le (by omega) (by omega)
theorem gs_n_add (a b : Int) : gs_n a + gs_n b = gs_n (a + b) := (Int32.ofInt_add a b).symm
theorem gs_n_sub (a b : Int) : gs_n a - gs_n b = gs_n (a - b) := (Int32.ofInt_sub a b).symm
theorem gs_n_mul (a b : Int) : gs_n a * gs_n b = gs_n (a * b) := (Int32.ofInt_mul a b).symm
theorem gs_n_neg (a : Int) : -gs_n a = gs_n (-a) := Int32.neg_ofInt
theorem gs_m_add (a b : Int) : gs_m a + gs_m b = gs_m (a + b) := (Int64.ofInt_add a b).symm
theorem gs_m_sub (a b : Int) : gs_m a - gs_m b = gs_m (a - b) := (Int64.ofInt_sub a b).symm
theorem gs_m_mul (a b : Int) : gs_m a * gs_m b = gs_m (a * b) := (Int64.ofInt_mul a b).symm
theorem gs_m_neg (a : Int) : -gs_m a = gs_m (-a) := Int64.neg_ofInt
theorem gs_n_div {a b : Int} (h1 : 0 ≤ a) (h2 : a < 2147483648) (h3 : 0 < b) (h4 : b < 2147483648) : gs_n a / gs_n b = gs_n (a / b) := by
  have e := Int32.ofInt_tdiv (a := a) (b := b) (by rw [Int32.toInt_minValue]; omega) (by rw [Int32.toInt_maxValue]; omega) (by rw [Int32.toInt_minValue]; omega) (by rw [Int32.toInt_maxValue]; omega)
  rw [Int.tdiv_eq_ediv_of_nonneg h1] at e
  exact e.symm
theorem gs_m_div {a b : Int} (h1 : 0 ≤ a) (h2 : a < 9223372036854775808) (h3 : 0 < b) (h4 : b < 9223372036854775808) : gs_m a / gs_m b = gs_m (a / b) := by
  have e := Int64.ofInt_tdiv (a := a) (b := b) (by rw [Int64.toInt_minValue]; omega) (by rw [Int64.toInt_maxValue]; omega) (by rw [Int64.toInt_minValue]; omega) (by rw [Int64.toInt_maxValue]; omega)
  rw [Int.tdiv_eq_ediv_of_nonneg h1] at e
  exact e.symm
theorem gs_n_l {a : Int} (h1 : -2147483648 ≤ a) (h2 : a < 2147483648) : (gs_n a).toInt64 = gs_m a := Int32.toInt64_ofInt (by rw [Int32.toInt_minValue]; omega) (by rw [Int32.toInt_maxValue]; omega)
theorem gs_m_n (a : Int) : (gs_m a).toInt32 = gs_n a := Int64.toInt32_ofInt
theorem gs_n_c {a : Int} (h1 : -2147483648 ≤ a) (h2 : a < 2147483648) : (gs_n a).toNatClampNeg = a.toNat := Int32.toNatClampNeg_ofInt_of_le (by omega) (by omega)
theorem gs_n8 {a : Int} (h1 : -128 ≤ a) (h2 : a ≤ 127) : (Int8.ofInt a).toInt32 = gs_n a := Int8.toInt32_ofInt (by rw [Int8.toInt_minValue]; omega) (by rw [Int8.toInt_maxValue]; omega)
theorem gs_n16 {a : Int} (h1 : -32768 ≤ a) (h2 : a ≤ 32767) : (Int16.ofInt a).toInt32 = gs_n a := Int16.toInt32_ofInt (by rw [Int16.toInt_minValue]; omega) (by rw [Int16.toInt_maxValue]; omega)
def gs_k0 : Int64 := Int64.ofNat ((0 : Fin 2) : Nat)
def gs_k1 : Int64 := Int64.ofNat ((1 : Fin 2) : Nat)
theorem gs_k0_m : gs_k0 = gs_m 0 := by decide
theorem gs_k1_m : gs_k1 = gs_m 1 := by decide
theorem gs_00 : (0 : Int32) = gs_n 0 := by decide
-- compares
theorem gs_eq_iff {a b : Int} (h1 : -2147483648 ≤ a) (h2 : a < 2147483648) (h3 : -2147483648 ≤ b) (h4 : b < 2147483648) : gs_n a = gs_n b ↔ a = b := by
  rw [← Int32.toInt_inj, gs_n_i h1 h2, gs_n_i h3 h4]
theorem gs_lt_iff {a b : Int} (h1 : -2147483648 ≤ a) (h2 : a < 2147483648) (h3 : -2147483648 ≤ b) (h4 : b < 2147483648) : gs_n a < gs_n b ↔ a < b := by
  rw [Int32.lt_iff_toInt_lt, gs_n_i h1 h2, gs_n_i h3 h4]
theorem gs_le_iff {a b : Int} (h1 : -2147483648 ≤ a) (h2 : a < 2147483648) (h3 : -2147483648 ≤ b) (h4 : b < 2147483648) : gs_n a ≤ gs_n b ↔ a ≤ b := by
  rw [Int32.le_iff_toInt_le, gs_n_i h1 h2, gs_n_i h3 h4]
theorem gs_eq_t {a b : Int} (h : a = b) : (gs_n a = gs_n b) = True := by rw [h]; exact eq_self _
theorem gs_eq_f1 {a b : Int} (h : a < b) (h1 : -2147483648 ≤ a) (h2 : b < 2147483648) : (gs_n a = gs_n b) = False := eq_false fun z => by
  have := (gs_eq_iff h1 (by omega) (by omega) h2).mp z
  omega
theorem gs_eq_f2 {a b : Int} (h : b < a) (h1 : -2147483648 ≤ b) (h2 : a < 2147483648) : (gs_n a = gs_n b) = False := eq_false fun z => by
  have := (gs_eq_iff (by omega) h2 h1 (by omega)).mp z
  omega
theorem gs_lt_t {a b : Int} (h : a < b) (h1 : -2147483648 ≤ a) (h2 : b < 2147483648) : (gs_n a < gs_n b) = True := eq_true ((gs_lt_iff h1 (by omega) (by omega) h2).mpr h)
theorem gs_lt_f {a b : Int} (h : b ≤ a) (h1 : -2147483648 ≤ b) (h2 : a < 2147483648) : (gs_n a < gs_n b) = False := eq_false fun z => by
  have := (gs_lt_iff (by omega) h2 h1 (by omega)).mp z
  omega
theorem gs_le_t {a b : Int} (h : a ≤ b) (h1 : -2147483648 ≤ a) (h2 : b < 2147483648) : (gs_n a ≤ gs_n b) = True := eq_true ((gs_le_iff h1 (by omega) (by omega) h2).mpr h)
theorem gs_le_f {a b : Int} (h : b < a) (h1 : -2147483648 ≤ b) (h2 : a < 2147483648) : (gs_n a ≤ gs_n b) = False := eq_false fun z => by
  have := (gs_le_iff (by omega) h2 h1 (by omega)).mp z
  omega
theorem gs_meq_iff {a b : Int} (h1 : -9223372036854775808 ≤ a) (h2 : a < 9223372036854775808) (h3 : -9223372036854775808 ≤ b) (h4 : b < 9223372036854775808) : gs_m a = gs_m b ↔ a = b := by
  rw [← Int64.toInt_inj, gs_m_i h1 h2, gs_m_i h3 h4]
theorem gs_mlt_iff {a b : Int} (h1 : -9223372036854775808 ≤ a) (h2 : a < 9223372036854775808) (h3 : -9223372036854775808 ≤ b) (h4 : b < 9223372036854775808) : gs_m a < gs_m b ↔ a < b := by
  rw [Int64.lt_iff_toInt_lt, gs_m_i h1 h2, gs_m_i h3 h4]
theorem gs_cmp_lt {a b : Int} (h : a < b) (h1 : -9223372036854775808 ≤ a) (h2 : b < 9223372036854775808) : lg_cmp (gs_m a) (gs_m b) = gs_n (-1) := by
  have x1 := gs_mlt_iff (a := b) (b := a) (by omega) h2 h1 (by omega)
  have x2 := gs_meq_iff (a := a) (b := b) h1 (by omega) (by omega) h2
  unfold lg_cmp
  rw [if_neg (fun z => by have := x1.mp z; omega), if_neg (fun z => by have := x2.mp z; omega)]
  decide
theorem gs_cmp_eq {a b : Int} (h : a = b) : lg_cmp (gs_m a) (gs_m b) = gs_n 0 := by
  subst h
  unfold lg_cmp
  rw [if_neg (fun z => Int64.lt_irrefl z), if_pos rfl]
  decide
theorem gs_cmp_gt {a b : Int} (h : b < a) (h1 : -9223372036854775808 ≤ b) (h2 : a < 9223372036854775808) : lg_cmp (gs_m a) (gs_m b) = gs_n 1 := by
  have x1 := gs_mlt_iff (a := b) (b := a) h1 (by omega) (by omega) h2
  unfold lg_cmp
  rw [if_pos (x1.mpr h)]
  decide
-- truth values
def gs_z (b : Bool) : Int := match b with
  | true => 1
  | false => 0
theorem gs_z_t {b : Bool} (h : b = true) : gs_z b = 1 := by rw [h]; rfl
theorem gs_z_f {b : Bool} (h : b = false) : gs_z b = 0 := by rw [h]; rfl
-- the machine's helpers, where they go on
theorem gs_ix_n {a : Int} {N : Nat} {x : gs_R} (h0 : 0 ≤ a) (h1 : a < N) (h2 : a < 2147483648) : gs_ix (gs_n a) N x = x := by
  unfold gs_ix
  rw [if_neg]
  rintro (h | h)
  · rw [gs_00, gs_lt_iff (by omega) (by omega) (by omega) (by omega)] at h
    omega
  · rw [gs_n_c (by omega) h2] at h
    omega
theorem gs_nz_n {a : Int} {x : gs_R} (h0 : 0 < a) (h1 : a < 2147483648) : gs_nz (gs_n a) x = x := by
  unfold gs_nz
  rw [if_neg]
  rw [gs_00, gs_eq_iff (by omega) (by omega) (by omega) (by omega)]
  omega
theorem gs_nzl_g {a : Int} {x : gs_R} (h0 : 0 < a) (h1 : a < 9223372036854775808) : gs_nzl (gs_m a) x = x := by
  unfold gs_nzl
  rw [if_neg]
  rw [show (0 : Int64) = gs_m 0 by decide, gs_meq_iff (by omega) (by omega) (by omega) (by omega)]
  omega
theorem gs_af1 {v : gs_V} {d : gs_D} {r : List gs_V} {k : List gs_V → gs_D → gs_R} : gs_af (some (some v, d)) r k = k (v :: r) d := rfl
theorem gs_af0 {d : gs_D} {r : List gs_V} {k : List gs_V → gs_D → gs_R} : gs_af (some (none, d)) r k = k r d := rfl
theorem gs_ck0 {d : gs_D} : gs_ck 0 (some (none, d)) = some (none, d) := rfl
theorem gs_ck1 {d : gs_D} {x : Int32} : gs_ck 1 (some (some (gs_i x), d)) = some (some (gs_i x), d) := rfl
theorem gs_ck2 {d : gs_D} {b : Bool} : gs_ck 2 (some (some (gs_i (gs_n (gs_z b))), d)) = some (some (gs_i (gs_n (gs_z b))), d) := by
  have e : gs_rk 2 (some (gs_i (gs_n (gs_z b)))) = true := by cases b <;> decide
  show gs_b (gs_rk 2 (some (gs_i (gs_n (gs_z b))))) _ = _
  rw [e]
  rfl
theorem gs_ck2t {d : gs_D} : gs_ck 2 (some (some (gs_i (gs_n 1)), d)) = some (some (gs_i (gs_n 1)), d) := gs_ck2 (b := true)
theorem gs_ck2f {d : gs_D} : gs_ck 2 (some (some (gs_i (gs_n 0)), d)) = some (some (gs_i (gs_n 0)), d) := gs_ck2 (b := false)
theorem gs_ck3 {d : gs_D} {x : Int64} : gs_ck 3 (some (some (gs_l x), d)) = some (some (gs_l x), d) := rfl
theorem gs_ck4 {d : gs_D} {t i : Nat} : gs_ck 4 (some (some (gs_r t i), d)) = some (some (gs_r t i), d) := rfl
theorem gs_nar1 : vp_nar .boolean (gs_n 1) = gs_n 1 := by decide
theorem gs_nar0 : vp_nar .boolean (gs_n 0) = gs_n 0 := by decide
-- reading what was written
theorem gs_rI {d : gs_D} {t i j a b c : Nat} {x : Int32} : (gs_wI d t i j x).1 a b c = if a = t ∧ b = i ∧ c = j then x else d.1 a b c := rfl
theorem gs_rIL {d : gs_D} {t i j : Nat} {x : Int32} : (gs_wI d t i j x).2 = d.2 := rfl
theorem gs_rL {d : gs_D} {t i j a b c : Nat} {x : Int64} : (gs_wL d t i j x).2 a b c = if a = t ∧ b = i ∧ c = j then x else d.2 a b c := rfl
theorem gs_rLI {d : gs_D} {t i j : Nat} {x : Int64} : (gs_wL d t i j x).1 = d.1 := rfl
theorem gs_zd_t {c : Prop} {i : Decidable c} (h : c) : gs_z (@decide c i) = 1 := gs_z_t (decide_eq_true h)
theorem gs_zd_f {c : Prop} {i : Decidable c} (h : ¬ c) : gs_z (@decide c i) = 0 := gs_z_f (decide_eq_false h)
theorem gs_zt_t : gs_z true = 1 := rfl
theorem gs_zt_f : gs_z false = 0 := rfl
theorem gs_ck_ite {k : Nat} {c : Prop} {i : Decidable c} {a b : gs_R} : gs_ck k (@ite gs_R c i a b) = @ite gs_R c i (gs_ck k a) (gs_ck k b) := by
  by_cases h : c
  · rw [if_pos h, if_pos h]
  · rw [if_neg h, if_neg h]
theorem gs_cge {a b : Int} (h1 : -9223372036854775808 ≤ a) (h2 : a < 9223372036854775808) (h3 : -9223372036854775808 ≤ b) (h4 : b < 9223372036854775808) : (gs_n 0 ≤ lg_cmp (gs_m a) (gs_m b)) ↔ b ≤ a := by
  rcases Int.lt_trichotomy a b with z | z | z
  · rw [gs_cmp_lt z h1 h4, gs_le_iff (by omega) (by omega) (by omega) (by omega)]
    omega
  · rw [gs_cmp_eq z, gs_le_iff (by omega) (by omega) (by omega) (by omega)]
    omega
  · rw [gs_cmp_gt z h3 h2, gs_le_iff (by omega) (by omega) (by omega) (by omega)]
    omega
theorem gs_clt {a b : Int} (h1 : -9223372036854775808 ≤ a) (h2 : a < 9223372036854775808) (h3 : -9223372036854775808 ≤ b) (h4 : b < 9223372036854775808) : (lg_cmp (gs_m a) (gs_m b) < gs_n 0) ↔ a < b := by
  rcases Int.lt_trichotomy a b with z | z | z
  · rw [gs_cmp_lt z h1 h4, gs_lt_iff (by omega) (by omega) (by omega) (by omega)]
    omega
  · rw [gs_cmp_eq z, gs_lt_iff (by omega) (by omega) (by omega) (by omega)]
    omega
  · rw [gs_cmp_gt z h3 h2, gs_lt_iff (by omega) (by omega) (by omega) (by omega)]
    omega
theorem gs_cle {a b : Int} (h1 : -9223372036854775808 ≤ a) (h2 : a < 9223372036854775808) (h3 : -9223372036854775808 ≤ b) (h4 : b < 9223372036854775808) : (lg_cmp (gs_m a) (gs_m b) ≤ gs_n 0) ↔ a ≤ b := by
  rcases Int.lt_trichotomy a b with z | z | z
  · rw [gs_cmp_lt z h1 h4, gs_le_iff (by omega) (by omega) (by omega) (by omega)]
    omega
  · rw [gs_cmp_eq z, gs_le_iff (by omega) (by omega) (by omega) (by omega)]
    omega
  · rw [gs_cmp_gt z h3 h2, gs_le_iff (by omega) (by omega) (by omega) (by omega)]
    omega
theorem gs_cgt {a b : Int} (h1 : -9223372036854775808 ≤ a) (h2 : a < 9223372036854775808) (h3 : -9223372036854775808 ≤ b) (h4 : b < 9223372036854775808) : (gs_n 0 < lg_cmp (gs_m a) (gs_m b)) ↔ b < a := by
  rcases Int.lt_trichotomy a b with z | z | z
  · rw [gs_cmp_lt z h1 h4, gs_lt_iff (by omega) (by omega) (by omega) (by omega)]
    omega
  · rw [gs_cmp_eq z, gs_lt_iff (by omega) (by omega) (by omega) (by omega)]
    omega
  · rw [gs_cmp_gt z h3 h2, gs_lt_iff (by omega) (by omega) (by omega) (by omega)]
    omega
theorem gs_ceq {a b : Int} (h1 : -9223372036854775808 ≤ a) (h2 : a < 9223372036854775808) (h3 : -9223372036854775808 ≤ b) (h4 : b < 9223372036854775808) : (lg_cmp (gs_m a) (gs_m b) = gs_n 0) ↔ a = b := by
  rcases Int.lt_trichotomy a b with z | z | z
  · rw [gs_cmp_lt z h1 h4, gs_eq_iff (by omega) (by omega) (by omega) (by omega)]
    omega
  · rw [gs_cmp_eq z, gs_eq_iff (by omega) (by omega) (by omega) (by omega)]
    omega
  · rw [gs_cmp_gt z h3 h2, gs_eq_iff (by omega) (by omega) (by omega) (by omega)]
    omega
theorem gs_tn (k : Nat) : (k : Int).toNat = k := by omega
