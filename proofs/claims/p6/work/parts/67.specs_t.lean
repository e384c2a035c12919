/-- how many powers of two lie under b, of the first k -/
def lgs (b : Nat) : Nat → Nat
  | 0 => 0
  | k + 1 => lgs b k + (if 2 ^ k ≤ b then 1 else 0)
theorem lgs_le (b : Nat) : ∀ k, lgs b k ≤ k := by
  intro k
  induction k with
  | zero => exact Nat.le_refl _
  | succ k ih =>
    show lgs b k + (if 2 ^ k ≤ b then 1 else 0) ≤ k + 1
    split <;> omega
theorem lgs_sh {a b : Nat} (h : 2 * a ≤ b) (h1 : 1 ≤ b) : ∀ k, lgs a k + 1 ≤ lgs b (k + 1) := by
  intro k
  induction k with
  | zero =>
    show 0 + 1 ≤ 0 + (if 2 ^ 0 ≤ b then 1 else 0)
    rw [if_pos (by simpa using h1)]
    exact Nat.le_refl _
  | succ k ih =>
    show lgs a k + (if 2 ^ k ≤ a then 1 else 0) + 1 ≤ lgs b (k + 1) + (if 2 ^ (k + 1) ≤ b then 1 else 0)
    by_cases c : 2 ^ k ≤ a
    · rw [if_pos c, if_pos (by rw [Nat.pow_succ]; omega)]
      omega
    · rw [if_neg c]
      omega
theorem lgs_lt {a b : Nat} (h : 2 * a ≤ b) (h1 : 1 ≤ b) (h2 : a < 2 ^ 127) : lgs a 128 < lgs b 128 := by
  have e : lgs a (127 + 1) = lgs a 127 := by
    show lgs a 127 + (if 2 ^ 127 ≤ a then 1 else 0) = lgs a 127
    rw [if_neg (by omega), Nat.add_zero]
  have := lgs_sh h h1 127
  show lgs a (127 + 1) < lgs b (127 + 1)
  omega
def eum (y x : Int) : Nat := 2 * lgs (x * y).toNat 128 + (if x < y then 1 else 0)
theorem eum_le (y x : Int) : eum y x < 1000 := by
  have := lgs_le (x * y).toNat 128
  unfold eum
  split <;> omega
theorem eum_dec {x y : Int} (hx : 0 ≤ x) (hy : 0 < y) (bx : x < 4611686018427387904) (b : y < 4611686018427387904) : eum (x % y) y < eum y x := by
  have r0 : 0 ≤ x % y := Int.emod_nonneg _ (by omega)
  have r1 : x % y < y := Int.emod_lt_of_pos _ hy
  unfold eum
  rw [if_neg (show ¬ y < x % y by omega)]
  by_cases c : x < y
  · rw [if_pos c, Int.emod_eq_of_lt hx c, Int.mul_comm]
    omega
  · rw [if_neg c]
    have q : 2 * (x % y) ≤ x := by
      have e := Int.mul_ediv_add_emod x y
      have d : 1 ≤ x / y := Int.le_ediv_of_mul_le hy (by omega)
      have m : y * 1 ≤ y * (x / y) := Int.mul_le_mul_of_nonneg_left d (by omega)
      omega
    have p : y * (2 * (x % y)) ≤ y * x := Int.mul_le_mul_of_nonneg_left q (by omega)
    have p1 : y * (2 * (x % y)) = 2 * (y * (x % y)) := by rw [Int.mul_left_comm]
    have n0 : 0 ≤ y * (x % y) := Int.mul_nonneg (by omega) r0
    have n1 : 1 * 1 ≤ y * x := Int.mul_le_mul (by omega) (by omega) (by omega) (by omega)
    have n2 : y * (x % y) < 4611686018427387904 * 4611686018427387904 := Int.lt_of_lt_of_le (Int.mul_lt_mul_of_pos_left r1 hy) (Int.mul_le_mul (by omega) (by omega) (by omega) (by decide))
    have l := lgs_lt (a := (y * (x % y)).toNat) (b := (x * y).toNat) (by rw [Int.mul_comm x y]; omega) (by rw [Int.mul_comm x y]; omega) (by omega)
    omega
/-- who holds a bowl -/
noncomputable def hol (n k f q : Int) : Int := Classical.epsilon (fun p => (0 ≤ p ∧ p < n) ∧ plc n k f p = q)
theorem hol_eq {n k f p q : Int} (hn : 0 < n) (h0 : 0 ≤ p) (h1 : p < n) (h : plc n k f p = q) : p = hol n k f q := by
  have e : (0 ≤ hol n k f q ∧ hol n k f q < n) ∧ plc n k f (hol n k f q) = q := Classical.epsilon_spec (p := fun p => (0 ≤ p ∧ p < n) ∧ plc n k f p = q) ⟨p, ⟨h0, h1⟩, h⟩
  exact plc_inj hn h0 h1 e.1.1 e.1.2 (by rw [h, e.2])
theorem hol_rng {n k f q : Int} (hn : 0 < n) (h0 : 0 ≤ q) (h1 : q < n) : 0 ≤ hol n k f q ∧ hol n k f q < n := by
  obtain ⟨p, hp, e⟩ := plc_sur (n := n) (k := k) (f := f) hn h0 h1
  rw [← hol_eq hn hp.1 hp.2 e]
  exact hp
/-- the state behind s by the stir r -/
noncomputable def thn (n : Int) (st b : Int → Int) (s r : Int) : Int := 7 * b (7 * r + s / 7) + hol n (s % 7) (st (9 + s % 7)) (b (7 * r + s / 7))
def vst (n s : Int) : Prop := 0 ≤ s ∧ s < 49 ∧ s % 7 < n ∧ s / 7 < n
theorem thn_rng {n m s r : Int} {st b : Int → Int} (h2 : 2 ≤ n) (h7 : n ≤ 7) (hr : rowsM n m b) (hs : vst n s) (h0 : 0 ≤ r) (h1 : r < m) : vst n (thn n st b s r) := by
  obtain ⟨a, c, d, e⟩ := hs
  have q := rowM_use hr h0 h1 (i := s / 7) (by omega) e
  have w := hol_rng (k := s % 7) (f := st (9 + s % 7)) (by omega) q.1 q.2
  unfold thn vst
  omega
set_option maxHeartbeats 1000000 in
theorem s_X12_common (x0 : Int) (x2 : Int) (h1 : 0 ≤ x0) (h2 : x0 < 4611686018427387904) (h3 : 0 ≤ x2) (h4 : x2 < 4611686018427387904) (h5 : 0 < x0 ∨ 0 < x2) : wp (f_X12_common x0 x2) (fun o => (0 < o ∧ o < 4611686018427387904)) := by
  unfold f_X12_common
  refine wp_bnd ?_
  refine wp_bnd ?_
  refine wp_lq2 (fun (z3 : Int) (z4 : Int) => (0 ≤ z3 ∧ z3 < 4611686018427387904) ∧ (0 ≤ z4 ∧ z4 < 4611686018427387904) ∧ (0 < z4 ∨ 0 < z3)) (fun (z3 : Int) (z4 : Int) => eum z3 z4) (fun again6 z3 z4 hI ih_B_X12_common_6 => ?_) 1000 _ _ ⟨(by omega) /- B_X12_common_6.init1#1 -/, (by omega) /- B_X12_common_6.init2#1 -/, (by omega) /- B_X12_common_6.init3#1 -/⟩ (by exact eum_le _ _) /- B_X12_common_6.fuel#1 -/
  obtain ⟨i_B_X12_common_6_1, i_B_X12_common_6_2, i_B_X12_common_6_3⟩ := hI
  unfold B_X12_common_6
  refine wp_ck (z_r64_i.mpr ⟨(by omega) /- z_r64.lo z3#1 -/, (by omega) /- z_r64.hi z3#1 -/⟩) ?_
  refine wp_ck (z_r32_cmp _ _) ?_
  refine wp_if (fun c1 => ?_) (fun c1 => ?_)
  ·
    have hc0 := cmp_0.mp c1
    refine wp_some ?_
    try dsimp only
    all_goals exact (by omega) /- post1#1 -/
  ·
    have hc0 : ¬ z3 = 0 := fun h => c1 (cmp_0.mpr h)
    have hm0 : 0 ≤ z4 % z3 := rg_lo (by omega)
    have hm1 : z4 % z3 < z3 := rg_hi (by omega)
    refine wp_ck (w_dv_i.mpr ⟨⟨⟨(by omega) /- dv.0 z4#1 -/, (by omega) /- dv.1 z4#1 -/⟩, (by omega) /- dv.2 z4#1 -/⟩, (by omega) /- dv.3 z4#1 -/⟩) ?_
    refine wp_bndE (fun z8 hz8 => ?_)
    refine wp_bnd ?_
    refine wp_bnd ?_
    exact ih_B_X12_common_6 _ _ ⟨(by omega) /- B_X12_common_6.inv1#1 -/, (by omega) /- B_X12_common_6.inv2#1 -/, (by omega) /- B_X12_common_6.inv3#1 -/⟩ (by subst hz8; exact eum_dec (by omega) (by omega) (by omega) (by omega)) /- B_X12_common_6.dec#1 -/

set_option maxHeartbeats 1000000 in
theorem s_X12_lowest (x0 : Int) (x2 : Int) (x4 : Int) (h1 : 0 ≤ x0) (h2 : x0 < 4611686018427387904) (h3 : 0 < x2) (h4 : x2 < 4611686018427387904) (h5 : -2147483648 ≤ x4) (h6 : x4 < 2147483648) : wp (f_X12_lowest x0 x2 x4) (fun o => True) := by
  unfold f_X12_lowest
  refine wp_bd1 (s_X12_common _ _ (by omega) /- pre X12_common.1#1 -/ (by omega) /- pre X12_common.2#1 -/ (by omega) /- pre X12_common.3#1 -/ (by omega) /- pre X12_common.4#1 -/ (by omega) /- pre X12_common.5#1 -/) (fun z1 q_X12_common_1 => ?_)
  try dsimp only at q_X12_common_1
  refine wp_bnd ?_
  refine wp_ck (z_r32_i.mpr ⟨(by omega) /- z_r32.lo x4#1 -/, (by omega) /- z_r32.hi x4#1 -/⟩) ?_
  refine wp_if (fun c1 => ?_) (fun c1 => ?_)
  ·
    refine wp_ck (w_dv_i.mpr ⟨⟨⟨(by omega) /- dv.0 x0#1 -/, (by omega) /- dv.1 x0#1 -/⟩, (by omega) /- dv.2 x0#1 -/⟩, (by omega) /- dv.3 x0#1 -/⟩) ?_
    exact wp_some trivial
  ·
    refine wp_ck (w_dv_i.mpr ⟨⟨⟨(by omega) /- dv.0 x2#1 -/, (by omega) /- dv.1 x2#1 -/⟩, (by omega) /- dv.2 x2#1 -/⟩, (by omega) /- dv.3 x2#1 -/⟩) ?_
    exact wp_some trivial

set_option maxHeartbeats 1000000 in
theorem s_X12_power (x1 : Int) (x3 : Int) (h1 : 0 ≤ x1) (h2 : x1 ≤ 7) (h3 : 0 ≤ x3) (h4 : x3 ≤ 12) : wp (f_X12_power x1 x3) (fun o => (o = x1 ^ x3.toNat)) := by
  unfold f_X12_power
  refine wp_bnd ?_
  refine wp_bnd ?_
  refine wp_lq2 (fun (z3 : Int) (z4 : Int) => (0 ≤ z3) ∧ (z3 ≤ x3) ∧ (z4 = x1 ^ z3.toNat)) (fun (z3 : Int) (z4 : Int) => (x3 - z3).toNat) (fun again6 z3 z4 hI ih_B_X12_power_6 => ?_) 1000 _ _ ⟨(by omega) /- B_X12_power_6.init1#1 -/, (by omega) /- B_X12_power_6.init2#1 -/, (by exact (Int.pow_zero x1).symm) /- B_X12_power_6.init3#1 -/⟩ (by omega) /- B_X12_power_6.fuel#1 -/
  obtain ⟨i_B_X12_power_6_1, i_B_X12_power_6_2, i_B_X12_power_6_3⟩ := hI
  unfold B_X12_power_6
  refine wp_ck (z_r32_i.mpr ⟨(by omega) /- z_r32.lo z3#1 -/, (by omega) /- z_r32.hi z3#1 -/⟩) ?_
  refine wp_ck (z_r32_i.mpr ⟨(by omega) /- z_r32.lo x3#1 -/, (by omega) /- z_r32.hi x3#1 -/⟩) ?_
  refine wp_if (fun c1 => ?_) (fun c1 => ?_)
  ·
    refine wp_some ?_
    try dsimp only
    all_goals exact (by rw [i_B_X12_power_6_3]; congr 1; omega) /- post1#1 -/
  ·
    refine wp_bndE (fun z8 hz8 => ?_)
    refine wp_bndE (fun z9 hz9 => ?_)
    exact ih_B_X12_power_6 _ _ ⟨(by omega) /- B_X12_power_6.inv1#1 -/, (by omega) /- B_X12_power_6.inv2#1 -/, (by subst hz8 hz9; rw [pow_step i_B_X12_power_6_1, ← i_B_X12_power_6_3]) /- B_X12_power_6.inv3#1 -/⟩ (by omega) /- B_X12_power_6.dec#1 -/

set_option maxHeartbeats 1000000 in
theorem s_X12_firstWays (v_p0_st : (Int → Int)) (v_p0_ways : (Int → Int)) (n : Int) (h1 : 2 ≤ n) (h2 : n ≤ 7) (h3 : okM n v_p0_st) : wp (f_X12_firstWays v_p0_st v_p0_ways) (fun o => (o = z_up (z_fill v_p0_ways 49 0) (7 * v_p0_st 7 + v_p0_st 8) 1)) := by
  unfold f_X12_firstWays
  have ho1 := okM_1 h3
  refine wp_bnd ?_
  refine wp_jn ?_
  refine wp_lq2 (fun (z5 : Int) (w6 : (Int → Int)) => (0 ≤ z5) ∧ (z5 ≤ 49) ∧ (w6 = z_fill v_p0_ways z5 0)) (fun (z5 : Int) (w6 : (Int → Int)) => (49 - z5).toNat) (fun again2 z5 w6 hI ih_B_X12_firstWays_2 => ?_) 1000 _ _ ⟨(by omega) /- B_X12_firstWays_2.init1#1 -/, (by omega) /- B_X12_firstWays_2.init2#1 -/, (by funext j; rw [z_fill_a, if_neg (by omega)]) /- B_X12_firstWays_2.init3#1 -/⟩ (by omega) /- B_X12_firstWays_2.fuel#1 -/
  obtain ⟨i_B_X12_firstWays_2_1, i_B_X12_firstWays_2_2, i_B_X12_firstWays_2_3⟩ := hI
  unfold B_X12_firstWays_2
  refine wp_ck (z_r32_i.mpr ⟨(by omega) /- z_r32.lo z5#1 -/, (by omega) /- z_r32.hi z5#1 -/⟩) ?_
  refine wp_if (fun c1 => ?_) (fun c1 => ?_)
  ·
    refine wp_ck (z_ix_i.mpr ⟨⟨(by omega) /- ix.lo (7 : Int)#1 -/, (by omega) /- ix.hi (7 : Int)#1 -/⟩, (by omega) /- ix.big (7 : Int)#1 -/⟩) ?_
    refine wp_ck (z_ix_i.mpr ⟨⟨(by omega) /- ix.lo (8 : Int)#1 -/, (by omega) /- ix.hi (8 : Int)#1 -/⟩, (by omega) /- ix.big (8 : Int)#1 -/⟩) ?_
    refine wp_ck (z_ix_i.mpr ⟨⟨(by omega) /- ix.lo (((7 : Int) * (v_p0_st (7 : Int))) + (v_p0_st (8 : Int)))#1 -/, (by omega) /- ix.hi (((7 : Int) * (v_p0_st (7 : Int))) + (v_p0_st (8 : Int)))#1 -/⟩, (by omega) /- ix.big (((7 : Int) * (v_p0_st (7 : Int))) + (v_p0_st (8 : Int)))#1 -/⟩) ?_
    refine wp_bnd ?_
    refine wp_some ?_
    try dsimp only
    all_goals exact (by rw [i_B_X12_firstWays_2_3]; congr 2; omega) /- post1#1 -/
  ·
    refine wp_ck (z_ix_i.mpr ⟨⟨(by omega) /- ix.lo z5#1 -/, (by omega) /- ix.hi z5#1 -/⟩, (by omega) /- ix.big z5#1 -/⟩) ?_
    refine wp_bnd ?_
    refine wp_bndE (fun z10 hz10 => ?_)
    exact ih_B_X12_firstWays_2 _ _ ⟨(by omega) /- B_X12_firstWays_2.inv1#1 -/, (by omega) /- B_X12_firstWays_2.inv2#1 -/, (by subst hz10; rw [i_B_X12_firstWays_2_3]; exact z_fill_s i_B_X12_firstWays_2_1) /- B_X12_firstWays_2.inv3#1 -/⟩ (by omega) /- B_X12_firstWays_2.dec#1 -/

set_option maxHeartbeats 1000000 in
theorem s_X12_then (i_p0_seats : Int) (v_p0_st : (Int → Int)) (v_p0_brings : (Int → Int)) (v_p0_places : (Int → Int)) (x1 : Int) (x2 : Int) (i_p0_stirs : Int) (h1 : 2 ≤ i_p0_seats) (h2 : i_p0_seats ≤ 7) (h3 : 0 ≤ i_p0_stirs) (h4 : i_p0_stirs ≤ 5) (h5 : rowsM i_p0_seats i_p0_stirs v_p0_brings) (h6 : vst i_p0_seats x1) (h7 : 0 ≤ x2) (h8 : x2 < i_p0_stirs) : wp (f_X12_then i_p0_seats v_p0_st v_p0_brings v_p0_places x1 x2) (fun o => (o.1 = thn i_p0_seats v_p0_st v_p0_brings x1 x2) ∧ (vst i_p0_seats o.1)) := by
  unfold f_X12_then
  have hv := h6
  unfold vst at hv
  have hru := rowM_use h5 h7 h8 (i := x1 / 7) (by omega) (by omega)
  refine wp_ck (z_dv_i.mpr ⟨⟨⟨(by omega) /- dv.0 x1#1 -/, (by omega) /- dv.1 x1#1 -/⟩, (by omega) /- dv.2 x1#1 -/⟩, (by omega) /- dv.3 x1#1 -/⟩) ?_
  refine wp_ck (z_ix_i.mpr ⟨⟨(by omega) /- ix.lo (((7 : Int) * x2) + (x1 / (7 : Int)))#1 -/, (by omega) /- ix.hi (((7 : Int) * x2) + (x1 / (7 : Int)))#1 -/⟩, (by omega) /- ix.big (((7 : Int) * x2) + (x1 / (7 : Int)))#1 -/⟩) ?_
  refine wp_ck (z_dv_i.mpr ⟨⟨⟨(by omega) /- dv.0 x1#2 -/, (by omega) /- dv.1 x1#2 -/⟩, (by omega) /- dv.2 x1#2 -/⟩, (by omega) /- dv.3 x1#2 -/⟩) ?_
  refine wp_ck (z_dv_i.mpr ⟨⟨⟨(by omega) /- dv.0 x1#3 -/, (by omega) /- dv.1 x1#3 -/⟩, (by omega) /- dv.2 x1#3 -/⟩, (by omega) /- dv.3 x1#3 -/⟩) ?_
  refine wp_bd2 (s_X12_nextBy _ _ _ _ _ _ _ i_p0_stirs (by omega) /- pre X12_nextBy.1#1 -/ (by omega) /- pre X12_nextBy.2#1 -/ (by omega) /- pre X12_nextBy.3#1 -/ (by omega) /- pre X12_nextBy.4#1 -/ (by exact h5) /- pre X12_nextBy.5#1 -/ (by omega) /- pre X12_nextBy.6#1 -/ (by omega) /- pre X12_nextBy.7#1 -/ (by omega) /- pre X12_nextBy.8#1 -/ (by omega) /- pre X12_nextBy.9#1 -/ (by omega) /- pre X12_nextBy.10#1 -/ (by omega) /- pre X12_nextBy.11#1 -/) (fun z1 w2 q_X12_nextBy_1 => ?_)
  try dsimp only at q_X12_nextBy_1
  obtain ⟨q_X12_nextBy_1_1, q_X12_nextBy_1_2⟩ := q_X12_nextBy_1
  have hq : z1 = hol i_p0_seats (x1 % 7) (v_p0_st (9 + x1 % 7)) (v_p0_brings (7 * x2 + x1 / 7)) := hol_eq (by omega) q_X12_nextBy_1_1.1.1 q_X12_nextBy_1_1.1.2 q_X12_nextBy_1_1.2
  have hqe : 7 * v_p0_brings (7 * x2 + x1 / 7) + z1 = thn i_p0_seats v_p0_st v_p0_brings x1 x2 := by rw [hq]; rfl
  refine wp_some ?_
  try dsimp only
  all_goals exact ⟨(by exact hqe) /- post1#1 -/, (by rw [hqe]; exact thn_rng h1 h2 h5 h6 h7 h8) /- post2#1 -/⟩

set_option maxHeartbeats 4000000 in
theorem s_X12_nextWays (i_p0_seats : Int) (i_p0_stirs : Int) (v_p0_st : (Int → Int)) (v_p0_brings : (Int → Int)) (v_p0_places : (Int → Int)) (v_p0_ways : (Int → Int)) (v_p0_waysThen : (Int → Int)) (x1 : Int) (h1 : 2 ≤ i_p0_seats) (h2 : i_p0_seats ≤ 7) (h3 : 0 ≤ i_p0_stirs) (h4 : i_p0_stirs ≤ 5) (h5 : rowsM i_p0_seats i_p0_stirs v_p0_brings) (h6 : x1 = 0 ∨ x1 = 1) (h7 : ∀ j, 0 ≤ j → j < 49 → 0 ≤ v_p0_ways j) (h8 : ∀ j, 0 ≤ j → j < 49 → 0 < v_p0_ways j → vst i_p0_seats j) (h9 : sumTo v_p0_ways 49 ≤ 1000000000000000) : wp (f_X12_nextWays i_p0_seats i_p0_stirs v_p0_st v_p0_brings v_p0_places v_p0_ways v_p0_waysThen x1) (fun o => (∀ j, 0 ≤ j → j < 49 → 0 ≤ o.2.1 j) ∧ (∀ j, 0 ≤ j → j < 49 → 0 < o.2.1 j → vst i_p0_seats j) ∧ (sumTo o.2.1 49 ≤ 5 * sumTo v_p0_ways 49)) := by
  unfold f_X12_nextWays
  refine wp_bnd ?_
  refine wp_jn ?_
  refine wp_lq2 (fun (z44 : Int) (w45 : (Int → Int)) => (0 ≤ z44) ∧ (z44 ≤ 49) ∧ (w45 = z_fill v_p0_waysThen z44 0)) (fun (z44 : Int) (w45 : (Int → Int)) => (49 - z44).toNat) (fun again2 z44 w45 hI ih_B_X12_nextWays_2 => ?_) 1000 _ _ ⟨(by omega) /- B_X12_nextWays_2.init1#1 -/, (by omega) /- B_X12_nextWays_2.init2#1 -/, (by funext j; rw [z_fill_a, if_neg (by omega)]) /- B_X12_nextWays_2.init3#1 -/⟩ (by omega) /- B_X12_nextWays_2.fuel#1 -/
  obtain ⟨i_B_X12_nextWays_2_1, i_B_X12_nextWays_2_2, i_B_X12_nextWays_2_3⟩ := hI
  unfold B_X12_nextWays_2
  refine wp_ck (z_r32_i.mpr ⟨(by omega) /- z_r32.lo z44#1 -/, (by omega) /- z_r32.hi z44#1 -/⟩) ?_
  refine wp_if (fun c1 => ?_) (fun c1 => ?_)
  ·
    refine wp_bnd ?_
    refine wp_jn ?_
    refine wp_lq3 (fun (z15 : Int) (w16 : (Int → Int)) (w17 : (Int → Int)) => (0 ≤ z15) ∧ (z15 ≤ 49) ∧ (∀ j, 0 ≤ j → j < 49 → 0 ≤ w17 j) ∧ (∀ j, 0 ≤ j → j < 49 → 0 < w17 j → vst i_p0_seats j) ∧ (sumTo w17 49 ≤ 5 * sumTo v_p0_ways z15.toNat)) (fun (z15 : Int) (w16 : (Int → Int)) (w17 : (Int → Int)) => (49 - z15).toNat) (fun again23 z15 w16 w17 hI ih_B_X12_nextWays_23 => ?_) 1000 _ _ _ ⟨(by omega) /- B_X12_nextWays_23.init1#1 -/, (by omega) /- B_X12_nextWays_23.init2#1 -/, (by intro j a b; rw [i_B_X12_nextWays_2_3, z_fill_in a (by omega)]; decide) /- B_X12_nextWays_23.init3#1 -/, (by intro j a b; rw [i_B_X12_nextWays_2_3, z_fill_in a (by omega)]; intro h; exact absurd h (by decide)) /- B_X12_nextWays_23.init4#1 -/, (by rw [i_B_X12_nextWays_2_3, show z44 = 49 from by omega]; exact Int.le_of_eq (sum_fill0 49 (by decide))) /- B_X12_nextWays_23.init5#1 -/⟩ (by omega) /- B_X12_nextWays_23.fuel#1 -/
    obtain ⟨i_B_X12_nextWays_23_1, i_B_X12_nextWays_23_2, i_B_X12_nextWays_23_3, i_B_X12_nextWays_23_4, i_B_X12_nextWays_23_5⟩ := hI
    unfold B_X12_nextWays_23
    refine wp_ck (z_r32_i.mpr ⟨(by omega) /- z_r32.lo z15#1 -/, (by omega) /- z_r32.hi z15#1 -/⟩) ?_
    refine wp_if (fun c2 => ?_) (fun c2 => ?_)
    ·
      refine wp_bnd ?_
      refine wp_lq2 (fun (z9 : Int) (w10 : (Int → Int)) => (0 ≤ z9) ∧ (z9 ≤ 49) ∧ (∀ j, 0 ≤ j → j < z9 → w10 j = w17 j)) (fun (z9 : Int) (w10 : (Int → Int)) => (49 - z9).toNat) (fun again108 z9 w10 hI ih_B_X12_nextWays_108 => ?_) 1000 _ _ ⟨(by omega) /- B_X12_nextWays_108.init1#1 -/, (by omega) /- B_X12_nextWays_108.init2#1 -/, (by intro j; omega) /- B_X12_nextWays_108.init3#1 -/⟩ (by omega) /- B_X12_nextWays_108.fuel#1 -/
      obtain ⟨i_B_X12_nextWays_108_1, i_B_X12_nextWays_108_2, i_B_X12_nextWays_108_3⟩ := hI
      unfold B_X12_nextWays_108
      refine wp_ck (z_r32_i.mpr ⟨(by omega) /- z_r32.lo z9#1 -/, (by omega) /- z_r32.hi z9#1 -/⟩) ?_
      refine wp_if (fun c3 => ?_) (fun c3 => ?_)
      ·
        refine wp_some ?_
        try dsimp only
        all_goals exact ⟨(by intro j a b; rw [i_B_X12_nextWays_108_3 j a (by omega)]; exact i_B_X12_nextWays_23_3 j a b) /- post1#1 -/, (by intro j a b; rw [i_B_X12_nextWays_108_3 j a (by omega)]; exact i_B_X12_nextWays_23_4 j a b) /- post2#1 -/, (by rw [sum_ext (f := w10) (g := w17) 49 (fun j a b => i_B_X12_nextWays_108_3 j a (by omega))]; rw [show z15.toNat = 49 from by omega] at i_B_X12_nextWays_23_5; exact i_B_X12_nextWays_23_5) /- post3#1 -/⟩
      ·
        refine wp_ck (z_ix_i.mpr ⟨⟨(by omega) /- ix.lo z9#1 -/, (by omega) /- ix.hi z9#1 -/⟩, (by omega) /- ix.big z9#1 -/⟩) ?_
        refine wp_ck (z_ix_i.mpr ⟨⟨(by omega) /- ix.lo z9#2 -/, (by omega) /- ix.hi z9#2 -/⟩, (by omega) /- ix.big z9#2 -/⟩) ?_
        refine wp_bnd ?_
        refine wp_bndE (fun z14 hz14 => ?_)
        exact ih_B_X12_nextWays_108 _ _ ⟨(by omega) /- B_X12_nextWays_108.inv1#1 -/, (by omega) /- B_X12_nextWays_108.inv2#1 -/, (by intro j a b; rw [z_up_a]; split; rename_i e; rw [e]; exact i_B_X12_nextWays_108_3 j a (by omega)) /- B_X12_nextWays_108.inv3#1 -/⟩ (by omega) /- B_X12_nextWays_108.dec#1 -/
    ·
      refine wp_bnd ?_
      have hw0 := h7 z15 (by omega) (by omega)
      have hw1 := sum_one (m := 49) h7 (i := z15) (by omega) (by omega)
      have hss := sum_s (f := v_p0_ways) (z := z15) (by omega)
      refine wp_lq3 (fun (z21 : Int) (w22 : (Int → Int)) (w23 : (Int → Int)) => (0 ≤ z21) ∧ (z21 ≤ i_p0_stirs) ∧ (∀ j, 0 ≤ j → j < 49 → 0 ≤ w23 j) ∧ (∀ j, 0 ≤ j → j < 49 → 0 < w23 j → vst i_p0_seats j) ∧ (sumTo w23 49 ≤ 5 * sumTo v_p0_ways z15.toNat + z21 * v_p0_ways z15)) (fun (z21 : Int) (w22 : (Int → Int)) (w23 : (Int → Int)) => (i_p0_stirs - z21).toNat) (fun again31 z21 w22 w23 hI ih_B_X12_nextWays_31 => ?_) 1000 _ _ _ ⟨(by omega) /- B_X12_nextWays_31.init1#1 -/, (by omega) /- B_X12_nextWays_31.init2#1 -/, (by exact i_B_X12_nextWays_23_3) /- B_X12_nextWays_31.init3#1 -/, (by exact i_B_X12_nextWays_23_4) /- B_X12_nextWays_31.init4#1 -/, (by rw [Int.zero_mul]; omega) /- B_X12_nextWays_31.init5#1 -/⟩ (by omega) /- B_X12_nextWays_31.fuel#1 -/
      obtain ⟨i_B_X12_nextWays_31_1, i_B_X12_nextWays_31_2, i_B_X12_nextWays_31_3, i_B_X12_nextWays_31_4, i_B_X12_nextWays_31_5⟩ := hI
      unfold B_X12_nextWays_31
      have hm5 := mul5 (z := z21) hw0 (by omega)
      refine wp_ck (z_r32_i.mpr ⟨(by omega) /- z_r32.lo z21#1 -/, (by omega) /- z_r32.hi z21#1 -/⟩) ?_
      refine wp_ck (z_r32_i.mpr ⟨(by omega) /- z_r32.lo i_p0_stirs#1 -/, (by omega) /- z_r32.hi i_p0_stirs#1 -/⟩) ?_
      refine wp_if (fun c4 => ?_) (fun c4 => ?_)
      ·
        refine wp_bndE (fun z27 hz27 => ?_)
        exact ih_B_X12_nextWays_23 _ _ _ ⟨(by omega) /- B_X12_nextWays_23.inv1#1 -/, (by omega) /- B_X12_nextWays_23.inv2#1 -/, (by exact i_B_X12_nextWays_31_3) /- B_X12_nextWays_23.inv3#1 -/, (by exact i_B_X12_nextWays_31_4) /- B_X12_nextWays_23.inv4#1 -/, (by subst hz27; rw [hss]; omega) /- B_X12_nextWays_23.inv5#1 -/⟩ (by omega) /- B_X12_nextWays_23.dec#1 -/
      ·
        refine wp_ck (z_ix_i.mpr ⟨⟨(by omega) /- ix.lo z15#1 -/, (by omega) /- ix.hi z15#1 -/⟩, (by omega) /- ix.big z15#1 -/⟩) ?_
        refine wp_ck (z_r64_i.mpr ⟨(by omega) /- z_r64.lo (v_p0_ways z15)#1 -/, (by omega) /- z_r64.hi (v_p0_ways z15)#1 -/⟩) ?_
        refine wp_ck (z_r32_cmp _ _) ?_
        refine wp_if (fun c5 => ?_) (fun c5 => ?_)
        ·
          refine wp_bndE (fun z30 hz30 => ?_)
          exact ih_B_X12_nextWays_23 _ _ _ ⟨(by omega) /- B_X12_nextWays_23.inv1#2 -/, (by omega) /- B_X12_nextWays_23.inv2#2 -/, (by exact i_B_X12_nextWays_31_3) /- B_X12_nextWays_23.inv3#2 -/, (by exact i_B_X12_nextWays_31_4) /- B_X12_nextWays_23.inv4#2 -/, (by subst hz30; rw [hss]; omega) /- B_X12_nextWays_23.inv5#2 -/⟩ (by omega) /- B_X12_nextWays_23.dec#2 -/
        ·
          have hvs := h8 z15 (by omega) (by omega) (by have := cmp_gt (x := v_p0_ways z15) (y := 0); omega)
          refine wp_bd2 (s_X12_then _ _ _ _ _ _ i_p0_stirs (by omega) /- pre X12_then.1#1 -/ (by omega) /- pre X12_then.2#1 -/ (by omega) /- pre X12_then.3#1 -/ (by omega) /- pre X12_then.4#1 -/ (by exact h5) /- pre X12_then.5#1 -/ (by exact hvs) /- pre X12_then.6#1 -/ (by omega) /- pre X12_then.7#1 -/ (by omega) /- pre X12_then.8#1 -/) (fun z31 w32 q_X12_then_1 => ?_)
          try dsimp only at q_X12_then_1
          obtain ⟨q_X12_then_1_1, q_X12_then_1_2⟩ := q_X12_then_1
          have hvt := q_X12_then_1_2
          unfold vst at hvt
          have hmu : (z21 + 1) * v_p0_ways z15 = z21 * v_p0_ways z15 + v_p0_ways z15 := by rw [Int.add_mul, Int.one_mul]
          have hw3 := i_B_X12_nextWays_31_3 z31 (by omega) (by omega)
          refine wp_bnd ?_
          refine wp_ck (z_ix_i.mpr ⟨⟨(by omega) /- ix.lo z33#1 -/, (by omega) /- ix.hi z33#1 -/⟩, (by omega) /- ix.big z33#1 -/⟩) ?_
          refine wp_ck (z_r32_i.mpr ⟨(by omega) /- z_r32.lo x1#1 -/, (by omega) /- z_r32.hi x1#1 -/⟩) ?_
          refine wp_jn ?_
          refine wp_if (fun c6 => ?_) (fun c6 => ?_)
          ·
            refine wp_ck (z_ix_i.mpr ⟨⟨(by omega) /- ix.lo z15#2 -/, (by omega) /- ix.hi z15#2 -/⟩, (by omega) /- ix.big z15#2 -/⟩) ?_
            refine wp_ck (z_ix_i.mpr ⟨⟨(by omega) /- ix.lo z35#1 -/, (by omega) /- ix.hi z35#1 -/⟩, (by omega) /- ix.big z35#1 -/⟩) ?_
            refine wp_bnd ?_
            refine wp_bndE (fun z39 hz39 => ?_)
            exact ih_B_X12_nextWays_31 _ _ _ ⟨(by omega) /- B_X12_nextWays_31.inv1#1 -/, (by omega) /- B_X12_nextWays_31.inv2#1 -/, (by intro j a b; rw [z_up_a]; split; omega; exact i_B_X12_nextWays_31_3 j a b) /- B_X12_nextWays_31.inv3#1 -/, (by intro j a b; rw [z_up_a]; split; rename_i e; intro _; rw [e]; exact q_X12_then_1_2; exact i_B_X12_nextWays_31_4 j a b) /- B_X12_nextWays_31.inv4#1 -/, (by rw [sum_up (by omega), if_pos (by omega)]; first | (subst hz39; rw [hmu]; omega) | (subst hz43; rw [hmu]; omega)) /- B_X12_nextWays_31.inv5#1 -/⟩ (by omega) /- B_X12_nextWays_31.dec#1 -/
          ·
            refine wp_ck (z_dv_i.mpr ⟨⟨⟨(by omega) /- dv.0 z33#1 -/, (by omega) /- dv.1 z33#1 -/⟩, (by omega) /- dv.2 z33#1 -/⟩, (by omega) /- dv.3 z33#1 -/⟩) ?_
            refine wp_ck (z_dv_i.mpr ⟨⟨⟨(by omega) /- dv.0 z15#1 -/, (by omega) /- dv.1 z15#1 -/⟩, (by omega) /- dv.2 z15#1 -/⟩, (by omega) /- dv.3 z15#1 -/⟩) ?_
            refine wp_ck (z_r32_i.mpr ⟨(by omega) /- z_r32.lo (z33 % (7 : Int))#1 -/, (by omega) /- z_r32.hi (z33 % (7 : Int))#1 -/⟩) ?_
            refine wp_ck (z_r32_i.mpr ⟨(by omega) /- z_r32.lo (z15 % (7 : Int))#1 -/, (by omega) /- z_r32.hi (z15 % (7 : Int))#1 -/⟩) ?_
            refine wp_if (fun c7 => ?_) (fun c7 => ?_)
            ·
              refine wp_ck (z_ix_i.mpr ⟨⟨(by omega) /- ix.lo z15#3 -/, (by omega) /- ix.hi z15#3 -/⟩, (by omega) /- ix.big z15#3 -/⟩) ?_
              refine wp_ck (z_ix_i.mpr ⟨⟨(by omega) /- ix.lo z35#2 -/, (by omega) /- ix.hi z35#2 -/⟩, (by omega) /- ix.big z35#2 -/⟩) ?_
              refine wp_bnd ?_
              refine wp_bndE (fun z39 hz39 => ?_)
              exact ih_B_X12_nextWays_31 _ _ _ ⟨(by omega) /- B_X12_nextWays_31.inv1#2 -/, (by omega) /- B_X12_nextWays_31.inv2#2 -/, (by intro j a b; rw [z_up_a]; split; omega; exact i_B_X12_nextWays_31_3 j a b) /- B_X12_nextWays_31.inv3#2 -/, (by intro j a b; rw [z_up_a]; split; rename_i e; intro _; rw [e]; exact q_X12_then_1_2; exact i_B_X12_nextWays_31_4 j a b) /- B_X12_nextWays_31.inv4#2 -/, (by rw [sum_up (by omega), if_pos (by omega)]; first | (subst hz39; rw [hmu]; omega) | (subst hz43; rw [hmu]; omega)) /- B_X12_nextWays_31.inv5#2 -/⟩ (by omega) /- B_X12_nextWays_31.dec#2 -/
            ·
              refine wp_ck (z_ix_i.mpr ⟨⟨(by omega) /- ix.lo z33#2 -/, (by omega) /- ix.hi z33#2 -/⟩, (by omega) /- ix.big z33#2 -/⟩) ?_
              refine wp_bnd ?_
              refine wp_bndE (fun z43 hz43 => ?_)
              exact ih_B_X12_nextWays_31 _ _ _ ⟨(by omega) /- B_X12_nextWays_31.inv1#3 -/, (by omega) /- B_X12_nextWays_31.inv2#3 -/, (by intro j a b; rw [z_up_a]; split; omega; exact i_B_X12_nextWays_31_3 j a b) /- B_X12_nextWays_31.inv3#3 -/, (by intro j a b; rw [z_up_a]; split; rename_i e; intro _; rw [e]; exact q_X12_then_1_2; exact i_B_X12_nextWays_31_4 j a b) /- B_X12_nextWays_31.inv4#3 -/, (by rw [sum_up (by omega), if_pos (by omega)]; first | (subst hz39; rw [hmu]; omega) | (subst hz43; rw [hmu]; omega)) /- B_X12_nextWays_31.inv5#3 -/⟩ (by omega) /- B_X12_nextWays_31.dec#3 -/
  ·
    refine wp_ck (z_ix_i.mpr ⟨⟨(by omega) /- ix.lo z44#1 -/, (by omega) /- ix.hi z44#1 -/⟩, (by omega) /- ix.big z44#1 -/⟩) ?_
    refine wp_bnd ?_
    refine wp_bndE (fun z49 hz49 => ?_)
    exact ih_B_X12_nextWays_2 _ _ ⟨(by omega) /- B_X12_nextWays_2.inv1#1 -/, (by omega) /- B_X12_nextWays_2.inv2#1 -/, (by subst hz49; rw [i_B_X12_nextWays_2_3]; exact z_fill_s i_B_X12_nextWays_2_1) /- B_X12_nextWays_2.inv3#1 -/⟩ (by omega) /- B_X12_nextWays_2.dec#1 -/

set_option maxHeartbeats 1000000 in
theorem s_X12_chance (i_p0_seats : Int) (i_p0_stirs : Int) (v_p0_st : (Int → Int)) (v_p0_brings : (Int → Int)) (v_p0_places : (Int → Int)) (v_p0_ways : (Int → Int)) (v_p0_waysThen : (Int → Int)) (x1 : Int) (x2 : Int) (x3 : Int) (h1 : -2147483648 ≤ x1) (h2 : x1 < 2147483648) (h3 : -2147483648 ≤ x2) (h4 : x2 < 2147483648) (h5 : -2147483648 ≤ x3) (h6 : x3 < 2147483648) (h7 : 2 ≤ i_p0_seats) (h8 : i_p0_seats ≤ 7) (h9 : 0 ≤ i_p0_stirs) (h10 : i_p0_stirs ≤ 5) (h11 : rowsM i_p0_seats i_p0_stirs v_p0_brings) (h12 : okM i_p0_seats v_p0_st) : wp (f_X12_chance i_p0_seats i_p0_stirs v_p0_st v_p0_brings v_p0_places v_p0_ways v_p0_waysThen x1 x2 x3) (fun o => True) := by
  unfold f_X12_chance
  have ho1 := okM_1 h12
  refine wp_bd1 (s_X12_isSeat _ _ (by omega) /- pre X12_isSeat.1#1 -/ (by omega) /- pre X12_isSeat.2#1 -/ (by omega) /- pre X12_isSeat.3#1 -/ (by omega) /- pre X12_isSeat.4#1 -/) (fun z1 q_X12_isSeat_1 => ?_)
  try dsimp only at q_X12_isSeat_1
  refine wp_ck (z_r32_i.mpr ⟨(by omega) /- z_r32.lo z1#1 -/, (by omega) /- z_r32.hi z1#1 -/⟩) ?_
  refine wp_if (fun c1 => ?_) (fun c1 => ?_)
  ·
    clear q_X12_isSeat_1
    exact wp_some trivial
  ·
    have hk : 0 ≤ x1 ∧ x1 < i_p0_seats := by split at q_X12_isSeat_1 <;> omega
    clear q_X12_isSeat_1
    refine wp_ck (z_r32_i.mpr ⟨(by omega) /- z_r32.lo x2#1 -/, (by omega) /- z_r32.hi x2#1 -/⟩) ?_
    refine wp_bd1 (s_X12_in _ _ _ (by omega) /- pre X12_in.1#1 -/ (by omega) /- pre X12_in.2#1 -/ (by omega) /- pre X12_in.3#1 -/ (by omega) /- pre X12_in.4#1 -/ (by omega) /- pre X12_in.5#1 -/ (by omega) /- pre X12_in.6#1 -/) (fun z4 q_X12_in_1 => ?_)
    try dsimp only at q_X12_in_1
    refine wp_ck (z_r32_i.mpr ⟨(by omega) /- z_r32.lo z4#1 -/, (by omega) /- z_r32.hi z4#1 -/⟩) ?_
    refine wp_if (fun c2 => ?_) (fun c2 => ?_)
    ·
      exact wp_some trivial
    ·
      have hn : 0 ≤ x2 ∧ x2 ≤ 10 := by split at q_X12_in_1 <;> omega
      clear q_X12_in_1
      refine wp_bd1 (s_X12_isTold _ (by omega) /- pre X12_isTold.1#1 -/ (by omega) /- pre X12_isTold.2#1 -/) (fun z6 q_X12_isTold_1 => ?_)
      try dsimp only at q_X12_isTold_1
      refine wp_ck (z_r32_i.mpr ⟨(by omega) /- z_r32.lo z6#1 -/, (by omega) /- z_r32.hi z6#1 -/⟩) ?_
      refine wp_if (fun c3 => ?_) (fun c3 => ?_)
      ·
        exact wp_some trivial
      ·
        clear q_X12_isTold_1
        refine wp_ck (z_r32_i.mpr ⟨(by omega) /- z_r32.lo i_p0_stirs#1 -/, (by omega) /- z_r32.hi i_p0_stirs#1 -/⟩) ?_
        refine wp_if (fun c4 => ?_) (fun c4 => ?_)
        ·
          exact wp_some trivial
        ·
          refine wp_bd1 (s_X12_firstWays _ _ i_p0_seats (by omega) /- pre X12_firstWays.1#1 -/ (by omega) /- pre X12_firstWays.2#1 -/ (by exact h12) /- pre X12_firstWays.3#1 -/) (fun w9 q_X12_firstWays_1 => ?_)
          try dsimp only at q_X12_firstWays_1
          refine wp_bnd ?_
          refine wp_jn ?_
          refine wp_lq4 (fun (z31 : Int) (w32 : (Int → Int)) (w33 : (Int → Int)) (w34 : (Int → Int)) => (0 ≤ z31) ∧ (z31 ≤ x2) ∧ (∀ j, 0 ≤ j → j < 49 → 0 ≤ w33 j) ∧ (∀ j, 0 ≤ j → j < 49 → 0 < w33 j → vst i_p0_seats j) ∧ (sumTo w33 49 ≤ (5 : Int) ^ z31.toNat)) (fun (z31 : Int) (w32 : (Int → Int)) (w33 : (Int → Int)) (w34 : (Int → Int)) => (x2 - z31).toNat) (fun again49 z31 w32 w33 w34 hI ih_B_X12_chance_49 => ?_) 1000 _ _ _ _ ⟨(by omega) /- B_X12_chance_49.init1#1 -/, (by omega) /- B_X12_chance_49.init2#1 -/, (by intro j a b; rw [q_X12_firstWays_1, z_up_a]; split; decide; rw [z_fill_in a b]; decide) /- B_X12_chance_49.init3#1 -/, (by intro j a b; rw [q_X12_firstWays_1, z_up_a]; split; (rename_i e; intro _; unfold vst; omega); (rw [z_fill_in a b]; intro h; exact absurd h (by decide))) /- B_X12_chance_49.init4#1 -/, (by rw [q_X12_firstWays_1, sum_up (by omega), if_pos (by omega), sum_fill0 49 (by decide), z_fill_in (by omega) (by omega)]; decide) /- B_X12_chance_49.init5#1 -/⟩ (by omega) /- B_X12_chance_49.fuel#1 -/
          obtain ⟨i_B_X12_chance_49_1, i_B_X12_chance_49_2, i_B_X12_chance_49_3, i_B_X12_chance_49_4, i_B_X12_chance_49_5⟩ := hI
          unfold B_X12_chance_49
          have hp5 := pow5_r i_B_X12_chance_49_1 (by omega)
          refine wp_ck (z_r32_i.mpr ⟨(by omega) /- z_r32.lo z31#1 -/, (by omega) /- z_r32.hi z31#1 -/⟩) ?_
          refine wp_if (fun c5 => ?_) (fun c5 => ?_)
          ·
            refine wp_bnd ?_
            refine wp_bnd ?_
            refine wp_jn ?_
            have hp5b := hp5
            refine wp_lq2 (fun (z21 : Int) (z22 : Int) => (0 ≤ z21) ∧ (z21 ≤ 49) ∧ (0 ≤ z22) ∧ (z22 ≤ sumTo w33 z21.toNat)) (fun (z21 : Int) (z22 : Int) => (49 - z21).toNat) (fun again72 z21 z22 hI ih_B_X12_chance_72 => ?_) 1000 _ _ ⟨(by omega) /- B_X12_chance_72.init1#1 -/, (by omega) /- B_X12_chance_72.init2#1 -/, (by omega) /- B_X12_chance_72.init3#1 -/, (by exact Int.le_refl _) /- B_X12_chance_72.init4#1 -/⟩ (by omega) /- B_X12_chance_72.fuel#1 -/
            obtain ⟨i_B_X12_chance_72_1, i_B_X12_chance_72_2, i_B_X12_chance_72_3, i_B_X12_chance_72_4⟩ := hI
            unfold B_X12_chance_72
            have hsm := sum_mono (f := w33) (m := 49) i_B_X12_chance_49_3 z21.toNat (by omega)
            have hss := sum_s (f := w33) (z := z21) (by omega)
            have hs0 := sum_0 (f := w33) z21.toNat (fun j a b => i_B_X12_chance_49_3 j a (by omega))
            have hwn := fun (h : z21 < 49) => i_B_X12_chance_49_3 z21 (by omega) h
            refine wp_ck (z_r32_i.mpr ⟨(by omega) /- z_r32.lo z21#1 -/, (by omega) /- z_r32.hi z21#1 -/⟩) ?_
            refine wp_if (fun c6 => ?_) (fun c6 => ?_)
            ·
              refine wp_bd1 (s_X12_power _ _ (by omega) /- pre X12_power.1#1 -/ (by omega) /- pre X12_power.2#1 -/ (by omega) /- pre X12_power.3#1 -/ (by omega) /- pre X12_power.4#1 -/) (fun z19 q_X12_power_1 => ?_)
              try dsimp only at q_X12_power_1
              have hpb := powb_r (b := i_p0_stirs) (z := x2) (by omega) (by omega) (by omega) (by omega)
              have hpp := powb_p (b := i_p0_stirs) (z := x2) (by omega) (by omega) (by omega) (by omega)
              rw [← q_X12_power_1] at hpb hpp
              refine wp_bd1 (s_X12_lowest _ _ _ (by omega) /- pre X12_lowest.1#1 -/ (by omega) /- pre X12_lowest.2#1 -/ (by omega) /- pre X12_lowest.3#1 -/ (by omega) /- pre X12_lowest.4#1 -/ (by omega) /- pre X12_lowest.5#1 -/ (by omega) /- pre X12_lowest.6#1 -/) (fun z20 q_X12_lowest_1 => ?_)
              exact wp_some trivial
            ·
              refine wp_ck (z_dv_i.mpr ⟨⟨⟨(by omega) /- dv.0 z21#1 -/, (by omega) /- dv.1 z21#1 -/⟩, (by omega) /- dv.2 z21#1 -/⟩, (by omega) /- dv.3 z21#1 -/⟩) ?_
              refine wp_ck (z_r32_i.mpr ⟨(by omega) /- z_r32.lo (z21 % (7 : Int))#1 -/, (by omega) /- z_r32.hi (z21 % (7 : Int))#1 -/⟩) ?_
              refine wp_ck (z_r32_i.mpr ⟨(by omega) /- z_r32.lo x1#1 -/, (by omega) /- z_r32.hi x1#1 -/⟩) ?_
              refine wp_if (fun c7 => ?_) (fun c7 => ?_)
              ·
                refine wp_ck (z_ix_i.mpr ⟨⟨(by omega) /- ix.lo z21#1 -/, (by omega) /- ix.hi z21#1 -/⟩, (by omega) /- ix.big z21#1 -/⟩) ?_
                refine wp_bndE (fun z29 hz29 => ?_)
                refine wp_bndE (fun z30 hz30 => ?_)
                exact ih_B_X12_chance_72 _ _ ⟨(by omega) /- B_X12_chance_72.inv1#1 -/, (by omega) /- B_X12_chance_72.inv2#1 -/, (by have := hwn (by omega); omega) /- B_X12_chance_72.inv3#1 -/, (by first | (subst hz30; rw [hss]; omega) | (subst hz28; rw [hss]; have := hwn (by omega); omega) | (subst hz24; rw [hss]; omega)) /- B_X12_chance_72.inv4#1 -/⟩ (by omega) /- B_X12_chance_72.dec#1 -/
              ·
                refine wp_bndE (fun z27 hz27 => ?_)
                refine wp_bndE (fun z28 hz28 => ?_)
                exact ih_B_X12_chance_72 _ _ ⟨(by omega) /- B_X12_chance_72.inv1#2 -/, (by omega) /- B_X12_chance_72.inv2#2 -/, (by have := hwn (by omega); omega) /- B_X12_chance_72.inv3#2 -/, (by first | (subst hz30; rw [hss]; omega) | (subst hz28; rw [hss]; have := hwn (by omega); omega) | (subst hz24; rw [hss]; omega)) /- B_X12_chance_72.inv4#2 -/⟩ (by omega) /- B_X12_chance_72.dec#2 -/
          ·
            refine wp_bd3 (s_X12_nextWays _ _ _ _ _ _ _ _ (by omega) /- pre X12_nextWays.1#1 -/ (by omega) /- pre X12_nextWays.2#1 -/ (by omega) /- pre X12_nextWays.3#1 -/ (by omega) /- pre X12_nextWays.4#1 -/ (by exact h11) /- pre X12_nextWays.5#1 -/ (by omega) /- pre X12_nextWays.6#1 -/ (by exact i_B_X12_chance_49_3) /- pre X12_nextWays.7#1 -/ (by exact i_B_X12_chance_49_4) /- pre X12_nextWays.8#1 -/ (by omega) /- pre X12_nextWays.9#1 -/) (fun w37 w38 w39 q_X12_nextWays_1 => ?_)
            try dsimp only at q_X12_nextWays_1
            obtain ⟨q_X12_nextWays_1_1, q_X12_nextWays_1_2, q_X12_nextWays_1_3⟩ := q_X12_nextWays_1
            refine wp_bndE (fun z40 hz40 => ?_)
            exact ih_B_X12_chance_49 _ _ _ _ ⟨(by omega) /- B_X12_chance_49.inv1#1 -/, (by omega) /- B_X12_chance_49.inv2#1 -/, (by exact q_X12_nextWays_1_1) /- B_X12_chance_49.inv3#1 -/, (by exact q_X12_nextWays_1_2) /- B_X12_chance_49.inv4#1 -/, (by first | (subst hz40; rw [pow_step i_B_X12_chance_49_1]; omega) | (subst hz34; rw [pow_step i_B_X12_chance_49_1]; omega)) /- B_X12_chance_49.inv5#1 -/⟩ (by omega) /- B_X12_chance_49.dec#1 -/

set_option maxHeartbeats 1000000 in
theorem s_X12_lasts (i_p0_seats : Int) (i_p0_stirs : Int) (v_p0_st : (Int → Int)) (v_p0_brings : (Int → Int)) (v_p0_places : (Int → Int)) (v_p0_ways : (Int → Int)) (v_p0_waysThen : (Int → Int)) (x1 : Int) (x2 : Int) (h1 : -2147483648 ≤ x1) (h2 : x1 < 2147483648) (h3 : -2147483648 ≤ x2) (h4 : x2 < 2147483648) (h5 : 2 ≤ i_p0_seats) (h6 : i_p0_seats ≤ 7) (h7 : 0 ≤ i_p0_stirs) (h8 : i_p0_stirs ≤ 5) (h9 : rowsM i_p0_seats i_p0_stirs v_p0_brings) (h10 : okM i_p0_seats v_p0_st) : wp (f_X12_lasts i_p0_seats i_p0_stirs v_p0_st v_p0_brings v_p0_places v_p0_ways v_p0_waysThen x1 x2) (fun o => True) := by
  unfold f_X12_lasts
  have ho1 := okM_1 h10
  refine wp_ck (z_r32_i.mpr ⟨(by omega) /- z_r32.lo x1#1 -/, (by omega) /- z_r32.hi x1#1 -/⟩) ?_
  refine wp_bd1 (s_X12_in _ _ _ (by omega) /- pre X12_in.1#1 -/ (by omega) /- pre X12_in.2#1 -/ (by omega) /- pre X12_in.3#1 -/ (by omega) /- pre X12_in.4#1 -/ (by omega) /- pre X12_in.5#1 -/ (by omega) /- pre X12_in.6#1 -/) (fun z2 q_X12_in_1 => ?_)
  try dsimp only at q_X12_in_1
  refine wp_ck (z_r32_i.mpr ⟨(by omega) /- z_r32.lo z2#1 -/, (by omega) /- z_r32.hi z2#1 -/⟩) ?_
  refine wp_if (fun c1 => ?_) (fun c1 => ?_)
  ·
    exact wp_some trivial
  ·
    have hn : 0 ≤ x1 ∧ x1 ≤ 10 := by split at q_X12_in_1 <;> omega
    clear q_X12_in_1
    refine wp_bd1 (s_X12_isTold _ (by omega) /- pre X12_isTold.1#1 -/ (by omega) /- pre X12_isTold.2#1 -/) (fun z4 q_X12_isTold_1 => ?_)
    try dsimp only at q_X12_isTold_1
    refine wp_ck (z_r32_i.mpr ⟨(by omega) /- z_r32.lo z4#1 -/, (by omega) /- z_r32.hi z4#1 -/⟩) ?_
    refine wp_if (fun c2 => ?_) (fun c2 => ?_)
    ·
      exact wp_some trivial
    ·
      clear q_X12_isTold_1
      refine wp_ck (z_r32_i.mpr ⟨(by omega) /- z_r32.lo i_p0_stirs#1 -/, (by omega) /- z_r32.hi i_p0_stirs#1 -/⟩) ?_
      refine wp_if (fun c3 => ?_) (fun c3 => ?_)
      ·
        exact wp_some trivial
      ·
        refine wp_bd1 (s_X12_firstWays _ _ i_p0_seats (by omega) /- pre X12_firstWays.1#1 -/ (by omega) /- pre X12_firstWays.2#1 -/ (by exact h10) /- pre X12_firstWays.3#1 -/) (fun w7 q_X12_firstWays_1 => ?_)
        try dsimp only at q_X12_firstWays_1
        refine wp_bnd ?_
        refine wp_jn ?_
        refine wp_lq4 (fun (z25 : Int) (w26 : (Int → Int)) (w27 : (Int → Int)) (w28 : (Int → Int)) => (0 ≤ z25) ∧ (z25 ≤ x1) ∧ (∀ j, 0 ≤ j → j < 49 → 0 ≤ w27 j) ∧ (∀ j, 0 ≤ j → j < 49 → 0 < w27 j → vst i_p0_seats j) ∧ (sumTo w27 49 ≤ (5 : Int) ^ z25.toNat)) (fun (z25 : Int) (w26 : (Int → Int)) (w27 : (Int → Int)) (w28 : (Int → Int)) => (x1 - z25).toNat) (fun again40 z25 w26 w27 w28 hI ih_B_X12_lasts_40 => ?_) 1000 _ _ _ _ ⟨(by omega) /- B_X12_lasts_40.init1#1 -/, (by omega) /- B_X12_lasts_40.init2#1 -/, (by intro j a b; rw [q_X12_firstWays_1, z_up_a]; split; decide; rw [z_fill_in a b]; decide) /- B_X12_lasts_40.init3#1 -/, (by intro j a b; rw [q_X12_firstWays_1, z_up_a]; split; (rename_i e; intro _; unfold vst; omega); (rw [z_fill_in a b]; intro h; exact absurd h (by decide))) /- B_X12_lasts_40.init4#1 -/, (by rw [q_X12_firstWays_1, sum_up (by omega), if_pos (by omega), sum_fill0 49 (by decide), z_fill_in (by omega) (by omega)]; decide) /- B_X12_lasts_40.init5#1 -/⟩ (by omega) /- B_X12_lasts_40.fuel#1 -/
        obtain ⟨i_B_X12_lasts_40_1, i_B_X12_lasts_40_2, i_B_X12_lasts_40_3, i_B_X12_lasts_40_4, i_B_X12_lasts_40_5⟩ := hI
        unfold B_X12_lasts_40
        have hp5 := pow5_r i_B_X12_lasts_40_1 (by omega)
        refine wp_ck (z_r32_i.mpr ⟨(by omega) /- z_r32.lo z25#1 -/, (by omega) /- z_r32.hi z25#1 -/⟩) ?_
        refine wp_if (fun c4 => ?_) (fun c4 => ?_)
        ·
          refine wp_bnd ?_
          refine wp_bnd ?_
          refine wp_jn ?_
          have hp5b := hp5
          refine wp_lq2 (fun (z19 : Int) (z20 : Int) => (0 ≤ z19) ∧ (z19 ≤ 49) ∧ (0 ≤ z20) ∧ (z20 ≤ sumTo w27 z19.toNat)) (fun (z19 : Int) (z20 : Int) => (49 - z19).toNat) (fun again61 z19 z20 hI ih_B_X12_lasts_61 => ?_) 1000 _ _ ⟨(by omega) /- B_X12_lasts_61.init1#1 -/, (by omega) /- B_X12_lasts_61.init2#1 -/, (by omega) /- B_X12_lasts_61.init3#1 -/, (by exact Int.le_refl _) /- B_X12_lasts_61.init4#1 -/⟩ (by omega) /- B_X12_lasts_61.fuel#1 -/
          obtain ⟨i_B_X12_lasts_61_1, i_B_X12_lasts_61_2, i_B_X12_lasts_61_3, i_B_X12_lasts_61_4⟩ := hI
          unfold B_X12_lasts_61
          have hsm := sum_mono (f := w27) (m := 49) i_B_X12_lasts_40_3 z19.toNat (by omega)
          have hss := sum_s (f := w27) (z := z19) (by omega)
          have hs0 := sum_0 (f := w27) z19.toNat (fun j a b => i_B_X12_lasts_40_3 j a (by omega))
          have hwn := fun (h : z19 < 49) => i_B_X12_lasts_40_3 z19 (by omega) h
          refine wp_ck (z_r32_i.mpr ⟨(by omega) /- z_r32.lo z19#1 -/, (by omega) /- z_r32.hi z19#1 -/⟩) ?_
          refine wp_if (fun c5 => ?_) (fun c5 => ?_)
          ·
            refine wp_bd1 (s_X12_power _ _ (by omega) /- pre X12_power.1#1 -/ (by omega) /- pre X12_power.2#1 -/ (by omega) /- pre X12_power.3#1 -/ (by omega) /- pre X12_power.4#1 -/) (fun z17 q_X12_power_1 => ?_)
            try dsimp only at q_X12_power_1
            have hpb := powb_r (b := i_p0_stirs) (z := x1) (by omega) (by omega) (by omega) (by omega)
            have hpp := powb_p (b := i_p0_stirs) (z := x1) (by omega) (by omega) (by omega) (by omega)
            rw [← q_X12_power_1] at hpb hpp
            refine wp_bd1 (s_X12_lowest _ _ _ (by omega) /- pre X12_lowest.1#1 -/ (by omega) /- pre X12_lowest.2#1 -/ (by omega) /- pre X12_lowest.3#1 -/ (by omega) /- pre X12_lowest.4#1 -/ (by omega) /- pre X12_lowest.5#1 -/ (by omega) /- pre X12_lowest.6#1 -/) (fun z18 q_X12_lowest_1 => ?_)
            exact wp_some trivial
          ·
            refine wp_ck (z_ix_i.mpr ⟨⟨(by omega) /- ix.lo z19#1 -/, (by omega) /- ix.hi z19#1 -/⟩, (by omega) /- ix.big z19#1 -/⟩) ?_
            refine wp_bndE (fun z23 hz23 => ?_)
            refine wp_bndE (fun z24 hz24 => ?_)
            exact ih_B_X12_lasts_61 _ _ ⟨(by omega) /- B_X12_lasts_61.inv1#1 -/, (by omega) /- B_X12_lasts_61.inv2#1 -/, (by have := hwn (by omega); omega) /- B_X12_lasts_61.inv3#1 -/, (by first | (subst hz30; rw [hss]; omega) | (subst hz28; rw [hss]; have := hwn (by omega); omega) | (subst hz24; rw [hss]; omega)) /- B_X12_lasts_61.inv4#1 -/⟩ (by omega) /- B_X12_lasts_61.dec#1 -/
        ·
          refine wp_bd3 (s_X12_nextWays _ _ _ _ _ _ _ _ (by omega) /- pre X12_nextWays.1#1 -/ (by omega) /- pre X12_nextWays.2#1 -/ (by omega) /- pre X12_nextWays.3#1 -/ (by omega) /- pre X12_nextWays.4#1 -/ (by exact h9) /- pre X12_nextWays.5#1 -/ (by omega) /- pre X12_nextWays.6#1 -/ (by exact i_B_X12_lasts_40_3) /- pre X12_nextWays.7#1 -/ (by exact i_B_X12_lasts_40_4) /- pre X12_nextWays.8#1 -/ (by omega) /- pre X12_nextWays.9#1 -/) (fun w31 w32 w33 q_X12_nextWays_1 => ?_)
          try dsimp only at q_X12_nextWays_1
          obtain ⟨q_X12_nextWays_1_1, q_X12_nextWays_1_2, q_X12_nextWays_1_3⟩ := q_X12_nextWays_1
          refine wp_bndE (fun z34 hz34 => ?_)
          exact ih_B_X12_lasts_40 _ _ _ _ ⟨(by omega) /- B_X12_lasts_40.inv1#1 -/, (by omega) /- B_X12_lasts_40.inv2#1 -/, (by exact q_X12_nextWays_1_1) /- B_X12_lasts_40.inv3#1 -/, (by exact q_X12_nextWays_1_2) /- B_X12_lasts_40.inv4#1 -/, (by first | (subst hz40; rw [pow_step i_B_X12_lasts_40_1]; omega) | (subst hz34; rw [pow_step i_B_X12_lasts_40_1]; omega)) /- B_X12_lasts_40.inv5#1 -/⟩ (by omega) /- B_X12_lasts_40.dec#1 -/
