theorem shl0 (z : Int) : z_shl 0 z = 0 := by
  unfold z_shl
  simp
theorem or0 {z : Int} (h0 : 0 ≤ z) (h1 : z < 2147483648) : z_or z 0 = z := by
  unfold z_or
  rw [show Int32.ofInt 0 = 0 from rfl, Int32.or_zero]
  exact Int32.toInt_ofInt_of_le (by show -2147483648 ≤ z; omega) (by show z < 2147483648; omega)
/-- the reference's day -/
def dayM (n : Int) (row st st2 : Int → Int) : Prop := dayP n row (fun k => st (9 + k)) (st 7) (st 8) (st 30) (vw st 0) (vw st 23) (st2 7) (st2 8) (st2 30) (vw st2 0) (vw st2 23) ∧ (∀ j, ((9 ≤ j ∧ j < 23) ∨ 31 ≤ j) → st2 j = st j)
/-- m days of the reference, by the stirs that stand in cells from c on -/
def daysM (n : Int) (brings cells : Int → Int) (c : Int) : Nat → (Int → Int) → (Int → Int) → Prop
  | 0, st, st2 => ∀ j, 0 ≤ j → j < 38 → st2 j = st j
  | m + 1, st, st2 => ∃ st1, daysM n brings cells c m st st1 ∧ dayM n (fun i => brings (7 * cells (c + (m : Int)) + i)) st1 st2
def readM (n s : Int) (brings : Int → Int) (lane size : Int) (cells : Int → Int) (x2 x3 x4 tear : Int) (st : Int → Int) (r tear2 : Int) (st2 : Int → Int) : Prop :=
  ∃ m, (0 ≤ m ∧ m ≤ x4) ∧ (∀ j, 0 ≤ j → j < m → fa lane size x2 (x3 + j) = 0 ∧ (0 ≤ cells (x3 + j) ∧ cells (x3 + j) < s) ∧ st 30 + j < 999) ∧
   ((m < x4 ∧ fa lane size x2 (x3 + m) = 0 ∧ ¬ ((0 ≤ cells (x3 + m) ∧ cells (x3 + m) < s) ∧ st 30 + m < 999) ∧ r = -20 - m ∧ tear2 = tear ∧ (∀ j, 0 ≤ j → j < 38 → st2 j = st j)) ∨
    (((m < x4 ∧ ¬ fa lane size x2 (x3 + m) = 0 ∧ tear2 = fa lane size x2 (x3 + m)) ∨ (m = x4 ∧ tear2 = 0)) ∧ r = m ∧ daysM n brings cells x3 m.toNat st st2))
set_option maxHeartbeats 1000000 in
theorem s_X12_hungry (i_p0_seats : Int) (v_p0_st : (Int → Int)) (v_p0_need : (Int → Int)) (h1 : 2 ≤ i_p0_seats) (h2 : i_p0_seats ≤ 7) (h3 : 0 ≤ v_p0_st 30) (h4 : v_p0_st 30 ≤ 999) (h5 : ∀ j, 0 ≤ j → j < 7 → 0 ≤ v_p0_st (23 + j) ∧ v_p0_st (23 + j) ≤ 9 * v_p0_st 30) (h6 : ∀ j, 0 ≤ j → j < 7 → 0 ≤ v_p0_need j ∧ v_p0_need j ≤ 9) : wp (f_X12_hungry i_p0_seats v_p0_st v_p0_need) (fun o => (o = bitsOf (fun p => v_p0_st (23 + p) < v_p0_need p * v_p0_st 30) i_p0_seats.toNat)) := by
  unfold f_X12_hungry
  refine wp_bnd ?_
  refine wp_bnd ?_
  refine wp_lq2 (fun (z3 : Int) (z4 : Int) => (0 ≤ z3) ∧ (z3 ≤ i_p0_seats) ∧ (z4 = bitsOf (fun p => v_p0_st (23 + p) < v_p0_need p * v_p0_st 30) z3.toNat)) (fun (z3 : Int) (z4 : Int) => (i_p0_seats - z3).toNat) (fun again4 z3 z4 hI ih_B_X12_hungry_4 => ?_) 1000 _ _ ⟨(by omega) /- B_X12_hungry_4.init1#1 -/, (by omega) /- B_X12_hungry_4.init2#1 -/, (by rfl) /- B_X12_hungry_4.init3#1 -/⟩ (by omega) /- B_X12_hungry_4.fuel#1 -/
  obtain ⟨i_B_X12_hungry_4_1, i_B_X12_hungry_4_2, i_B_X12_hungry_4_3⟩ := hI
  unfold B_X12_hungry_4
  refine wp_ck (z_r32_i.mpr ⟨(by omega) /- z_r32.lo z3#1 -/, (by omega) /- z_r32.hi z3#1 -/⟩) ?_
  refine wp_ck (z_r32_i.mpr ⟨(by omega) /- z_r32.lo i_p0_seats#1 -/, (by omega) /- z_r32.hi i_p0_seats#1 -/⟩) ?_
  refine wp_if (fun c1 => ?_) (fun c1 => ?_)
  ·
    refine wp_some ?_
    try dsimp only
    all_goals exact (by rw [i_B_X12_hungry_4_3]; congr 1; omega) /- post1#1 -/
  ·
    have he := h5 z3 (by omega) (by omega)
    have hd := h6 z3 (by omega) (by omega)
    have hm0 : 0 ≤ v_p0_need z3 * v_p0_st 30 := Int.mul_nonneg hd.1 h3
    have hm1 : v_p0_need z3 * v_p0_st 30 ≤ 9 * 999 := Int.mul_le_mul hd.2 h4 h3 (by decide)
    refine wp_ck (z_ix_i.mpr ⟨⟨(by omega) /- ix.lo ((23 : Int) + z3)#1 -/, (by omega) /- ix.hi ((23 : Int) + z3)#1 -/⟩, (by omega) /- ix.big ((23 : Int) + z3)#1 -/⟩) ?_
    refine wp_ck (z_ix_i.mpr ⟨⟨(by omega) /- ix.lo z3#1 -/, (by omega) /- ix.hi z3#1 -/⟩, (by omega) /- ix.big z3#1 -/⟩) ?_
    refine wp_ck (z_ix_i.mpr ⟨⟨(by omega) /- ix.lo (30 : Int)#1 -/, (by omega) /- ix.hi (30 : Int)#1 -/⟩, (by omega) /- ix.big (30 : Int)#1 -/⟩) ?_
    refine wp_ck (z_r32_i.mpr ⟨(by omega) /- z_r32.lo (v_p0_st ((23 : Int) + z3))#1 -/, (by omega) /- z_r32.hi (v_p0_st ((23 : Int) + z3))#1 -/⟩) ?_
    refine wp_ck (z_r32_i.mpr ⟨(by omega) /- z_r32.lo ((v_p0_need z3) * (v_p0_st (30 : Int)))#1 -/, (by omega) /- z_r32.hi ((v_p0_need z3) * (v_p0_st (30 : Int)))#1 -/⟩) ?_
    refine wp_jn ?_
    refine wp_if (fun c2 => ?_) (fun c2 => ?_)
    ·
      refine wp_bd1 (s_X12_flag _ (by omega) /- pre X12_flag.1#1 -/) (fun z13 q_X12_flag_1 => ?_)
      try dsimp only at q_X12_flag_1
      refine wp_bndE (fun z14 hz14 => ?_)
      refine wp_bndE (fun z15 hz15 => ?_)
      exact ih_B_X12_hungry_4 _ _ ⟨(by omega) /- B_X12_hungry_4.inv1#1 -/, (by omega) /- B_X12_hungry_4.inv2#1 -/, (by have hb := bits_rng (fun p => v_p0_st (23 + p) < v_p0_need p * v_p0_st 30) z3.toNat (by omega); rw [hz15, bits_fz i_B_X12_hungry_4_1 (by show ¬ _ < _; omega), hz14, q_X12_flag_1, shl0, or0 (by omega) (by omega)]; exact i_B_X12_hungry_4_3) /- B_X12_hungry_4.inv3#1 -/⟩ (by omega) /- B_X12_hungry_4.dec#1 -/
    ·
      refine wp_bd1 (s_X12_flag _ (by omega) /- pre X12_flag.1#2 -/) (fun z13 q_X12_flag_2 => ?_)
      try dsimp only at q_X12_flag_2
      refine wp_bndE (fun z14 hz14 => ?_)
      refine wp_bndE (fun z15 hz15 => ?_)
      exact ih_B_X12_hungry_4 _ _ ⟨(by omega) /- B_X12_hungry_4.inv1#2 -/, (by omega) /- B_X12_hungry_4.inv2#2 -/, (by rw [hz15, bits_tz i_B_X12_hungry_4_1 (by show _ < _; omega), ← i_B_X12_hungry_4_3, hz14, q_X12_flag_2]) /- B_X12_hungry_4.inv3#2 -/⟩ (by omega) /- B_X12_hungry_4.dec#2 -/

set_option maxHeartbeats 1000000 in
theorem s_X12_see (i_p0_seats : Int) (v_p0_st : (Int → Int)) (x1 : Int) (h1 : -2147483648 ≤ x1) (h2 : x1 < 2147483648) (h3 : 2 ≤ i_p0_seats) (h4 : i_p0_seats ≤ 7) (h5 : okM i_p0_seats v_p0_st) : wp (f_X12_see i_p0_seats v_p0_st x1) (fun o => (o.1 = if 0 ≤ x1 ∧ x1 < i_p0_seats then (if v_p0_st 31 = 6 then -3 else v_p0_st 31 + 1) else -1) ∧ (o.2 = if (0 ≤ x1 ∧ x1 < i_p0_seats) ∧ ¬ v_p0_st 31 = 6 then z_up (z_up v_p0_st (32 + v_p0_st 31) x1) 31 (v_p0_st 31 + 1) else v_p0_st)) := by
  unfold f_X12_see
  have ho1 := okM_1 h5
  refine wp_bd1 (s_X12_isSeat _ _ (by omega) /- pre X12_isSeat.1#1 -/ (by omega) /- pre X12_isSeat.2#1 -/ (by omega) /- pre X12_isSeat.3#1 -/ (by omega) /- pre X12_isSeat.4#1 -/) (fun z1 q_X12_isSeat_1 => ?_)
  try dsimp only at q_X12_isSeat_1
  refine wp_ck (z_r32_i.mpr ⟨(by omega) /- z_r32.lo z1#1 -/, (by omega) /- z_r32.hi z1#1 -/⟩) ?_
  refine wp_if (fun c1 => ?_) (fun c1 => ?_)
  ·
    have hk : ¬ (0 ≤ x1 ∧ x1 < i_p0_seats) := by split at q_X12_isSeat_1 <;> omega
    clear q_X12_isSeat_1
    refine wp_some ?_
    try dsimp only
    all_goals exact ⟨(by rw [if_neg hk]) /- post1#1 -/, (by rw [if_neg (by omega)]) /- post2#1 -/⟩
  ·
    have hk : 0 ≤ x1 ∧ x1 < i_p0_seats := by split at q_X12_isSeat_1 <;> omega
    clear q_X12_isSeat_1
    refine wp_ck (z_ix_i.mpr ⟨⟨(by omega) /- ix.lo (31 : Int)#1 -/, (by omega) /- ix.hi (31 : Int)#1 -/⟩, (by omega) /- ix.big (31 : Int)#1 -/⟩) ?_
    refine wp_ck (z_r32_i.mpr ⟨(by omega) /- z_r32.lo (v_p0_st (31 : Int))#1 -/, (by omega) /- z_r32.hi (v_p0_st (31 : Int))#1 -/⟩) ?_
    refine wp_if (fun c2 => ?_) (fun c2 => ?_)
    ·
      refine wp_some ?_
      try dsimp only
      all_goals exact ⟨(by rw [if_pos hk, if_pos (by assumption)]) /- post1#2 -/, (by rw [if_neg (by omega)]) /- post2#2 -/⟩
    ·
      refine wp_ck (z_ix_i.mpr ⟨⟨(by omega) /- ix.lo (31 : Int)#2 -/, (by omega) /- ix.hi (31 : Int)#2 -/⟩, (by omega) /- ix.big (31 : Int)#2 -/⟩) ?_
      refine wp_ck (z_ix_i.mpr ⟨⟨(by omega) /- ix.lo ((32 : Int) + (v_p0_st (31 : Int)))#1 -/, (by omega) /- ix.hi ((32 : Int) + (v_p0_st (31 : Int)))#1 -/⟩, (by omega) /- ix.big ((32 : Int) + (v_p0_st (31 : Int)))#1 -/⟩) ?_
      refine wp_bnd ?_
      refine wp_ck (z_ix_i.mpr ⟨⟨(by omega) /- ix.lo (31 : Int)#3 -/, (by omega) /- ix.hi (31 : Int)#3 -/⟩, (by omega) /- ix.big (31 : Int)#3 -/⟩) ?_
      refine wp_ck (z_ix_i.mpr ⟨⟨(by omega) /- ix.lo (31 : Int)#4 -/, (by omega) /- ix.hi (31 : Int)#4 -/⟩, (by omega) /- ix.big (31 : Int)#4 -/⟩) ?_
      refine wp_bnd ?_
      refine wp_ck (z_ix_i.mpr ⟨⟨(by omega) /- ix.lo (31 : Int)#5 -/, (by omega) /- ix.hi (31 : Int)#5 -/⟩, (by omega) /- ix.big (31 : Int)#5 -/⟩) ?_
      refine wp_some ?_
      try dsimp only
      all_goals exact ⟨(by rw [if_pos hk, if_neg (by assumption), z_up_s, z_up_n _ _ (by omega)]) /- post1#3 -/, (by rw [if_pos (by omega), z_up_n _ _ (by omega)]) /- post2#3 -/⟩

set_option maxHeartbeats 1000000 in
theorem s_X12_forget (v_p0_st : (Int → Int)) (x1 : Int) (n : Int) (h1 : -2147483648 ≤ x1) (h2 : x1 < 2147483648) (h3 : okM n v_p0_st) : wp (f_X12_forget v_p0_st x1) (fun o => (o.1 = if 0 ≤ x1 ∧ x1 ≤ v_p0_st 31 then v_p0_st 31 else -1) ∧ (o.2 = if 0 ≤ x1 ∧ x1 ≤ v_p0_st 31 then z_up v_p0_st 31 x1 else v_p0_st)) := by
  unfold f_X12_forget
  have ho1 := okM_1 h3
  refine wp_ck (z_r32_i.mpr ⟨(by omega) /- z_r32.lo x1#1 -/, (by omega) /- z_r32.hi x1#1 -/⟩) ?_
  refine wp_ck (z_ix_i.mpr ⟨⟨(by omega) /- ix.lo (31 : Int)#1 -/, (by omega) /- ix.hi (31 : Int)#1 -/⟩, (by omega) /- ix.big (31 : Int)#1 -/⟩) ?_
  refine wp_ck (z_r32_i.mpr ⟨(by omega) /- z_r32.lo (v_p0_st (31 : Int))#1 -/, (by omega) /- z_r32.hi (v_p0_st (31 : Int))#1 -/⟩) ?_
  refine wp_bd1 (s_X12_in _ _ _ (by omega) /- pre X12_in.1#1 -/ (by omega) /- pre X12_in.2#1 -/ (by omega) /- pre X12_in.3#1 -/ (by omega) /- pre X12_in.4#1 -/ (by omega) /- pre X12_in.5#1 -/ (by omega) /- pre X12_in.6#1 -/) (fun z3 q_X12_in_1 => ?_)
  try dsimp only at q_X12_in_1
  refine wp_ck (z_r32_i.mpr ⟨(by omega) /- z_r32.lo z3#1 -/, (by omega) /- z_r32.hi z3#1 -/⟩) ?_
  refine wp_if (fun c1 => ?_) (fun c1 => ?_)
  ·
    have hk : ¬ (0 ≤ x1 ∧ x1 ≤ v_p0_st 31) := by split at q_X12_in_1 <;> omega
    clear q_X12_in_1
    refine wp_some ?_
    try dsimp only
    all_goals exact ⟨(by rw [if_neg hk]) /- post1#1 -/, (by rw [if_neg hk]) /- post2#1 -/⟩
  ·
    have hk : 0 ≤ x1 ∧ x1 ≤ v_p0_st 31 := by split at q_X12_in_1 <;> omega
    clear q_X12_in_1
    refine wp_ck (z_ix_i.mpr ⟨⟨(by omega) /- ix.lo (31 : Int)#2 -/, (by omega) /- ix.hi (31 : Int)#2 -/⟩, (by omega) /- ix.big (31 : Int)#2 -/⟩) ?_
    refine wp_bndE (fun z5 hz5 => ?_)
    refine wp_ck (z_ix_i.mpr ⟨⟨(by omega) /- ix.lo (31 : Int)#3 -/, (by omega) /- ix.hi (31 : Int)#3 -/⟩, (by omega) /- ix.big (31 : Int)#3 -/⟩) ?_
    refine wp_bnd ?_
    refine wp_some ?_
    try dsimp only
    all_goals exact ⟨(by rw [if_pos hk]; assumption) /- post1#2 -/, (by rw [if_pos hk]) /- post2#2 -/⟩

set_option maxHeartbeats 1000000 in
theorem s_X12_copies (v_p0_st : (Int → Int)) (x1 : Int) (x2 : Int) (h1 : 0 ≤ x1) (h2 : x1 ≤ 114) (h3 : 0 ≤ x2) (h4 : x2 ≤ 114) (h5 : x1 + 38 ≤ x2 ∨ x2 + 38 ≤ x1) : wp (f_X12_copies v_p0_st x1 x2) (fun o => (∀ j, 0 ≤ j → j < 38 → o (x1 + j) = v_p0_st (x2 + j)) ∧ (∀ j, (j < x1 ∨ x1 + 38 ≤ j) → o j = v_p0_st j)) := by
  unfold f_X12_copies
  refine wp_bnd ?_
  refine wp_lq2 (fun (z2 : Int) (w3 : (Int → Int)) => (0 ≤ z2) ∧ (z2 ≤ 38) ∧ (∀ j, 0 ≤ j → j < z2 → w3 (x1 + j) = v_p0_st (x2 + j)) ∧ (∀ j, (j < x1 ∨ x1 + z2 ≤ j) → w3 j = v_p0_st j)) (fun (z2 : Int) (w3 : (Int → Int)) => (38 - z2).toNat) (fun again2 z2 w3 hI ih_B_X12_copies_2 => ?_) 1000 _ _ ⟨(by omega) /- B_X12_copies_2.init1#1 -/, (by omega) /- B_X12_copies_2.init2#1 -/, (by intro j; omega) /- B_X12_copies_2.init3#1 -/, (by intro j _; rfl) /- B_X12_copies_2.init4#1 -/⟩ (by omega) /- B_X12_copies_2.fuel#1 -/
  obtain ⟨i_B_X12_copies_2_1, i_B_X12_copies_2_2, i_B_X12_copies_2_3, i_B_X12_copies_2_4⟩ := hI
  unfold B_X12_copies_2
  refine wp_ck (z_r32_i.mpr ⟨(by omega) /- z_r32.lo z2#1 -/, (by omega) /- z_r32.hi z2#1 -/⟩) ?_
  refine wp_if (fun c1 => ?_) (fun c1 => ?_)
  ·
    refine wp_some ?_
    try dsimp only
    all_goals exact ⟨(by intro j a b; exact i_B_X12_copies_2_3 j a (by omega)) /- post1#1 -/, (by intro j a; exact i_B_X12_copies_2_4 j (by omega)) /- post2#1 -/⟩
  ·
    refine wp_ck (z_ix_i.mpr ⟨⟨(by omega) /- ix.lo (x2 + z2)#1 -/, (by omega) /- ix.hi (x2 + z2)#1 -/⟩, (by omega) /- ix.big (x2 + z2)#1 -/⟩) ?_
    refine wp_ck (z_ix_i.mpr ⟨⟨(by omega) /- ix.lo (x1 + z2)#1 -/, (by omega) /- ix.hi (x1 + z2)#1 -/⟩, (by omega) /- ix.big (x1 + z2)#1 -/⟩) ?_
    refine wp_bnd ?_
    refine wp_bndE (fun z7 hz7 => ?_)
    exact ih_B_X12_copies_2 _ _ ⟨(by omega) /- B_X12_copies_2.inv1#1 -/, (by omega) /- B_X12_copies_2.inv2#1 -/, (by intro j a b; by_cases e : j = z2; subst e; rw [z_up_s]; exact i_B_X12_copies_2_4 _ (by omega); rw [z_up_n _ _ (by omega)]; exact i_B_X12_copies_2_3 j a (by omega)) /- B_X12_copies_2.inv3#1 -/, (by intro j a; rw [z_up_n _ _ (by omega)]; exact i_B_X12_copies_2_4 j (by omega)) /- B_X12_copies_2.inv4#1 -/⟩ (by omega) /- B_X12_copies_2.dec#1 -/

set_option maxHeartbeats 1000000 in
theorem s_X12_keep (v_p0_st : (Int → Int)) (v_p0_isKept : (Int → Int)) (x1 : Int) (h1 : -2147483648 ≤ x1) (h2 : x1 < 2147483648) (h3 : ∀ j, 0 ≤ j → j < 2 → v_p0_isKept j = 0 ∨ v_p0_isKept j = 1) : wp (f_X12_keep v_p0_st v_p0_isKept x1) (fun o => (¬ (0 ≤ x1 ∧ x1 < 2) → o.1 = -1 ∧ o.2.1 = v_p0_st ∧ o.2.2 = v_p0_isKept) ∧ (0 ≤ x1 ∧ x1 < 2 → o.1 = v_p0_isKept x1 ∧ o.2.2 = z_up v_p0_isKept x1 1) ∧ (0 ≤ x1 ∧ x1 < 2 → (∀ j, 0 ≤ j → j < 38 → o.2.1 (38 * (x1 + 1) + j) = v_p0_st j) ∧ (∀ j, (j < 38 * (x1 + 1) ∨ 38 * (x1 + 1) + 38 ≤ j) → o.2.1 j = v_p0_st j))) := by
  unfold f_X12_keep
  refine wp_ck (z_r32_i.mpr ⟨(by omega) /- z_r32.lo x1#1 -/, (by omega) /- z_r32.hi x1#1 -/⟩) ?_
  refine wp_bd1 (s_X12_in _ _ _ (by omega) /- pre X12_in.1#1 -/ (by omega) /- pre X12_in.2#1 -/ (by omega) /- pre X12_in.3#1 -/ (by omega) /- pre X12_in.4#1 -/ (by omega) /- pre X12_in.5#1 -/ (by omega) /- pre X12_in.6#1 -/) (fun z2 q_X12_in_1 => ?_)
  try dsimp only at q_X12_in_1
  refine wp_ck (z_r32_i.mpr ⟨(by omega) /- z_r32.lo z2#1 -/, (by omega) /- z_r32.hi z2#1 -/⟩) ?_
  refine wp_if (fun c1 => ?_) (fun c1 => ?_)
  ·
    have hk : ¬ (0 ≤ x1 ∧ x1 < 2) := by split at q_X12_in_1 <;> omega
    clear q_X12_in_1
    refine wp_some ?_
    try dsimp only
    all_goals exact ⟨(by intro _; exact ⟨rfl, rfl, rfl⟩) /- post1#1 -/, (by intro h; exact absurd h hk) /- post2#1 -/, (by intro h; exact absurd h hk) /- post3#1 -/⟩
  ·
    have hk : 0 ≤ x1 ∧ x1 < 2 := by split at q_X12_in_1 <;> omega
    clear q_X12_in_1
    have hh := h3 x1 hk.1 hk.2
    refine wp_ck (z_ix_i.mpr ⟨⟨(by omega) /- ix.lo x1#1 -/, (by omega) /- ix.hi x1#1 -/⟩, (by omega) /- ix.big x1#1 -/⟩) ?_
    refine wp_bd1 (s_X12_flag _ (by omega) /- pre X12_flag.1#1 -/) (fun z4 q_X12_flag_1 => ?_)
    try dsimp only at q_X12_flag_1
    refine wp_bnd ?_
    refine wp_ck (z_ix_i.mpr ⟨⟨(by omega) /- ix.lo x1#2 -/, (by omega) /- ix.hi x1#2 -/⟩, (by omega) /- ix.big x1#2 -/⟩) ?_
    refine wp_ck (z_bB_i.mpr (by omega) /- bB (1 : Int)#1 -/) ?_
    refine wp_bnd ?_
    refine wp_bd1 (s_X12_copies _ _ _ (by omega) /- pre X12_copies.1#1 -/ (by omega) /- pre X12_copies.2#1 -/ (by omega) /- pre X12_copies.3#1 -/ (by omega) /- pre X12_copies.4#1 -/ (by omega) /- pre X12_copies.5#1 -/) (fun w7 q_X12_copies_1 => ?_)
    try dsimp only at q_X12_copies_1
    obtain ⟨q_X12_copies_1_1, q_X12_copies_1_2⟩ := q_X12_copies_1
    refine wp_some ?_
    try dsimp only
    all_goals exact ⟨(by intro h; exact absurd hk h) /- post1#2 -/, (by intro _; exact ⟨by first | assumption | omega, rfl⟩) /- post2#2 -/, (by intro _; refine ⟨fun j a b => ?_, q_X12_copies_1_2⟩; rw [q_X12_copies_1_1 j a b]; congr 1; omega) /- post3#2 -/⟩

set_option maxHeartbeats 1000000 in
theorem s_X12_back (v_p0_st : (Int → Int)) (v_p0_isKept : (Int → Int)) (x1 : Int) (h1 : -2147483648 ≤ x1) (h2 : x1 < 2147483648) (h3 : ∀ j, 0 ≤ j → j < 2 → v_p0_isKept j = 0 ∨ v_p0_isKept j = 1) : wp (f_X12_back v_p0_st v_p0_isKept x1) (fun o => (¬ (0 ≤ x1 ∧ x1 < 2) → o.1 = -1 ∧ o.2 = v_p0_st) ∧ (0 ≤ x1 ∧ x1 < 2 → v_p0_isKept x1 = 0 → o.1 = -2 ∧ o.2 = v_p0_st) ∧ (0 ≤ x1 ∧ x1 < 2 → ¬ v_p0_isKept x1 = 0 → o.1 = o.2 8 ∧ (∀ j, 0 ≤ j → j < 38 → o.2 j = v_p0_st (38 * (x1 + 1) + j)) ∧ (∀ j, 38 ≤ j → o.2 j = v_p0_st j))) := by
  unfold f_X12_back
  refine wp_ck (z_r32_i.mpr ⟨(by omega) /- z_r32.lo x1#1 -/, (by omega) /- z_r32.hi x1#1 -/⟩) ?_
  refine wp_bd1 (s_X12_in _ _ _ (by omega) /- pre X12_in.1#1 -/ (by omega) /- pre X12_in.2#1 -/ (by omega) /- pre X12_in.3#1 -/ (by omega) /- pre X12_in.4#1 -/ (by omega) /- pre X12_in.5#1 -/ (by omega) /- pre X12_in.6#1 -/) (fun z2 q_X12_in_1 => ?_)
  try dsimp only at q_X12_in_1
  refine wp_ck (z_r32_i.mpr ⟨(by omega) /- z_r32.lo z2#1 -/, (by omega) /- z_r32.hi z2#1 -/⟩) ?_
  refine wp_if (fun c1 => ?_) (fun c1 => ?_)
  ·
    have hk : ¬ (0 ≤ x1 ∧ x1 < 2) := by split at q_X12_in_1 <;> omega
    clear q_X12_in_1
    refine wp_some ?_
    try dsimp only
    all_goals exact ⟨(by intro _; exact ⟨rfl, rfl⟩) /- post1#1 -/, (by intro h; exact absurd h hk) /- post2#1 -/, (by intro h; exact absurd h hk) /- post3#1 -/⟩
  ·
    have hk : 0 ≤ x1 ∧ x1 < 2 := by split at q_X12_in_1 <;> omega
    clear q_X12_in_1
    have hh := h3 x1 hk.1 hk.2
    refine wp_ck (z_ix_i.mpr ⟨⟨(by omega) /- ix.lo x1#1 -/, (by omega) /- ix.hi x1#1 -/⟩, (by omega) /- ix.big x1#1 -/⟩) ?_
    refine wp_ck (z_r32_i.mpr ⟨(by omega) /- z_r32.lo (v_p0_isKept x1)#1 -/, (by omega) /- z_r32.hi (v_p0_isKept x1)#1 -/⟩) ?_
    refine wp_if (fun c2 => ?_) (fun c2 => ?_)
    ·
      refine wp_some ?_
      try dsimp only
      all_goals exact ⟨(by intro h; exact absurd hk h) /- post1#2 -/, (by intro _ _; exact ⟨rfl, rfl⟩) /- post2#2 -/, (by intro _ h; exact absurd (by assumption) h) /- post3#2 -/⟩
    ·
      refine wp_bd1 (s_X12_copies _ _ _ (by omega) /- pre X12_copies.1#1 -/ (by omega) /- pre X12_copies.2#1 -/ (by omega) /- pre X12_copies.3#1 -/ (by omega) /- pre X12_copies.4#1 -/ (by omega) /- pre X12_copies.5#1 -/) (fun w5 q_X12_copies_1 => ?_)
      try dsimp only at q_X12_copies_1
      obtain ⟨q_X12_copies_1_1, q_X12_copies_1_2⟩ := q_X12_copies_1
      refine wp_ck (z_ix_i.mpr ⟨⟨(by omega) /- ix.lo (8 : Int)#1 -/, (by omega) /- ix.hi (8 : Int)#1 -/⟩, (by omega) /- ix.big (8 : Int)#1 -/⟩) ?_
      refine wp_some ?_
      try dsimp only
      all_goals exact ⟨(by intro h; exact absurd hk h) /- post1#3 -/, (by intro _ h; exact absurd h (by assumption)) /- post2#3 -/, (by intro _ _; refine ⟨rfl, fun j a b => ?_, fun j a => q_X12_copies_1_2 j (by omega)⟩; have := q_X12_copies_1_1 j a b; rw [show (0 : Int) + j = j from by omega] at this; exact this) /- post3#3 -/⟩

set_option maxHeartbeats 1000000 in
theorem s_X12_isSheet (x0 : Int) (x1 : Int) (h1 : -2147483648 ≤ x0) (h2 : x0 < 2147483648) (h3 : -2147483648 ≤ x1) (h4 : x1 < 2147483648) : wp (f_X12_isSheet x0 x1) (fun o => (o = if (0 ≤ x0 ∧ x0 < 4) ∧ 0 ≤ x1 ∧ x1 < 3 then 1 else 0)) := by
  unfold f_X12_isSheet
  refine wp_ck (z_r32_i.mpr ⟨(by omega) /- z_r32.lo x0#1 -/, (by omega) /- z_r32.hi x0#1 -/⟩) ?_
  refine wp_bd1 (s_X12_in _ _ _ (by omega) /- pre X12_in.1#1 -/ (by omega) /- pre X12_in.2#1 -/ (by omega) /- pre X12_in.3#1 -/ (by omega) /- pre X12_in.4#1 -/ (by omega) /- pre X12_in.5#1 -/ (by omega) /- pre X12_in.6#1 -/) (fun z2 q_X12_in_1 => ?_)
  try dsimp only at q_X12_in_1
  refine wp_ck (z_r32_i.mpr ⟨(by omega) /- z_r32.lo z2#1 -/, (by omega) /- z_r32.hi z2#1 -/⟩) ?_
  refine wp_if (fun c1 => ?_) (fun c1 => ?_)
  ·
    have hk : ¬ (0 ≤ x0 ∧ x0 < 4) := by split at q_X12_in_1 <;> omega
    clear q_X12_in_1
    refine wp_some ?_
    try dsimp only
    all_goals exact (by first | rw [if_pos (by omega)] | rw [if_neg (by omega)]) /- post1#1 -/
  ·
    have hk : (0 ≤ x0 ∧ x0 < 4) := by split at q_X12_in_1 <;> omega
    clear q_X12_in_1
    refine wp_ck (z_r32_i.mpr ⟨(by omega) /- z_r32.lo x1#1 -/, (by omega) /- z_r32.hi x1#1 -/⟩) ?_
    refine wp_bd1 (s_X12_in _ _ _ (by omega) /- pre X12_in.1#2 -/ (by omega) /- pre X12_in.2#2 -/ (by omega) /- pre X12_in.3#2 -/ (by omega) /- pre X12_in.4#2 -/ (by omega) /- pre X12_in.5#2 -/ (by omega) /- pre X12_in.6#2 -/) (fun z5 q_X12_in_2 => ?_)
    try dsimp only at q_X12_in_2
    refine wp_ck (z_r32_i.mpr ⟨(by omega) /- z_r32.lo z5#1 -/, (by omega) /- z_r32.hi z5#1 -/⟩) ?_
    refine wp_if (fun c2 => ?_) (fun c2 => ?_)
    ·
      have hl : ¬ (0 ≤ x1 ∧ x1 < 3) := by split at q_X12_in_2 <;> omega
      clear q_X12_in_2
      refine wp_some ?_
      try dsimp only
      all_goals exact (by first | rw [if_pos (by omega)] | rw [if_neg (by omega)]) /- post1#2 -/
    ·
      have hl : (0 ≤ x1 ∧ x1 < 3) := by split at q_X12_in_2 <;> omega
      clear q_X12_in_2
      refine wp_some ?_
      try dsimp only
      all_goals exact (by first | rw [if_pos (by omega)] | rw [if_neg (by omega)]) /- post1#3 -/

set_option maxHeartbeats 1000000 in
theorem s_X12_sheet (v_p0_lanes : (Int → Int)) (v_p0_sizes : (Int → Int)) (v_p0_cells : (Int → Int)) (x1 : Int) (x2 : Int) (x3 : Int) (h1 : -2147483648 ≤ x1) (h2 : x1 < 2147483648) (h3 : -2147483648 ≤ x2) (h4 : x2 < 2147483648) (h5 : -2147483648 ≤ x3) (h6 : x3 < 2147483648) : wp (f_X12_sheet v_p0_lanes v_p0_sizes v_p0_cells x1 x2 x3) (fun o => (o.1 = if ((0 ≤ x1 ∧ x1 < 4) ∧ (0 ≤ x2 ∧ x2 < 3)) ∧ x3 ≤ 40 then (if x3 < 0 then -14 else 1) else -1) ∧ (o.2.1 = if ((0 ≤ x1 ∧ x1 < 4) ∧ (0 ≤ x2 ∧ x2 < 3)) ∧ 0 ≤ x3 ∧ x3 ≤ 40 then z_up v_p0_lanes x1 x2 else v_p0_lanes) ∧ (o.2.2.1 = if ((0 ≤ x1 ∧ x1 < 4) ∧ (0 ≤ x2 ∧ x2 < 3)) ∧ 0 ≤ x3 ∧ x3 ≤ 40 then z_up v_p0_sizes x1 x3 else v_p0_sizes) ∧ (∀ j, 0 ≤ j → j < 160 → o.2.2.2 j = if (((0 ≤ x1 ∧ x1 < 4) ∧ (0 ≤ x2 ∧ x2 < 3)) ∧ 0 ≤ x3 ∧ x3 ≤ 40) ∧ 40 * x1 ≤ j ∧ j < 40 * x1 + 40 then 0 else v_p0_cells j)) := by
  unfold f_X12_sheet
  refine wp_bd1 (s_X12_isSheet _ _ (by omega) /- pre X12_isSheet.1#1 -/ (by omega) /- pre X12_isSheet.2#1 -/ (by omega) /- pre X12_isSheet.3#1 -/ (by omega) /- pre X12_isSheet.4#1 -/) (fun z1 q_X12_isSheet_1 => ?_)
  try dsimp only at q_X12_isSheet_1
  refine wp_ck (z_r32_i.mpr ⟨(by omega) /- z_r32.lo z1#1 -/, (by omega) /- z_r32.hi z1#1 -/⟩) ?_
  refine wp_if (fun c1 => ?_) (fun c1 => ?_)
  ·
    have hk : ¬ ((0 ≤ x1 ∧ x1 < 4) ∧ (0 ≤ x2 ∧ x2 < 3)) := by split at q_X12_isSheet_1 <;> omega
    clear q_X12_isSheet_1
    refine wp_some ?_
    try dsimp only
    all_goals exact ⟨(by first | (rw [if_pos (by omega), if_pos (by omega)]) | (rw [if_pos (by omega), if_neg (by omega)]) | (rw [if_neg (by omega)])) /- post1#1 -/, (by first | rw [if_pos (by omega)] | rw [if_neg (by omega)]) /- post2#1 -/, (by first | rw [if_pos (by omega)] | rw [if_neg (by omega)]) /- post3#1 -/, (by intro j a b; first | (rw [if_neg (by omega)]; done) | (rw [i_B_X12_sheet_40_3 j]; split; rw [if_pos (by omega)]; rw [if_neg (by omega)])) /- post4#1 -/⟩
  ·
    have hk : (0 ≤ x1 ∧ x1 < 4) ∧ (0 ≤ x2 ∧ x2 < 3) := by split at q_X12_isSheet_1 <;> omega
    clear q_X12_isSheet_1
    refine wp_ck (z_r32_i.mpr ⟨(by omega) /- z_r32.lo x3#1 -/, (by omega) /- z_r32.hi x3#1 -/⟩) ?_
    refine wp_if (fun c2 => ?_) (fun c2 => ?_)
    ·
      refine wp_if (fun c3 => ?_) (fun c3 => ?_)
      ·
        refine wp_ck (z_ix_i.mpr ⟨⟨(by omega) /- ix.lo x1#1 -/, (by omega) /- ix.hi x1#1 -/⟩, (by omega) /- ix.big x1#1 -/⟩) ?_
        refine wp_bnd ?_
        refine wp_ck (z_ix_i.mpr ⟨⟨(by omega) /- ix.lo x1#2 -/, (by omega) /- ix.hi x1#2 -/⟩, (by omega) /- ix.big x1#2 -/⟩) ?_
        refine wp_bnd ?_
        refine wp_bnd ?_
        refine wp_lq2 (fun (z7 : Int) (w8 : (Int → Int)) => (0 ≤ z7) ∧ (z7 ≤ 40) ∧ (∀ j, w8 j = if 40 * x1 ≤ j ∧ j < 40 * x1 + z7 then 0 else v_p0_cells j)) (fun (z7 : Int) (w8 : (Int → Int)) => (40 - z7).toNat) (fun again40 z7 w8 hI ih_B_X12_sheet_40 => ?_) 1000 _ _ ⟨(by omega) /- B_X12_sheet_40.init1#1 -/, (by omega) /- B_X12_sheet_40.init2#1 -/, (by intro j; rw [if_neg (by omega)]) /- B_X12_sheet_40.init3#1 -/⟩ (by omega) /- B_X12_sheet_40.fuel#1 -/
        obtain ⟨i_B_X12_sheet_40_1, i_B_X12_sheet_40_2, i_B_X12_sheet_40_3⟩ := hI
        unfold B_X12_sheet_40
        refine wp_ck (z_r32_i.mpr ⟨(by omega) /- z_r32.lo z7#1 -/, (by omega) /- z_r32.hi z7#1 -/⟩) ?_
        refine wp_if (fun c4 => ?_) (fun c4 => ?_)
        ·
          refine wp_some ?_
          try dsimp only
          all_goals exact ⟨(by first | (rw [if_pos (by omega), if_pos (by omega)]) | (rw [if_pos (by omega), if_neg (by omega)]) | (rw [if_neg (by omega)])) /- post1#2 -/, (by first | rw [if_pos (by omega)] | rw [if_neg (by omega)]) /- post2#2 -/, (by first | rw [if_pos (by omega)] | rw [if_neg (by omega)]) /- post3#2 -/, (by intro j a b; first | (rw [if_neg (by omega)]; done) | (rw [i_B_X12_sheet_40_3 j]; split; rw [if_pos (by omega)]; rw [if_neg (by omega)])) /- post4#2 -/⟩
        ·
          refine wp_ck (z_ix_i.mpr ⟨⟨(by omega) /- ix.lo (((40 : Int) * x1) + z7)#1 -/, (by omega) /- ix.hi (((40 : Int) * x1) + z7)#1 -/⟩, (by omega) /- ix.big (((40 : Int) * x1) + z7)#1 -/⟩) ?_
          refine wp_bnd ?_
          refine wp_bndE (fun z12 hz12 => ?_)
          exact ih_B_X12_sheet_40 _ _ ⟨(by omega) /- B_X12_sheet_40.inv1#1 -/, (by omega) /- B_X12_sheet_40.inv2#1 -/, (by intro j; rw [z_up_a]; split; rw [if_pos (by omega)]; rw [i_B_X12_sheet_40_3 j]; split; rw [if_pos (by omega)]; rw [if_neg (by omega)]) /- B_X12_sheet_40.inv3#1 -/⟩ (by omega) /- B_X12_sheet_40.dec#1 -/
      ·
        refine wp_some ?_
        try dsimp only
        all_goals exact ⟨(by first | (rw [if_pos (by omega), if_pos (by omega)]) | (rw [if_pos (by omega), if_neg (by omega)]) | (rw [if_neg (by omega)])) /- post1#3 -/, (by first | rw [if_pos (by omega)] | rw [if_neg (by omega)]) /- post2#3 -/, (by first | rw [if_pos (by omega)] | rw [if_neg (by omega)]) /- post3#3 -/, (by intro j a b; first | (rw [if_neg (by omega)]; done) | (rw [i_B_X12_sheet_40_3 j]; split; rw [if_pos (by omega)]; rw [if_neg (by omega)])) /- post4#3 -/⟩
    ·
      refine wp_some ?_
      try dsimp only
      all_goals exact ⟨(by first | (rw [if_pos (by omega), if_pos (by omega)]) | (rw [if_pos (by omega), if_neg (by omega)]) | (rw [if_neg (by omega)])) /- post1#4 -/, (by first | rw [if_pos (by omega)] | rw [if_neg (by omega)]) /- post2#4 -/, (by first | rw [if_pos (by omega)] | rw [if_neg (by omega)]) /- post3#4 -/, (by intro j a b; first | (rw [if_neg (by omega)]; done) | (rw [i_B_X12_sheet_40_3 j]; split; rw [if_pos (by omega)]; rw [if_neg (by omega)])) /- post4#4 -/⟩

set_option maxHeartbeats 1000000 in
theorem s_X12_lay (v_p0_lanes : (Int → Int)) (v_p0_sizes : (Int → Int)) (v_p0_cells : (Int → Int)) (x1 : Int) (x2 : Int) (x3 : Int) (h1 : -2147483648 ≤ x1) (h2 : x1 < 2147483648) (h3 : -2147483648 ≤ x2) (h4 : x2 < 2147483648) (h5 : -2147483648 ≤ x3) (h6 : x3 < 2147483648) (h7 : ∀ j, 0 ≤ j → j < 4 → (-4 ≤ v_p0_lanes j ∧ v_p0_lanes j ≤ 2) ∧ 0 ≤ v_p0_sizes j ∧ v_p0_sizes j ≤ 40) : wp (f_X12_lay v_p0_lanes v_p0_sizes v_p0_cells x1 x2 x3) (fun o => (¬ (0 ≤ x1 ∧ x1 < 4) → o.1 = -1) ∧ ((0 ≤ x1 ∧ x1 < 4) → o.1 = if v_p0_lanes x1 = -4 then -11 else if 0 ≤ x2 ∧ x2 < v_p0_sizes x1 then 1 else -12) ∧ (o.2 = if (0 ≤ x1 ∧ x1 < 4) ∧ ¬ v_p0_lanes x1 = -4 ∧ 0 ≤ x2 ∧ x2 < v_p0_sizes x1 then z_up v_p0_cells (40 * x1 + x2) (if v_p0_lanes x1 = 0 then z_i2b x3 else if v_p0_lanes x1 = 1 then z_i2s x3 else x3) else v_p0_cells)) := by
  unfold f_X12_lay
  refine wp_bd1 (s_X12_isSheet _ _ (by omega) /- pre X12_isSheet.1#1 -/ (by omega) /- pre X12_isSheet.2#1 -/ (by omega) /- pre X12_isSheet.3#1 -/ (by omega) /- pre X12_isSheet.4#1 -/) (fun z1 q_X12_isSheet_1 => ?_)
  try dsimp only at q_X12_isSheet_1
  refine wp_ck (z_r32_i.mpr ⟨(by omega) /- z_r32.lo z1#1 -/, (by omega) /- z_r32.hi z1#1 -/⟩) ?_
  refine wp_if (fun c1 => ?_) (fun c1 => ?_)
  ·
    have hk : ¬ (0 ≤ x1 ∧ x1 < 4) := by split at q_X12_isSheet_1 <;> omega
    clear q_X12_isSheet_1
    refine wp_some ?_
    try dsimp only
    all_goals exact ⟨(by intro h; first | rfl | exact absurd hk h) /- post1#1 -/, (by intro h; first | exact absurd h hk | (rw [if_pos (by omega)]; done) | (rw [if_neg (by omega), if_pos (by omega)]; done) | (rw [if_neg (by omega), if_neg (by omega)])) /- post2#1 -/, (by first | (rw [if_neg (by omega)]; done) | (rw [if_pos (by omega), if_pos (by omega)]; done) | (rw [if_pos (by omega), if_neg (by omega), if_pos (by omega)]; done) | (rw [if_pos (by omega), if_neg (by omega), if_neg (by omega)])) /- post3#1 -/⟩
  ·
    have hk : 0 ≤ x1 ∧ x1 < 4 := by split at q_X12_isSheet_1 <;> omega
    clear q_X12_isSheet_1
    have hla := h7 x1 hk.1 hk.2
    refine wp_ck (z_ix_i.mpr ⟨⟨(by omega) /- ix.lo x1#1 -/, (by omega) /- ix.hi x1#1 -/⟩, (by omega) /- ix.big x1#1 -/⟩) ?_
    refine wp_ck (z_r32_i.mpr ⟨(by omega) /- z_r32.lo (v_p0_lanes x1)#1 -/, (by omega) /- z_r32.hi (v_p0_lanes x1)#1 -/⟩) ?_
    refine wp_if (fun c2 => ?_) (fun c2 => ?_)
    ·
      refine wp_some ?_
      try dsimp only
      all_goals exact ⟨(by intro h; first | rfl | exact absurd hk h) /- post1#2 -/, (by intro h; first | exact absurd h hk | (rw [if_pos (by omega)]; done) | (rw [if_neg (by omega), if_pos (by omega)]; done) | (rw [if_neg (by omega), if_neg (by omega)])) /- post2#2 -/, (by first | (rw [if_neg (by omega)]; done) | (rw [if_pos (by omega), if_pos (by omega)]; done) | (rw [if_pos (by omega), if_neg (by omega), if_pos (by omega)]; done) | (rw [if_pos (by omega), if_neg (by omega), if_neg (by omega)])) /- post3#2 -/⟩
    ·
      refine wp_ck (z_r32_i.mpr ⟨(by omega) /- z_r32.lo x2#1 -/, (by omega) /- z_r32.hi x2#1 -/⟩) ?_
      refine wp_ck (z_ix_i.mpr ⟨⟨(by omega) /- ix.lo x1#2 -/, (by omega) /- ix.hi x1#2 -/⟩, (by omega) /- ix.big x1#2 -/⟩) ?_
      refine wp_ck (z_r32_i.mpr ⟨(by omega) /- z_r32.lo ((v_p0_sizes x1) - (1 : Int))#1 -/, (by omega) /- z_r32.hi ((v_p0_sizes x1) - (1 : Int))#1 -/⟩) ?_
      refine wp_bd1 (s_X12_in _ _ _ (by omega) /- pre X12_in.1#1 -/ (by omega) /- pre X12_in.2#1 -/ (by omega) /- pre X12_in.3#1 -/ (by omega) /- pre X12_in.4#1 -/ (by omega) /- pre X12_in.5#1 -/ (by omega) /- pre X12_in.6#1 -/) (fun z6 q_X12_in_1 => ?_)
      try dsimp only at q_X12_in_1
      refine wp_ck (z_r32_i.mpr ⟨(by omega) /- z_r32.lo z6#1 -/, (by omega) /- z_r32.hi z6#1 -/⟩) ?_
      refine wp_if (fun c3 => ?_) (fun c3 => ?_)
      ·
        have hi : ¬ (0 ≤ x2 ∧ x2 < v_p0_sizes x1) := by split at q_X12_in_1 <;> omega
        clear q_X12_in_1
        refine wp_some ?_
        try dsimp only
        all_goals exact ⟨(by intro h; first | rfl | exact absurd hk h) /- post1#3 -/, (by intro h; first | exact absurd h hk | (rw [if_pos (by omega)]; done) | (rw [if_neg (by omega), if_pos (by omega)]; done) | (rw [if_neg (by omega), if_neg (by omega)])) /- post2#3 -/, (by first | (rw [if_neg (by omega)]; done) | (rw [if_pos (by omega), if_pos (by omega)]; done) | (rw [if_pos (by omega), if_neg (by omega), if_pos (by omega)]; done) | (rw [if_pos (by omega), if_neg (by omega), if_neg (by omega)])) /- post3#3 -/⟩
      ·
        have hi : (0 ≤ x2 ∧ x2 < v_p0_sizes x1) := by split at q_X12_in_1 <;> omega
        clear q_X12_in_1
        refine wp_ck (z_ix_i.mpr ⟨⟨(by omega) /- ix.lo x1#3 -/, (by omega) /- ix.hi x1#3 -/⟩, (by omega) /- ix.big x1#3 -/⟩) ?_
        refine wp_if (fun c4 => ?_) (fun c4 => ?_)
        ·
          refine wp_ck (z_ix_i.mpr ⟨⟨(by omega) /- ix.lo (((40 : Int) * x1) + x2)#1 -/, (by omega) /- ix.hi (((40 : Int) * x1) + x2)#1 -/⟩, (by omega) /- ix.big (((40 : Int) * x1) + x2)#1 -/⟩) ?_
          refine wp_bnd ?_
          refine wp_some ?_
          try dsimp only
          all_goals exact ⟨(by intro h; first | rfl | exact absurd hk h) /- post1#4 -/, (by intro h; first | exact absurd h hk | (rw [if_pos (by omega)]; done) | (rw [if_neg (by omega), if_pos (by omega)]; done) | (rw [if_neg (by omega), if_neg (by omega)])) /- post2#4 -/, (by first | (rw [if_neg (by omega)]; done) | (rw [if_pos (by omega), if_pos (by omega)]; done) | (rw [if_pos (by omega), if_neg (by omega), if_pos (by omega)]; done) | (rw [if_pos (by omega), if_neg (by omega), if_neg (by omega)])) /- post3#4 -/⟩
        ·
          refine wp_ck (z_ix_i.mpr ⟨⟨(by omega) /- ix.lo x1#4 -/, (by omega) /- ix.hi x1#4 -/⟩, (by omega) /- ix.big x1#4 -/⟩) ?_
          refine wp_if (fun c5 => ?_) (fun c5 => ?_)
          ·
            refine wp_ck (z_ix_i.mpr ⟨⟨(by omega) /- ix.lo (((40 : Int) * x1) + x2)#2 -/, (by omega) /- ix.hi (((40 : Int) * x1) + x2)#2 -/⟩, (by omega) /- ix.big (((40 : Int) * x1) + x2)#2 -/⟩) ?_
            refine wp_bnd ?_
            refine wp_some ?_
            try dsimp only
            all_goals exact ⟨(by intro h; first | rfl | exact absurd hk h) /- post1#5 -/, (by intro h; first | exact absurd h hk | (rw [if_pos (by omega)]; done) | (rw [if_neg (by omega), if_pos (by omega)]; done) | (rw [if_neg (by omega), if_neg (by omega)])) /- post2#5 -/, (by first | (rw [if_neg (by omega)]; done) | (rw [if_pos (by omega), if_pos (by omega)]; done) | (rw [if_pos (by omega), if_neg (by omega), if_pos (by omega)]; done) | (rw [if_pos (by omega), if_neg (by omega), if_neg (by omega)])) /- post3#5 -/⟩
          ·
            refine wp_ck (z_ix_i.mpr ⟨⟨(by omega) /- ix.lo (((40 : Int) * x1) + x2)#3 -/, (by omega) /- ix.hi (((40 : Int) * x1) + x2)#3 -/⟩, (by omega) /- ix.big (((40 : Int) * x1) + x2)#3 -/⟩) ?_
            refine wp_bnd ?_
            refine wp_some ?_
            try dsimp only
            all_goals exact ⟨(by intro h; first | rfl | exact absurd hk h) /- post1#6 -/, (by intro h; first | exact absurd h hk | (rw [if_pos (by omega)]; done) | (rw [if_neg (by omega), if_pos (by omega)]; done) | (rw [if_neg (by omega), if_neg (by omega)])) /- post2#6 -/, (by first | (rw [if_neg (by omega)]; done) | (rw [if_pos (by omega), if_pos (by omega)]; done) | (rw [if_pos (by omega), if_neg (by omega), if_pos (by omega)]; done) | (rw [if_pos (by omega), if_neg (by omega), if_neg (by omega)])) /- post3#6 -/⟩

set_option maxHeartbeats 4000000 in
theorem s_X12_read (i_p0_seats : Int) (i_p0_stirs : Int) (i_p0_torn : Int) (v_p0_st : (Int → Int)) (v_p0_brings : (Int → Int)) (v_p0_places : (Int → Int)) (v_p0_stirred : (Int → Int)) (v_p0_lanes : (Int → Int)) (v_p0_sizes : (Int → Int)) (v_p0_cells : (Int → Int)) (x1 : Int) (x2 : Int) (x3 : Int) (x4 : Int) (h1 : -2147483648 ≤ x1) (h2 : x1 < 2147483648) (h3 : -2147483648 ≤ x2) (h4 : x2 < 2147483648) (h5 : -2147483648 ≤ x3) (h6 : x3 < 2147483648) (h7 : -2147483648 ≤ x4) (h8 : x4 < 2147483648) (h9 : 2 ≤ i_p0_seats) (h10 : i_p0_seats ≤ 7) (h11 : 0 ≤ i_p0_stirs) (h12 : i_p0_stirs ≤ 5) (h13 : rowsM i_p0_seats i_p0_stirs v_p0_brings) (h14 : okM i_p0_seats v_p0_st) (h15 : ∀ j, 0 ≤ j → j < 4 → (-4 ≤ v_p0_lanes j ∧ v_p0_lanes j ≤ 2) ∧ 0 ≤ v_p0_sizes j ∧ v_p0_sizes j ≤ 40) (h16 : ∀ j, 0 ≤ j → j < 160 → -2147483648 ≤ v_p0_cells j ∧ v_p0_cells j < 2147483648) (h17 : 0 ≤ i_p0_torn) (h18 : i_p0_torn ≤ 3) : wp (f_X12_read i_p0_seats i_p0_stirs i_p0_torn v_p0_st v_p0_brings v_p0_places v_p0_stirred v_p0_lanes v_p0_sizes v_p0_cells x1 x2 x3 x4) (fun o => (-40 ≤ o.1 ∧ o.1 ≤ 20) ∧ (0 ≤ o.2.1 ∧ o.2.1 ≤ 3) ∧ (okM i_p0_seats o.2.2.1) ∧ (∀ j, 38 ≤ j → j < 114 → o.2.2.1 j = v_p0_st j) ∧ (¬ (((0 ≤ x1 ∧ x1 < 4) ∧ (0 ≤ x2 ∧ x2 < 3)) ∧ 0 ≤ x4 ∧ x4 ≤ 20) → o.1 = -1 ∧ o.2.1 = i_p0_torn ∧ (∀ j, 0 ≤ j → j < 38 → o.2.2.1 j = v_p0_st j)) ∧ ((((0 ≤ x1 ∧ x1 < 4) ∧ (0 ≤ x2 ∧ x2 < 3)) ∧ 0 ≤ x4 ∧ x4 ≤ 20) → readM i_p0_seats i_p0_stirs v_p0_brings (v_p0_lanes x1) (v_p0_sizes x1) (fun j => v_p0_cells (40 * x1 + j)) x2 x3 x4 i_p0_torn v_p0_st o.1 o.2.1 o.2.2.1)) := by
  unfold f_X12_read
  refine wp_bd1 (s_X12_isSheet _ _ (by omega) /- pre X12_isSheet.1#1 -/ (by omega) /- pre X12_isSheet.2#1 -/ (by omega) /- pre X12_isSheet.3#1 -/ (by omega) /- pre X12_isSheet.4#1 -/) (fun z1 q_X12_isSheet_1 => ?_)
  try dsimp only at q_X12_isSheet_1
  refine wp_ck (z_r32_i.mpr ⟨(by omega) /- z_r32.lo z1#1 -/, (by omega) /- z_r32.hi z1#1 -/⟩) ?_
  refine wp_if (fun c1 => ?_) (fun c1 => ?_)
  ·
    have hk : ¬ ((0 ≤ x1 ∧ x1 < 4) ∧ (0 ≤ x2 ∧ x2 < 3)) := by split at q_X12_isSheet_1 <;> omega
    clear q_X12_isSheet_1
    refine wp_some ?_
    try dsimp only
    all_goals exact ⟨(by omega) /- post1#1 -/, (by omega) /- post2#1 -/, (by first | exact h14 | exact i_B_X12_read_39_5 | (exfalso; omega)) /- post3#1 -/, (by first | exact fun _ _ _ => rfl | exact i_B_X12_read_39_6 | (exfalso; omega)) /- post4#1 -/, (by intro _; exact ⟨rfl, rfl, fun _ _ _ => rfl⟩) /- post5#1 -/, (by intro h; exact absurd h.1 hk) /- post6#1 -/⟩
  ·
    have hk : (0 ≤ x1 ∧ x1 < 4) ∧ (0 ≤ x2 ∧ x2 < 3) := by split at q_X12_isSheet_1 <;> omega
    clear q_X12_isSheet_1
    have hla := h15 x1 hk.1.1 hk.1.2
    refine wp_ck (z_r32_i.mpr ⟨(by omega) /- z_r32.lo x4#1 -/, (by omega) /- z_r32.hi x4#1 -/⟩) ?_
    refine wp_bd1 (s_X12_in _ _ _ (by omega) /- pre X12_in.1#1 -/ (by omega) /- pre X12_in.2#1 -/ (by omega) /- pre X12_in.3#1 -/ (by omega) /- pre X12_in.4#1 -/ (by omega) /- pre X12_in.5#1 -/ (by omega) /- pre X12_in.6#1 -/) (fun z4 q_X12_in_1 => ?_)
    try dsimp only at q_X12_in_1
    refine wp_ck (z_r32_i.mpr ⟨(by omega) /- z_r32.lo z4#1 -/, (by omega) /- z_r32.hi z4#1 -/⟩) ?_
    refine wp_if (fun c2 => ?_) (fun c2 => ?_)
    ·
      have hx4 : ¬ (0 ≤ x4 ∧ x4 ≤ 20) := by split at q_X12_in_1 <;> omega
      clear q_X12_in_1
      refine wp_some ?_
      try dsimp only
      all_goals exact ⟨(by omega) /- post1#2 -/, (by omega) /- post2#2 -/, (by first | exact h14 | exact i_B_X12_read_39_5 | (exfalso; omega)) /- post3#2 -/, (by first | exact fun _ _ _ => rfl | exact i_B_X12_read_39_6 | (exfalso; omega)) /- post4#2 -/, (by intro _; exact ⟨rfl, rfl, fun _ _ _ => rfl⟩) /- post5#2 -/, (by intro h; exact absurd h.2 hx4) /- post6#2 -/⟩
    ·
      have hx4 : 0 ≤ x4 ∧ x4 ≤ 20 := by split at q_X12_in_1 <;> omega
      clear q_X12_in_1
      refine wp_bd1 (s_X12_copies _ _ _ (by omega) /- pre X12_copies.1#1 -/ (by omega) /- pre X12_copies.2#1 -/ (by omega) /- pre X12_copies.3#1 -/ (by omega) /- pre X12_copies.4#1 -/ (by omega) /- pre X12_copies.5#1 -/) (fun w6 q_X12_copies_1 => ?_)
      try dsimp only at q_X12_copies_1
      obtain ⟨q_X12_copies_1_1, q_X12_copies_1_2⟩ := q_X12_copies_1
      refine wp_bnd ?_
      refine wp_bnd ?_
      refine wp_bnd ?_
      refine wp_jn ?_
      refine wp_jn ?_
      refine wp_lq6 (fun (z23 : Int) (z24 : Int) (z25 : Int) (w26 : (Int → Int)) (w27 : (Int → Int)) (w28 : (Int → Int)) => (0 ≤ z23) ∧ (z23 ≤ x4) ∧ (0 ≤ z24 ∧ z24 ≤ z23) ∧ (0 ≤ z25 ∧ z25 ≤ 3) ∧ (okM i_p0_seats w26) ∧ (∀ j, 38 ≤ j → j < 114 → w26 j = v_p0_st j) ∧ (∀ j, 0 ≤ j → j < 38 → w26 (114 + j) = v_p0_st j) ∧ ((z25 = 0 ∧ z24 = z23) ∨ (¬ z25 = 0 ∧ z23 = z24 + 1 ∧ z25 = fa (v_p0_lanes x1) (v_p0_sizes x1) x2 (x3 + z24))) ∧ (∀ j, 0 ≤ j → j < z24 → fa (v_p0_lanes x1) (v_p0_sizes x1) x2 (x3 + j) = 0 ∧ (0 ≤ v_p0_cells (40 * x1 + (x3 + j)) ∧ v_p0_cells (40 * x1 + (x3 + j)) < i_p0_stirs) ∧ v_p0_st 30 + j < 999) ∧ (daysM i_p0_seats v_p0_brings (fun j => v_p0_cells (40 * x1 + j)) x3 z24.toNat v_p0_st w26) ∧ (w26 30 = v_p0_st 30 + z24)) (fun (z23 : Int) (z24 : Int) (z25 : Int) (w26 : (Int → Int)) (w27 : (Int → Int)) (w28 : (Int → Int)) => (x4 - z23).toNat) (fun again39 z23 z24 z25 w26 w27 w28 hI ih_B_X12_read_39 => ?_) 1000 _ _ _ _ _ _ ⟨(by omega) /- B_X12_read_39.init1#1 -/, (by omega) /- B_X12_read_39.init2#1 -/, (by omega) /- B_X12_read_39.init3#1 -/, (by omega) /- B_X12_read_39.init4#1 -/, (by exact okM_cp (c := 0) (by simpa using h14) (fun j a b => by rw [q_X12_copies_1_2 j (by omega), show (0 : Int) + j = j from by omega])) /- B_X12_read_39.init5#1 -/, (by intro j a b; exact q_X12_copies_1_2 j (by omega)) /- B_X12_read_39.init6#1 -/, (by intro j a b; rw [q_X12_copies_1_1 j a b, show (0 : Int) + j = j from by omega]) /- B_X12_read_39.init7#1 -/, (by exact Or.inl ⟨rfl, rfl⟩) /- B_X12_read_39.init8#1 -/, (by intro j; omega) /- B_X12_read_39.init9#1 -/, (by show ∀ j, 0 ≤ j → j < 38 → _; intro j a b; exact q_X12_copies_1_2 j (by omega)) /- B_X12_read_39.init10#1 -/, (by rw [q_X12_copies_1_2 30 (by omega)]; omega) /- B_X12_read_39.init11#1 -/⟩ (by omega) /- B_X12_read_39.fuel#1 -/
      obtain ⟨i_B_X12_read_39_1, i_B_X12_read_39_2, i_B_X12_read_39_3, i_B_X12_read_39_4, i_B_X12_read_39_5, i_B_X12_read_39_6, i_B_X12_read_39_7, i_B_X12_read_39_8, i_B_X12_read_39_9, i_B_X12_read_39_10, i_B_X12_read_39_11⟩ := hI
      unfold B_X12_read_39
      refine wp_ck (z_r32_i.mpr ⟨(by omega) /- z_r32.lo z23#1 -/, (by omega) /- z_r32.hi z23#1 -/⟩) ?_
      refine wp_if (fun c3 => ?_) (fun c3 => ?_)
      ·
        refine wp_bnd ?_
        refine wp_some ?_
        try dsimp only
        all_goals exact ⟨(by omega) /- post1#3 -/, (by omega) /- post2#3 -/, (by first | exact h14 | exact i_B_X12_read_39_5 | (exfalso; omega)) /- post3#3 -/, (by first | exact fun _ _ _ => rfl | exact i_B_X12_read_39_6 | (exfalso; omega)) /- post4#3 -/, (by first | (exfalso; omega) | (intro h; exact absurd ⟨hk, hx4⟩ h)) /- post5#3 -/, (by 
                                        intro _
                                        refine ⟨z24, by omega, i_B_X12_read_39_9, Or.inr ⟨?_, rfl, i_B_X12_read_39_10⟩⟩
                                        rcases i_B_X12_read_39_8 with hq | hq
                                        · first | (right; omega) | (exfalso; omega)
                                        · left; exact ⟨by omega, by rw [← hq.2.2]; exact hq.1, hq.2.2⟩) /- post6#3 -/⟩
      ·
        refine wp_ck (z_r32_i.mpr ⟨(by omega) /- z_r32.lo z25#1 -/, (by omega) /- z_r32.hi z25#1 -/⟩) ?_
        refine wp_if (fun c4 => ?_) (fun c4 => ?_)
        ·
          refine wp_ck (z_r32_i.mpr ⟨(by omega) /- z_r32.lo x3#1 -/, (by omega) /- z_r32.hi x3#1 -/⟩) ?_
          refine wp_bndE (fun z33 hz33 => ?_)
          refine wp_ck (z_ix_i.mpr ⟨⟨(by omega) /- ix.lo x1#1 -/, (by omega) /- ix.hi x1#1 -/⟩, (by omega) /- ix.big x1#1 -/⟩) ?_
          refine wp_ck (z_r32_i.mpr ⟨(by omega) /- z_r32.lo (v_p0_lanes x1)#1 -/, (by omega) /- z_r32.hi (v_p0_lanes x1)#1 -/⟩) ?_
          refine wp_jn ?_
          refine wp_if (fun c5 => ?_) (fun c5 => ?_)
          ·
            refine wp_bnd ?_
            refine wp_ck (z_r32_i.mpr ⟨(by omega) /- z_r32.lo z37#1 -/, (by omega) /- z_r32.hi z37#1 -/⟩) ?_
            refine wp_if (fun c6 => ?_) (fun c6 => ?_)
            ·
              refine wp_ck (z_ix_i.mpr ⟨⟨(by omega) /- ix.lo ((((40 : Int) * x1) + x3) + z23)#1 -/, (by omega) /- ix.hi ((((40 : Int) * x1) + x3) + z23)#1 -/⟩, (by omega) /- ix.big ((((40 : Int) * x1) + x3) + z23)#1 -/⟩) ?_
              refine wp_bd4 (s_X12_day _ _ _ _ _ _ _ (by omega) /- pre X12_day.1#1 -/ (by omega) /- pre X12_day.2#1 -/ (by omega) /- pre X12_day.3#1 -/ (by omega) /- pre X12_day.4#1 -/ (by omega) /- pre X12_day.5#1 -/ (by omega) /- pre X12_day.6#1 -/ (by exact h13) /- pre X12_day.7#1 -/ (by exact i_B_X12_read_39_5) /- pre X12_day.8#1 -/) (fun z40 w41 w42 w43 q_X12_day_1 => ?_)
              try dsimp only at q_X12_day_1
              obtain ⟨q_X12_day_1_1, q_X12_day_1_2⟩ := q_X12_day_1
              refine wp_ck (z_r32_i.mpr ⟨(by omega) /- z_r32.lo z40#1 -/, (by omega) /- z_r32.hi z40#1 -/⟩) ?_
              refine wp_if (fun c7 => ?_) (fun c7 => ?_)
              ·
                refine wp_bndE (fun z45 hz45 => ?_)
                refine wp_bndE (fun z46 hz46 => ?_)
                exact ih_B_X12_read_39 _ _ _ _ _ _ ⟨(by omega) /- B_X12_read_39.inv1#1 -/, (by omega) /- B_X12_read_39.inv2#1 -/, (by omega) /- B_X12_read_39.inv3#1 -/, (by omega) /- B_X12_read_39.inv4#1 -/, (by first | exact i_B_X12_read_39_5 | exact q_X12_day_3_2 | (exfalso; omega)) /- B_X12_read_39.inv5#1 -/, (by first | exact i_B_X12_read_39_6 | (exfalso; omega) | (intro j a b; rw [hkp j (by omega)]; exact i_B_X12_read_39_6 j a b)) /- B_X12_read_39.inv6#1 -/, (by first | exact i_B_X12_read_39_7 | (exfalso; omega) | (intro j a b; rw [hkp _ (by omega)]; exact i_B_X12_read_39_7 j a b)) /- B_X12_read_39.inv7#1 -/, (by first | (exfalso; omega) | (right; exact ⟨by decide, by omega, by unfold fa; first | (rw [if_pos (by omega)]; done) | (rw [if_neg (by omega), if_pos (by omega), if_neg (by first | (have := cmp_lt.mp c9; omega) | (have : ¬ z33 < v_p0_sizes x1 := fun h => c12 (cmp_lt.mpr h); omega))]; done) | rw [if_neg (by omega), if_neg (by omega)]⟩)) /- B_X12_read_39.inv8#1 -/, (by first | (exfalso; omega) | exact i_B_X12_read_39_9) /- B_X12_read_39.inv9#1 -/, (by first | (exfalso; omega) | exact i_B_X12_read_39_10) /- B_X12_read_39.inv10#1 -/, (by first | (exfalso; omega) | exact i_B_X12_read_39_11) /- B_X12_read_39.inv11#1 -/⟩ (by omega) /- B_X12_read_39.dec#1 -/
              ·
                refine wp_bd1 (s_X12_copies _ _ _ (by omega) /- pre X12_copies.1#2 -/ (by omega) /- pre X12_copies.2#2 -/ (by omega) /- pre X12_copies.3#2 -/ (by omega) /- pre X12_copies.4#2 -/ (by omega) /- pre X12_copies.5#2 -/) (fun w22 q_X12_copies_2 => ?_)
                try dsimp only at q_X12_copies_2
                obtain ⟨q_X12_copies_2_1, q_X12_copies_2_2⟩ := q_X12_copies_2
                refine wp_some ?_
                try dsimp only
                all_goals exact ⟨(by omega) /- post1#4 -/, (by omega) /- post2#4 -/, (by first | exact h14 | exact i_B_X12_read_39_5 | (exfalso; omega)) /- post3#4 -/, (by first | exact fun _ _ _ => rfl | exact i_B_X12_read_39_6 | (exfalso; omega)) /- post4#4 -/, (by first | (exfalso; omega) | (intro h; exact absurd ⟨hk, hx4⟩ h)) /- post5#4 -/, (by exfalso; omega) /- post6#4 -/⟩
            ·
              refine wp_bndE (fun z39 hz39 => ?_)
              exact ih_B_X12_read_39 _ _ _ _ _ _ ⟨(by omega) /- B_X12_read_39.inv1#2 -/, (by omega) /- B_X12_read_39.inv2#2 -/, (by omega) /- B_X12_read_39.inv3#2 -/, (by omega) /- B_X12_read_39.inv4#2 -/, (by first | exact i_B_X12_read_39_5 | exact q_X12_day_3_2 | (exfalso; omega)) /- B_X12_read_39.inv5#2 -/, (by first | exact i_B_X12_read_39_6 | (exfalso; omega) | (intro j a b; rw [hkp j (by omega)]; exact i_B_X12_read_39_6 j a b)) /- B_X12_read_39.inv6#2 -/, (by first | exact i_B_X12_read_39_7 | (exfalso; omega) | (intro j a b; rw [hkp _ (by omega)]; exact i_B_X12_read_39_7 j a b)) /- B_X12_read_39.inv7#2 -/, (by first | (exfalso; omega) | (right; exact ⟨by decide, by omega, by unfold fa; first | (rw [if_pos (by omega)]; done) | (rw [if_neg (by omega), if_pos (by omega), if_neg (by first | (have := cmp_lt.mp c9; omega) | (have : ¬ z33 < v_p0_sizes x1 := fun h => c12 (cmp_lt.mpr h); omega))]; done) | rw [if_neg (by omega), if_neg (by omega)]⟩)) /- B_X12_read_39.inv8#2 -/, (by first | (exfalso; omega) | exact i_B_X12_read_39_9) /- B_X12_read_39.inv9#2 -/, (by first | (exfalso; omega) | exact i_B_X12_read_39_10) /- B_X12_read_39.inv10#2 -/, (by first | (exfalso; omega) | exact i_B_X12_read_39_11) /- B_X12_read_39.inv11#2 -/⟩ (by omega) /- B_X12_read_39.dec#2 -/
          ·
            refine wp_ck (z_ix_i.mpr ⟨⟨(by omega) /- ix.lo x1#2 -/, (by omega) /- ix.hi x1#2 -/⟩, (by omega) /- ix.big x1#2 -/⟩) ?_
            refine wp_ck (z_r32_i.mpr ⟨(by omega) /- z_r32.lo x2#1 -/, (by omega) /- z_r32.hi x2#1 -/⟩) ?_
            refine wp_if (fun c8 => ?_) (fun c8 => ?_)
            ·
              refine wp_ck (z_r64_i.mpr ⟨(by omega) /- z_r64.lo z33#1 -/, (by omega) /- z_r64.hi z33#1 -/⟩) ?_
              refine wp_ck (z_r32_cmp _ _) ?_
              refine wp_if (fun c9 => ?_) (fun c9 => ?_)
              ·
                refine wp_bnd ?_
                refine wp_ck (z_r32_i.mpr ⟨(by omega) /- z_r32.lo z37#2 -/, (by omega) /- z_r32.hi z37#2 -/⟩) ?_
                refine wp_if (fun c10 => ?_) (fun c10 => ?_)
                ·
                  refine wp_ck (z_ix_i.mpr ⟨⟨(by omega) /- ix.lo ((((40 : Int) * x1) + x3) + z23)#2 -/, (by omega) /- ix.hi ((((40 : Int) * x1) + x3) + z23)#2 -/⟩, (by omega) /- ix.big ((((40 : Int) * x1) + x3) + z23)#2 -/⟩) ?_
                  refine wp_bd4 (s_X12_day _ _ _ _ _ _ _ (by omega) /- pre X12_day.1#2 -/ (by omega) /- pre X12_day.2#2 -/ (by omega) /- pre X12_day.3#2 -/ (by omega) /- pre X12_day.4#2 -/ (by omega) /- pre X12_day.5#2 -/ (by omega) /- pre X12_day.6#2 -/ (by exact h13) /- pre X12_day.7#2 -/ (by exact i_B_X12_read_39_5) /- pre X12_day.8#2 -/) (fun z40 w41 w42 w43 q_X12_day_2 => ?_)
                  try dsimp only at q_X12_day_2
                  obtain ⟨q_X12_day_2_1, q_X12_day_2_2⟩ := q_X12_day_2
                  refine wp_ck (z_r32_i.mpr ⟨(by omega) /- z_r32.lo z40#2 -/, (by omega) /- z_r32.hi z40#2 -/⟩) ?_
                  refine wp_if (fun c11 => ?_) (fun c11 => ?_)
                  ·
                    refine wp_bndE (fun z45 hz45 => ?_)
                    refine wp_bndE (fun z46 hz46 => ?_)
                    exact ih_B_X12_read_39 _ _ _ _ _ _ ⟨(by omega) /- B_X12_read_39.inv1#3 -/, (by omega) /- B_X12_read_39.inv2#3 -/, (by omega) /- B_X12_read_39.inv3#3 -/, (by omega) /- B_X12_read_39.inv4#3 -/, (by first | exact i_B_X12_read_39_5 | exact q_X12_day_3_2 | (exfalso; omega)) /- B_X12_read_39.inv5#3 -/, (by first | exact i_B_X12_read_39_6 | (exfalso; omega) | (intro j a b; rw [hkp j (by omega)]; exact i_B_X12_read_39_6 j a b)) /- B_X12_read_39.inv6#3 -/, (by first | exact i_B_X12_read_39_7 | (exfalso; omega) | (intro j a b; rw [hkp _ (by omega)]; exact i_B_X12_read_39_7 j a b)) /- B_X12_read_39.inv7#3 -/, (by first | (exfalso; omega) | (right; exact ⟨by decide, by omega, by unfold fa; first | (rw [if_pos (by omega)]; done) | (rw [if_neg (by omega), if_pos (by omega), if_neg (by first | (have := cmp_lt.mp c9; omega) | (have : ¬ z33 < v_p0_sizes x1 := fun h => c12 (cmp_lt.mpr h); omega))]; done) | rw [if_neg (by omega), if_neg (by omega)]⟩)) /- B_X12_read_39.inv8#3 -/, (by first | (exfalso; omega) | exact i_B_X12_read_39_9) /- B_X12_read_39.inv9#3 -/, (by first | (exfalso; omega) | exact i_B_X12_read_39_10) /- B_X12_read_39.inv10#3 -/, (by first | (exfalso; omega) | exact i_B_X12_read_39_11) /- B_X12_read_39.inv11#3 -/⟩ (by omega) /- B_X12_read_39.dec#3 -/
                  ·
                    refine wp_bd1 (s_X12_copies _ _ _ (by omega) /- pre X12_copies.1#3 -/ (by omega) /- pre X12_copies.2#3 -/ (by omega) /- pre X12_copies.3#3 -/ (by omega) /- pre X12_copies.4#3 -/ (by omega) /- pre X12_copies.5#3 -/) (fun w22 q_X12_copies_3 => ?_)
                    try dsimp only at q_X12_copies_3
                    obtain ⟨q_X12_copies_3_1, q_X12_copies_3_2⟩ := q_X12_copies_3
                    refine wp_some ?_
                    try dsimp only
                    all_goals exact ⟨(by omega) /- post1#5 -/, (by omega) /- post2#5 -/, (by first | exact h14 | exact i_B_X12_read_39_5 | (exfalso; omega)) /- post3#5 -/, (by first | exact fun _ _ _ => rfl | exact i_B_X12_read_39_6 | (exfalso; omega)) /- post4#5 -/, (by first | (exfalso; omega) | (intro h; exact absurd ⟨hk, hx4⟩ h)) /- post5#5 -/, (by exfalso; omega) /- post6#5 -/⟩
                ·
                  refine wp_bndE (fun z39 hz39 => ?_)
                  exact ih_B_X12_read_39 _ _ _ _ _ _ ⟨(by omega) /- B_X12_read_39.inv1#4 -/, (by omega) /- B_X12_read_39.inv2#4 -/, (by omega) /- B_X12_read_39.inv3#4 -/, (by omega) /- B_X12_read_39.inv4#4 -/, (by first | exact i_B_X12_read_39_5 | exact q_X12_day_3_2 | (exfalso; omega)) /- B_X12_read_39.inv5#4 -/, (by first | exact i_B_X12_read_39_6 | (exfalso; omega) | (intro j a b; rw [hkp j (by omega)]; exact i_B_X12_read_39_6 j a b)) /- B_X12_read_39.inv6#4 -/, (by first | exact i_B_X12_read_39_7 | (exfalso; omega) | (intro j a b; rw [hkp _ (by omega)]; exact i_B_X12_read_39_7 j a b)) /- B_X12_read_39.inv7#4 -/, (by first | (exfalso; omega) | (right; exact ⟨by decide, by omega, by unfold fa; first | (rw [if_pos (by omega)]; done) | (rw [if_neg (by omega), if_pos (by omega), if_neg (by first | (have := cmp_lt.mp c9; omega) | (have : ¬ z33 < v_p0_sizes x1 := fun h => c12 (cmp_lt.mpr h); omega))]; done) | rw [if_neg (by omega), if_neg (by omega)]⟩)) /- B_X12_read_39.inv8#4 -/, (by first | (exfalso; omega) | exact i_B_X12_read_39_9) /- B_X12_read_39.inv9#4 -/, (by first | (exfalso; omega) | exact i_B_X12_read_39_10) /- B_X12_read_39.inv10#4 -/, (by first | (exfalso; omega) | exact i_B_X12_read_39_11) /- B_X12_read_39.inv11#4 -/⟩ (by omega) /- B_X12_read_39.dec#4 -/
              ·
                have hc11 : ¬ z33 < 0 := fun h => c9 (cmp_lt.mpr h)
                refine wp_ck (z_ix_i.mpr ⟨⟨(by omega) /- ix.lo x1#3 -/, (by omega) /- ix.hi x1#3 -/⟩, (by omega) /- ix.big x1#3 -/⟩) ?_
                refine wp_ck (z_r32_i.mpr ⟨(by omega) /- z_r32.lo (v_p0_sizes x1)#1 -/, (by omega) /- z_r32.hi (v_p0_sizes x1)#1 -/⟩) ?_
                refine wp_ck (z_r64_i.mpr ⟨(by omega) /- z_r64.lo (v_p0_sizes x1)#1 -/, (by omega) /- z_r64.hi (v_p0_sizes x1)#1 -/⟩) ?_
                refine wp_ck (z_r32_cmp _ _) ?_
                refine wp_if (fun c12 => ?_) (fun c12 => ?_)
                ·
                  have hc12 := cmp_lt.mp c12
                  refine wp_bnd ?_
                  refine wp_ck (z_r32_i.mpr ⟨(by omega) /- z_r32.lo z37#3 -/, (by omega) /- z_r32.hi z37#3 -/⟩) ?_
                  refine wp_if (fun c13 => ?_) (fun c13 => ?_)
                  ·
                    refine wp_ck (z_ix_i.mpr ⟨⟨(by omega) /- ix.lo ((((40 : Int) * x1) + x3) + z23)#3 -/, (by omega) /- ix.hi ((((40 : Int) * x1) + x3) + z23)#3 -/⟩, (by omega) /- ix.big ((((40 : Int) * x1) + x3) + z23)#3 -/⟩) ?_
                    have hce := h16 (40 * x1 + x3 + z23) (by omega) (by omega)
                    refine wp_bd4 (s_X12_day _ _ _ _ _ _ _ (by omega) /- pre X12_day.1#3 -/ (by omega) /- pre X12_day.2#3 -/ (by omega) /- pre X12_day.3#3 -/ (by omega) /- pre X12_day.4#3 -/ (by omega) /- pre X12_day.5#3 -/ (by omega) /- pre X12_day.6#3 -/ (by exact h13) /- pre X12_day.7#3 -/ (by exact i_B_X12_read_39_5) /- pre X12_day.8#3 -/) (fun z40 w41 w42 w43 q_X12_day_3 => ?_)
                    try dsimp only at q_X12_day_3
                    obtain ⟨q_X12_day_3_1, q_X12_day_3_2⟩ := q_X12_day_3
                    have he0 := i_B_X12_read_39_11
                    have hdy : 0 ≤ z40 → (0 ≤ v_p0_cells ((40 * x1 + x3) + z23) ∧ v_p0_cells ((40 * x1 + x3) + z23) < i_p0_stirs) ∧ w26 30 < 999 ∧ dayM i_p0_seats (fun i => v_p0_brings (7 * v_p0_cells ((40 * x1 + x3) + z23) + i)) w26 w41 := by
                      intro h; rcases q_X12_day_3_1 with hq | hq | hq
                      · omega
                      · omega
                      · exact ⟨hq.1, hq.2.1, hq.2.2.2⟩
                    have hdn : z40 < 0 → ¬ ((0 ≤ v_p0_cells ((40 * x1 + x3) + z23) ∧ v_p0_cells ((40 * x1 + x3) + z23) < i_p0_stirs) ∧ w26 30 < 999) := by
                      intro h; rcases q_X12_day_3_1 with hq | hq | hq
                      · exact fun y => hq.1 y.1
                      · omega
                      · have := hq.2.2.1; have := (okM_1 q_X12_day_3_2).2.1; omega
                    have hci : 40 * x1 + x3 + z23 = 40 * x1 + (x3 + z23) := by omega
                    rw [hci] at hdy hdn
                    have hkp : ∀ j, 31 ≤ j → w41 j = w26 j := by
                      intro j a; rcases q_X12_day_3_1 with hq | hq | hq
                      · rw [hq.2.2]
                      · rw [hq.2.2.2]
                      · exact hq.2.2.2.2 j (Or.inr a)
                    have ho2 := okM_1 q_X12_day_3_2
                    have hrr : -3 ≤ z40 ∧ z40 < 7 := by
                      rcases q_X12_day_3_1 with hq | hq | hq
                      · omega
                      · omega
                      · have := hq.2.2.1; omega
                    clear q_X12_day_3_1
                    refine wp_ck (z_r32_i.mpr ⟨(by omega) /- z_r32.lo z40#3 -/, (by omega) /- z_r32.hi z40#3 -/⟩) ?_
                    refine wp_if (fun c14 => ?_) (fun c14 => ?_)
                    ·
                      refine wp_bndE (fun z45 hz45 => ?_)
                      refine wp_bndE (fun z46 hz46 => ?_)
                      exact ih_B_X12_read_39 _ _ _ _ _ _ ⟨(by omega) /- B_X12_read_39.inv1#5 -/, (by omega) /- B_X12_read_39.inv2#5 -/, (by omega) /- B_X12_read_39.inv3#5 -/, (by omega) /- B_X12_read_39.inv4#5 -/, (by first | exact i_B_X12_read_39_5 | exact q_X12_day_3_2 | (exfalso; omega)) /- B_X12_read_39.inv5#5 -/, (by first | exact i_B_X12_read_39_6 | (exfalso; omega) | (intro j a b; rw [hkp j (by omega)]; exact i_B_X12_read_39_6 j a b)) /- B_X12_read_39.inv6#5 -/, (by first | exact i_B_X12_read_39_7 | (exfalso; omega) | (intro j a b; rw [hkp _ (by omega)]; exact i_B_X12_read_39_7 j a b)) /- B_X12_read_39.inv7#5 -/, (by left; exact ⟨rfl, by omega⟩) /- B_X12_read_39.inv8#5 -/, (by 
                                        intro j a b
                                        have y := hdy (by omega)
                                        by_cases e : j = z24
                                        · have e2 : z24 = z23 := by omega
                                          rw [e, e2]
                                          exact ⟨by unfold fa; rw [if_neg (by omega), if_pos (by omega), if_pos (by omega)], y.1, by omega⟩
                                        · exact i_B_X12_read_39_9 j a (by omega)) /- B_X12_read_39.inv9#5 -/, (by 
                                        have y := hdy (by omega)
                                        have e2 : z24 = z23 := by omega
                                        rw [hz45, show (z24 + 1).toNat = z24.toNat + 1 from by omega]
                                        refine ⟨w26, i_B_X12_read_39_10, ?_⟩
                                        rw [show ((z24.toNat : Nat) : Int) = z23 from by omega]
                                        exact y.2.2) /- B_X12_read_39.inv10#5 -/, (by have y := (hdy (by omega)).2.2.1.2.2.1; rw [y, i_B_X12_read_39_11, hz45]; omega) /- B_X12_read_39.inv11#5 -/⟩ (by omega) /- B_X12_read_39.dec#5 -/
                    ·
                      refine wp_bd1 (s_X12_copies _ _ _ (by omega) /- pre X12_copies.1#4 -/ (by omega) /- pre X12_copies.2#4 -/ (by omega) /- pre X12_copies.3#4 -/ (by omega) /- pre X12_copies.4#4 -/ (by omega) /- pre X12_copies.5#4 -/) (fun w22 q_X12_copies_4 => ?_)
                      try dsimp only at q_X12_copies_4
                      obtain ⟨q_X12_copies_4_1, q_X12_copies_4_2⟩ := q_X12_copies_4
                      refine wp_some ?_
                      try dsimp only
                      all_goals exact ⟨(by omega) /- post1#6 -/, (by omega) /- post2#6 -/, (by exact okM_cp (c := 0) (by simpa using h14) (fun j a b => by have e := q_X12_copies_4_1 j a b; rw [show (0 : Int) + j = j from by omega] at e ⊢; rw [e, hkp _ (by omega), i_B_X12_read_39_7 j a b])) /- post3#6 -/, (by intro j a b; rw [q_X12_copies_4_2 j (by omega), hkp j (by omega)]; exact i_B_X12_read_39_6 j a b) /- post4#6 -/, (by first | (exfalso; omega) | (intro h; exact absurd ⟨hk, hx4⟩ h)) /- post5#6 -/, (by 
                                        intro _
                                        have e2 : z24 = z23 := by omega
                                        refine ⟨z24, by omega, i_B_X12_read_39_9, Or.inl ⟨by omega, ?_, ?_, by omega, rfl, fun j a b => ?_⟩⟩
                                        · rw [e2]; exact (by unfold fa; rw [if_neg (by omega), if_pos (by omega), if_pos (by omega)])
                                        · rw [e2]; intro y; exact hdn (by omega) ⟨y.1, by omega⟩
                                        · have e := q_X12_copies_4_1 j a b
                                          rw [show (0 : Int) + j = j from by omega] at e
                                          rw [e, hkp _ (by omega), i_B_X12_read_39_7 j a b]) /- post6#6 -/⟩
                  ·
                    refine wp_bndE (fun z39 hz39 => ?_)
                    exact ih_B_X12_read_39 _ _ _ _ _ _ ⟨(by omega) /- B_X12_read_39.inv1#6 -/, (by omega) /- B_X12_read_39.inv2#6 -/, (by omega) /- B_X12_read_39.inv3#6 -/, (by omega) /- B_X12_read_39.inv4#6 -/, (by first | exact i_B_X12_read_39_5 | exact q_X12_day_3_2 | (exfalso; omega)) /- B_X12_read_39.inv5#6 -/, (by first | exact i_B_X12_read_39_6 | (exfalso; omega) | (intro j a b; rw [hkp j (by omega)]; exact i_B_X12_read_39_6 j a b)) /- B_X12_read_39.inv6#6 -/, (by first | exact i_B_X12_read_39_7 | (exfalso; omega) | (intro j a b; rw [hkp _ (by omega)]; exact i_B_X12_read_39_7 j a b)) /- B_X12_read_39.inv7#6 -/, (by first | (exfalso; omega) | (right; exact ⟨by decide, by omega, by unfold fa; first | (rw [if_pos (by omega)]; done) | (rw [if_neg (by omega), if_pos (by omega), if_neg (by first | (have := cmp_lt.mp c9; omega) | (have : ¬ z33 < v_p0_sizes x1 := fun h => c12 (cmp_lt.mpr h); omega))]; done) | rw [if_neg (by omega), if_neg (by omega)]⟩)) /- B_X12_read_39.inv8#6 -/, (by first | (exfalso; omega) | exact i_B_X12_read_39_9) /- B_X12_read_39.inv9#6 -/, (by first | (exfalso; omega) | exact i_B_X12_read_39_10) /- B_X12_read_39.inv10#6 -/, (by first | (exfalso; omega) | exact i_B_X12_read_39_11) /- B_X12_read_39.inv11#6 -/⟩ (by omega) /- B_X12_read_39.dec#6 -/
                ·
                  refine wp_bnd ?_
                  refine wp_ck (z_r32_i.mpr ⟨(by omega) /- z_r32.lo z37#4 -/, (by omega) /- z_r32.hi z37#4 -/⟩) ?_
                  refine wp_if (fun c15 => ?_) (fun c15 => ?_)
                  ·
                    refine wp_ck (z_ix_i.mpr ⟨⟨(by omega) /- ix.lo ((((40 : Int) * x1) + x3) + z23)#4 -/, (by omega) /- ix.hi ((((40 : Int) * x1) + x3) + z23)#4 -/⟩, (by omega) /- ix.big ((((40 : Int) * x1) + x3) + z23)#4 -/⟩) ?_
                    refine wp_bd4 (s_X12_day _ _ _ _ _ _ _ (by omega) /- pre X12_day.1#4 -/ (by omega) /- pre X12_day.2#4 -/ (by omega) /- pre X12_day.3#4 -/ (by omega) /- pre X12_day.4#4 -/ (by omega) /- pre X12_day.5#4 -/ (by omega) /- pre X12_day.6#4 -/ (by exact h13) /- pre X12_day.7#4 -/ (by exact i_B_X12_read_39_5) /- pre X12_day.8#4 -/) (fun z40 w41 w42 w43 q_X12_day_4 => ?_)
                    try dsimp only at q_X12_day_4
                    obtain ⟨q_X12_day_4_1, q_X12_day_4_2⟩ := q_X12_day_4
                    refine wp_ck (z_r32_i.mpr ⟨(by omega) /- z_r32.lo z40#4 -/, (by omega) /- z_r32.hi z40#4 -/⟩) ?_
                    refine wp_if (fun c16 => ?_) (fun c16 => ?_)
                    ·
                      refine wp_bndE (fun z45 hz45 => ?_)
                      refine wp_bndE (fun z46 hz46 => ?_)
                      exact ih_B_X12_read_39 _ _ _ _ _ _ ⟨(by omega) /- B_X12_read_39.inv1#7 -/, (by omega) /- B_X12_read_39.inv2#7 -/, (by omega) /- B_X12_read_39.inv3#7 -/, (by omega) /- B_X12_read_39.inv4#7 -/, (by first | exact i_B_X12_read_39_5 | exact q_X12_day_3_2 | (exfalso; omega)) /- B_X12_read_39.inv5#7 -/, (by first | exact i_B_X12_read_39_6 | (exfalso; omega) | (intro j a b; rw [hkp j (by omega)]; exact i_B_X12_read_39_6 j a b)) /- B_X12_read_39.inv6#7 -/, (by first | exact i_B_X12_read_39_7 | (exfalso; omega) | (intro j a b; rw [hkp _ (by omega)]; exact i_B_X12_read_39_7 j a b)) /- B_X12_read_39.inv7#7 -/, (by first | (exfalso; omega) | (right; exact ⟨by decide, by omega, by unfold fa; first | (rw [if_pos (by omega)]; done) | (rw [if_neg (by omega), if_pos (by omega), if_neg (by first | (have := cmp_lt.mp c9; omega) | (have : ¬ z33 < v_p0_sizes x1 := fun h => c12 (cmp_lt.mpr h); omega))]; done) | rw [if_neg (by omega), if_neg (by omega)]⟩)) /- B_X12_read_39.inv8#7 -/, (by first | (exfalso; omega) | exact i_B_X12_read_39_9) /- B_X12_read_39.inv9#7 -/, (by first | (exfalso; omega) | exact i_B_X12_read_39_10) /- B_X12_read_39.inv10#7 -/, (by first | (exfalso; omega) | exact i_B_X12_read_39_11) /- B_X12_read_39.inv11#7 -/⟩ (by omega) /- B_X12_read_39.dec#7 -/
                    ·
                      refine wp_bd1 (s_X12_copies _ _ _ (by omega) /- pre X12_copies.1#5 -/ (by omega) /- pre X12_copies.2#5 -/ (by omega) /- pre X12_copies.3#5 -/ (by omega) /- pre X12_copies.4#5 -/ (by omega) /- pre X12_copies.5#5 -/) (fun w22 q_X12_copies_5 => ?_)
                      try dsimp only at q_X12_copies_5
                      obtain ⟨q_X12_copies_5_1, q_X12_copies_5_2⟩ := q_X12_copies_5
                      refine wp_some ?_
                      try dsimp only
                      all_goals exact ⟨(by omega) /- post1#7 -/, (by omega) /- post2#7 -/, (by first | exact h14 | exact i_B_X12_read_39_5 | (exfalso; omega)) /- post3#7 -/, (by first | exact fun _ _ _ => rfl | exact i_B_X12_read_39_6 | (exfalso; omega)) /- post4#7 -/, (by first | (exfalso; omega) | (intro h; exact absurd ⟨hk, hx4⟩ h)) /- post5#7 -/, (by exfalso; omega) /- post6#7 -/⟩
                  ·
                    refine wp_bndE (fun z39 hz39 => ?_)
                    exact ih_B_X12_read_39 _ _ _ _ _ _ ⟨(by omega) /- B_X12_read_39.inv1#8 -/, (by omega) /- B_X12_read_39.inv2#8 -/, (by omega) /- B_X12_read_39.inv3#8 -/, (by omega) /- B_X12_read_39.inv4#8 -/, (by first | exact i_B_X12_read_39_5 | exact q_X12_day_3_2 | (exfalso; omega)) /- B_X12_read_39.inv5#8 -/, (by first | exact i_B_X12_read_39_6 | (exfalso; omega) | (intro j a b; rw [hkp j (by omega)]; exact i_B_X12_read_39_6 j a b)) /- B_X12_read_39.inv6#8 -/, (by first | exact i_B_X12_read_39_7 | (exfalso; omega) | (intro j a b; rw [hkp _ (by omega)]; exact i_B_X12_read_39_7 j a b)) /- B_X12_read_39.inv7#8 -/, (by first | (exfalso; omega) | (right; exact ⟨by decide, by omega, by unfold fa; first | (rw [if_pos (by omega)]; done) | (rw [if_neg (by omega), if_pos (by omega), if_neg (by first | (have := cmp_lt.mp c9; omega) | (have : ¬ z33 < v_p0_sizes x1 := fun h => c12 (cmp_lt.mpr h); omega))]; done) | rw [if_neg (by omega), if_neg (by omega)]⟩)) /- B_X12_read_39.inv8#8 -/, (by first | (exfalso; omega) | exact i_B_X12_read_39_9) /- B_X12_read_39.inv9#8 -/, (by first | (exfalso; omega) | exact i_B_X12_read_39_10) /- B_X12_read_39.inv10#8 -/, (by first | (exfalso; omega) | exact i_B_X12_read_39_11) /- B_X12_read_39.inv11#8 -/⟩ (by omega) /- B_X12_read_39.dec#8 -/
            ·
              refine wp_bnd ?_
              refine wp_ck (z_r32_i.mpr ⟨(by omega) /- z_r32.lo z37#5 -/, (by omega) /- z_r32.hi z37#5 -/⟩) ?_
              refine wp_if (fun c17 => ?_) (fun c17 => ?_)
              ·
                refine wp_ck (z_ix_i.mpr ⟨⟨(by omega) /- ix.lo ((((40 : Int) * x1) + x3) + z23)#5 -/, (by omega) /- ix.hi ((((40 : Int) * x1) + x3) + z23)#5 -/⟩, (by omega) /- ix.big ((((40 : Int) * x1) + x3) + z23)#5 -/⟩) ?_
                refine wp_bd4 (s_X12_day _ _ _ _ _ _ _ (by omega) /- pre X12_day.1#5 -/ (by omega) /- pre X12_day.2#5 -/ (by omega) /- pre X12_day.3#5 -/ (by omega) /- pre X12_day.4#5 -/ (by omega) /- pre X12_day.5#5 -/ (by omega) /- pre X12_day.6#5 -/ (by exact h13) /- pre X12_day.7#5 -/ (by exact i_B_X12_read_39_5) /- pre X12_day.8#5 -/) (fun z40 w41 w42 w43 q_X12_day_5 => ?_)
                try dsimp only at q_X12_day_5
                obtain ⟨q_X12_day_5_1, q_X12_day_5_2⟩ := q_X12_day_5
                refine wp_ck (z_r32_i.mpr ⟨(by omega) /- z_r32.lo z40#5 -/, (by omega) /- z_r32.hi z40#5 -/⟩) ?_
                refine wp_if (fun c18 => ?_) (fun c18 => ?_)
                ·
                  refine wp_bndE (fun z45 hz45 => ?_)
                  refine wp_bndE (fun z46 hz46 => ?_)
                  exact ih_B_X12_read_39 _ _ _ _ _ _ ⟨(by omega) /- B_X12_read_39.inv1#9 -/, (by omega) /- B_X12_read_39.inv2#9 -/, (by omega) /- B_X12_read_39.inv3#9 -/, (by omega) /- B_X12_read_39.inv4#9 -/, (by first | exact i_B_X12_read_39_5 | exact q_X12_day_3_2 | (exfalso; omega)) /- B_X12_read_39.inv5#9 -/, (by first | exact i_B_X12_read_39_6 | (exfalso; omega) | (intro j a b; rw [hkp j (by omega)]; exact i_B_X12_read_39_6 j a b)) /- B_X12_read_39.inv6#9 -/, (by first | exact i_B_X12_read_39_7 | (exfalso; omega) | (intro j a b; rw [hkp _ (by omega)]; exact i_B_X12_read_39_7 j a b)) /- B_X12_read_39.inv7#9 -/, (by first | (exfalso; omega) | (right; exact ⟨by decide, by omega, by unfold fa; first | (rw [if_pos (by omega)]; done) | (rw [if_neg (by omega), if_pos (by omega), if_neg (by first | (have := cmp_lt.mp c9; omega) | (have : ¬ z33 < v_p0_sizes x1 := fun h => c12 (cmp_lt.mpr h); omega))]; done) | rw [if_neg (by omega), if_neg (by omega)]⟩)) /- B_X12_read_39.inv8#9 -/, (by first | (exfalso; omega) | exact i_B_X12_read_39_9) /- B_X12_read_39.inv9#9 -/, (by first | (exfalso; omega) | exact i_B_X12_read_39_10) /- B_X12_read_39.inv10#9 -/, (by first | (exfalso; omega) | exact i_B_X12_read_39_11) /- B_X12_read_39.inv11#9 -/⟩ (by omega) /- B_X12_read_39.dec#9 -/
                ·
                  refine wp_bd1 (s_X12_copies _ _ _ (by omega) /- pre X12_copies.1#6 -/ (by omega) /- pre X12_copies.2#6 -/ (by omega) /- pre X12_copies.3#6 -/ (by omega) /- pre X12_copies.4#6 -/ (by omega) /- pre X12_copies.5#6 -/) (fun w22 q_X12_copies_6 => ?_)
                  try dsimp only at q_X12_copies_6
                  obtain ⟨q_X12_copies_6_1, q_X12_copies_6_2⟩ := q_X12_copies_6
                  refine wp_some ?_
                  try dsimp only
                  all_goals exact ⟨(by omega) /- post1#8 -/, (by omega) /- post2#8 -/, (by first | exact h14 | exact i_B_X12_read_39_5 | (exfalso; omega)) /- post3#8 -/, (by first | exact fun _ _ _ => rfl | exact i_B_X12_read_39_6 | (exfalso; omega)) /- post4#8 -/, (by first | (exfalso; omega) | (intro h; exact absurd ⟨hk, hx4⟩ h)) /- post5#8 -/, (by exfalso; omega) /- post6#8 -/⟩
              ·
                refine wp_bndE (fun z39 hz39 => ?_)
                exact ih_B_X12_read_39 _ _ _ _ _ _ ⟨(by omega) /- B_X12_read_39.inv1#10 -/, (by omega) /- B_X12_read_39.inv2#10 -/, (by omega) /- B_X12_read_39.inv3#10 -/, (by omega) /- B_X12_read_39.inv4#10 -/, (by first | exact i_B_X12_read_39_5 | exact q_X12_day_3_2 | (exfalso; omega)) /- B_X12_read_39.inv5#10 -/, (by first | exact i_B_X12_read_39_6 | (exfalso; omega) | (intro j a b; rw [hkp j (by omega)]; exact i_B_X12_read_39_6 j a b)) /- B_X12_read_39.inv6#10 -/, (by first | exact i_B_X12_read_39_7 | (exfalso; omega) | (intro j a b; rw [hkp _ (by omega)]; exact i_B_X12_read_39_7 j a b)) /- B_X12_read_39.inv7#10 -/, (by first | (exfalso; omega) | (right; exact ⟨by decide, by omega, by unfold fa; first | (rw [if_pos (by omega)]; done) | (rw [if_neg (by omega), if_pos (by omega), if_neg (by first | (have := cmp_lt.mp c9; omega) | (have : ¬ z33 < v_p0_sizes x1 := fun h => c12 (cmp_lt.mpr h); omega))]; done) | rw [if_neg (by omega), if_neg (by omega)]⟩)) /- B_X12_read_39.inv8#10 -/, (by first | (exfalso; omega) | exact i_B_X12_read_39_9) /- B_X12_read_39.inv9#10 -/, (by first | (exfalso; omega) | exact i_B_X12_read_39_10) /- B_X12_read_39.inv10#10 -/, (by first | (exfalso; omega) | exact i_B_X12_read_39_11) /- B_X12_read_39.inv11#10 -/⟩ (by omega) /- B_X12_read_39.dec#10 -/
        ·
          refine wp_bnd ?_
          refine wp_some ?_
          try dsimp only
          all_goals exact ⟨(by omega) /- post1#9 -/, (by omega) /- post2#9 -/, (by first | exact h14 | exact i_B_X12_read_39_5 | (exfalso; omega)) /- post3#9 -/, (by first | exact fun _ _ _ => rfl | exact i_B_X12_read_39_6 | (exfalso; omega)) /- post4#9 -/, (by first | (exfalso; omega) | (intro h; exact absurd ⟨hk, hx4⟩ h)) /- post5#9 -/, (by 
                                        intro _
                                        refine ⟨z24, by omega, i_B_X12_read_39_9, Or.inr ⟨?_, rfl, i_B_X12_read_39_10⟩⟩
                                        rcases i_B_X12_read_39_8 with hq | hq
                                        · first | (right; omega) | (exfalso; omega)
                                        · left; exact ⟨by omega, by rw [← hq.2.2]; exact hq.1, hq.2.2⟩) /- post6#9 -/⟩

set_option maxHeartbeats 1000000 in
theorem s_X12_count (i_p0_seats : Int) (i_p0_taped : Int) (v_p0_st : (Int → Int)) (v_p0_isKept : (Int → Int)) (v_p0_lanes : (Int → Int)) (v_p0_sizes : (Int → Int)) (x1 : Int) (h1 : -2147483648 ≤ x1) (h2 : x1 < 2147483648) (h3 : 2 ≤ i_p0_seats) (h4 : i_p0_seats ≤ 7) (h5 : ∀ j, 0 ≤ j → j < 2 → v_p0_isKept j = 0 ∨ v_p0_isKept j = 1) (h6 : ∀ j, 0 ≤ j → j < 7 → 0 ≤ v_p0_st j ∧ v_p0_st j ≤ 9) (h7 : -4 ≤ v_p0_lanes 0) (h8 : v_p0_lanes 0 ≤ 2) : wp (f_X12_count i_p0_seats i_p0_taped v_p0_st v_p0_isKept v_p0_lanes v_p0_sizes x1) (fun o => (o = if x1 = 0 then v_p0_st 31 else if x1 = 1 then v_p0_isKept 0 + v_p0_isKept 1 else if x1 = 2 then i_p0_taped else if x1 = 3 then (if v_p0_lanes 0 = -4 then -4 else v_p0_sizes 0) else if x1 = 4 then sumTo v_p0_st i_p0_seats.toNat else -1)) := by
  unfold f_X12_count
  have hh0 := h5 0 (by omega) (by omega)
  have hh1 := h5 1 (by omega) (by omega)
  refine wp_bnd ?_
  refine wp_bnd ?_
  refine wp_jn ?_
  refine wp_lq2 (fun (z14 : Int) (z15 : Int) => (0 ≤ z14) ∧ (z14 ≤ i_p0_seats) ∧ (z15 = sumTo v_p0_st z14.toNat)) (fun (z14 : Int) (z15 : Int) => (i_p0_seats - z14).toNat) (fun again4 z14 z15 hI ih_B_X12_count_4 => ?_) 1000 _ _ ⟨(by first | assumption | omega | grind) /- B_X12_count_4.init1#1 -/, (by first | assumption | omega | grind) /- B_X12_count_4.init2#1 -/, (by rfl) /- B_X12_count_4.init3#1 -/⟩ (by omega) /- B_X12_count_4.fuel#1 -/
  obtain ⟨i_B_X12_count_4_1, i_B_X12_count_4_2, i_B_X12_count_4_3⟩ := hI
  unfold B_X12_count_4
  refine wp_ck (z_r32_i.mpr ⟨(by omega) /- z_r32.lo z14#1 -/, (by omega) /- z_r32.hi z14#1 -/⟩) ?_
  refine wp_ck (z_r32_i.mpr ⟨(by omega) /- z_r32.lo i_p0_seats#1 -/, (by omega) /- z_r32.hi i_p0_seats#1 -/⟩) ?_
  refine wp_if (fun c1 => ?_) (fun c1 => ?_)
  ·
    refine wp_ck (z_r32_i.mpr ⟨(by omega) /- z_r32.lo x1#1 -/, (by omega) /- z_r32.hi x1#1 -/⟩) ?_
    refine wp_if (fun c2 => ?_) (fun c2 => ?_)
    ·
      refine wp_ck (z_ix_i.mpr ⟨⟨(by omega) /- ix.lo (31 : Int)#1 -/, (by omega) /- ix.hi (31 : Int)#1 -/⟩, (by omega) /- ix.big (31 : Int)#1 -/⟩) ?_
      refine wp_some ?_
      try dsimp only
      all_goals exact (by first | assumption | omega | grind) /- post1#1 -/
    ·
      refine wp_if (fun c3 => ?_) (fun c3 => ?_)
      ·
        refine wp_ck (z_ix_i.mpr ⟨⟨(by omega) /- ix.lo (0 : Int)#1 -/, (by omega) /- ix.hi (0 : Int)#1 -/⟩, (by omega) /- ix.big (0 : Int)#1 -/⟩) ?_
        refine wp_bd1 (s_X12_flag _ (by first | assumption | omega | grind) /- pre X12_flag.1#1 -/) (fun z8 q_X12_flag_1 => ?_)
        try dsimp only at q_X12_flag_1
        refine wp_ck (z_ix_i.mpr ⟨⟨(by omega) /- ix.lo (1 : Int)#1 -/, (by omega) /- ix.hi (1 : Int)#1 -/⟩, (by omega) /- ix.big (1 : Int)#1 -/⟩) ?_
        refine wp_bd1 (s_X12_flag _ (by first | assumption | omega | grind) /- pre X12_flag.1#2 -/) (fun z9 q_X12_flag_2 => ?_)
        try dsimp only at q_X12_flag_2
        refine wp_some ?_
        try dsimp only
        all_goals exact (by first | assumption | omega | grind) /- post1#2 -/
      ·
        refine wp_if (fun c4 => ?_) (fun c4 => ?_)
        ·
          refine wp_some ?_
          try dsimp only
          all_goals exact (by first | assumption | omega | grind) /- post1#3 -/
        ·
          refine wp_if (fun c5 => ?_) (fun c5 => ?_)
          ·
            refine wp_ck (z_ix_i.mpr ⟨⟨(by omega) /- ix.lo (0 : Int)#2 -/, (by omega) /- ix.hi (0 : Int)#2 -/⟩, (by omega) /- ix.big (0 : Int)#2 -/⟩) ?_
            refine wp_ck (z_r32_i.mpr ⟨(by omega) /- z_r32.lo (v_p0_lanes (0 : Int))#1 -/, (by omega) /- z_r32.hi (v_p0_lanes (0 : Int))#1 -/⟩) ?_
            refine wp_if (fun c6 => ?_) (fun c6 => ?_)
            ·
              refine wp_some ?_
              try dsimp only
              all_goals exact (by first | assumption | omega | grind) /- post1#4 -/
            ·
              refine wp_ck (z_ix_i.mpr ⟨⟨(by omega) /- ix.lo (0 : Int)#3 -/, (by omega) /- ix.hi (0 : Int)#3 -/⟩, (by omega) /- ix.big (0 : Int)#3 -/⟩) ?_
              refine wp_some ?_
              try dsimp only
              all_goals exact (by first | assumption | omega | grind) /- post1#5 -/
          ·
            refine wp_if (fun c7 => ?_) (fun c7 => ?_)
            ·
              refine wp_some ?_
              try dsimp only
              all_goals exact (by first | assumption | omega | grind) /- post1#6 -/
            ·
              refine wp_some ?_
              try dsimp only
              all_goals exact (by first | assumption | omega | grind) /- post1#7 -/
  ·
    refine wp_ck (z_ix_i.mpr ⟨⟨(by omega) /- ix.lo z14#1 -/, (by omega) /- ix.hi z14#1 -/⟩, (by omega) /- ix.big z14#1 -/⟩) ?_
    refine wp_bndE (fun z19 hz19 => ?_)
    refine wp_bndE (fun z20 hz20 => ?_)
    exact ih_B_X12_count_4 _ _ ⟨(by first | assumption | omega | grind) /- B_X12_count_4.inv1#1 -/, (by first | assumption | omega | grind) /- B_X12_count_4.inv2#1 -/, (by rw [hz19, hz20, sum_s i_B_X12_count_4_1, ← i_B_X12_count_4_3]) /- B_X12_count_4.inv3#1 -/⟩ (by omega) /- B_X12_count_4.dec#1 -/
