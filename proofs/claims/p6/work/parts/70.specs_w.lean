theorem okM_p {n : Int} {st : Int → Int} (h : okM n st) : ∀ j, 0 ≤ j → j < 7 → 0 ≤ st j ∧ st j ≤ 9 := h.2.2.2.2.1
theorem okM_s {n : Int} {st : Int → Int} (h : okM n st) : ∀ j, 0 ≤ j → j < 7 → 1 ≤ st (16 + j) ∧ st (16 + j) ≤ 9 := h.2.2.2.2.2.2.1
theorem okM_e {n : Int} {st : Int → Int} (h : okM n st) : ∀ j, 0 ≤ j → j < 7 → 0 ≤ st (23 + j) ∧ st (23 + j) ≤ 9 * st 30 := h.2.2.2.2.2.2.2.1
theorem okM_w {n : Int} {st : Int → Int} (h : okM n st) : ∀ j, 0 ≤ j → j < st 31 → 0 ≤ st (32 + j) ∧ st (32 + j) < n := h.2.2.2.2.2.2.2.2
theorem shl_n {n : Int} (h2 : 2 ≤ n) (h7 : n ≤ 7) : 4 ≤ z_shl 1 n ∧ z_shl 1 n ≤ 128 := by
  have : ∀ k : Nat, k < 8 → 2 ≤ k → 4 ≤ z_shl 1 (k : Int) ∧ z_shl 1 (k : Int) ≤ 128 := by decide +kernel
  have e := this n.toNat (by omega) (by omega)
  rw [Int.toNat_of_nonneg (by omega)] at e
  exact e
set_option maxHeartbeats 1000000 in
theorem s_X12_findBowls (i_p0_seats : Int) (v_p0_st : (Int → Int)) (v_p0_brings : (Int → Int)) (v_p0_places : (Int → Int)) (v_p0_bowls : (Int → Int)) (x1 : Int) (x2 : Int) (i_p0_stirs : Int) (h1 : 2 ≤ i_p0_seats) (h2 : i_p0_seats ≤ 7) (h3 : 0 ≤ i_p0_stirs) (h4 : i_p0_stirs ≤ 5) (h5 : rowsM i_p0_seats i_p0_stirs v_p0_brings) (h6 : 0 ≤ x1) (h7 : x1 < i_p0_seats) (h8 : 0 ≤ x2) (h9 : x2 < i_p0_stirs) : wp (f_X12_findBowls i_p0_seats v_p0_st v_p0_brings v_p0_places v_p0_bowls x1 x2) (fun o => (∀ p, 0 ≤ p → p < i_p0_seats → ∃ i, (0 ≤ i ∧ i < i_p0_seats) ∧ v_p0_brings (7 * x2 + i) = plc i_p0_seats x1 (v_p0_st (9 + x1)) p ∧ o.2 p = v_p0_st i)) := by
  unfold f_X12_findBowls
  refine wp_bd1 (s_X12_findPlaces _ _ _ _ (by omega) /- pre X12_findPlaces.1#1 -/ (by omega) /- pre X12_findPlaces.2#1 -/ (by omega) /- pre X12_findPlaces.3#1 -/ (by omega) /- pre X12_findPlaces.4#1 -/) (fun w1 q_X12_findPlaces_1 => ?_)
  try dsimp only at q_X12_findPlaces_1
  refine wp_bnd ?_
  refine wp_lq2 (fun (z3 : Int) (w4 : (Int → Int)) => (0 ≤ z3) ∧ (z3 ≤ i_p0_seats) ∧ (∀ p, 0 ≤ p → p < z3 → ∃ i, (0 ≤ i ∧ i < i_p0_seats) ∧ v_p0_brings (7 * x2 + i) = plc i_p0_seats x1 (v_p0_st (9 + x1)) p ∧ w4 p = v_p0_st i)) (fun (z3 : Int) (w4 : (Int → Int)) => (i_p0_seats - z3).toNat) (fun again7 z3 w4 hI ih_B_X12_findBowls_7 => ?_) 1000 _ _ ⟨(by omega) /- B_X12_findBowls_7.init1#1 -/, (by omega) /- B_X12_findBowls_7.init2#1 -/, (by intro p; omega) /- B_X12_findBowls_7.init3#1 -/⟩ (by omega) /- B_X12_findBowls_7.fuel#1 -/
  obtain ⟨i_B_X12_findBowls_7_1, i_B_X12_findBowls_7_2, i_B_X12_findBowls_7_3⟩ := hI
  unfold B_X12_findBowls_7
  refine wp_ck (z_r32_i.mpr ⟨(by omega) /- z_r32.lo z3#1 -/, (by omega) /- z_r32.hi z3#1 -/⟩) ?_
  refine wp_ck (z_r32_i.mpr ⟨(by omega) /- z_r32.lo i_p0_seats#1 -/, (by omega) /- z_r32.hi i_p0_seats#1 -/⟩) ?_
  refine wp_if (fun c1 => ?_) (fun c1 => ?_)
  ·
    refine wp_some ?_
    try dsimp only
    all_goals exact (by intro p a b; exact i_B_X12_findBowls_7_3 p a (by omega)) /- post1#1 -/
  ·
    have hpl := q_X12_findPlaces_1 z3 (by omega) (by omega)
    have hpr := plc_rng (n := i_p0_seats) (k := x1) (f := (v_p0_st (9 + x1))) (p := z3) (by omega)
    refine wp_ck (z_ix_i.mpr ⟨⟨(by omega) /- ix.lo z3#1 -/, (by omega) /- ix.hi z3#1 -/⟩, (by omega) /- ix.big z3#1 -/⟩) ?_
    refine wp_bd1 (s_X12_cameFrom _ _ _ i_p0_seats i_p0_stirs (by omega) /- pre X12_cameFrom.1#1 -/ (by omega) /- pre X12_cameFrom.2#1 -/ (by omega) /- pre X12_cameFrom.3#1 -/ (by omega) /- pre X12_cameFrom.4#1 -/ (by exact h5) /- pre X12_cameFrom.5#1 -/ (by omega) /- pre X12_cameFrom.6#1 -/ (by omega) /- pre X12_cameFrom.7#1 -/ (by omega) /- pre X12_cameFrom.8#1 -/ (by omega) /- pre X12_cameFrom.9#1 -/) (fun z8 q_X12_cameFrom_1 => ?_)
    try dsimp only at q_X12_cameFrom_1
    refine wp_ck (z_ix_i.mpr ⟨⟨(by omega) /- ix.lo z8#1 -/, (by omega) /- ix.hi z8#1 -/⟩, (by omega) /- ix.big z8#1 -/⟩) ?_
    refine wp_ck (z_ix_i.mpr ⟨⟨(by omega) /- ix.lo z3#2 -/, (by omega) /- ix.hi z3#2 -/⟩, (by omega) /- ix.big z3#2 -/⟩) ?_
    refine wp_bnd ?_
    refine wp_bndE (fun z10 hz10 => ?_)
    exact ih_B_X12_findBowls_7 _ _ ⟨(by omega) /- B_X12_findBowls_7.inv1#1 -/, (by omega) /- B_X12_findBowls_7.inv2#1 -/, (by intro p a b; rw [z_up_a]; split; (rename_i e; exact ⟨z8, q_X12_cameFrom_1.1, by rw [q_X12_cameFrom_1.2, hpl, e], rfl⟩); exact i_B_X12_findBowls_7_3 p a (by omega)) /- B_X12_findBowls_7.inv3#1 -/⟩ (by omega) /- B_X12_findBowls_7.dec#1 -/

set_option maxHeartbeats 1000000 in
theorem s_X12_spoonsOf (i_p0_seats : Int) (v_p0_st : (Int → Int)) (x1 : Int) (h1 : 2 ≤ i_p0_seats) (h2 : i_p0_seats ≤ 7) (h3 : ∀ j, 0 ≤ j → j < 7 → 1 ≤ v_p0_st (16 + j) ∧ v_p0_st (16 + j) ≤ 9) : wp (f_X12_spoonsOf i_p0_seats v_p0_st x1) (fun o => (0 ≤ o ∧ o ≤ 63)) := by
  unfold f_X12_spoonsOf
  refine wp_bnd ?_
  refine wp_bnd ?_
  refine wp_lq2 (fun (z3 : Int) (z4 : Int) => (0 ≤ z3) ∧ (z3 ≤ i_p0_seats) ∧ (0 ≤ z4) ∧ (z4 ≤ 9 * z3)) (fun (z3 : Int) (z4 : Int) => (i_p0_seats - z3).toNat) (fun again4 z3 z4 hI ih_B_X12_spoonsOf_4 => ?_) 1000 _ _ ⟨(by omega) /- B_X12_spoonsOf_4.init1#1 -/, (by omega) /- B_X12_spoonsOf_4.init2#1 -/, (by omega) /- B_X12_spoonsOf_4.init3#1 -/, (by omega) /- B_X12_spoonsOf_4.init4#1 -/⟩ (by omega) /- B_X12_spoonsOf_4.fuel#1 -/
  obtain ⟨i_B_X12_spoonsOf_4_1, i_B_X12_spoonsOf_4_2, i_B_X12_spoonsOf_4_3, i_B_X12_spoonsOf_4_4⟩ := hI
  unfold B_X12_spoonsOf_4
  refine wp_ck (z_r32_i.mpr ⟨(by omega) /- z_r32.lo z3#1 -/, (by omega) /- z_r32.hi z3#1 -/⟩) ?_
  refine wp_ck (z_r32_i.mpr ⟨(by omega) /- z_r32.lo i_p0_seats#1 -/, (by omega) /- z_r32.hi i_p0_seats#1 -/⟩) ?_
  refine wp_if (fun c1 => ?_) (fun c1 => ?_)
  ·
    refine wp_some ?_
    try dsimp only
    all_goals exact (by omega) /- post1#1 -/
  ·
    have hsp := h3 z3 (by omega) (by omega)
    refine wp_ck (z_r32_t _) ?_
    refine wp_if (fun c2 => ?_) (fun c2 => ?_)
    ·
      refine wp_ck (z_ix_i.mpr ⟨⟨(by omega) /- ix.lo ((16 : Int) + z3)#1 -/, (by omega) /- ix.hi ((16 : Int) + z3)#1 -/⟩, (by omega) /- ix.big ((16 : Int) + z3)#1 -/⟩) ?_
      refine wp_bndE (fun z11 hz11 => ?_)
      refine wp_bndE (fun z12 hz12 => ?_)
      exact ih_B_X12_spoonsOf_4 _ _ ⟨(by omega) /- B_X12_spoonsOf_4.inv1#1 -/, (by omega) /- B_X12_spoonsOf_4.inv2#1 -/, (by omega) /- B_X12_spoonsOf_4.inv3#1 -/, (by omega) /- B_X12_spoonsOf_4.inv4#1 -/⟩ (by omega) /- B_X12_spoonsOf_4.dec#1 -/
    ·
      refine wp_bndE (fun z9 hz9 => ?_)
      refine wp_bndE (fun z10 hz10 => ?_)
      exact ih_B_X12_spoonsOf_4 _ _ ⟨(by omega) /- B_X12_spoonsOf_4.inv1#2 -/, (by omega) /- B_X12_spoonsOf_4.inv2#2 -/, (by omega) /- B_X12_spoonsOf_4.inv3#2 -/, (by omega) /- B_X12_spoonsOf_4.inv4#2 -/⟩ (by omega) /- B_X12_spoonsOf_4.dec#2 -/

set_option maxHeartbeats 1000000 in
theorem s_X12_coupBy (i_p0_seats : Int) (v_p0_st : (Int → Int)) (v_p0_brings : (Int → Int)) (v_p0_places : (Int → Int)) (v_p0_bowls : (Int → Int)) (v_p0_has : (Int → Int)) (x1 : Int) (x2 : Int) (x3 : Int) (i_p0_stirs : Int) (h1 : 2 ≤ i_p0_seats) (h2 : i_p0_seats ≤ 7) (h3 : 0 ≤ i_p0_stirs) (h4 : i_p0_stirs ≤ 5) (h5 : rowsM i_p0_seats i_p0_stirs v_p0_brings) (h6 : okM i_p0_seats v_p0_st) (h7 : 0 ≤ x1) (h8 : x1 < i_p0_seats) (h9 : 0 ≤ x2) (h10 : x2 < i_p0_seats) (h11 : 0 ≤ x3) (h12 : x3 < i_p0_stirs) : wp (f_X12_coupBy i_p0_seats v_p0_st v_p0_brings v_p0_places v_p0_bowls v_p0_has x1 x2 x3) (fun o => (o.1 = -4 ∨ (1 ≤ o.1 ∧ o.1 < 128))) := by
  unfold f_X12_coupBy
  have hsn := shl_n h1 h2
  refine wp_bd2 (s_X12_findBowls _ _ _ _ _ _ _ i_p0_stirs (by omega) /- pre X12_findBowls.1#1 -/ (by omega) /- pre X12_findBowls.2#1 -/ (by omega) /- pre X12_findBowls.3#1 -/ (by omega) /- pre X12_findBowls.4#1 -/ (by exact h5) /- pre X12_findBowls.5#1 -/ (by omega) /- pre X12_findBowls.6#1 -/ (by omega) /- pre X12_findBowls.7#1 -/ (by omega) /- pre X12_findBowls.8#1 -/ (by omega) /- pre X12_findBowls.9#1 -/) (fun w1 w2 q_X12_findBowls_1 => ?_)
  try dsimp only at q_X12_findBowls_1
  have hn1 : ∀ p, 0 ≤ p → p < i_p0_seats → 0 ≤ w2 p ∧ w2 p ≤ 9 := by
    intro p a b
    obtain ⟨i, hi, _, e⟩ := q_X12_findBowls_1 p a b
    rw [e]; exact okM_p h6 i hi.1 (by omega)
  refine wp_bnd ?_
  refine wp_jn ?_
  refine wp_lq2 (fun (z40 : Int) (w41 : (Int → Int)) => (0 ≤ z40) ∧ (z40 ≤ i_p0_seats) ∧ (∀ p, 0 ≤ p → p < z40 → 0 ≤ w41 p ∧ w41 p ≤ 9)) (fun (z40 : Int) (w41 : (Int → Int)) => (i_p0_seats - z40).toNat) (fun again9 z40 w41 hI ih_B_X12_coupBy_9 => ?_) 1000 _ _ ⟨(by omega) /- B_X12_coupBy_9.init1#1 -/, (by omega) /- B_X12_coupBy_9.init2#1 -/, (by intro p; omega) /- B_X12_coupBy_9.init3#1 -/⟩ (by omega) /- B_X12_coupBy_9.fuel#1 -/
  obtain ⟨i_B_X12_coupBy_9_1, i_B_X12_coupBy_9_2, i_B_X12_coupBy_9_3⟩ := hI
  unfold B_X12_coupBy_9
  refine wp_ck (z_r32_i.mpr ⟨(by omega) /- z_r32.lo z40#1 -/, (by omega) /- z_r32.hi z40#1 -/⟩) ?_
  refine wp_ck (z_r32_i.mpr ⟨(by omega) /- z_r32.lo i_p0_seats#1 -/, (by omega) /- z_r32.hi i_p0_seats#1 -/⟩) ?_
  refine wp_if (fun c1 => ?_) (fun c1 => ?_)
  ·
    refine wp_bd2 (s_X12_findBowls _ _ _ _ _ _ _ i_p0_stirs (by omega) /- pre X12_findBowls.1#2 -/ (by omega) /- pre X12_findBowls.2#2 -/ (by omega) /- pre X12_findBowls.3#2 -/ (by omega) /- pre X12_findBowls.4#2 -/ (by exact h5) /- pre X12_findBowls.5#2 -/ (by omega) /- pre X12_findBowls.6#2 -/ (by omega) /- pre X12_findBowls.7#2 -/ (by omega) /- pre X12_findBowls.8#2 -/ (by omega) /- pre X12_findBowls.9#2 -/) (fun w6 w7 q_X12_findBowls_2 => ?_)
    try dsimp only at q_X12_findBowls_2
    have hn2 : ∀ p, 0 ≤ p → p < i_p0_seats → 0 ≤ w7 p ∧ w7 p ≤ 9 := by
      intro p a b
      obtain ⟨i, hi, _, e⟩ := q_X12_findBowls_2 p a b
      rw [e]; exact okM_p h6 i hi.1 (by omega)
    refine wp_bnd ?_
    refine wp_bnd ?_
    refine wp_jn ?_
    refine wp_lq2 (fun (z27 : Int) (z28 : Int) => (0 ≤ z27) ∧ (z27 ≤ i_p0_seats)) (fun (z27 : Int) (z28 : Int) => (i_p0_seats - z27).toNat) (fun again50 z27 z28 hI ih_B_X12_coupBy_50 => ?_) 1000 _ _ ⟨(by omega) /- B_X12_coupBy_50.init1#1 -/, (by omega) /- B_X12_coupBy_50.init2#1 -/⟩ (by omega) /- B_X12_coupBy_50.fuel#1 -/
    obtain ⟨i_B_X12_coupBy_50_1, i_B_X12_coupBy_50_2⟩ := hI
    unfold B_X12_coupBy_50
    have hb1 := fun (h : z27 < i_p0_seats) => hn2 z27 (by omega) h
    have hb2 := fun (h : z27 < i_p0_seats) => i_B_X12_coupBy_9_3 z27 (by omega) (by omega)
    refine wp_ck (z_r32_i.mpr ⟨(by omega) /- z_r32.lo z27#1 -/, (by omega) /- z_r32.hi z27#1 -/⟩) ?_
    refine wp_ck (z_r32_i.mpr ⟨(by omega) /- z_r32.lo i_p0_seats#2 -/, (by omega) /- z_r32.hi i_p0_seats#2 -/⟩) ?_
    refine wp_if (fun c2 => ?_) (fun c2 => ?_)
    ·
      refine wp_bd1 (s_X12_spoonsOf _ _ _ (by omega) /- pre X12_spoonsOf.1#1 -/ (by omega) /- pre X12_spoonsOf.2#1 -/ (by exact okM_s h6) /- pre X12_spoonsOf.3#1 -/) (fun z12 q_X12_spoonsOf_1 => ?_)
      try dsimp only at q_X12_spoonsOf_1
      refine wp_bnd ?_
      refine wp_bnd ?_
      refine wp_lq1 (fun (z15 : Int) => (1 ≤ z15) ∧ (z15 ≤ 128)) (fun (z15 : Int) => (128 - z15).toNat) (fun again115 z15 hI ih_B_X12_coupBy_115 => ?_) 1000 _ ⟨(by omega) /- B_X12_coupBy_115.init1#1 -/, (by omega) /- B_X12_coupBy_115.init2#1 -/⟩ (by omega) /- B_X12_coupBy_115.fuel#1 -/
      obtain ⟨i_B_X12_coupBy_115_1, i_B_X12_coupBy_115_2⟩ := hI
      unfold B_X12_coupBy_115
      refine wp_ck (z_r32_i.mpr ⟨(by omega) /- z_r32.lo z15#1 -/, (by omega) /- z_r32.hi z15#1 -/⟩) ?_
      refine wp_ck (z_r32_t _) ?_
      refine wp_if (fun c3 => ?_) (fun c3 => ?_)
      ·
        refine wp_some ?_
        try dsimp only
        all_goals exact (by omega) /- post1#1 -/
      ·
        refine wp_ck (z_r32_t _) ?_
        refine wp_if (fun c4 => ?_) (fun c4 => ?_)
        ·
          refine wp_ck (z_r32_t _) ?_
          refine wp_if (fun c5 => ?_) (fun c5 => ?_)
          ·
            refine wp_bd1 (s_X12_spoonsOf _ _ _ (by omega) /- pre X12_spoonsOf.1#2 -/ (by omega) /- pre X12_spoonsOf.2#2 -/ (by exact okM_s h6) /- pre X12_spoonsOf.3#2 -/) (fun z23 q_X12_spoonsOf_2 => ?_)
            try dsimp only at q_X12_spoonsOf_2
            refine wp_ck (z_r32_i.mpr ⟨(by omega) /- z_r32.lo ((2 : Int) * z23)#1 -/, (by omega) /- z_r32.hi ((2 : Int) * z23)#1 -/⟩) ?_
            refine wp_ck (z_r32_i.mpr ⟨(by omega) /- z_r32.lo z13#1 -/, (by omega) /- z_r32.hi z13#1 -/⟩) ?_
            refine wp_if (fun c6 => ?_) (fun c6 => ?_)
            ·
              refine wp_bndE (fun z26 hz26 => ?_)
              exact ih_B_X12_coupBy_115 _ ⟨(by omega) /- B_X12_coupBy_115.inv1#1 -/, (by omega) /- B_X12_coupBy_115.inv2#1 -/⟩ (by omega) /- B_X12_coupBy_115.dec#1 -/
            ·
              refine wp_some ?_
              try dsimp only
              all_goals exact (by omega) /- post1#2 -/
          ·
            refine wp_bndE (fun z22 hz22 => ?_)
            exact ih_B_X12_coupBy_115 _ ⟨(by omega) /- B_X12_coupBy_115.inv1#2 -/, (by omega) /- B_X12_coupBy_115.inv2#2 -/⟩ (by omega) /- B_X12_coupBy_115.dec#2 -/
        ·
          refine wp_bndE (fun z20 hz20 => ?_)
          exact ih_B_X12_coupBy_115 _ ⟨(by omega) /- B_X12_coupBy_115.inv1#3 -/, (by omega) /- B_X12_coupBy_115.inv2#3 -/⟩ (by omega) /- B_X12_coupBy_115.dec#3 -/
    ·
      refine wp_ck (z_ix_i.mpr ⟨⟨(by omega) /- ix.lo z27#1 -/, (by omega) /- ix.hi z27#1 -/⟩, (by omega) /- ix.big z27#1 -/⟩) ?_
      refine wp_ck (z_ix_i.mpr ⟨⟨(by omega) /- ix.lo z27#2 -/, (by omega) /- ix.hi z27#2 -/⟩, (by omega) /- ix.big z27#2 -/⟩) ?_
      refine wp_ck (z_r32_i.mpr ⟨(by omega) /- z_r32.lo (w7 z27)#1 -/, (by omega) /- z_r32.hi (w7 z27)#1 -/⟩) ?_
      refine wp_ck (z_r32_i.mpr ⟨(by omega) /- z_r32.lo (w4 z27)#1 -/, (by omega) /- z_r32.hi (w4 z27)#1 -/⟩) ?_
      refine wp_jn ?_
      refine wp_if (fun c7 => ?_) (fun c7 => ?_)
      ·
        refine wp_bd1 (s_X12_flag _ (by omega) /- pre X12_flag.1#1 -/) (fun z37 q_X12_flag_1 => ?_)
        try dsimp only at q_X12_flag_1
        refine wp_bndE (fun z38 hz38 => ?_)
        refine wp_bndE (fun z39 hz39 => ?_)
        exact ih_B_X12_coupBy_50 _ _ ⟨(by omega) /- B_X12_coupBy_50.inv1#1 -/, (by omega) /- B_X12_coupBy_50.inv2#1 -/⟩ (by omega) /- B_X12_coupBy_50.dec#1 -/
      ·
        refine wp_bd1 (s_X12_flag _ (by omega) /- pre X12_flag.1#2 -/) (fun z37 q_X12_flag_2 => ?_)
        try dsimp only at q_X12_flag_2
        refine wp_bndE (fun z38 hz38 => ?_)
        refine wp_bndE (fun z39 hz39 => ?_)
        exact ih_B_X12_coupBy_50 _ _ ⟨(by omega) /- B_X12_coupBy_50.inv1#2 -/, (by omega) /- B_X12_coupBy_50.inv2#2 -/⟩ (by omega) /- B_X12_coupBy_50.dec#2 -/
  ·
    refine wp_ck (z_ix_i.mpr ⟨⟨(by omega) /- ix.lo z40#1 -/, (by omega) /- ix.hi z40#1 -/⟩, (by omega) /- ix.big z40#1 -/⟩) ?_
    refine wp_ck (z_ix_i.mpr ⟨⟨(by omega) /- ix.lo z40#2 -/, (by omega) /- ix.hi z40#2 -/⟩, (by omega) /- ix.big z40#2 -/⟩) ?_
    refine wp_bnd ?_
    refine wp_bndE (fun z46 hz46 => ?_)
    exact ih_B_X12_coupBy_9 _ _ ⟨(by omega) /- B_X12_coupBy_9.inv1#1 -/, (by omega) /- B_X12_coupBy_9.inv2#1 -/, (by intro p a b; rw [z_up_a]; split; (rename_i e; exact hn1 z40 (by omega) (by omega)); exact i_B_X12_coupBy_9_3 p a (by omega)) /- B_X12_coupBy_9.inv3#1 -/⟩ (by omega) /- B_X12_coupBy_9.dec#1 -/

set_option maxHeartbeats 1000000 in
theorem s_X12_leaderBy (i_p0_seats : Int) (v_p0_st : (Int → Int)) (v_p0_brings : (Int → Int)) (v_p0_places : (Int → Int)) (v_p0_bowls : (Int → Int)) (v_p0_has : (Int → Int)) (x1 : Int) (x2 : Int) (i_p0_stirs : Int) (h1 : 2 ≤ i_p0_seats) (h2 : i_p0_seats ≤ 7) (h3 : 0 ≤ i_p0_stirs) (h4 : i_p0_stirs ≤ 5) (h5 : rowsM i_p0_seats i_p0_stirs v_p0_brings) (h6 : okM i_p0_seats v_p0_st) (h7 : 0 ≤ x1) (h8 : x1 < i_p0_seats) (h9 : 0 ≤ x2) (h10 : x2 < i_p0_stirs) : wp (f_X12_leaderBy i_p0_seats v_p0_st v_p0_brings v_p0_places v_p0_bowls v_p0_has x1 x2) (fun o => (o.1 = -4 ∨ (0 ≤ o.1 ∧ o.1 < i_p0_seats))) := by
  unfold f_X12_leaderBy
  refine wp_bnd ?_
  refine wp_lq4 (fun (z2 : Int) (w3 : (Int → Int)) (w4 : (Int → Int)) (w5 : (Int → Int)) => (0 ≤ z2) ∧ (z2 ≤ i_p0_seats)) (fun (z2 : Int) (w3 : (Int → Int)) (w4 : (Int → Int)) (w5 : (Int → Int)) => (i_p0_seats - z2).toNat) (fun again2 z2 w3 w4 w5 hI ih_B_X12_leaderBy_2 => ?_) 1000 _ _ _ _ ⟨(by omega) /- B_X12_leaderBy_2.init1#1 -/, (by omega) /- B_X12_leaderBy_2.init2#1 -/⟩ (by omega) /- B_X12_leaderBy_2.fuel#1 -/
  obtain ⟨i_B_X12_leaderBy_2_1, i_B_X12_leaderBy_2_2⟩ := hI
  unfold B_X12_leaderBy_2
  refine wp_ck (z_r32_i.mpr ⟨(by omega) /- z_r32.lo z2#1 -/, (by omega) /- z_r32.hi z2#1 -/⟩) ?_
  refine wp_ck (z_r32_i.mpr ⟨(by omega) /- z_r32.lo i_p0_seats#1 -/, (by omega) /- z_r32.hi i_p0_seats#1 -/⟩) ?_
  refine wp_if (fun c1 => ?_) (fun c1 => ?_)
  ·
    refine wp_some ?_
    try dsimp only
    all_goals exact (by omega) /- post1#1 -/
  ·
    refine wp_ck (z_r32_i.mpr ⟨(by omega) /- z_r32.lo x1#1 -/, (by omega) /- z_r32.hi x1#1 -/⟩) ?_
    refine wp_if (fun c2 => ?_) (fun c2 => ?_)
    ·
      refine wp_bndE (fun z10 hz10 => ?_)
      exact ih_B_X12_leaderBy_2 _ _ _ _ ⟨(by omega) /- B_X12_leaderBy_2.inv1#1 -/, (by omega) /- B_X12_leaderBy_2.inv2#1 -/⟩ (by omega) /- B_X12_leaderBy_2.dec#1 -/
    ·
      refine wp_bd4 (s_X12_coupBy _ _ _ _ _ _ _ _ _ i_p0_stirs (by omega) /- pre X12_coupBy.1#1 -/ (by omega) /- pre X12_coupBy.2#1 -/ (by omega) /- pre X12_coupBy.3#1 -/ (by omega) /- pre X12_coupBy.4#1 -/ (by exact h5) /- pre X12_coupBy.5#1 -/ (by exact h6) /- pre X12_coupBy.6#1 -/ (by omega) /- pre X12_coupBy.7#1 -/ (by omega) /- pre X12_coupBy.8#1 -/ (by omega) /- pre X12_coupBy.9#1 -/ (by omega) /- pre X12_coupBy.10#1 -/ (by omega) /- pre X12_coupBy.11#1 -/ (by omega) /- pre X12_coupBy.12#1 -/) (fun z11 w12 w13 w14 q_X12_coupBy_1 => ?_)
      try dsimp only at q_X12_coupBy_1
      refine wp_ck (z_r32_i.mpr ⟨(by omega) /- z_r32.lo z11#1 -/, (by omega) /- z_r32.hi z11#1 -/⟩) ?_
      refine wp_if (fun c3 => ?_) (fun c3 => ?_)
      ·
        refine wp_bndE (fun z16 hz16 => ?_)
        exact ih_B_X12_leaderBy_2 _ _ _ _ ⟨(by omega) /- B_X12_leaderBy_2.inv1#2 -/, (by omega) /- B_X12_leaderBy_2.inv2#2 -/⟩ (by omega) /- B_X12_leaderBy_2.dec#2 -/
      ·
        refine wp_some ?_
        try dsimp only
        all_goals exact (by omega) /- post1#2 -/

set_option maxHeartbeats 1000000 in
theorem s_X12_coup (i_p0_seats : Int) (i_p0_stirs : Int) (v_p0_st : (Int → Int)) (v_p0_brings : (Int → Int)) (v_p0_places : (Int → Int)) (v_p0_bowls : (Int → Int)) (v_p0_has : (Int → Int)) (x1 : Int) (x2 : Int) (x3 : Int) (h1 : -2147483648 ≤ x1) (h2 : x1 < 2147483648) (h3 : -2147483648 ≤ x2) (h4 : x2 < 2147483648) (h5 : -2147483648 ≤ x3) (h6 : x3 < 2147483648) (h7 : 2 ≤ i_p0_seats) (h8 : i_p0_seats ≤ 7) (h9 : 0 ≤ i_p0_stirs) (h10 : i_p0_stirs ≤ 5) (h11 : rowsM i_p0_seats i_p0_stirs v_p0_brings) (h12 : okM i_p0_seats v_p0_st) : wp (f_X12_coup i_p0_seats i_p0_stirs v_p0_st v_p0_brings v_p0_places v_p0_bowls v_p0_has x1 x2 x3) (fun o => (-4 ≤ o.1 ∧ o.1 < 128)) := by
  unfold f_X12_coup
  refine wp_bd1 (s_X12_isSeat _ _ (by omega) /- pre X12_isSeat.1#1 -/ (by omega) /- pre X12_isSeat.2#1 -/ (by omega) /- pre X12_isSeat.3#1 -/ (by omega) /- pre X12_isSeat.4#1 -/) (fun z1 q_X12_isSeat_1 => ?_)
  try dsimp only at q_X12_isSeat_1
  refine wp_ck (z_r32_i.mpr ⟨(by omega) /- z_r32.lo z1#1 -/, (by omega) /- z_r32.hi z1#1 -/⟩) ?_
  refine wp_if (fun c1 => ?_) (fun c1 => ?_)
  ·
    refine wp_some ?_
    try dsimp only
    all_goals exact (by omega) /- post1#1 -/
  ·
    have hs1 : 0 ≤ x1 ∧ x1 < i_p0_seats := by split at q_X12_isSeat_1 <;> omega
    clear q_X12_isSeat_1
    refine wp_bd1 (s_X12_isStir _ _ (by omega) /- pre X12_isStir.1#1 -/ (by omega) /- pre X12_isStir.2#1 -/ (by omega) /- pre X12_isStir.3#1 -/ (by omega) /- pre X12_isStir.4#1 -/) (fun z3 q_X12_isStir_1 => ?_)
    try dsimp only at q_X12_isStir_1
    refine wp_ck (z_r32_i.mpr ⟨(by omega) /- z_r32.lo z3#1 -/, (by omega) /- z_r32.hi z3#1 -/⟩) ?_
    refine wp_if (fun c2 => ?_) (fun c2 => ?_)
    ·
      refine wp_some ?_
      try dsimp only
      all_goals exact (by omega) /- post1#2 -/
    ·
      have hs2 : 0 ≤ x2 ∧ x2 < i_p0_stirs := by split at q_X12_isStir_1 <;> omega
      clear q_X12_isStir_1
      refine wp_bd1 (s_X12_isTold _ (by omega) /- pre X12_isTold.1#1 -/ (by omega) /- pre X12_isTold.2#1 -/) (fun z5 q_X12_isTold_1 => ?_)
      try dsimp only at q_X12_isTold_1
      refine wp_ck (z_r32_i.mpr ⟨(by omega) /- z_r32.lo z5#1 -/, (by omega) /- z_r32.hi z5#1 -/⟩) ?_
      refine wp_if (fun c3 => ?_) (fun c3 => ?_)
      ·
        refine wp_some ?_
        try dsimp only
        all_goals exact (by omega) /- post1#3 -/
      ·
        clear q_X12_isTold_1
        refine wp_bd4 (s_X12_leaderBy _ _ _ _ _ _ _ _ i_p0_stirs (by omega) /- pre X12_leaderBy.1#1 -/ (by omega) /- pre X12_leaderBy.2#1 -/ (by omega) /- pre X12_leaderBy.3#1 -/ (by omega) /- pre X12_leaderBy.4#1 -/ (by exact h11) /- pre X12_leaderBy.5#1 -/ (by exact h12) /- pre X12_leaderBy.6#1 -/ (by omega) /- pre X12_leaderBy.7#1 -/ (by omega) /- pre X12_leaderBy.8#1 -/ (by omega) /- pre X12_leaderBy.9#1 -/ (by omega) /- pre X12_leaderBy.10#1 -/) (fun z7 w8 w9 w10 q_X12_leaderBy_1 => ?_)
        try dsimp only at q_X12_leaderBy_1
        refine wp_bnd ?_
        refine wp_ck (z_r32_i.mpr ⟨(by omega) /- z_r32.lo z11#1 -/, (by omega) /- z_r32.hi z11#1 -/⟩) ?_
        refine wp_if (fun c4 => ?_) (fun c4 => ?_)
        ·
          refine wp_some ?_
          try dsimp only
          all_goals exact (by omega) /- post1#4 -/
        ·
          refine wp_ck (z_r32_i.mpr ⟨(by omega) /- z_r32.lo x3#1 -/, (by omega) /- z_r32.hi x3#1 -/⟩) ?_
          refine wp_if (fun c5 => ?_) (fun c5 => ?_)
          ·
            refine wp_some ?_
            try dsimp only
            all_goals exact (by omega) /- post1#5 -/
          ·
            refine wp_bd4 (s_X12_coupBy _ _ _ _ _ _ _ _ _ i_p0_stirs (by omega) /- pre X12_coupBy.1#1 -/ (by omega) /- pre X12_coupBy.2#1 -/ (by omega) /- pre X12_coupBy.3#1 -/ (by omega) /- pre X12_coupBy.4#1 -/ (by exact h11) /- pre X12_coupBy.5#1 -/ (by exact h12) /- pre X12_coupBy.6#1 -/ (by omega) /- pre X12_coupBy.7#1 -/ (by omega) /- pre X12_coupBy.8#1 -/ (by omega) /- pre X12_coupBy.9#1 -/ (by omega) /- pre X12_coupBy.10#1 -/ (by omega) /- pre X12_coupBy.11#1 -/ (by omega) /- pre X12_coupBy.12#1 -/) (fun z14 w15 w16 w17 q_X12_coupBy_1 => ?_)
            try dsimp only at q_X12_coupBy_1
            refine wp_some ?_
            try dsimp only
            all_goals exact (by omega) /- post1#6 -/

set_option maxHeartbeats 1000000 in
theorem s_X12_firm (i_p0_seats : Int) (i_p0_stirs : Int) (v_p0_st : (Int → Int)) (v_p0_brings : (Int → Int)) (v_p0_places : (Int → Int)) (v_p0_bowls : (Int → Int)) (v_p0_has : (Int → Int)) (x1 : Int) (h1 : -2147483648 ≤ x1) (h2 : x1 < 2147483648) (h3 : 2 ≤ i_p0_seats) (h4 : i_p0_seats ≤ 7) (h5 : 0 ≤ i_p0_stirs) (h6 : i_p0_stirs ≤ 5) (h7 : rowsM i_p0_seats i_p0_stirs v_p0_brings) (h8 : okM i_p0_seats v_p0_st) : wp (f_X12_firm i_p0_seats i_p0_stirs v_p0_st v_p0_brings v_p0_places v_p0_bowls v_p0_has x1) (fun o => True) := by
  unfold f_X12_firm
  refine wp_bd1 (s_X12_isStir _ _ (by omega) /- pre X12_isStir.1#1 -/ (by omega) /- pre X12_isStir.2#1 -/ (by omega) /- pre X12_isStir.3#1 -/ (by omega) /- pre X12_isStir.4#1 -/) (fun z1 q_X12_isStir_1 => ?_)
  try dsimp only at q_X12_isStir_1
  refine wp_ck (z_r32_i.mpr ⟨(by omega) /- z_r32.lo z1#1 -/, (by omega) /- z_r32.hi z1#1 -/⟩) ?_
  refine wp_if (fun c1 => ?_) (fun c1 => ?_)
  ·
    exact wp_some trivial
  ·
    have hs2 : 0 ≤ x1 ∧ x1 < i_p0_stirs := by split at q_X12_isStir_1 <;> omega
    clear q_X12_isStir_1
    refine wp_bnd ?_
    refine wp_bnd ?_
    refine wp_lq5 (fun (z5 : Int) (z6 : Int) (w7 : (Int → Int)) (w8 : (Int → Int)) (w9 : (Int → Int)) => (0 ≤ z5) ∧ (z5 ≤ i_p0_seats)) (fun (z5 : Int) (z6 : Int) (w7 : (Int → Int)) (w8 : (Int → Int)) (w9 : (Int → Int)) => (i_p0_seats - z5).toNat) (fun again14 z5 z6 w7 w8 w9 hI ih_B_X12_firm_14 => ?_) 1000 _ _ _ _ _ ⟨(by omega) /- B_X12_firm_14.init1#1 -/, (by omega) /- B_X12_firm_14.init2#1 -/⟩ (by omega) /- B_X12_firm_14.fuel#1 -/
    obtain ⟨i_B_X12_firm_14_1, i_B_X12_firm_14_2⟩ := hI
    unfold B_X12_firm_14
    refine wp_ck (z_r32_i.mpr ⟨(by omega) /- z_r32.lo z5#1 -/, (by omega) /- z_r32.hi z5#1 -/⟩) ?_
    refine wp_ck (z_r32_i.mpr ⟨(by omega) /- z_r32.lo i_p0_seats#1 -/, (by omega) /- z_r32.hi i_p0_seats#1 -/⟩) ?_
    refine wp_if (fun c2 => ?_) (fun c2 => ?_)
    ·
      exact wp_some trivial
    ·
      refine wp_bd4 (s_X12_leaderBy _ _ _ _ _ _ _ _ i_p0_stirs (by omega) /- pre X12_leaderBy.1#1 -/ (by omega) /- pre X12_leaderBy.2#1 -/ (by omega) /- pre X12_leaderBy.3#1 -/ (by omega) /- pre X12_leaderBy.4#1 -/ (by exact h7) /- pre X12_leaderBy.5#1 -/ (by exact h8) /- pre X12_leaderBy.6#1 -/ (by omega) /- pre X12_leaderBy.7#1 -/ (by omega) /- pre X12_leaderBy.8#1 -/ (by omega) /- pre X12_leaderBy.9#1 -/ (by omega) /- pre X12_leaderBy.10#1 -/) (fun z13 w14 w15 w16 q_X12_leaderBy_1 => ?_)
      try dsimp only at q_X12_leaderBy_1
      refine wp_ck (z_r32_i.mpr ⟨(by omega) /- z_r32.lo z13#1 -/, (by omega) /- z_r32.hi z13#1 -/⟩) ?_
      refine wp_jn ?_
      refine wp_if (fun c3 => ?_) (fun c3 => ?_)
      ·
        refine wp_bd1 (s_X12_flag _ (by omega) /- pre X12_flag.1#1 -/) (fun z21 q_X12_flag_1 => ?_)
        try dsimp only at q_X12_flag_1
        refine wp_bndE (fun z22 hz22 => ?_)
        refine wp_bndE (fun z23 hz23 => ?_)
        exact ih_B_X12_firm_14 _ _ _ _ _ ⟨(by omega) /- B_X12_firm_14.inv1#1 -/, (by omega) /- B_X12_firm_14.inv2#1 -/⟩ (by omega) /- B_X12_firm_14.dec#1 -/
      ·
        refine wp_bd1 (s_X12_flag _ (by omega) /- pre X12_flag.1#2 -/) (fun z21 q_X12_flag_2 => ?_)
        try dsimp only at q_X12_flag_2
        refine wp_bndE (fun z22 hz22 => ?_)
        refine wp_bndE (fun z23 hz23 => ?_)
        exact ih_B_X12_firm_14 _ _ _ _ _ ⟨(by omega) /- B_X12_firm_14.inv1#2 -/, (by omega) /- B_X12_firm_14.inv2#2 -/⟩ (by omega) /- B_X12_firm_14.dec#2 -/
