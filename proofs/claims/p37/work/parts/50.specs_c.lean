set_option maxHeartbeats 1000000 in
theorem s_X2_placeOf (v_p0_places : (Int → Int)) (x1 : Int) (x2 : Int) (h1 : 0 ≤ x1) (h2 : x1 < 7) (h3 : 0 ≤ x2) (h4 : x2 < 7) : wp (f_X2_placeOf v_p0_places x1 x2) (fun o => (o = v_p0_places (x1 * 7 + x2))) := by
  unfold f_X2_placeOf
  refine wp_ck (z_ix_i.mpr ⟨⟨(by first | omega | grind) /- ix.lo ((x1 * (7 : Int)) + x2)#1 -/, (by first | omega | grind) /- ix.hi ((x1 * (7 : Int)) + x2)#1 -/⟩, (by first | omega | grind) /- ix.big ((x1 * (7 : Int)) + x2)#1 -/⟩) ?_
  refine wp_some ?_
  try dsimp only
  all_goals exact (by rfl) /- post1#1 -/

set_option maxHeartbeats 1000000 in
theorem s_X2_bowlOf (v_p0_places : (Int → Int)) (v_p0_stirred : (Int → Int)) (x1 : Int) (x2 : Int) (h1 : 0 ≤ x1) (h2 : x1 < 7) (h3 : 0 ≤ x2) (h4 : x2 < 7) (h5 : 0 ≤ v_p0_places (x1 * 7 + x2)) (h6 : v_p0_places (x1 * 7 + x2) < 7) : wp (f_X2_bowlOf v_p0_places v_p0_stirred x1 x2) (fun o => (o = v_p0_stirred (v_p0_places (x1 * 7 + x2)))) := by
  unfold f_X2_bowlOf
  refine wp_bd1 (s_X2_placeOf _ _ _ (by first | assumption | omega | grind [z_up, z_cpy]) /- pre X2_placeOf.1#1 -/ (by first | assumption | omega | grind [z_up, z_cpy]) /- pre X2_placeOf.2#1 -/ (by first | assumption | omega | grind [z_up, z_cpy]) /- pre X2_placeOf.3#1 -/ (by first | assumption | omega | grind [z_up, z_cpy]) /- pre X2_placeOf.4#1 -/) (fun z1 q_X2_placeOf_1 => ?_)
  try dsimp only at q_X2_placeOf_1
  refine wp_ck (z_ix_i.mpr ⟨⟨(by first | omega | grind) /- ix.lo z1#1 -/, (by first | omega | grind) /- ix.hi z1#1 -/⟩, (by first | omega | grind) /- ix.big z1#1 -/⟩) ?_
  refine wp_some ?_
  try dsimp only
  all_goals exact (by rw [q_X2_placeOf_1]) /- post1#1 -/

set_option maxHeartbeats 1000000 in
theorem s_X6_inRing (i_p0_seats : Int) (x1 : Int) (h1 : 2 ≤ i_p0_seats) (h2 : i_p0_seats ≤ 7) (h3 : 0 ≤ x1) (h4 : x1 < 8 * i_p0_seats) : wp (f_X6_inRing i_p0_seats x1) (fun o => (o = x1 % i_p0_seats)) := by
  unfold f_X6_inRing
  refine wp_bnd ?_
  refine wp_bnd ?_
  refine wp_lq2 (fun (z3 : Int) (z4 : Int) => (0 ≤ z3) ∧ (z3 ≤ 7) ∧ (0 ≤ z4) ∧ (z4 = x1 - z3 * i_p0_seats) ∧ (z4 ≤ x1)) (fun (z3 : Int) (z4 : Int) => (7 - z3).toNat) (fun again4 z3 z4 hI ih_B_X6_inRing_4 => ?_) 1000 _ _ ⟨(by first | assumption | omega | grind [z_up, z_cpy]) /- B_X6_inRing_4.init1#1 -/, (by first | assumption | omega | grind [z_up, z_cpy]) /- B_X6_inRing_4.init2#1 -/, (by first | assumption | omega | grind [z_up, z_cpy]) /- B_X6_inRing_4.init3#1 -/, (by first | assumption | omega | grind [z_up, z_cpy]) /- B_X6_inRing_4.init4#1 -/, (by first | assumption | omega | grind [z_up, z_cpy]) /- B_X6_inRing_4.init5#1 -/⟩ (by first | omega | grind) /- B_X6_inRing_4.fuel#1 -/
  obtain ⟨i_B_X6_inRing_4_1, i_B_X6_inRing_4_2, i_B_X6_inRing_4_3, i_B_X6_inRing_4_4, i_B_X6_inRing_4_5⟩ := hI
  unfold B_X6_inRing_4
  refine wp_ck (z_r32_i.mpr ⟨(by first | omega | grind) /- z_r32.lo z3#1 -/, (by first | omega | grind) /- z_r32.hi z3#1 -/⟩) ?_
  refine wp_if (fun c1 => ?_) (fun c1 => ?_)
  ·
    refine wp_some ?_
    try dsimp only
    all_goals exact (by 
                                        have e : z3 = 7 := by omega
                                        subst e
                                        exact (emod_is (q := 7) (by omega) (by omega) (by omega)).symm) /- post1#1 -/
  ·
    refine wp_ck (z_r32_i.mpr ⟨(by first | omega | grind) /- z_r32.lo z4#1 -/, (by first | omega | grind) /- z_r32.hi z4#1 -/⟩) ?_
    refine wp_ck (z_r32_i.mpr ⟨(by first | omega | grind) /- z_r32.lo i_p0_seats#1 -/, (by first | omega | grind) /- z_r32.hi i_p0_seats#1 -/⟩) ?_
    refine wp_if (fun c2 => ?_) (fun c2 => ?_)
    ·
      refine wp_some ?_
      try dsimp only
      all_goals exact (by exact (emod_is (q := z3) (by omega) (by omega) (by omega)).symm) /- post1#2 -/
    ·
      refine wp_bndE (fun z9 hz9 => ?_)
      refine wp_bndE (fun z10 hz10 => ?_)
      exact ih_B_X6_inRing_4 _ _ ⟨(by first | assumption | omega | grind [z_up, z_cpy]) /- B_X6_inRing_4.inv1#1 -/, (by first | assumption | omega | grind [z_up, z_cpy]) /- B_X6_inRing_4.inv2#1 -/, (by omega) /- B_X6_inRing_4.inv3#1 -/, (by subst hz9 hz10; rw [Int.add_mul]; omega) /- B_X6_inRing_4.inv4#1 -/, (by first | assumption | omega | grind [z_up, z_cpy]) /- B_X6_inRing_4.inv5#1 -/⟩ (by first | omega | grind) /- B_X6_inRing_4.dec#1 -/

set_option maxHeartbeats 1000000 in
theorem s_X8_isFriend (v_p0_friends : (Int → Int)) (x1 : Int) (x2 : Int) (h1 : 0 ≤ x1) (h2 : x1 < 7) : wp (f_X8_isFriend v_p0_friends x1 x2) (fun o => (o = if bt (v_p0_friends x1) x2 = 0 then 0 else 1)) := by
  unfold f_X8_isFriend
  refine wp_ck (z_ix_i.mpr ⟨⟨(by first | omega | grind) /- ix.lo x1#1 -/, (by first | omega | grind) /- ix.hi x1#1 -/⟩, (by first | omega | grind) /- ix.big x1#1 -/⟩) ?_
  refine wp_ck (z_r32_t _) ?_
  refine wp_if (fun c1 => ?_) (fun c1 => ?_)
  ·
    refine wp_some ?_
    try dsimp only
    all_goals exact (by exact (if_pos c1).symm) /- post1#1 -/
  ·
    refine wp_some ?_
    try dsimp only
    all_goals exact (by exact (if_neg c1).symm) /- post1#2 -/

set_option maxHeartbeats 1000000 in
theorem s_X2_serve (i_p0_rules_seats : Int) (v_p0_state_friends : (Int → Int)) (v_p0_places : (Int → Int)) (v_p0_holders : (Int → Int)) (x1 : Int) (h1 : 2 ≤ i_p0_rules_seats) (h2 : i_p0_rules_seats ≤ 7) (h3 : 0 ≤ x1) (h4 : x1 < i_p0_rules_seats) : wp (f_X2_serve i_p0_rules_seats v_p0_state_friends v_p0_places v_p0_holders x1) (fun o => (∀ p, 0 ≤ p → p < i_p0_rules_seats → o.1 (x1 * 7 + p) = plc i_p0_rules_seats x1 (v_p0_state_friends x1) p) ∧ (∀ p, 0 ≤ p → p < i_p0_rules_seats → o.2 (x1 * 7 + plc i_p0_rules_seats x1 (v_p0_state_friends x1) p) = p) ∧ (∀ q, (q < x1 * 7 ∨ x1 * 7 + 7 ≤ q) → o.1 q = v_p0_places q) ∧ (∀ q, (q < x1 * 7 ∨ x1 * 7 + 7 ≤ q) → o.2 q = v_p0_holders q)) := by
  unfold f_X2_serve
  refine wp_bnd ?_
  refine wp_bndE (fun z2 hz2 => ?_)
  refine wp_bnd ?_
  refine wp_lq5 (fun (z4 : Int) (z5 : Int) (z6 : Int) (w7 : (Int → Int)) (w8 : (Int → Int)) => (0 ≤ z4) ∧ (z4 ≤ i_p0_rules_seats) ∧ (z6 = z4 - cnt i_p0_rules_seats x1 (v_p0_state_friends x1) z4.toNat) ∧ (z5 = i_p0_rules_seats - 1 - cnt i_p0_rules_seats x1 (v_p0_state_friends x1) z4.toNat) ∧ (∀ j : Nat, (j : Int) < z4 → w7 (x1 * 7 + (x1 + (j : Int)) % i_p0_rules_seats) = plJ i_p0_rules_seats x1 (v_p0_state_friends x1) j) ∧ (∀ j : Nat, (j : Int) < z4 → w8 (x1 * 7 + plJ i_p0_rules_seats x1 (v_p0_state_friends x1) j) = (x1 + (j : Int)) % i_p0_rules_seats) ∧ (∀ q, (q < x1 * 7 ∨ x1 * 7 + 7 ≤ q) → w7 q = v_p0_places q) ∧ (∀ q, (q < x1 * 7 ∨ x1 * 7 + 7 ≤ q) → w8 q = v_p0_holders q)) (fun (z4 : Int) (z5 : Int) (z6 : Int) (w7 : (Int → Int)) (w8 : (Int → Int)) => (i_p0_rules_seats - z4).toNat) (fun again15 z4 z5 z6 w7 w8 hI ih_B_X2_serve_15 => ?_) 1000 _ _ _ _ _ ⟨(by first | assumption | omega | grind [z_up, z_cpy]) /- B_X2_serve_15.init1#1 -/, (by first | assumption | omega | grind [z_up, z_cpy]) /- B_X2_serve_15.init2#1 -/, (by show _ = _ - (0 : Int); omega) /- B_X2_serve_15.init3#1 -/, (by show _ = _ - (0 : Int); omega) /- B_X2_serve_15.init4#1 -/, (by intro j hj; omega) /- B_X2_serve_15.init5#1 -/, (by intro j hj; omega) /- B_X2_serve_15.init6#1 -/, (by intro q hq; rfl) /- B_X2_serve_15.init7#1 -/, (by intro q hq; rfl) /- B_X2_serve_15.init8#1 -/⟩ (by first | omega | grind) /- B_X2_serve_15.fuel#1 -/
  obtain ⟨i_B_X2_serve_15_1, i_B_X2_serve_15_2, i_B_X2_serve_15_3, i_B_X2_serve_15_4, i_B_X2_serve_15_5, i_B_X2_serve_15_6, i_B_X2_serve_15_7, i_B_X2_serve_15_8⟩ := hI
  unfold B_X2_serve_15
  refine wp_ck (z_r32_i.mpr ⟨(by first | omega | grind) /- z_r32.lo z4#1 -/, (by first | omega | grind) /- z_r32.hi z4#1 -/⟩) ?_
  refine wp_ck (z_r32_i.mpr ⟨(by first | omega | grind) /- z_r32.lo i_p0_rules_seats#1 -/, (by first | omega | grind) /- z_r32.hi i_p0_rules_seats#1 -/⟩) ?_
  refine wp_if (fun c1 => ?_) (fun c1 => ?_)
  ·
    refine wp_some ?_
    try dsimp only
    all_goals exact ⟨(by 
                                        intro p h0 h1
                                        have e := rg_back (k := x1) (n := i_p0_rules_seats) (by omega) h0 h1
                                        have b : ((((p - x1) % i_p0_rules_seats).toNat : Nat) : Int) < z4 := by
                                          have := rg_lo (n := i_p0_rules_seats) (k := p - x1) (by omega)
                                          have := rg_hi (n := i_p0_rules_seats) (k := p - x1) (by omega)
                                          omega
                                        have q := i_B_X2_serve_15_5 _ b
                                        rw [e] at q
                                        exact q) /- post1#1 -/, (by 
                                        intro p h0 h1
                                        have e := rg_back (k := x1) (n := i_p0_rules_seats) (by omega) h0 h1
                                        have b : ((((p - x1) % i_p0_rules_seats).toNat : Nat) : Int) < z4 := by
                                          have := rg_lo (n := i_p0_rules_seats) (k := p - x1) (by omega)
                                          have := rg_hi (n := i_p0_rules_seats) (k := p - x1) (by omega)
                                          omega
                                        have q := i_B_X2_serve_15_6 _ b
                                        rw [e] at q
                                        exact q) /- post2#1 -/, (by exact i_B_X2_serve_15_7) /- post3#1 -/, (by exact i_B_X2_serve_15_8) /- post4#1 -/⟩
  ·
    refine wp_bd1 (s_X6_inRing _ _ (by first | assumption | omega | grind [z_up, z_cpy]) /- pre X6_inRing.1#1 -/ (by first | assumption | omega | grind [z_up, z_cpy]) /- pre X6_inRing.2#1 -/ (by first | assumption | omega | grind [z_up, z_cpy]) /- pre X6_inRing.3#1 -/ (by first | assumption | omega | grind [z_up, z_cpy]) /- pre X6_inRing.4#1 -/) (fun z12 q_X6_inRing_1 => ?_)
    try dsimp only at q_X6_inRing_1
    have hr0 : 0 ≤ (x1 + z4) % i_p0_rules_seats := rg_lo (by omega)
    have hr1 : (x1 + z4) % i_p0_rules_seats < i_p0_rules_seats := rg_hi (by omega)
    have hcn := cnt_rng i_p0_rules_seats x1 (v_p0_state_friends x1) z4.toNat
    have hez : ((z4.toNat : Nat) : Int) = z4 := by omega
    have hcs : cnt i_p0_rules_seats x1 (v_p0_state_friends x1) (z4.toNat + 1) = cnt i_p0_rules_seats x1 (v_p0_state_friends x1) z4.toNat + low1 x1 (v_p0_state_friends x1) ((x1 + z4) % i_p0_rules_seats) := by show _ + low1 _ _ ((x1 + ((z4.toNat : Nat) : Int)) % _) = _; rw [hez]
    have hpl : plJ i_p0_rules_seats x1 (v_p0_state_friends x1) z4.toNat = if low1 x1 (v_p0_state_friends x1) ((x1 + z4) % i_p0_rules_seats) = 1 then i_p0_rules_seats - 1 - cnt i_p0_rules_seats x1 (v_p0_state_friends x1) z4.toNat else z4 - cnt i_p0_rules_seats x1 (v_p0_state_friends x1) z4.toNat := by unfold plJ; rw [hez]
    refine wp_bnd ?_
    refine wp_ck (z_r32_i.mpr ⟨(by first | omega | grind) /- z_r32.lo z13#1 -/, (by first | omega | grind) /- z_r32.hi z13#1 -/⟩) ?_
    refine wp_ck (z_r32_i.mpr ⟨(by first | omega | grind) /- z_r32.lo x1#1 -/, (by first | omega | grind) /- z_r32.hi x1#1 -/⟩) ?_
    refine wp_jn ?_
    refine wp_jn ?_
    refine wp_if (fun c2 => ?_) (fun c2 => ?_)
    ·
      refine wp_bnd ?_
      refine wp_bndE (fun z25 hz25 => ?_)
      refine wp_ck (z_ix_i.mpr ⟨⟨(by first | omega | grind) /- ix.lo ((x1 * (7 : Int)) + z13)#1 -/, (by first | omega | grind) /- ix.hi ((x1 * (7 : Int)) + z13)#1 -/⟩, (by first | omega | grind) /- ix.big ((x1 * (7 : Int)) + z13)#1 -/⟩) ?_
      refine wp_bnd ?_
      refine wp_ck (z_ix_i.mpr ⟨⟨(by omega) /- ix.lo ((x1 * (7 : Int)) + z18)#1 -/, (by first | omega | grind) /- ix.hi ((x1 * (7 : Int)) + z18)#1 -/⟩, (by first | omega | grind) /- ix.big ((x1 * (7 : Int)) + z18)#1 -/⟩) ?_
      refine wp_bnd ?_
      refine wp_bndE (fun z22 hz22 => ?_)
      have he13 : (x1 + z4) % i_p0_rules_seats = z12 := by omega
      have hL : low1 x1 (v_p0_state_friends x1) ((x1 + z4) % i_p0_rules_seats) = 1 := by unfold low1; rw [if_pos (Or.inl (by omega))]
      have hP : z5 = plJ i_p0_rules_seats x1 (v_p0_state_friends x1) z4.toNat := by rw [hpl, hL]; simp; omega
      have hPr := plJ_rng (n := i_p0_rules_seats) (k := x1) (f := (v_p0_state_friends x1)) (j := z4.toNat) (by omega)
      have h1 : (z4 + 1).toNat = z4.toNat + 1 := by omega
      exact ih_B_X2_serve_15 _ _ _ _ _ ⟨(by first | assumption | omega | grind [z_up, z_cpy]) /- B_X2_serve_15.inv1#1 -/, (by first | assumption | omega | grind [z_up, z_cpy]) /- B_X2_serve_15.inv2#1 -/, (by rw [hz22, h1, hcs, hL]; omega) /- B_X2_serve_15.inv3#1 -/, (by rw [hz22, h1, hcs, hL]; omega) /- B_X2_serve_15.inv4#1 -/, (by 
                                        intro j hj
                                        by_cases e : (j : Int) = z4
                                        · have e2 : j = z4.toNat := by omega
                                          subst e2
                                          rw [hez, he13, z_up_s]; exact hP
                                        · rw [z_up_n _ _ (fun h => e (rg_inj (n := i_p0_rules_seats) (k := x1) (by omega) (by omega) (by omega) (by omega) (by omega)))]
                                          exact i_B_X2_serve_15_5 j (by omega)) /- B_X2_serve_15.inv5#1 -/, (by 
                                        intro j hj
                                        by_cases e : (j : Int) = z4
                                        · have e2 : j = z4.toNat := by omega
                                          subst e2
                                          rw [hez, he13, ← hP, z_up_s]
                                        · rw [z_up_n _ _ (fun h => plJ_inj (n := i_p0_rules_seats) (k := x1) (f := v_p0_state_friends x1) (i := j) (j := z4.toNat) (by omega) (by omega) (by omega))]
                                          exact i_B_X2_serve_15_6 j (by omega)) /- B_X2_serve_15.inv6#1 -/, (by intro q hq; rw [z_up_n _ _ (by omega)]; exact i_B_X2_serve_15_7 q hq) /- B_X2_serve_15.inv7#1 -/, (by intro q hq; rw [z_up_n _ _ (by omega)]; exact i_B_X2_serve_15_8 q hq) /- B_X2_serve_15.inv8#1 -/⟩ (by first | omega | grind) /- B_X2_serve_15.dec#1 -/
    ·
      refine wp_bd1 (s_X8_isFriend _ _ _ (by first | assumption | omega | grind [z_up, z_cpy]) /- pre X8_isFriend.1#1 -/ (by first | assumption | omega | grind [z_up, z_cpy]) /- pre X8_isFriend.2#1 -/) (fun z26 q_X8_isFriend_1 => ?_)
      try dsimp only at q_X8_isFriend_1
      refine wp_ck (z_r32_i.mpr ⟨(by first | omega | grind) /- z_r32.lo z26#1 -/, (by first | omega | grind) /- z_r32.hi z26#1 -/⟩) ?_
      refine wp_if (fun c3 => ?_) (fun c3 => ?_)
      ·
        refine wp_bnd ?_
        refine wp_bndE (fun z29 hz29 => ?_)
        refine wp_ck (z_ix_i.mpr ⟨⟨(by first | omega | grind) /- ix.lo ((x1 * (7 : Int)) + z13)#2 -/, (by first | omega | grind) /- ix.hi ((x1 * (7 : Int)) + z13)#2 -/⟩, (by first | omega | grind) /- ix.big ((x1 * (7 : Int)) + z13)#2 -/⟩) ?_
        refine wp_bnd ?_
        refine wp_ck (z_ix_i.mpr ⟨⟨(by omega) /- ix.lo ((x1 * (7 : Int)) + z18)#2 -/, (by first | omega | grind) /- ix.hi ((x1 * (7 : Int)) + z18)#2 -/⟩, (by first | omega | grind) /- ix.big ((x1 * (7 : Int)) + z18)#2 -/⟩) ?_
        refine wp_bnd ?_
        refine wp_bndE (fun z22 hz22 => ?_)
        have he13 : (x1 + z4) % i_p0_rules_seats = z12 := by omega
        have hb : bt (v_p0_state_friends x1) z12 = 0 := by
          by_cases hbb : bt (v_p0_state_friends x1) z12 = 0
          · exact hbb
          · rw [if_neg hbb] at q_X8_isFriend_1; omega
        have hL : low1 x1 (v_p0_state_friends x1) ((x1 + z4) % i_p0_rules_seats) = 0 := by
          unfold low1; rw [he13, if_neg]; intro h; rcases h with h | h
          · exact c2 h
          · exact h hb
        have hP : z6 = plJ i_p0_rules_seats x1 (v_p0_state_friends x1) z4.toNat := by rw [hpl, hL]; simp; omega
        have hPr := plJ_rng (n := i_p0_rules_seats) (k := x1) (f := (v_p0_state_friends x1)) (j := z4.toNat) (by omega)
        have h1 : (z4 + 1).toNat = z4.toNat + 1 := by omega
        exact ih_B_X2_serve_15 _ _ _ _ _ ⟨(by first | assumption | omega | grind [z_up, z_cpy]) /- B_X2_serve_15.inv1#2 -/, (by first | assumption | omega | grind [z_up, z_cpy]) /- B_X2_serve_15.inv2#2 -/, (by rw [hz22, h1, hcs, hL]; omega) /- B_X2_serve_15.inv3#2 -/, (by rw [hz22, h1, hcs, hL]; omega) /- B_X2_serve_15.inv4#2 -/, (by 
                                        intro j hj
                                        by_cases e : (j : Int) = z4
                                        · have e2 : j = z4.toNat := by omega
                                          subst e2
                                          rw [hez, he13, z_up_s]; exact hP
                                        · rw [z_up_n _ _ (fun h => e (rg_inj (n := i_p0_rules_seats) (k := x1) (by omega) (by omega) (by omega) (by omega) (by omega)))]
                                          exact i_B_X2_serve_15_5 j (by omega)) /- B_X2_serve_15.inv5#2 -/, (by 
                                        intro j hj
                                        by_cases e : (j : Int) = z4
                                        · have e2 : j = z4.toNat := by omega
                                          subst e2
                                          rw [hez, he13, ← hP, z_up_s]
                                        · rw [z_up_n _ _ (fun h => plJ_inj (n := i_p0_rules_seats) (k := x1) (f := v_p0_state_friends x1) (i := j) (j := z4.toNat) (by omega) (by omega) (by omega))]
                                          exact i_B_X2_serve_15_6 j (by omega)) /- B_X2_serve_15.inv6#2 -/, (by intro q hq; rw [z_up_n _ _ (by omega)]; exact i_B_X2_serve_15_7 q hq) /- B_X2_serve_15.inv7#2 -/, (by intro q hq; rw [z_up_n _ _ (by omega)]; exact i_B_X2_serve_15_8 q hq) /- B_X2_serve_15.inv8#2 -/⟩ (by first | omega | grind) /- B_X2_serve_15.dec#2 -/
      ·
        refine wp_bnd ?_
        refine wp_bndE (fun z25 hz25 => ?_)
        refine wp_ck (z_ix_i.mpr ⟨⟨(by first | omega | grind) /- ix.lo ((x1 * (7 : Int)) + z13)#3 -/, (by first | omega | grind) /- ix.hi ((x1 * (7 : Int)) + z13)#3 -/⟩, (by first | omega | grind) /- ix.big ((x1 * (7 : Int)) + z13)#3 -/⟩) ?_
        refine wp_bnd ?_
        refine wp_ck (z_ix_i.mpr ⟨⟨(by omega) /- ix.lo ((x1 * (7 : Int)) + z18)#3 -/, (by first | omega | grind) /- ix.hi ((x1 * (7 : Int)) + z18)#3 -/⟩, (by first | omega | grind) /- ix.big ((x1 * (7 : Int)) + z18)#3 -/⟩) ?_
        refine wp_bnd ?_
        refine wp_bndE (fun z22 hz22 => ?_)
        have he13 : (x1 + z4) % i_p0_rules_seats = z12 := by omega
        have hb : ¬ bt (v_p0_state_friends x1) z12 = 0 := by
          intro hbb; rw [if_pos hbb] at q_X8_isFriend_1; omega
        have hL : low1 x1 (v_p0_state_friends x1) ((x1 + z4) % i_p0_rules_seats) = 1 := by unfold low1; rw [he13, if_pos (Or.inr hb)]
        have hP : z5 = plJ i_p0_rules_seats x1 (v_p0_state_friends x1) z4.toNat := by rw [hpl, hL]; simp; omega
        have hPr := plJ_rng (n := i_p0_rules_seats) (k := x1) (f := (v_p0_state_friends x1)) (j := z4.toNat) (by omega)
        have h1 : (z4 + 1).toNat = z4.toNat + 1 := by omega
        exact ih_B_X2_serve_15 _ _ _ _ _ ⟨(by first | assumption | omega | grind [z_up, z_cpy]) /- B_X2_serve_15.inv1#3 -/, (by first | assumption | omega | grind [z_up, z_cpy]) /- B_X2_serve_15.inv2#3 -/, (by rw [hz22, h1, hcs, hL]; omega) /- B_X2_serve_15.inv3#3 -/, (by rw [hz22, h1, hcs, hL]; omega) /- B_X2_serve_15.inv4#3 -/, (by 
                                        intro j hj
                                        by_cases e : (j : Int) = z4
                                        · have e2 : j = z4.toNat := by omega
                                          subst e2
                                          rw [hez, he13, z_up_s]; exact hP
                                        · rw [z_up_n _ _ (fun h => e (rg_inj (n := i_p0_rules_seats) (k := x1) (by omega) (by omega) (by omega) (by omega) (by omega)))]
                                          exact i_B_X2_serve_15_5 j (by omega)) /- B_X2_serve_15.inv5#3 -/, (by 
                                        intro j hj
                                        by_cases e : (j : Int) = z4
                                        · have e2 : j = z4.toNat := by omega
                                          subst e2
                                          rw [hez, he13, ← hP, z_up_s]
                                        · rw [z_up_n _ _ (fun h => plJ_inj (n := i_p0_rules_seats) (k := x1) (f := v_p0_state_friends x1) (i := j) (j := z4.toNat) (by omega) (by omega) (by omega))]
                                          exact i_B_X2_serve_15_6 j (by omega)) /- B_X2_serve_15.inv6#3 -/, (by intro q hq; rw [z_up_n _ _ (by omega)]; exact i_B_X2_serve_15_7 q hq) /- B_X2_serve_15.inv7#3 -/, (by intro q hq; rw [z_up_n _ _ (by omega)]; exact i_B_X2_serve_15_8 q hq) /- B_X2_serve_15.inv8#3 -/⟩ (by first | omega | grind) /- B_X2_serve_15.dec#3 -/

set_option maxHeartbeats 1000000 in
theorem s_X2_serveAllKings (i_p0_rules_seats : Int) (v_p0_state_friends : (Int → Int)) (v_p0_places : (Int → Int)) (v_p0_holders : (Int → Int)) (h1 : 2 ≤ i_p0_rules_seats) (h2 : i_p0_rules_seats ≤ 7) : wp (f_X2_serveAllKings i_p0_rules_seats v_p0_state_friends v_p0_places v_p0_holders) (fun o => (∀ k p, 0 ≤ k → k < i_p0_rules_seats → 0 ≤ p → p < i_p0_rules_seats → o.1 (k * 7 + p) = plc i_p0_rules_seats k (v_p0_state_friends k) p) ∧ (∀ k p, 0 ≤ k → k < i_p0_rules_seats → 0 ≤ p → p < i_p0_rules_seats → o.2 (k * 7 + plc i_p0_rules_seats k (v_p0_state_friends k) p) = p)) := by
  unfold f_X2_serveAllKings
  refine wp_bnd ?_
  refine wp_lq3 (fun (z2 : Int) (w3 : (Int → Int)) (w4 : (Int → Int)) => (0 ≤ z2) ∧ (z2 ≤ i_p0_rules_seats) ∧ (∀ k p, 0 ≤ k → k < z2 → 0 ≤ p → p < i_p0_rules_seats → w3 (k * 7 + p) = plc i_p0_rules_seats k (v_p0_state_friends k) p) ∧ (∀ k p, 0 ≤ k → k < z2 → 0 ≤ p → p < i_p0_rules_seats → w4 (k * 7 + plc i_p0_rules_seats k (v_p0_state_friends k) p) = p)) (fun (z2 : Int) (w3 : (Int → Int)) (w4 : (Int → Int)) => (i_p0_rules_seats - z2).toNat) (fun again2 z2 w3 w4 hI ih_B_X2_serveAllKings_2 => ?_) 1000 _ _ _ ⟨(by first | assumption | omega | grind [z_up, z_cpy]) /- B_X2_serveAllKings_2.init1#1 -/, (by first | assumption | omega | grind [z_up, z_cpy]) /- B_X2_serveAllKings_2.init2#1 -/, (by intro k p; omega) /- B_X2_serveAllKings_2.init3#1 -/, (by intro k p; omega) /- B_X2_serveAllKings_2.init4#1 -/⟩ (by first | omega | grind) /- B_X2_serveAllKings_2.fuel#1 -/
  obtain ⟨i_B_X2_serveAllKings_2_1, i_B_X2_serveAllKings_2_2, i_B_X2_serveAllKings_2_3, i_B_X2_serveAllKings_2_4⟩ := hI
  unfold B_X2_serveAllKings_2
  refine wp_ck (z_r32_i.mpr ⟨(by first | omega | grind) /- z_r32.lo z2#1 -/, (by first | omega | grind) /- z_r32.hi z2#1 -/⟩) ?_
  refine wp_ck (z_r32_i.mpr ⟨(by first | omega | grind) /- z_r32.lo i_p0_rules_seats#1 -/, (by first | omega | grind) /- z_r32.hi i_p0_rules_seats#1 -/⟩) ?_
  refine wp_if (fun c1 => ?_) (fun c1 => ?_)
  ·
    refine wp_some ?_
    try dsimp only
    all_goals exact ⟨(by intro k p h0 h1 h2 h3; exact i_B_X2_serveAllKings_2_3 k p h0 (by omega) h2 h3) /- post1#1 -/, (by intro k p h0 h1 h2 h3; exact i_B_X2_serveAllKings_2_4 k p h0 (by omega) h2 h3) /- post2#1 -/⟩
  ·
    refine wp_bd2 (s_X2_serve _ _ _ _ _ (by first | assumption | omega | grind [z_up, z_cpy]) /- pre X2_serve.1#1 -/ (by first | assumption | omega | grind [z_up, z_cpy]) /- pre X2_serve.2#1 -/ (by first | assumption | omega | grind [z_up, z_cpy]) /- pre X2_serve.3#1 -/ (by first | assumption | omega | grind [z_up, z_cpy]) /- pre X2_serve.4#1 -/) (fun w8 w9 q_X2_serve_1 => ?_)
    try dsimp only at q_X2_serve_1
    obtain ⟨q_X2_serve_1_1, q_X2_serve_1_2, q_X2_serve_1_3, q_X2_serve_1_4⟩ := q_X2_serve_1
    refine wp_bndE (fun z10 hz10 => ?_)
    exact ih_B_X2_serveAllKings_2 _ _ _ ⟨(by first | assumption | omega | grind [z_up, z_cpy]) /- B_X2_serveAllKings_2.inv1#1 -/, (by first | assumption | omega | grind [z_up, z_cpy]) /- B_X2_serveAllKings_2.inv2#1 -/, (by 
                                        intro k p h0 h1 h2 h3
                                        by_cases e : k = z2
                                        · subst e; exact q_X2_serve_1_1 p h2 h3
                                        · rw [q_X2_serve_1_3 _ (by omega)]; exact i_B_X2_serveAllKings_2_3 k p h0 (by omega) h2 h3) /- B_X2_serveAllKings_2.inv3#1 -/, (by 
                                        intro k p h0 h1 h2 h3
                                        have hpr := plc_rng (n := i_p0_rules_seats) (k := k) (f := v_p0_state_friends k) (p := p) (by omega)
                                        by_cases e : k = z2
                                        · subst e; exact q_X2_serve_1_2 p h2 h3
                                        · rw [q_X2_serve_1_4 _ (by omega)]; exact i_B_X2_serveAllKings_2_4 k p h0 (by omega) h2 h3) /- B_X2_serveAllKings_2.inv4#1 -/⟩ (by first | omega | grind) /- B_X2_serveAllKings_2.dec#1 -/

set_option maxHeartbeats 1000000 in
theorem s_J7_fill_53178 (n_p0 : Nat) (v_p0 : (Int → Int)) (x1 : Int) (h1 : n_p0 < 1000) : wp (f_J7_fill_53178 n_p0 v_p0 x1) (fun o => (o = z_fill v_p0 (n_p0 : Int) x1)) := by
  unfold f_J7_fill_53178
  refine wp_bnd ?_
  refine wp_bnd ?_
  refine wp_lq2 (fun (z3 : Int) (w4 : (Int → Int)) => (0 ≤ z3) ∧ (z3 ≤ (n_p0 : Int)) ∧ (w4 = z_fill v_p0 z3 x1)) (fun (z3 : Int) (w4 : (Int → Int)) => ((n_p0 : Int) - z3).toNat) (fun again5 z3 w4 hI ih_B_J7_fill_53178_5 => ?_) 1000 _ _ ⟨(by first | assumption | omega | grind [z_up, z_cpy]) /- B_J7_fill_53178_5.init1#1 -/, (by first | assumption | omega | grind [z_up, z_cpy]) /- B_J7_fill_53178_5.init2#1 -/, (by funext j; show _ = if 0 ≤ j ∧ j < 0 then _ else _; rw [if_neg (by omega)]) /- B_J7_fill_53178_5.init3#1 -/⟩ (by first | omega | grind) /- B_J7_fill_53178_5.fuel#1 -/
  obtain ⟨i_B_J7_fill_53178_5_1, i_B_J7_fill_53178_5_2, i_B_J7_fill_53178_5_3⟩ := hI
  unfold B_J7_fill_53178_5
  refine wp_ck (z_r32_i.mpr ⟨(by first | omega | grind) /- z_r32.lo z3#1 -/, (by first | omega | grind) /- z_r32.hi z3#1 -/⟩) ?_
  refine wp_ck (z_r32_i.mpr ⟨(by first | omega | grind) /- z_r32.lo z2#1 -/, (by first | omega | grind) /- z_r32.hi z2#1 -/⟩) ?_
  refine wp_if (fun c1 => ?_) (fun c1 => ?_)
  ·
    refine wp_some ?_
    try dsimp only
    all_goals exact (by rw [i_B_J7_fill_53178_5_3]; congr 1; omega) /- post1#1 -/
  ·
    refine wp_ck (z_ix_i.mpr ⟨⟨(by first | omega | grind) /- ix.lo z3#1 -/, (by first | omega | grind) /- ix.hi z3#1 -/⟩, (by first | omega | grind) /- ix.big z3#1 -/⟩) ?_
    refine wp_bnd ?_
    refine wp_bndE (fun z9 hz9 => ?_)
    exact ih_B_J7_fill_53178_5 _ _ ⟨(by first | assumption | omega | grind [z_up, z_cpy]) /- B_J7_fill_53178_5.inv1#1 -/, (by first | assumption | omega | grind [z_up, z_cpy]) /- B_J7_fill_53178_5.inv2#1 -/, (by subst hz9; rw [i_B_J7_fill_53178_5_3]; exact z_fill_s i_B_J7_fill_53178_5_1) /- B_J7_fill_53178_5.inv3#1 -/⟩ (by first | omega | grind) /- B_J7_fill_53178_5.dec#1 -/

set_option maxHeartbeats 1000000 in
theorem s_X6_placeAfter (v_p0_after : (Int → Int)) (x1 : Int) (x2 : Int) (h1 : 0 ≤ x1) (h2 : x1 < 5) (h3 : 0 ≤ x2) (h4 : x2 < 7) : wp (f_X6_placeAfter v_p0_after x1 x2) (fun o => (o = v_p0_after (x1 * 7 + x2))) := by
  unfold f_X6_placeAfter
  refine wp_ck (z_ix_i.mpr ⟨⟨(by first | omega | grind) /- ix.lo ((x1 * (7 : Int)) + x2)#1 -/, (by first | omega | grind) /- ix.hi ((x1 * (7 : Int)) + x2)#1 -/⟩, (by first | omega | grind) /- ix.big ((x1 * (7 : Int)) + x2)#1 -/⟩) ?_
  refine wp_some ?_
  try dsimp only
  all_goals exact (by rfl) /- post1#1 -/

set_option maxHeartbeats 1000000 in
theorem s_X2_holderOf (v_p0_holders : (Int → Int)) (x1 : Int) (x2 : Int) (h1 : 0 ≤ x1) (h2 : x1 < 7) (h3 : 0 ≤ x2) (h4 : x2 < 7) : wp (f_X2_holderOf v_p0_holders x1 x2) (fun o => (o = v_p0_holders (x1 * 7 + x2))) := by
  unfold f_X2_holderOf
  refine wp_ck (z_ix_i.mpr ⟨⟨(by first | omega | grind) /- ix.lo ((x1 * (7 : Int)) + x2)#1 -/, (by first | omega | grind) /- ix.hi ((x1 * (7 : Int)) + x2)#1 -/⟩, (by first | omega | grind) /- ix.big ((x1 * (7 : Int)) + x2)#1 -/⟩) ?_
  refine wp_some ?_
  try dsimp only
  all_goals exact (by rfl) /- post1#1 -/

set_option maxHeartbeats 1000000 in
theorem s_X6_stirInto (n_p2 : Nat) (n_p3 : Nat) (i_p0_seats : Int) (v_p0_after : (Int → Int)) (v_p2 : (Int → Int)) (v_p3 : (Int → Int)) (x1 : Int) (h1 : n_p2 = 7) (h2 : n_p3 = 7) (h3 : 2 ≤ i_p0_seats) (h4 : i_p0_seats ≤ 7) (h5 : 0 ≤ x1) (h6 : x1 < 5) (h7 : perm i_p0_seats (fun i => v_p0_after (x1 * 7 + i))) : wp (f_X6_stirInto n_p2 n_p3 i_p0_seats v_p0_after v_p2 v_p3 x1) (fun o => (∀ i, 0 ≤ i → i < i_p0_seats → o (v_p0_after (x1 * 7 + i)) = v_p2 i) ∧ (∀ q, (q < 0 ∨ i_p0_seats ≤ q) → o q = v_p3 q)) := by
  unfold f_X6_stirInto
  refine wp_bnd ?_
  refine wp_lq2 (fun (z2 : Int) (w3 : (Int → Int)) => (0 ≤ z2) ∧ (z2 ≤ i_p0_seats) ∧ (∀ i, 0 ≤ i → i < z2 → w3 (v_p0_after (x1 * 7 + i)) = v_p2 i) ∧ (∀ q, (q < 0 ∨ i_p0_seats ≤ q) → w3 q = v_p3 q)) (fun (z2 : Int) (w3 : (Int → Int)) => (i_p0_seats - z2).toNat) (fun again3 z2 w3 hI ih_B_X6_stirInto_3 => ?_) 1000 _ _ ⟨(by first | assumption | omega | grind [z_up, z_cpy]) /- B_X6_stirInto_3.init1#1 -/, (by first | assumption | omega | grind [z_up, z_cpy]) /- B_X6_stirInto_3.init2#1 -/, (by intro i; omega) /- B_X6_stirInto_3.init3#1 -/, (by intro q hq; rfl) /- B_X6_stirInto_3.init4#1 -/⟩ (by first | omega | grind) /- B_X6_stirInto_3.fuel#1 -/
  obtain ⟨i_B_X6_stirInto_3_1, i_B_X6_stirInto_3_2, i_B_X6_stirInto_3_3, i_B_X6_stirInto_3_4⟩ := hI
  unfold B_X6_stirInto_3
  refine wp_ck (z_r32_i.mpr ⟨(by first | omega | grind) /- z_r32.lo z2#1 -/, (by first | omega | grind) /- z_r32.hi z2#1 -/⟩) ?_
  refine wp_ck (z_r32_i.mpr ⟨(by first | omega | grind) /- z_r32.lo i_p0_seats#1 -/, (by first | omega | grind) /- z_r32.hi i_p0_seats#1 -/⟩) ?_
  refine wp_if (fun c1 => ?_) (fun c1 => ?_)
  ·
    refine wp_some ?_
    try dsimp only
    all_goals exact ⟨(by intro i h0 h1; exact i_B_X6_stirInto_3_3 i h0 (by omega)) /- post1#1 -/, (by exact i_B_X6_stirInto_3_4) /- post2#1 -/⟩
  ·
    refine wp_bd1 (s_X6_placeAfter _ _ _ (by first | assumption | omega | grind [z_up, z_cpy]) /- pre X6_placeAfter.1#1 -/ (by first | assumption | omega | grind [z_up, z_cpy]) /- pre X6_placeAfter.2#1 -/ (by first | assumption | omega | grind [z_up, z_cpy]) /- pre X6_placeAfter.3#1 -/ (by first | assumption | omega | grind [z_up, z_cpy]) /- pre X6_placeAfter.4#1 -/) (fun z7 q_X6_placeAfter_1 => ?_)
    try dsimp only at q_X6_placeAfter_1
    have hpa := h7.1 z2 (by omega) (by omega)
    dsimp only at hpa
    rw [← q_X6_placeAfter_1] at hpa
    refine wp_ck (z_ix_i.mpr ⟨⟨(by first | omega | grind) /- ix.lo z2#1 -/, (by first | omega | grind) /- ix.hi z2#1 -/⟩, (by first | omega | grind) /- ix.big z2#1 -/⟩) ?_
    refine wp_ck (z_ix_i.mpr ⟨⟨(by first | omega | grind) /- ix.lo z7#1 -/, (by first | omega | grind) /- ix.hi z7#1 -/⟩, (by first | omega | grind) /- ix.big z7#1 -/⟩) ?_
    refine wp_bnd ?_
    refine wp_bndE (fun z9 hz9 => ?_)
    exact ih_B_X6_stirInto_3 _ _ ⟨(by first | assumption | omega | grind [z_up, z_cpy]) /- B_X6_stirInto_3.inv1#1 -/, (by first | assumption | omega | grind [z_up, z_cpy]) /- B_X6_stirInto_3.inv2#1 -/, (by 
                                        intro i h0 h1
                                        by_cases e : i = z2
                                        · subst e; rw [← q_X6_placeAfter_1, z_up_s]
                                        · rw [z_up_n _ _ (fun h => e (h7.2 i z2 h0 (by omega) (by omega) (by omega) (by dsimp only; omega)))]
                                          exact i_B_X6_stirInto_3_3 i h0 (by omega)) /- B_X6_stirInto_3.inv3#1 -/, (by intro q hq; rw [z_up_n _ _ (by omega)]; exact i_B_X6_stirInto_3_4 q hq) /- B_X6_stirInto_3.inv4#1 -/⟩ (by first | omega | grind) /- B_X6_stirInto_3.dec#1 -/

set_option maxHeartbeats 1000000 in
theorem s_X2_stirPot (i_p0_rules_seats : Int) (v_p0_rules_after : (Int → Int)) (v_p0_state_pieces : (Int → Int)) (v_p0_stirred : (Int → Int)) (x1 : Int) (h1 : 2 ≤ i_p0_rules_seats) (h2 : i_p0_rules_seats ≤ 7) (h3 : 0 ≤ x1) (h4 : x1 < 5) (h5 : perm i_p0_rules_seats (fun i => v_p0_rules_after (x1 * 7 + i))) : wp (f_X2_stirPot i_p0_rules_seats v_p0_rules_after v_p0_state_pieces v_p0_stirred x1) (fun o => (∀ i, 0 ≤ i → i < i_p0_rules_seats → o (v_p0_rules_after (x1 * 7 + i)) = v_p0_state_pieces i) ∧ (∀ q, (q < 0 ∨ i_p0_rules_seats ≤ q) → o q = v_p0_stirred q)) := by
  unfold f_X2_stirPot
  refine wp_bd1 (s_X6_stirInto _ _ _ _ _ _ _ (by rfl) /- pre X6_stirInto.1#1 -/ (by rfl) /- pre X6_stirInto.2#1 -/ (by first | assumption | omega | grind [z_up, z_cpy]) /- pre X6_stirInto.3#1 -/ (by first | assumption | omega | grind [z_up, z_cpy]) /- pre X6_stirInto.4#1 -/ (by first | assumption | omega | grind [z_up, z_cpy]) /- pre X6_stirInto.5#1 -/ (by first | assumption | omega | grind [z_up, z_cpy]) /- pre X6_stirInto.6#1 -/ (by exact h5) /- pre X6_stirInto.7#1 -/) (fun w1 q_X6_stirInto_1 => ?_)
  try dsimp only at q_X6_stirInto_1
  obtain ⟨q_X6_stirInto_1_1, q_X6_stirInto_1_2⟩ := q_X6_stirInto_1
  refine wp_some ?_
  try dsimp only
  all_goals exact ⟨(by exact q_X6_stirInto_1_1) /- post1#1 -/, (by exact q_X6_stirInto_1_2) /- post2#1 -/⟩

set_option maxHeartbeats 1000000 in
theorem s_X2_passDay (i_p0_rules_seats : Int) (v_p0_rules_after : (Int → Int)) (i_p0_state_bone : Int) (i_p0_state_king : Int) (i_p0_state_days : Int) (v_p0_state_pieces : (Int → Int)) (v_p0_state_friends : (Int → Int)) (v_p0_state_eaten : (Int → Int)) (v_p0_places : (Int → Int)) (v_p0_holders : (Int → Int)) (v_p0_stirred : (Int → Int)) (x1 : Int) (h1 : 2 ≤ i_p0_rules_seats) (h2 : i_p0_rules_seats ≤ 7) (h3 : 0 ≤ x1) (h4 : x1 < 5) (h5 : perm i_p0_rules_seats (fun i => v_p0_rules_after (x1 * 7 + i))) (h6 : 0 ≤ i_p0_state_bone) (h7 : i_p0_state_bone < i_p0_rules_seats) (h8 : 0 ≤ i_p0_state_king) (h9 : i_p0_state_king < i_p0_rules_seats) : wp (f_X2_passDay i_p0_rules_seats v_p0_rules_after i_p0_state_bone i_p0_state_king i_p0_state_days v_p0_state_pieces v_p0_state_friends v_p0_state_eaten v_p0_places v_p0_holders v_p0_stirred x1) (fun o => (o.1 = v_p0_rules_after (x1 * 7 + i_p0_state_bone)) ∧ (0 ≤ o.2.1 ∧ o.2.1 < i_p0_rules_seats ∧ plc i_p0_rules_seats i_p0_state_king (v_p0_state_friends i_p0_state_king) o.2.1 = o.1) ∧ (o.2.2.1 = i_p0_state_days + 1) ∧ (∀ i, 0 ≤ i → i < i_p0_rules_seats → o.2.2.2.1 (v_p0_rules_after (x1 * 7 + i)) = v_p0_state_pieces i) ∧ (∀ q, (q < 0 ∨ i_p0_rules_seats ≤ q) → o.2.2.2.1 q = v_p0_state_pieces q) ∧ (∀ p, 0 ≤ p → p < i_p0_rules_seats → o.2.2.2.2.1 p = v_p0_state_eaten p + o.2.2.2.1 (plc i_p0_rules_seats i_p0_state_king (v_p0_state_friends i_p0_state_king) p)) ∧ (∀ q, (q < 0 ∨ i_p0_rules_seats ≤ q) → o.2.2.2.2.1 q = v_p0_state_eaten q)) := by
  unfold f_X2_passDay
  have hpb := h5.1 i_p0_state_bone (by omega) (by omega)
  dsimp only at hpb
  refine wp_bnd ?_
  refine wp_bd2 (s_X2_serve _ _ _ _ _ (by first | assumption | omega | grind [z_up, z_cpy]) /- pre X2_serve.1#1 -/ (by first | assumption | omega | grind [z_up, z_cpy]) /- pre X2_serve.2#1 -/ (by first | assumption | omega | grind [z_up, z_cpy]) /- pre X2_serve.3#1 -/ (by first | assumption | omega | grind [z_up, z_cpy]) /- pre X2_serve.4#1 -/) (fun w2 w3 q_X2_serve_1 => ?_)
  try dsimp only at q_X2_serve_1
  obtain ⟨q_X2_serve_1_1, q_X2_serve_1_2, q_X2_serve_1_3, q_X2_serve_1_4⟩ := q_X2_serve_1
  refine wp_bd1 (s_X2_stirPot _ _ _ _ _ (by first | assumption | omega | grind [z_up, z_cpy]) /- pre X2_stirPot.1#1 -/ (by first | assumption | omega | grind [z_up, z_cpy]) /- pre X2_stirPot.2#1 -/ (by first | assumption | omega | grind [z_up, z_cpy]) /- pre X2_stirPot.3#1 -/ (by first | assumption | omega | grind [z_up, z_cpy]) /- pre X2_stirPot.4#1 -/ (by exact h5) /- pre X2_stirPot.5#1 -/) (fun w4 q_X2_stirPot_1 => ?_)
  try dsimp only at q_X2_stirPot_1
  obtain ⟨q_X2_stirPot_1_1, q_X2_stirPot_1_2⟩ := q_X2_stirPot_1
  refine wp_ck (z_cp_i.mpr ⟨⟨⟨(by first | omega | grind) /- cp.0 (0 : Int)#1 -/, (by first | omega | grind) /- cp.1 (0 : Int)#1 -/⟩, (by first | omega | grind) /- cp.2 (0 : Int)#1 -/⟩, (by first | omega | grind) /- cp.3 (0 : Int)#1 -/⟩) ?_
  refine wp_ck (z_cp_i.mpr ⟨⟨⟨(by first | omega | grind) /- cp.0 (0 : Int)#2 -/, (by first | omega | grind) /- cp.1 (0 : Int)#2 -/⟩, (by first | omega | grind) /- cp.2 (0 : Int)#2 -/⟩, (by first | omega | grind) /- cp.3 (0 : Int)#2 -/⟩) ?_
  refine wp_bnd ?_
  refine wp_bd1 (s_X6_placeAfter _ _ _ (by first | assumption | omega | grind [z_up, z_cpy]) /- pre X6_placeAfter.1#1 -/ (by first | assumption | omega | grind [z_up, z_cpy]) /- pre X6_placeAfter.2#1 -/ (by first | assumption | omega | grind [z_up, z_cpy]) /- pre X6_placeAfter.3#1 -/ (by first | assumption | omega | grind [z_up, z_cpy]) /- pre X6_placeAfter.4#1 -/) (fun z6 q_X6_placeAfter_1 => ?_)
  try dsimp only at q_X6_placeAfter_1
  refine wp_bnd ?_
  refine wp_bnd ?_
  refine wp_jn ?_
  refine wp_lq2 (fun (z14 : Int) (w15 : (Int → Int)) => (0 ≤ z14) ∧ (z14 ≤ i_p0_rules_seats) ∧ (∀ p, 0 ≤ p → p < z14 → w15 p = v_p0_state_eaten p + w4 (plc i_p0_rules_seats i_p0_state_king (v_p0_state_friends i_p0_state_king) p)) ∧ (∀ q, (q < 0 ∨ z14 ≤ q) → w15 q = v_p0_state_eaten q)) (fun (z14 : Int) (w15 : (Int → Int)) => (i_p0_rules_seats - z14).toNat) (fun again65 z14 w15 hI ih_B_X2_passDay_65 => ?_) 1000 _ _ ⟨(by first | assumption | omega | grind [z_up, z_cpy]) /- B_X2_passDay_65.init1#1 -/, (by first | assumption | omega | grind [z_up, z_cpy]) /- B_X2_passDay_65.init2#1 -/, (by intro p; omega) /- B_X2_passDay_65.init3#1 -/, (by intro q hq; rfl) /- B_X2_passDay_65.init4#1 -/⟩ (by first | omega | grind) /- B_X2_passDay_65.fuel#1 -/
  obtain ⟨i_B_X2_passDay_65_1, i_B_X2_passDay_65_2, i_B_X2_passDay_65_3, i_B_X2_passDay_65_4⟩ := hI
  unfold B_X2_passDay_65
  have hpl := q_X2_serve_1_1 z14
  have hpr := plc_rng (n := i_p0_rules_seats) (k := i_p0_state_king) (f := v_p0_state_friends i_p0_state_king) (p := z14) (by omega)
  refine wp_ck (z_r32_i.mpr ⟨(by first | omega | grind) /- z_r32.lo z14#1 -/, (by first | omega | grind) /- z_r32.hi z14#1 -/⟩) ?_
  refine wp_ck (z_r32_i.mpr ⟨(by first | omega | grind) /- z_r32.lo i_p0_rules_seats#1 -/, (by first | omega | grind) /- z_r32.hi i_p0_rules_seats#1 -/⟩) ?_
  refine wp_if (fun c1 => ?_) (fun c1 => ?_)
  ·
    refine wp_bd1 (s_X2_holderOf _ _ _ (by first | assumption | omega | grind [z_up, z_cpy]) /- pre X2_holderOf.1#1 -/ (by first | assumption | omega | grind [z_up, z_cpy]) /- pre X2_holderOf.2#1 -/ (by first | assumption | omega | grind [z_up, z_cpy]) /- pre X2_holderOf.3#1 -/ (by first | assumption | omega | grind [z_up, z_cpy]) /- pre X2_holderOf.4#1 -/) (fun z11 q_X2_holderOf_1 => ?_)
    try dsimp only at q_X2_holderOf_1
    obtain ⟨kp, hkp, hke⟩ := plc_sur (n := i_p0_rules_seats) (k := i_p0_state_king) (f := v_p0_state_friends i_p0_state_king) (q := z6) (by omega) (by omega) (by omega)
    have hkh := q_X2_serve_1_2 kp hkp.1 hkp.2
    rw [hke, ← q_X2_holderOf_1] at hkh
    refine wp_bnd ?_
    refine wp_bndE (fun z13 hz13 => ?_)
    refine wp_some ?_
    try dsimp only
    all_goals exact ⟨(by exact q_X6_placeAfter_1) /- post1#1 -/, (by rw [hkh]; exact ⟨by omega, by omega, hke⟩) /- post2#1 -/, (by omega) /- post3#1 -/, (by intro i h0 h1; have hi := h5.1 i h0 h1; dsimp only at hi; rw [z_cpy_a, if_pos (by omega), show (0 : Int) + (v_p0_rules_after (x1 * 7 + i) - 0) = v_p0_rules_after (x1 * 7 + i) from by omega]; exact q_X2_stirPot_1_1 i h0 h1) /- post4#1 -/, (by intro q hq; rw [z_cpy_a, if_neg (by omega)]) /- post5#1 -/, (by intro p h0 h1; have hi := plc_rng (n := i_p0_rules_seats) (k := i_p0_state_king) (f := v_p0_state_friends i_p0_state_king) (p := p) (by omega); rw [z_cpy_a, if_pos (by omega), show (0 : Int) + (plc i_p0_rules_seats i_p0_state_king (v_p0_state_friends i_p0_state_king) p - 0) = plc i_p0_rules_seats i_p0_state_king (v_p0_state_friends i_p0_state_king) p from by omega]; exact i_B_X2_passDay_65_3 p h0 (by omega)) /- post6#1 -/, (by intro q hq; exact i_B_X2_passDay_65_4 q (by omega)) /- post7#1 -/⟩
  ·
    refine wp_ck (z_ix_i.mpr ⟨⟨(by first | omega | grind) /- ix.lo z14#1 -/, (by first | omega | grind) /- ix.hi z14#1 -/⟩, (by first | omega | grind) /- ix.big z14#1 -/⟩) ?_
    refine wp_bd1 (s_X2_bowlOf _ _ _ _ (by first | assumption | omega | grind [z_up, z_cpy]) /- pre X2_bowlOf.1#1 -/ (by first | assumption | omega | grind [z_up, z_cpy]) /- pre X2_bowlOf.2#1 -/ (by first | assumption | omega | grind [z_up, z_cpy]) /- pre X2_bowlOf.3#1 -/ (by first | assumption | omega | grind [z_up, z_cpy]) /- pre X2_bowlOf.4#1 -/ (by rw [hpl (by omega) (by omega)]; omega) /- pre X2_bowlOf.5#1 -/ (by rw [hpl (by omega) (by omega)]; omega) /- pre X2_bowlOf.6#1 -/) (fun z19 q_X2_bowlOf_1 => ?_)
    try dsimp only at q_X2_bowlOf_1
    refine wp_ck (z_ix_i.mpr ⟨⟨(by first | omega | grind) /- ix.lo z14#2 -/, (by first | omega | grind) /- ix.hi z14#2 -/⟩, (by first | omega | grind) /- ix.big z14#2 -/⟩) ?_
    refine wp_bnd ?_
    refine wp_bndE (fun z21 hz21 => ?_)
    exact ih_B_X2_passDay_65 _ _ ⟨(by first | assumption | omega | grind [z_up, z_cpy]) /- B_X2_passDay_65.inv1#1 -/, (by first | assumption | omega | grind [z_up, z_cpy]) /- B_X2_passDay_65.inv2#1 -/, (by 
                                        intro p h0 h1
                                        by_cases e : p = z14
                                        · subst e; rw [z_up_s, i_B_X2_passDay_65_4 p (by omega), q_X2_bowlOf_1, hpl (by omega) (by omega)]
                                        · rw [z_up_n _ _ e]; exact i_B_X2_passDay_65_3 p h0 (by omega)) /- B_X2_passDay_65.inv3#1 -/, (by intro q hq; rw [z_up_n _ _ (by omega)]; exact i_B_X2_passDay_65_4 q (by omega)) /- B_X2_passDay_65.inv4#1 -/⟩ (by first | omega | grind) /- B_X2_passDay_65.dec#1 -/

set_option maxHeartbeats 1000000 in
theorem s_J7_fill_d0a16 (n_p0 : Nat) (v_p0 : (Int → Int)) (x1 : Int) (h1 : n_p0 < 1000) : wp (f_J7_fill_d0a16 n_p0 v_p0 x1) (fun o => (o = z_fill v_p0 (n_p0 : Int) x1)) := by
  unfold f_J7_fill_d0a16
  refine wp_bnd ?_
  refine wp_bnd ?_
  refine wp_lq2 (fun (z3 : Int) (w4 : (Int → Int)) => (0 ≤ z3) ∧ (z3 ≤ (n_p0 : Int)) ∧ (w4 = z_fill v_p0 z3 x1)) (fun (z3 : Int) (w4 : (Int → Int)) => ((n_p0 : Int) - z3).toNat) (fun again6 z3 w4 hI ih_B_J7_fill_d0a16_6 => ?_) 1000 _ _ ⟨(by first | assumption | omega | grind [z_up, z_cpy]) /- B_J7_fill_d0a16_6.init1#1 -/, (by first | assumption | omega | grind [z_up, z_cpy]) /- B_J7_fill_d0a16_6.init2#1 -/, (by funext j; show _ = if 0 ≤ j ∧ j < 0 then _ else _; rw [if_neg (by omega)]) /- B_J7_fill_d0a16_6.init3#1 -/⟩ (by first | omega | grind) /- B_J7_fill_d0a16_6.fuel#1 -/
  obtain ⟨i_B_J7_fill_d0a16_6_1, i_B_J7_fill_d0a16_6_2, i_B_J7_fill_d0a16_6_3⟩ := hI
  unfold B_J7_fill_d0a16_6
  refine wp_ck (z_r32_i.mpr ⟨(by first | omega | grind) /- z_r32.lo z3#1 -/, (by first | omega | grind) /- z_r32.hi z3#1 -/⟩) ?_
  refine wp_ck (z_r32_i.mpr ⟨(by first | omega | grind) /- z_r32.lo z2#1 -/, (by first | omega | grind) /- z_r32.hi z2#1 -/⟩) ?_
  refine wp_if (fun c1 => ?_) (fun c1 => ?_)
  ·
    refine wp_some ?_
    try dsimp only
    all_goals exact (by rw [i_B_J7_fill_d0a16_6_3]; congr 1; omega) /- post1#1 -/
  ·
    refine wp_ck (z_ix_i.mpr ⟨⟨(by first | omega | grind) /- ix.lo z3#1 -/, (by first | omega | grind) /- ix.hi z3#1 -/⟩, (by first | omega | grind) /- ix.big z3#1 -/⟩) ?_
    refine wp_bnd ?_
    refine wp_bndE (fun z9 hz9 => ?_)
    exact ih_B_J7_fill_d0a16_6 _ _ ⟨(by first | assumption | omega | grind [z_up, z_cpy]) /- B_J7_fill_d0a16_6.inv1#1 -/, (by first | assumption | omega | grind [z_up, z_cpy]) /- B_J7_fill_d0a16_6.inv2#1 -/, (by subst hz9; rw [i_B_J7_fill_d0a16_6_3]; exact z_fill_s i_B_J7_fill_d0a16_6_1) /- B_J7_fill_d0a16_6.inv3#1 -/⟩ (by first | omega | grind) /- B_J7_fill_d0a16_6.dec#1 -/

set_option maxHeartbeats 1000000 in
theorem s_X6_hasStir (i_p0_stirs : Int) (x1 : Int) (h1 : -2147483648 ≤ x1) (h2 : x1 < 2147483648) (h3 : 0 ≤ i_p0_stirs) (h4 : i_p0_stirs ≤ 5) : wp (f_X6_hasStir i_p0_stirs x1) (fun o => (o = if 0 ≤ x1 ∧ x1 < i_p0_stirs then 1 else 0)) := by
  unfold f_X6_hasStir
  refine wp_ck (z_r32_i.mpr ⟨(by first | omega | grind) /- z_r32.lo x1#1 -/, (by first | omega | grind) /- z_r32.hi x1#1 -/⟩) ?_
  refine wp_if (fun c1 => ?_) (fun c1 => ?_)
  ·
    refine wp_some ?_
    try dsimp only
    all_goals exact (by split <;> omega) /- post1#1 -/
  ·
    refine wp_ck (z_r32_i.mpr ⟨(by first | omega | grind) /- z_r32.lo i_p0_stirs#1 -/, (by first | omega | grind) /- z_r32.hi i_p0_stirs#1 -/⟩) ?_
    refine wp_if (fun c2 => ?_) (fun c2 => ?_)
    ·
      refine wp_some ?_
      try dsimp only
      all_goals exact (by split <;> omega) /- post1#2 -/
    ·
      refine wp_some ?_
      try dsimp only
      all_goals exact (by split <;> omega) /- post1#3 -/

set_option maxHeartbeats 1000000 in
theorem s_X6_hasSeat (i_p0_seats : Int) (x1 : Int) (h1 : -2147483648 ≤ x1) (h2 : x1 < 2147483648) (h3 : 2 ≤ i_p0_seats) (h4 : i_p0_seats ≤ 7) : wp (f_X6_hasSeat i_p0_seats x1) (fun o => (o = if 0 ≤ x1 ∧ x1 < i_p0_seats then 1 else 0)) := by
  unfold f_X6_hasSeat
  refine wp_ck (z_r32_i.mpr ⟨(by first | omega | grind) /- z_r32.lo x1#1 -/, (by first | omega | grind) /- z_r32.hi x1#1 -/⟩) ?_
  refine wp_if (fun c1 => ?_) (fun c1 => ?_)
  ·
    refine wp_some ?_
    try dsimp only
    all_goals exact (by split <;> omega) /- post1#1 -/
  ·
    refine wp_ck (z_r32_i.mpr ⟨(by first | omega | grind) /- z_r32.lo i_p0_seats#1 -/, (by first | omega | grind) /- z_r32.hi i_p0_seats#1 -/⟩) ?_
    refine wp_if (fun c2 => ?_) (fun c2 => ?_)
    ·
      refine wp_some ?_
      try dsimp only
      all_goals exact (by split <;> omega) /- post1#2 -/
    ·
      refine wp_some ?_
      try dsimp only
      all_goals exact (by split <;> omega) /- post1#3 -/
