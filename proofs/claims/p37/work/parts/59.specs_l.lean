set_option maxHeartbeats 1000000 in
theorem s_X11_chance (i_p0_rules_seats : Int) (i_p0_rules_stirs : Int) (v_p0_rules_after : (Int → Int)) (i_p0_state_bone : Int) (i_p0_state_king : Int) (v_p0_state_friends : (Int → Int)) (v_p0_kitchen_places : (Int → Int)) (v_p0_kitchen_holders : (Int → Int)) (v_p0_luck_rows : (Int → Int)) (v_p0_luck_later : (Int → Int)) (x1 : Int) (x2 : Int) (x3 : Int) (h1 : -2147483648 ≤ x1) (h2 : x1 < 2147483648) (h3 : -2147483648 ≤ x2) (h4 : x2 < 2147483648) (h5 : -2147483648 ≤ x3) (h6 : x3 < 2147483648) (h7 : 2 ≤ i_p0_rules_seats) (h8 : i_p0_rules_seats ≤ 7) (h9 : 0 ≤ i_p0_rules_stirs) (h10 : i_p0_rules_stirs ≤ 5) (h11 : rows i_p0_rules_seats i_p0_rules_stirs v_p0_rules_after) (h12 : 0 ≤ i_p0_state_bone) (h13 : i_p0_state_bone < i_p0_rules_seats) (h14 : 0 ≤ i_p0_state_king) (h15 : i_p0_state_king < i_p0_rules_seats) : wp (f_X11_chance i_p0_rules_seats i_p0_rules_stirs v_p0_rules_after i_p0_state_bone i_p0_state_king v_p0_state_friends v_p0_kitchen_places v_p0_kitchen_holders v_p0_luck_rows v_p0_luck_later x1 x2 x3) (fun o => (-9223372036854775808 ≤ o.1 ∧ o.1 < 9223372036854775808) ∧ (Hid (¬ ((0 ≤ x1 ∧ x1 < i_p0_rules_seats) ∧ (0 ≤ x2 ∧ x2 ≤ 10) ∧ (x3 = 0 ∨ x3 = 1)) → o.1 = -1)) ∧ (Hid (((0 ≤ x1 ∧ x1 < i_p0_rules_seats) ∧ (0 ≤ x2 ∧ x2 ≤ 10) ∧ (x3 = 0 ∨ x3 = 1)) → i_p0_rules_stirs = 0 → o.1 = -2)) ∧ (Hid (((0 ≤ x1 ∧ x1 < i_p0_rules_seats) ∧ (0 ≤ x2 ∧ x2 ≤ 10) ∧ (x3 = 0 ∨ x3 = 1)) → ¬ i_p0_rules_stirs = 0 → o.1 = if x3 = 0 then (sumTo (fun b => lck i_p0_rules_seats i_p0_rules_stirs v_p0_state_friends (fun y b => v_p0_rules_after (y * 7 + b)) 0 i_p0_state_king i_p0_state_bone x2.toNat x1 b) i_p0_rules_seats.toNat) / gz (sumTo (fun b => lck i_p0_rules_seats i_p0_rules_stirs v_p0_state_friends (fun y b => v_p0_rules_after (y * 7 + b)) 0 i_p0_state_king i_p0_state_bone x2.toNat x1 b) i_p0_rules_seats.toNat) (i_p0_rules_stirs ^ x2.toNat) else (i_p0_rules_stirs ^ x2.toNat) / gz (sumTo (fun b => lck i_p0_rules_seats i_p0_rules_stirs v_p0_state_friends (fun y b => v_p0_rules_after (y * 7 + b)) 0 i_p0_state_king i_p0_state_bone x2.toNat x1 b) i_p0_rules_seats.toNat) (i_p0_rules_stirs ^ x2.toNat)))) := by
  unfold f_X11_chance
  refine wp_bd1 (s_X6_hasSeat _ _ (by omega) /- pre X6_hasSeat.1#1 -/ (by omega) /- pre X6_hasSeat.2#1 -/ (by omega) /- pre X6_hasSeat.3#1 -/ (by omega) /- pre X6_hasSeat.4#1 -/) (fun z1 q_X6_hasSeat_1 => ?_)
  try dsimp only at q_X6_hasSeat_1
  refine wp_ck (z_r32_i.mpr ⟨(by omega) /- z_r32.lo z1#1 -/, (by omega) /- z_r32.hi z1#1 -/⟩) ?_
  refine wp_if (fun c1 => ?_) (fun c1 => ?_)
  ·
    refine wp_some ?_
    try dsimp only
    all_goals exact ⟨(by omega) /- post1#1 -/, (by unfold Hid; intro _; rfl) /- post2#1 -/, (by unfold Hid; intro h; exfalso; (first | omega | (split at q_X6_hasSeat_1 <;> omega) | (split at q_X11_isPart_1 <;> omega))) /- post3#1 -/, (by unfold Hid; intro h; exfalso; (first | omega | (split at q_X6_hasSeat_1 <;> omega) | (split at q_X11_isPart_1 <;> omega))) /- post4#1 -/⟩
  ·
    have hs1 : 0 ≤ x1 ∧ x1 < i_p0_rules_seats := by split at q_X6_hasSeat_1 <;> omega
    refine wp_ck (z_r32_i.mpr ⟨(by omega) /- z_r32.lo x2#1 -/, (by omega) /- z_r32.hi x2#1 -/⟩) ?_
    refine wp_if (fun c2 => ?_) (fun c2 => ?_)
    ·
      refine wp_some ?_
      try dsimp only
      all_goals exact ⟨(by omega) /- post1#2 -/, (by unfold Hid; intro _; rfl) /- post2#2 -/, (by unfold Hid; intro h; exfalso; (first | omega | (split at q_X6_hasSeat_1 <;> omega) | (split at q_X11_isPart_1 <;> omega))) /- post3#2 -/, (by unfold Hid; intro h; exfalso; (first | omega | (split at q_X6_hasSeat_1 <;> omega) | (split at q_X11_isPart_1 <;> omega))) /- post4#2 -/⟩
    ·
      refine wp_if (fun c3 => ?_) (fun c3 => ?_)
      ·
        refine wp_some ?_
        try dsimp only
        all_goals exact ⟨(by omega) /- post1#3 -/, (by unfold Hid; intro _; rfl) /- post2#3 -/, (by unfold Hid; intro h; exfalso; (first | omega | (split at q_X6_hasSeat_1 <;> omega) | (split at q_X11_isPart_1 <;> omega))) /- post3#3 -/, (by unfold Hid; intro h; exfalso; (first | omega | (split at q_X6_hasSeat_1 <;> omega) | (split at q_X11_isPart_1 <;> omega))) /- post4#3 -/⟩
      ·
        refine wp_bd1 (s_X11_isPart _ (by omega) /- pre X11_isPart.1#1 -/ (by omega) /- pre X11_isPart.2#1 -/) (fun z4 q_X11_isPart_1 => ?_)
        try dsimp only at q_X11_isPart_1
        refine wp_ck (z_r32_i.mpr ⟨(by omega) /- z_r32.lo z4#1 -/, (by omega) /- z_r32.hi z4#1 -/⟩) ?_
        refine wp_if (fun c4 => ?_) (fun c4 => ?_)
        ·
          refine wp_some ?_
          try dsimp only
          all_goals exact ⟨(by omega) /- post1#4 -/, (by unfold Hid; intro _; rfl) /- post2#4 -/, (by unfold Hid; intro h; exfalso; (first | omega | (split at q_X6_hasSeat_1 <;> omega) | (split at q_X11_isPart_1 <;> omega))) /- post3#4 -/, (by unfold Hid; intro h; exfalso; (first | omega | (split at q_X6_hasSeat_1 <;> omega) | (split at q_X11_isPart_1 <;> omega))) /- post4#4 -/⟩
        ·
          refine wp_ck (z_r32_i.mpr ⟨(by omega) /- z_r32.lo i_p0_rules_stirs#1 -/, (by omega) /- z_r32.hi i_p0_rules_stirs#1 -/⟩) ?_
          refine wp_if (fun c5 => ?_) (fun c5 => ?_)
          ·
            refine wp_some ?_
            try dsimp only
            all_goals exact ⟨(by omega) /- post1#5 -/, (by unfold Hid; intro h; exfalso; apply h; (first | exact ⟨hs1, by omega, hs3⟩ | exact ⟨hs1, by omega, by split at q_X11_isPart_1 <;> omega⟩)) /- post2#5 -/, (by unfold Hid; intro _ _; rfl) /- post3#5 -/, (by unfold Hid; intro _ h; exact absurd (by assumption) h) /- post4#5 -/⟩
          ·
            have hs3 : x3 = 0 ∨ x3 = 1 := by split at q_X11_isPart_1 <;> omega
            clear q_X11_isPart_1 q_X6_hasSeat_1
            refine wp_bd5 (s_X3_rowsToCrown _ _ _ _ _ _ _ _ _ _ _ _ (by omega) /- pre X3_rowsToCrown.1#1 -/ (by omega) /- pre X3_rowsToCrown.2#1 -/ (by omega) /- pre X3_rowsToCrown.3#1 -/ (by omega) /- pre X3_rowsToCrown.4#1 -/ (by exact h11) /- pre X3_rowsToCrown.5#1 -/ (by omega) /- pre X3_rowsToCrown.6#1 -/ (by omega) /- pre X3_rowsToCrown.7#1 -/ (by omega) /- pre X3_rowsToCrown.8#1 -/ (by omega) /- pre X3_rowsToCrown.9#1 -/ (by omega) /- pre X3_rowsToCrown.10#1 -/ (by omega) /- pre X3_rowsToCrown.11#1 -/ (by omega) /- pre X3_rowsToCrown.12#1 -/ (by omega) /- pre X3_rowsToCrown.13#1 -/) (fun z7 w8 w9 w10 w11 q_X3_rowsToCrown_1 => ?_)
            try dsimp only at q_X3_rowsToCrown_1
            obtain ⟨q_X3_rowsToCrown_1_1, q_X3_rowsToCrown_1_2⟩ := q_X3_rowsToCrown_1
            refine wp_bd1 (s_X3_power _ _ (by omega) /- pre X3_power.1#1 -/ (by omega) /- pre X3_power.2#1 -/ (by omega) /- pre X3_power.3#1 -/ (by omega) /- pre X3_power.4#1 -/) (fun z12 q_X3_power_1 => ?_)
            try dsimp only at q_X3_power_1
            have hpb := powb_r (b := i_p0_rules_stirs) (z := x2) (by omega) (by omega) (by omega) (by omega)
            have hpp := powb_p (b := i_p0_rules_stirs) (z := x2) (by omega) (by omega) (by omega) (by omega)
            refine wp_bd1 (s_X3_part _ _ _ (by omega) /- pre X3_part.1#1 -/ (by omega) /- pre X3_part.2#1 -/ (by omega) /- pre X3_part.3#1 -/ (by omega) /- pre X3_part.4#1 -/ (by omega) /- pre X3_part.5#1 -/) (fun z13 q_X3_part_1 => ?_)
            try dsimp only at q_X3_part_1
            obtain ⟨q_X3_part_1_1, q_X3_part_1_2⟩ := q_X3_part_1
            refine wp_some ?_
            try dsimp only
            all_goals exact ⟨(by omega) /- post1#6 -/, (by unfold Hid; intro h; exfalso; apply h; (first | exact ⟨hs1, by omega, hs3⟩ | exact ⟨hs1, by omega, by split at q_X11_isPart_1 <;> omega⟩)) /- post2#6 -/, (by unfold Hid; intro _ h; exact absurd h (by assumption)) /- post3#6 -/, (by unfold Hid; intro _ _; rw [hid q_X3_part_1_2, q_X3_power_1, hid q_X3_rowsToCrown_1_2]) /- post4#6 -/⟩

set_option maxHeartbeats 1000000 in
theorem s_X11_lasts (i_p0_rules_seats : Int) (i_p0_rules_stirs : Int) (v_p0_rules_after : (Int → Int)) (i_p0_state_bone : Int) (i_p0_state_king : Int) (v_p0_state_friends : (Int → Int)) (v_p0_kitchen_places : (Int → Int)) (v_p0_kitchen_holders : (Int → Int)) (v_p0_luck_rows : (Int → Int)) (v_p0_luck_later : (Int → Int)) (x1 : Int) (x2 : Int) (h1 : -2147483648 ≤ x1) (h2 : x1 < 2147483648) (h3 : -2147483648 ≤ x2) (h4 : x2 < 2147483648) (h5 : 2 ≤ i_p0_rules_seats) (h6 : i_p0_rules_seats ≤ 7) (h7 : 0 ≤ i_p0_rules_stirs) (h8 : i_p0_rules_stirs ≤ 5) (h9 : rows i_p0_rules_seats i_p0_rules_stirs v_p0_rules_after) (h10 : 0 ≤ i_p0_state_bone) (h11 : i_p0_state_bone < i_p0_rules_seats) (h12 : 0 ≤ i_p0_state_king) (h13 : i_p0_state_king < i_p0_rules_seats) : wp (f_X11_lasts i_p0_rules_seats i_p0_rules_stirs v_p0_rules_after i_p0_state_bone i_p0_state_king v_p0_state_friends v_p0_kitchen_places v_p0_kitchen_holders v_p0_luck_rows v_p0_luck_later x1 x2) (fun o => (-9223372036854775808 ≤ o.1 ∧ o.1 < 9223372036854775808) ∧ (Hid (¬ ((0 ≤ x1 ∧ x1 ≤ 10) ∧ (x2 = 0 ∨ x2 = 1)) → o.1 = -1)) ∧ (Hid (((0 ≤ x1 ∧ x1 ≤ 10) ∧ (x2 = 0 ∨ x2 = 1)) → i_p0_rules_stirs = 0 → o.1 = -2)) ∧ (Hid (((0 ≤ x1 ∧ x1 ≤ 10) ∧ (x2 = 0 ∨ x2 = 1)) → ¬ i_p0_rules_stirs = 0 → o.1 = if x2 = 0 then (sumTo (fun b => lck i_p0_rules_seats i_p0_rules_stirs v_p0_state_friends (fun y b => v_p0_rules_after (y * 7 + b)) 1 i_p0_state_king i_p0_state_bone x1.toNat i_p0_state_king b) i_p0_rules_seats.toNat) / gz (sumTo (fun b => lck i_p0_rules_seats i_p0_rules_stirs v_p0_state_friends (fun y b => v_p0_rules_after (y * 7 + b)) 1 i_p0_state_king i_p0_state_bone x1.toNat i_p0_state_king b) i_p0_rules_seats.toNat) (i_p0_rules_stirs ^ x1.toNat) else (i_p0_rules_stirs ^ x1.toNat) / gz (sumTo (fun b => lck i_p0_rules_seats i_p0_rules_stirs v_p0_state_friends (fun y b => v_p0_rules_after (y * 7 + b)) 1 i_p0_state_king i_p0_state_bone x1.toNat i_p0_state_king b) i_p0_rules_seats.toNat) (i_p0_rules_stirs ^ x1.toNat)))) := by
  unfold f_X11_lasts
  refine wp_ck (z_r32_i.mpr ⟨(by omega) /- z_r32.lo x1#1 -/, (by omega) /- z_r32.hi x1#1 -/⟩) ?_
  refine wp_if (fun c1 => ?_) (fun c1 => ?_)
  ·
    refine wp_some ?_
    try dsimp only
    all_goals exact ⟨(by omega) /- post1#1 -/, (by unfold Hid; intro _; rfl) /- post2#1 -/, (by unfold Hid; intro h; exfalso; (first | omega | (split at q_X11_isPart_1 <;> omega))) /- post3#1 -/, (by unfold Hid; intro h; exfalso; (first | omega | (split at q_X11_isPart_1 <;> omega))) /- post4#1 -/⟩
  ·
    refine wp_if (fun c2 => ?_) (fun c2 => ?_)
    ·
      refine wp_some ?_
      try dsimp only
      all_goals exact ⟨(by omega) /- post1#2 -/, (by unfold Hid; intro _; rfl) /- post2#2 -/, (by unfold Hid; intro h; exfalso; (first | omega | (split at q_X11_isPart_1 <;> omega))) /- post3#2 -/, (by unfold Hid; intro h; exfalso; (first | omega | (split at q_X11_isPart_1 <;> omega))) /- post4#2 -/⟩
    ·
      refine wp_bd1 (s_X11_isPart _ (by omega) /- pre X11_isPart.1#1 -/ (by omega) /- pre X11_isPart.2#1 -/) (fun z2 q_X11_isPart_1 => ?_)
      try dsimp only at q_X11_isPart_1
      refine wp_ck (z_r32_i.mpr ⟨(by omega) /- z_r32.lo z2#1 -/, (by omega) /- z_r32.hi z2#1 -/⟩) ?_
      refine wp_if (fun c3 => ?_) (fun c3 => ?_)
      ·
        refine wp_some ?_
        try dsimp only
        all_goals exact ⟨(by omega) /- post1#3 -/, (by unfold Hid; intro _; rfl) /- post2#3 -/, (by unfold Hid; intro h; exfalso; (first | omega | (split at q_X11_isPart_1 <;> omega))) /- post3#3 -/, (by unfold Hid; intro h; exfalso; (first | omega | (split at q_X11_isPart_1 <;> omega))) /- post4#3 -/⟩
      ·
        refine wp_ck (z_r32_i.mpr ⟨(by omega) /- z_r32.lo i_p0_rules_stirs#1 -/, (by omega) /- z_r32.hi i_p0_rules_stirs#1 -/⟩) ?_
        refine wp_if (fun c4 => ?_) (fun c4 => ?_)
        ·
          refine wp_some ?_
          try dsimp only
          all_goals exact ⟨(by omega) /- post1#4 -/, (by unfold Hid; intro h; exfalso; apply h; (first | exact ⟨by omega, hs3⟩ | exact ⟨by omega, by split at q_X11_isPart_1 <;> omega⟩)) /- post2#4 -/, (by unfold Hid; intro _ _; rfl) /- post3#4 -/, (by unfold Hid; intro _ h; exact absurd (by assumption) h) /- post4#4 -/⟩
        ·
          have hs3 : x2 = 0 ∨ x2 = 1 := by split at q_X11_isPart_1 <;> omega
          clear q_X11_isPart_1
          refine wp_bd5 (s_X3_rowsOfReign _ _ _ _ _ _ _ _ _ _ _ (by omega) /- pre X3_rowsOfReign.1#1 -/ (by omega) /- pre X3_rowsOfReign.2#1 -/ (by omega) /- pre X3_rowsOfReign.3#1 -/ (by omega) /- pre X3_rowsOfReign.4#1 -/ (by exact h9) /- pre X3_rowsOfReign.5#1 -/ (by omega) /- pre X3_rowsOfReign.6#1 -/ (by omega) /- pre X3_rowsOfReign.7#1 -/ (by omega) /- pre X3_rowsOfReign.8#1 -/ (by omega) /- pre X3_rowsOfReign.9#1 -/ (by omega) /- pre X3_rowsOfReign.10#1 -/ (by omega) /- pre X3_rowsOfReign.11#1 -/) (fun z5 w6 w7 w8 w9 q_X3_rowsOfReign_1 => ?_)
          try dsimp only at q_X3_rowsOfReign_1
          obtain ⟨q_X3_rowsOfReign_1_1, q_X3_rowsOfReign_1_2⟩ := q_X3_rowsOfReign_1
          refine wp_bd1 (s_X3_power _ _ (by omega) /- pre X3_power.1#1 -/ (by omega) /- pre X3_power.2#1 -/ (by omega) /- pre X3_power.3#1 -/ (by omega) /- pre X3_power.4#1 -/) (fun z10 q_X3_power_1 => ?_)
          try dsimp only at q_X3_power_1
          have hpb := powb_r (b := i_p0_rules_stirs) (z := x1) (by omega) (by omega) (by omega) (by omega)
          have hpp := powb_p (b := i_p0_rules_stirs) (z := x1) (by omega) (by omega) (by omega) (by omega)
          refine wp_bd1 (s_X3_part _ _ _ (by omega) /- pre X3_part.1#1 -/ (by omega) /- pre X3_part.2#1 -/ (by omega) /- pre X3_part.3#1 -/ (by omega) /- pre X3_part.4#1 -/ (by omega) /- pre X3_part.5#1 -/) (fun z11 q_X3_part_1 => ?_)
          try dsimp only at q_X3_part_1
          obtain ⟨q_X3_part_1_1, q_X3_part_1_2⟩ := q_X3_part_1
          refine wp_some ?_
          try dsimp only
          all_goals exact ⟨(by omega) /- post1#5 -/, (by unfold Hid; intro h; exfalso; apply h; (first | exact ⟨by omega, hs3⟩ | exact ⟨by omega, by split at q_X11_isPart_1 <;> omega⟩)) /- post2#5 -/, (by unfold Hid; intro _ h; exact absurd h (by assumption)) /- post3#5 -/, (by unfold Hid; intro _ _; rw [hid q_X3_part_1_2, q_X3_power_1, hid q_X3_rowsOfReign_1_2]) /- post4#5 -/⟩

set_option maxHeartbeats 1000000 in
theorem s_X11_reign (i_p0_rules_seats : Int) (i_p0_rules_stirs : Int) (v_p0_rules_after : (Int → Int)) (i_p0_state_bone : Int) (i_p0_state_king : Int) (v_p0_state_friends : (Int → Int)) (v_p0_kitchen_places : (Int → Int)) (v_p0_kitchen_holders : (Int → Int)) (v_p0_plans_good : (Int → Int)) (v_p0_plans_row : (Int → Int)) (x1 : Int) (x2 : Int) (h1 : -2147483648 ≤ x1) (h2 : x1 < 2147483648) (h3 : -2147483648 ≤ x2) (h4 : x2 < 2147483648) (h5 : 2 ≤ i_p0_rules_seats) (h6 : i_p0_rules_seats ≤ 7) (h7 : 0 ≤ i_p0_rules_stirs) (h8 : i_p0_rules_stirs ≤ 5) (h9 : rows i_p0_rules_seats i_p0_rules_stirs v_p0_rules_after) (h10 : 0 ≤ i_p0_state_bone) (h11 : i_p0_state_bone < i_p0_rules_seats) (h12 : 0 ≤ i_p0_state_king) (h13 : i_p0_state_king < i_p0_rules_seats) (h14 : ∀ j, 0 ≤ j → j < 10 → -4 ≤ v_p0_plans_row j ∧ v_p0_plans_row j < 5) : wp (f_X11_reign i_p0_rules_seats i_p0_rules_stirs v_p0_rules_after i_p0_state_bone i_p0_state_king v_p0_state_friends v_p0_kitchen_places v_p0_kitchen_holders v_p0_plans_good v_p0_plans_row x1 x2) (fun o => (-4 ≤ o.1 ∧ o.1 ≤ 10) ∧ (∀ j, 0 ≤ j → j < 10 → -4 ≤ o.2.2.2.2 j ∧ o.2.2.2.2 j < 5) ∧ (Hid (¬ ((1 ≤ x1 ∧ x1 ≤ 10) ∧ (x2 = 0 ∨ (10 ≤ x2 ∧ x2 < 20))) → o.1 = -1)) ∧ (Hid (((1 ≤ x1 ∧ x1 ≤ 10) ∧ (x2 = 0 ∨ (10 ≤ x2 ∧ x2 < 20))) → i_p0_rules_stirs = 0 → o.1 = -2)) ∧ (Hid (((1 ≤ x1 ∧ x1 ≤ 10) ∧ (x2 = 0 ∨ (10 ≤ x2 ∧ x2 < 20))) → ¬ i_p0_rules_stirs = 0 → ∃ l, mostd (fun d => can i_p0_rules_seats i_p0_rules_stirs 1 (clF i_p0_rules_seats v_p0_state_friends) (clA i_p0_rules_seats i_p0_rules_stirs (fun y b => v_p0_rules_after (y * 7 + b))) (fun _ => True) d i_p0_state_king i_p0_state_bone) (x1 + 1) l ∧ o.1 = if x2 = 0 then l else if x2 - 10 < l then prow i_p0_rules_seats i_p0_rules_stirs 1 (clF i_p0_rules_seats v_p0_state_friends) (clA i_p0_rules_seats i_p0_rules_stirs (fun y b => v_p0_rules_after (y * 7 + b))) (fun _ => True) l.toNat i_p0_state_king i_p0_state_bone (x2 - 10).toNat else -4))) := by
  unfold f_X11_reign
  refine wp_ck (z_r32_i.mpr ⟨(by omega) /- z_r32.lo x1#1 -/, (by omega) /- z_r32.hi x1#1 -/⟩) ?_
  refine wp_if (fun c1 => ?_) (fun c1 => ?_)
  ·
    refine wp_some ?_
    try dsimp only
    all_goals exact ⟨(by omega) /- post1#1 -/, (by first | exact h14 | exact q_X5_planReign_1_2) /- post2#1 -/, (by unfold Hid; intro _; rfl) /- post3#1 -/, (by unfold Hid; intro h _; exfalso; first | omega | (split at q_X11_isRowQuestion_1 <;> omega)) /- post4#1 -/, (by unfold Hid; intro h _; exfalso; first | omega | (split at q_X11_isRowQuestion_1 <;> omega)) /- post5#1 -/⟩
  ·
    refine wp_if (fun c2 => ?_) (fun c2 => ?_)
    ·
      refine wp_some ?_
      try dsimp only
      all_goals exact ⟨(by omega) /- post1#2 -/, (by first | exact h14 | exact q_X5_planReign_1_2) /- post2#2 -/, (by unfold Hid; intro _; rfl) /- post3#2 -/, (by unfold Hid; intro h _; exfalso; first | omega | (split at q_X11_isRowQuestion_1 <;> omega)) /- post4#2 -/, (by unfold Hid; intro h _; exfalso; first | omega | (split at q_X11_isRowQuestion_1 <;> omega)) /- post5#2 -/⟩
    ·
      refine wp_bd1 (s_X11_isRowQuestion _ _ (by omega) /- pre X11_isRowQuestion.1#1 -/ (by omega) /- pre X11_isRowQuestion.2#1 -/ (by omega) /- pre X11_isRowQuestion.3#1 -/ (by omega) /- pre X11_isRowQuestion.4#1 -/) (fun z2 q_X11_isRowQuestion_1 => ?_)
      try dsimp only at q_X11_isRowQuestion_1
      refine wp_ck (z_r32_i.mpr ⟨(by omega) /- z_r32.lo z2#1 -/, (by omega) /- z_r32.hi z2#1 -/⟩) ?_
      refine wp_if (fun c3 => ?_) (fun c3 => ?_)
      ·
        refine wp_some ?_
        try dsimp only
        all_goals exact ⟨(by omega) /- post1#3 -/, (by first | exact h14 | exact q_X5_planReign_1_2) /- post2#3 -/, (by unfold Hid; intro _; rfl) /- post3#3 -/, (by unfold Hid; intro h _; exfalso; first | omega | (split at q_X11_isRowQuestion_1 <;> omega)) /- post4#3 -/, (by unfold Hid; intro h _; exfalso; first | omega | (split at q_X11_isRowQuestion_1 <;> omega)) /- post5#3 -/⟩
      ·
        refine wp_ck (z_r32_i.mpr ⟨(by omega) /- z_r32.lo i_p0_rules_stirs#1 -/, (by omega) /- z_r32.hi i_p0_rules_stirs#1 -/⟩) ?_
        refine wp_if (fun c4 => ?_) (fun c4 => ?_)
        ·
          refine wp_some ?_
          try dsimp only
          all_goals exact ⟨(by omega) /- post1#4 -/, (by first | exact h14 | exact q_X5_planReign_1_2) /- post2#4 -/, (by unfold Hid; intro h; exfalso; first | omega | (split at q_X11_isRowQuestion_1 <;> omega)) /- post3#4 -/, (by unfold Hid; intro _ _; rfl) /- post4#4 -/, (by unfold Hid; intro _ h; exact absurd (by assumption) h) /- post5#4 -/⟩
        ·
          have hq2 : x2 = 0 ∨ (10 ≤ x2 ∧ x2 < 20) := by split at q_X11_isRowQuestion_1 <;> omega
          clear q_X11_isRowQuestion_1
          refine wp_bd5 (s_X5_planReign _ _ _ _ _ _ _ _ _ _ _ (by omega) /- pre X5_planReign.1#1 -/ (by omega) /- pre X5_planReign.2#1 -/ (by omega) /- pre X5_planReign.3#1 -/ (by omega) /- pre X5_planReign.4#1 -/ (by exact h9) /- pre X5_planReign.5#1 -/ (by omega) /- pre X5_planReign.6#1 -/ (by omega) /- pre X5_planReign.7#1 -/ (by omega) /- pre X5_planReign.8#1 -/ (by omega) /- pre X5_planReign.9#1 -/ (by omega) /- pre X5_planReign.10#1 -/ (by omega) /- pre X5_planReign.11#1 -/ (by exact h14) /- pre X5_planReign.12#1 -/) (fun z5 w6 w7 w8 w9 q_X5_planReign_1 => ?_)
          try dsimp only at q_X5_planReign_1
          obtain ⟨q_X5_planReign_1_1, q_X5_planReign_1_2, q_X5_planReign_1_3, q_X5_planReign_1_4⟩ := q_X5_planReign_1
          refine wp_bnd ?_
          refine wp_ck (z_r32_i.mpr ⟨(by omega) /- z_r32.lo x2#1 -/, (by omega) /- z_r32.hi x2#1 -/⟩) ?_
          refine wp_if (fun c5 => ?_) (fun c5 => ?_)
          ·
            refine wp_some ?_
            try dsimp only
            all_goals exact ⟨(by omega) /- post1#5 -/, (by first | exact h14 | exact q_X5_planReign_1_2) /- post2#5 -/, (by unfold Hid; intro h; exfalso; first | omega | (split at q_X11_isRowQuestion_1 <;> omega)) /- post3#5 -/, (by unfold Hid; intro _ h; exact absurd h (by assumption)) /- post4#5 -/, (by unfold Hid; intro _ _; exact ⟨_, q_X5_planReign_1_3, by rw [if_pos (by assumption)]⟩) /- post5#5 -/⟩
          ·
            refine wp_bd1 (s_X11_ofRow _ _ _ _ (by decide) /- pre X11_ofRow.1#1 -/ (by omega) /- pre X11_ofRow.2#1 -/ (by omega) /- pre X11_ofRow.3#1 -/ (by omega) /- pre X11_ofRow.4#1 -/ (by omega) /- pre X11_ofRow.5#1 -/) (fun z12 q_X11_ofRow_1 => ?_)
            try dsimp only at q_X11_ofRow_1
            have hor : -4 ≤ z12 ∧ z12 < 5 := by
              rw [q_X11_ofRow_1]; split
              · exact q_X5_planReign_1_2 _ (by omega) (by omega)
              · omega
            refine wp_some ?_
            try dsimp only
            all_goals exact ⟨(by omega) /- post1#6 -/, (by first | exact h14 | exact q_X5_planReign_1_2) /- post2#6 -/, (by unfold Hid; intro h; exfalso; first | omega | (split at q_X11_isRowQuestion_1 <;> omega)) /- post3#6 -/, (by unfold Hid; intro _ h; exact absurd h (by assumption)) /- post4#6 -/, (by unfold Hid; intro _ _; refine ⟨_, q_X5_planReign_1_3, ?_⟩; rw [if_neg (by assumption), q_X11_ofRow_1]; by_cases c : x2 - 10 < z5; (rw [if_pos (by omega), if_pos c]; exact q_X5_planReign_1_4 _ (by omega) c); rw [if_neg (by omega), if_neg c]) /- post5#6 -/⟩

set_option maxHeartbeats 1000000 in
theorem s_X11_raise (i_p0_rules_seats : Int) (i_p0_rules_stirs : Int) (v_p0_rules_after : (Int → Int)) (i_p0_state_bone : Int) (i_p0_state_king : Int) (v_p0_state_friends : (Int → Int)) (v_p0_kitchen_places : (Int → Int)) (v_p0_kitchen_holders : (Int → Int)) (v_p0_plans_good : (Int → Int)) (v_p0_plans_row : (Int → Int)) (x1 : Int) (x2 : Int) (h1 : -2147483648 ≤ x1) (h2 : x1 < 2147483648) (h3 : -2147483648 ≤ x2) (h4 : x2 < 2147483648) (h5 : 2 ≤ i_p0_rules_seats) (h6 : i_p0_rules_seats ≤ 7) (h7 : 0 ≤ i_p0_rules_stirs) (h8 : i_p0_rules_stirs ≤ 5) (h9 : rows i_p0_rules_seats i_p0_rules_stirs v_p0_rules_after) (h10 : 0 ≤ i_p0_state_bone) (h11 : i_p0_state_bone < i_p0_rules_seats) (h12 : 0 ≤ i_p0_state_king) (h13 : i_p0_state_king < i_p0_rules_seats) (h14 : ∀ j, 0 ≤ j → j < 10 → -4 ≤ v_p0_plans_row j ∧ v_p0_plans_row j < 5) : wp (f_X11_raise i_p0_rules_seats i_p0_rules_stirs v_p0_rules_after i_p0_state_bone i_p0_state_king v_p0_state_friends v_p0_kitchen_places v_p0_kitchen_holders v_p0_plans_good v_p0_plans_row x1 x2) (fun o => (-4 ≤ o.1 ∧ o.1 ≤ 10) ∧ (∀ j, 0 ≤ j → j < 10 → -4 ≤ o.2.2.2.2 j ∧ o.2.2.2.2 j < 5) ∧ (Hid (¬ ((0 ≤ x1 ∧ x1 < i_p0_rules_seats) ∧ (x2 = 0 ∨ (10 ≤ x2 ∧ x2 < 20))) → o.1 = -1)) ∧ (Hid (((0 ≤ x1 ∧ x1 < i_p0_rules_seats) ∧ (x2 = 0 ∨ (10 ≤ x2 ∧ x2 < 20))) → i_p0_rules_stirs = 0 → o.1 = -2)) ∧ (Hid (((0 ≤ x1 ∧ x1 < i_p0_rules_seats) ∧ (x2 = 0 ∨ (10 ≤ x2 ∧ x2 < 20))) → ¬ i_p0_rules_stirs = 0 → ∃ l, fstq 11 (fun t => can i_p0_rules_seats i_p0_rules_stirs 0 (clF i_p0_rules_seats v_p0_state_friends) (clA i_p0_rules_seats i_p0_rules_stirs (fun y b => v_p0_rules_after (y * 7 + b))) (fun k => k = x1) t.toNat i_p0_state_king i_p0_state_bone) l ∧ o.1 = if x2 = 0 then l else if x2 - 10 < l then prow i_p0_rules_seats i_p0_rules_stirs 0 (clF i_p0_rules_seats v_p0_state_friends) (clA i_p0_rules_seats i_p0_rules_stirs (fun y b => v_p0_rules_after (y * 7 + b))) (fun k => k = x1) l.toNat i_p0_state_king i_p0_state_bone (x2 - 10).toNat else -4))) := by
  unfold f_X11_raise
  refine wp_bd1 (s_X6_hasSeat _ _ (by omega) /- pre X6_hasSeat.1#1 -/ (by omega) /- pre X6_hasSeat.2#1 -/ (by omega) /- pre X6_hasSeat.3#1 -/ (by omega) /- pre X6_hasSeat.4#1 -/) (fun z1 q_X6_hasSeat_1 => ?_)
  try dsimp only at q_X6_hasSeat_1
  refine wp_ck (z_r32_i.mpr ⟨(by omega) /- z_r32.lo z1#1 -/, (by omega) /- z_r32.hi z1#1 -/⟩) ?_
  refine wp_if (fun c1 => ?_) (fun c1 => ?_)
  ·
    refine wp_some ?_
    try dsimp only
    all_goals exact ⟨(by omega) /- post1#1 -/, (by first | exact h14 | exact q_X5_planRaise_1_2) /- post2#1 -/, (by unfold Hid; intro _; rfl) /- post3#1 -/, (by unfold Hid; intro h _; exfalso; first | omega | (split at q_X11_isRowQuestion_1 <;> omega) | (split at q_X6_hasSeat_1 <;> omega)) /- post4#1 -/, (by unfold Hid; intro h _; exfalso; first | omega | (split at q_X11_isRowQuestion_1 <;> omega) | (split at q_X6_hasSeat_1 <;> omega)) /- post5#1 -/⟩
  ·
    have hs1 : 0 ≤ x1 ∧ x1 < i_p0_rules_seats := by split at q_X6_hasSeat_1 <;> omega
    clear q_X6_hasSeat_1
    refine wp_bd1 (s_X11_isRowQuestion _ _ (by omega) /- pre X11_isRowQuestion.1#1 -/ (by omega) /- pre X11_isRowQuestion.2#1 -/ (by omega) /- pre X11_isRowQuestion.3#1 -/ (by omega) /- pre X11_isRowQuestion.4#1 -/) (fun z3 q_X11_isRowQuestion_1 => ?_)
    try dsimp only at q_X11_isRowQuestion_1
    refine wp_ck (z_r32_i.mpr ⟨(by omega) /- z_r32.lo z3#1 -/, (by omega) /- z_r32.hi z3#1 -/⟩) ?_
    refine wp_if (fun c2 => ?_) (fun c2 => ?_)
    ·
      refine wp_some ?_
      try dsimp only
      all_goals exact ⟨(by omega) /- post1#2 -/, (by first | exact h14 | exact q_X5_planRaise_1_2) /- post2#2 -/, (by unfold Hid; intro _; rfl) /- post3#2 -/, (by unfold Hid; intro h _; exfalso; first | omega | (split at q_X11_isRowQuestion_1 <;> omega) | (split at q_X6_hasSeat_1 <;> omega)) /- post4#2 -/, (by unfold Hid; intro h _; exfalso; first | omega | (split at q_X11_isRowQuestion_1 <;> omega) | (split at q_X6_hasSeat_1 <;> omega)) /- post5#2 -/⟩
    ·
      refine wp_ck (z_r32_i.mpr ⟨(by omega) /- z_r32.lo i_p0_rules_stirs#1 -/, (by omega) /- z_r32.hi i_p0_rules_stirs#1 -/⟩) ?_
      refine wp_if (fun c3 => ?_) (fun c3 => ?_)
      ·
        refine wp_some ?_
        try dsimp only
        all_goals exact ⟨(by omega) /- post1#3 -/, (by first | exact h14 | exact q_X5_planRaise_1_2) /- post2#3 -/, (by unfold Hid; intro h; exfalso; first | omega | (split at q_X11_isRowQuestion_1 <;> omega) | (split at q_X6_hasSeat_1 <;> omega)) /- post3#3 -/, (by unfold Hid; intro _ _; rfl) /- post4#3 -/, (by unfold Hid; intro _ h; exact absurd (by assumption) h) /- post5#3 -/⟩
      ·
        have hq2 : x2 = 0 ∨ (10 ≤ x2 ∧ x2 < 20) := by split at q_X11_isRowQuestion_1 <;> omega
        clear q_X11_isRowQuestion_1
        refine wp_bd5 (s_X5_planRaise _ _ _ _ _ _ _ _ _ _ _ (by omega) /- pre X5_planRaise.1#1 -/ (by omega) /- pre X5_planRaise.2#1 -/ (by omega) /- pre X5_planRaise.3#1 -/ (by omega) /- pre X5_planRaise.4#1 -/ (by exact h9) /- pre X5_planRaise.5#1 -/ (by omega) /- pre X5_planRaise.6#1 -/ (by omega) /- pre X5_planRaise.7#1 -/ (by omega) /- pre X5_planRaise.8#1 -/ (by omega) /- pre X5_planRaise.9#1 -/ (by omega) /- pre X5_planRaise.10#1 -/ (by omega) /- pre X5_planRaise.11#1 -/ (by exact h14) /- pre X5_planRaise.12#1 -/) (fun z6 w7 w8 w9 w10 q_X5_planRaise_1 => ?_)
        try dsimp only at q_X5_planRaise_1
        obtain ⟨q_X5_planRaise_1_1, q_X5_planRaise_1_2, q_X5_planRaise_1_3, q_X5_planRaise_1_4⟩ := q_X5_planRaise_1
        refine wp_bnd ?_
        refine wp_ck (z_r32_i.mpr ⟨(by omega) /- z_r32.lo x2#1 -/, (by omega) /- z_r32.hi x2#1 -/⟩) ?_
        refine wp_if (fun c4 => ?_) (fun c4 => ?_)
        ·
          refine wp_some ?_
          try dsimp only
          all_goals exact ⟨(by omega) /- post1#4 -/, (by first | exact h14 | exact q_X5_planRaise_1_2) /- post2#4 -/, (by unfold Hid; intro h; exfalso; first | omega | (split at q_X11_isRowQuestion_1 <;> omega) | (split at q_X6_hasSeat_1 <;> omega)) /- post3#4 -/, (by unfold Hid; intro _ h; exact absurd h (by assumption)) /- post4#4 -/, (by unfold Hid; intro _ _; exact ⟨_, q_X5_planRaise_1_3, by rw [if_pos (by assumption)]⟩) /- post5#4 -/⟩
        ·
          refine wp_bd1 (s_X11_ofRow _ _ _ _ (by decide) /- pre X11_ofRow.1#1 -/ (by omega) /- pre X11_ofRow.2#1 -/ (by omega) /- pre X11_ofRow.3#1 -/ (by omega) /- pre X11_ofRow.4#1 -/ (by omega) /- pre X11_ofRow.5#1 -/) (fun z13 q_X11_ofRow_1 => ?_)
          try dsimp only at q_X11_ofRow_1
          have hor : -4 ≤ z13 ∧ z13 < 5 := by
            rw [q_X11_ofRow_1]; split
            · exact q_X5_planRaise_1_2 _ (by omega) (by omega)
            · omega
          refine wp_some ?_
          try dsimp only
          all_goals exact ⟨(by omega) /- post1#5 -/, (by first | exact h14 | exact q_X5_planRaise_1_2) /- post2#5 -/, (by unfold Hid; intro h; exfalso; first | omega | (split at q_X11_isRowQuestion_1 <;> omega) | (split at q_X6_hasSeat_1 <;> omega)) /- post3#5 -/, (by unfold Hid; intro _ h; exact absurd h (by assumption)) /- post4#5 -/, (by unfold Hid; intro _ _; refine ⟨_, q_X5_planRaise_1_3, ?_⟩; rw [if_neg (by assumption), q_X11_ofRow_1]; by_cases c : x2 - 10 < z6; (rw [if_pos (by omega), if_pos c]; exact q_X5_planRaise_1_4 _ (by omega) c); rw [if_neg (by omega), if_neg c]) /- post5#5 -/⟩

set_option maxHeartbeats 1000000 in
theorem s_X11_coup (i_p0_rules_seats : Int) (i_p0_rules_stirs : Int) (v_p0_rules_after : (Int → Int)) (v_p0_state_pieces : (Int → Int)) (v_p0_state_friends : (Int → Int)) (v_p0_state_spoons : (Int → Int)) (v_p0_kitchen_places : (Int → Int)) (v_p0_kitchen_holders : (Int → Int)) (v_p0_kitchen_stirred : (Int → Int)) (x1 : Int) (x2 : Int) (x3 : Int) (h1 : -2147483648 ≤ x1) (h2 : x1 < 2147483648) (h3 : -2147483648 ≤ x2) (h4 : x2 < 2147483648) (h5 : -2147483648 ≤ x3) (h6 : x3 < 2147483648) (h7 : 2 ≤ i_p0_rules_seats) (h8 : i_p0_rules_seats ≤ 7) (h9 : 0 ≤ i_p0_rules_stirs) (h10 : i_p0_rules_stirs ≤ 5) (h11 : rows i_p0_rules_seats i_p0_rules_stirs v_p0_rules_after) (h12 : ∀ j, 0 ≤ j → j < 7 → 1 ≤ v_p0_state_spoons j ∧ v_p0_state_spoons j ≤ 9) (h13 : ∀ j, 0 ≤ j → j < 7 → 0 ≤ v_p0_state_pieces j ∧ v_p0_state_pieces j ≤ 9) : wp (f_X11_coup i_p0_rules_seats i_p0_rules_stirs v_p0_rules_after v_p0_state_pieces v_p0_state_friends v_p0_state_spoons v_p0_kitchen_places v_p0_kitchen_holders v_p0_kitchen_stirred x1 x2 x3) (fun o => (-4 ≤ o.1 ∧ o.1 < 128) ∧ (Hid (¬ ((0 ≤ x1 ∧ x1 < i_p0_rules_seats) ∧ (0 ≤ x2 ∧ x2 < i_p0_rules_stirs) ∧ (x3 = 0 ∨ x3 = 1)) → o.1 = -1)) ∧ (Hid (((0 ≤ x1 ∧ x1 < i_p0_rules_seats) ∧ (0 ≤ x2 ∧ x2 < i_p0_rules_stirs) ∧ (x3 = 0 ∨ x3 = 1)) → ∃ w, stirdP i_p0_rules_seats (fun i => v_p0_rules_after (x2 * 7 + i)) v_p0_state_pieces w ∧ coupQ i_p0_rules_seats v_p0_state_friends v_p0_state_spoons w x1 x3 o.1))) := by
  unfold f_X11_coup
  refine wp_bd1 (s_X6_hasSeat _ _ (by omega) /- pre X6_hasSeat.1#1 -/ (by omega) /- pre X6_hasSeat.2#1 -/ (by omega) /- pre X6_hasSeat.3#1 -/ (by omega) /- pre X6_hasSeat.4#1 -/) (fun z1 q_X6_hasSeat_1 => ?_)
  try dsimp only at q_X6_hasSeat_1
  refine wp_ck (z_r32_i.mpr ⟨(by omega) /- z_r32.lo z1#1 -/, (by omega) /- z_r32.hi z1#1 -/⟩) ?_
  refine wp_if (fun c1 => ?_) (fun c1 => ?_)
  ·
    refine wp_some ?_
    try dsimp only
    all_goals exact ⟨(by omega) /- post1#1 -/, (by unfold Hid; intro _; rfl) /- post2#1 -/, (by unfold Hid; intro h; exfalso; (first | omega | (split at q_X6_hasSeat_1 <;> omega) | (split at q_X6_hasStir_1 <;> omega) | (split at q_X11_isPart_1 <;> omega))) /- post3#1 -/⟩
  ·
    have hs1 : 0 ≤ x1 ∧ x1 < i_p0_rules_seats := by split at q_X6_hasSeat_1 <;> omega
    clear q_X6_hasSeat_1
    refine wp_bd1 (s_X6_hasStir _ _ (by omega) /- pre X6_hasStir.1#1 -/ (by omega) /- pre X6_hasStir.2#1 -/ (by omega) /- pre X6_hasStir.3#1 -/ (by omega) /- pre X6_hasStir.4#1 -/) (fun z3 q_X6_hasStir_1 => ?_)
    try dsimp only at q_X6_hasStir_1
    refine wp_ck (z_r32_i.mpr ⟨(by omega) /- z_r32.lo z3#1 -/, (by omega) /- z_r32.hi z3#1 -/⟩) ?_
    refine wp_if (fun c2 => ?_) (fun c2 => ?_)
    ·
      refine wp_some ?_
      try dsimp only
      all_goals exact ⟨(by omega) /- post1#2 -/, (by unfold Hid; intro _; rfl) /- post2#2 -/, (by unfold Hid; intro h; exfalso; (first | omega | (split at q_X6_hasSeat_1 <;> omega) | (split at q_X6_hasStir_1 <;> omega) | (split at q_X11_isPart_1 <;> omega))) /- post3#2 -/⟩
    ·
      have hs2 : 0 ≤ x2 ∧ x2 < i_p0_rules_stirs := by split at q_X6_hasStir_1 <;> omega
      clear q_X6_hasStir_1
      refine wp_bd1 (s_X11_isPart _ (by omega) /- pre X11_isPart.1#1 -/ (by omega) /- pre X11_isPart.2#1 -/) (fun z5 q_X11_isPart_1 => ?_)
      try dsimp only at q_X11_isPart_1
      refine wp_ck (z_r32_i.mpr ⟨(by omega) /- z_r32.lo z5#1 -/, (by omega) /- z_r32.hi z5#1 -/⟩) ?_
      refine wp_if (fun c3 => ?_) (fun c3 => ?_)
      ·
        refine wp_some ?_
        try dsimp only
        all_goals exact ⟨(by omega) /- post1#3 -/, (by unfold Hid; intro _; rfl) /- post2#3 -/, (by unfold Hid; intro h; exfalso; (first | omega | (split at q_X6_hasSeat_1 <;> omega) | (split at q_X6_hasStir_1 <;> omega) | (split at q_X11_isPart_1 <;> omega))) /- post3#3 -/⟩
      ·
        have hs3 : x3 = 0 ∨ x3 = 1 := by split at q_X11_isPart_1 <;> omega
        clear q_X11_isPart_1
        have hrow := h11 x2 hs2.1 hs2.2
        refine wp_bd2 (s_X2_serveAllKings _ _ _ _ (by omega) /- pre X2_serveAllKings.1#1 -/ (by omega) /- pre X2_serveAllKings.2#1 -/) (fun w7 w8 q_X2_serveAllKings_1 => ?_)
        try dsimp only at q_X2_serveAllKings_1
        obtain ⟨q_X2_serveAllKings_1_1, q_X2_serveAllKings_1_2⟩ := q_X2_serveAllKings_1
        refine wp_bd1 (s_X2_stirPot _ _ _ _ _ (by omega) /- pre X2_stirPot.1#1 -/ (by omega) /- pre X2_stirPot.2#1 -/ (by omega) /- pre X2_stirPot.3#1 -/ (by omega) /- pre X2_stirPot.4#1 -/ (by exact hrow) /- pre X2_stirPot.5#1 -/) (fun w9 q_X2_stirPot_1 => ?_)
        try dsimp only at q_X2_stirPot_1
        obtain ⟨q_X2_stirPot_1_1, q_X2_stirPot_1_2⟩ := q_X2_stirPot_1
        have hst9 : ∀ q, 0 ≤ q → q < i_p0_rules_seats → 0 ≤ w9 q ∧ w9 q ≤ 9 := fun q a b => stird_rng hrow q_X2_stirPot_1_1 h8 h13 a b
        refine wp_bd1 (s_X0_leastLeader _ _ _ _ _ v_p0_state_friends (by omega) /- pre X0_leastLeader.1#1 -/ (by omega) /- pre X0_leastLeader.2#1 -/ (by exact q_X2_serveAllKings_1_1) /- pre X0_leastLeader.3#1 -/ (by exact hst9) /- pre X0_leastLeader.4#1 -/ (by exact h12) /- pre X0_leastLeader.5#1 -/ (by omega) /- pre X0_leastLeader.6#1 -/ (by omega) /- pre X0_leastLeader.7#1 -/) (fun z10 q_X0_leastLeader_1 => ?_)
        try dsimp only at q_X0_leastLeader_1
        have hll : z10 = -4 ∨ (0 ≤ z10 ∧ z10 < i_p0_rules_seats) := by
          rcases q_X0_leastLeader_1 with hq | hq
          · left; exact hq.1
          · right; exact hq.1
        replace q_X0_leastLeader_1 := hd_ q_X0_leastLeader_1
        refine wp_bnd ?_
        refine wp_ck (z_r32_i.mpr ⟨(by omega) /- z_r32.lo z11#1 -/, (by omega) /- z_r32.hi z11#1 -/⟩) ?_
        refine wp_if (fun c4 => ?_) (fun c4 => ?_)
        ·
          refine wp_some ?_
          try dsimp only
          all_goals exact ⟨(by omega) /- post1#4 -/, (by unfold Hid; intro h; exact absurd ⟨hs1, hs2, hs3⟩ h) /- post2#4 -/, (by unfold Hid; intro _; rcases hid q_X0_leastLeader_1 with hq | hq; exact ⟨w9, q_X2_stirPot_1_1, Or.inl hq⟩; omega) /- post3#4 -/⟩
        ·
          refine wp_ck (z_r32_i.mpr ⟨(by omega) /- z_r32.lo x3#1 -/, (by omega) /- z_r32.hi x3#1 -/⟩) ?_
          refine wp_if (fun c5 => ?_) (fun c5 => ?_)
          ·
            refine wp_some ?_
            try dsimp only
            all_goals exact ⟨(by omega) /- post1#5 -/, (by unfold Hid; intro h; exact absurd ⟨hs1, hs2, hs3⟩ h) /- post2#5 -/, (by unfold Hid; intro _; rcases hid q_X0_leastLeader_1 with hq | hq; omega; exact ⟨w9, q_X2_stirPot_1_1, Or.inr ⟨_, hq.1, hq.2.1, hq.2.2.1, hq.2.2.2, Or.inl ⟨by omega, rfl⟩⟩⟩) /- post3#5 -/⟩
          ·
            refine wp_bd1 (s_X0_leastBand _ _ _ _ _ _ v_p0_state_friends (by omega) /- pre X0_leastBand.1#1 -/ (by omega) /- pre X0_leastBand.2#1 -/ (by exact q_X2_serveAllKings_1_1) /- pre X0_leastBand.3#1 -/ (by exact hst9) /- pre X0_leastBand.4#1 -/ (by exact h12) /- pre X0_leastBand.5#1 -/ (by omega) /- pre X0_leastBand.6#1 -/ (by omega) /- pre X0_leastBand.7#1 -/ (by omega) /- pre X0_leastBand.8#1 -/ (by omega) /- pre X0_leastBand.9#1 -/ (by rcases hid q_X0_leastLeader_1 with hq | hq; omega; exact hq.2.2.1) /- pre X0_leastBand.10#1 -/) (fun z14 q_X0_leastBand_1 => ?_)
            try dsimp only at q_X0_leastBand_1
            obtain ⟨q_X0_leastBand_1_1, q_X0_leastBand_1_2⟩ := q_X0_leastBand_1
            refine wp_some ?_
            try dsimp only
            all_goals exact ⟨(by omega) /- post1#6 -/, (by unfold Hid; intro h; exact absurd ⟨hs1, hs2, hs3⟩ h) /- post2#6 -/, (by unfold Hid; intro _; rcases hid q_X0_leastLeader_1 with hq | hq; omega; exact ⟨w9, q_X2_stirPot_1_1, Or.inr ⟨_, hq.1, hq.2.1, hq.2.2.1, hq.2.2.2, Or.inr ⟨by omega, q_X0_leastBand_1_1.1, q_X0_leastBand_1_2.1, q_X0_leastBand_1_2.2⟩⟩⟩) /- post3#6 -/⟩

set_option maxHeartbeats 1000000 in
theorem s_X11_firm (i_p0_rules_seats : Int) (i_p0_rules_stirs : Int) (v_p0_rules_after : (Int → Int)) (v_p0_state_pieces : (Int → Int)) (v_p0_state_friends : (Int → Int)) (v_p0_state_spoons : (Int → Int)) (v_p0_kitchen_places : (Int → Int)) (v_p0_kitchen_holders : (Int → Int)) (v_p0_kitchen_stirred : (Int → Int)) (x1 : Int) (h1 : -2147483648 ≤ x1) (h2 : x1 < 2147483648) (h3 : 2 ≤ i_p0_rules_seats) (h4 : i_p0_rules_seats ≤ 7) (h5 : 0 ≤ i_p0_rules_stirs) (h6 : i_p0_rules_stirs ≤ 5) (h7 : rows i_p0_rules_seats i_p0_rules_stirs v_p0_rules_after) (h8 : ∀ j, 0 ≤ j → j < 7 → 1 ≤ v_p0_state_spoons j ∧ v_p0_state_spoons j ≤ 9) (h9 : ∀ j, 0 ≤ j → j < 7 → 0 ≤ v_p0_state_pieces j ∧ v_p0_state_pieces j ≤ 9) : wp (f_X11_firm i_p0_rules_seats i_p0_rules_stirs v_p0_rules_after v_p0_state_pieces v_p0_state_friends v_p0_state_spoons v_p0_kitchen_places v_p0_kitchen_holders v_p0_kitchen_stirred x1) (fun o => (-1 ≤ o.1 ∧ o.1 < 128) ∧ (Hid (¬ (0 ≤ x1 ∧ x1 < i_p0_rules_stirs) → o.1 = -1)) ∧ (Hid ((0 ≤ x1 ∧ x1 < i_p0_rules_stirs) → ∃ w, stirdP i_p0_rules_seats (fun i => v_p0_rules_after (x1 * 7 + i)) v_p0_state_pieces w ∧ o.1 = bitsOf (fun k => ∀ c, 0 ≤ c → c < i_p0_rules_seats → ¬ c = k → ¬ leadP i_p0_rules_seats v_p0_state_friends v_p0_state_spoons w c k) i_p0_rules_seats.toNat))) := by
  unfold f_X11_firm
  refine wp_bd1 (s_X6_hasStir _ _ (by omega) /- pre X6_hasStir.1#1 -/ (by omega) /- pre X6_hasStir.2#1 -/ (by omega) /- pre X6_hasStir.3#1 -/ (by omega) /- pre X6_hasStir.4#1 -/) (fun z1 q_X6_hasStir_1 => ?_)
  try dsimp only at q_X6_hasStir_1
  refine wp_ck (z_r32_i.mpr ⟨(by omega) /- z_r32.lo z1#1 -/, (by omega) /- z_r32.hi z1#1 -/⟩) ?_
  refine wp_if (fun c1 => ?_) (fun c1 => ?_)
  ·
    refine wp_some ?_
    try dsimp only
    all_goals exact ⟨(by omega) /- post1#1 -/, (by unfold Hid; intro _; rfl) /- post2#1 -/, (by unfold Hid; intro h; exfalso; (split at q_X6_hasStir_1 <;> omega)) /- post3#1 -/⟩
  ·
    have hs2 : 0 ≤ x1 ∧ x1 < i_p0_rules_stirs := by split at q_X6_hasStir_1 <;> omega
    clear q_X6_hasStir_1
    have hrow := h7 x1 hs2.1 hs2.2
    refine wp_bd2 (s_X2_serveAllKings _ _ _ _ (by omega) /- pre X2_serveAllKings.1#1 -/ (by omega) /- pre X2_serveAllKings.2#1 -/) (fun w3 w4 q_X2_serveAllKings_1 => ?_)
    try dsimp only at q_X2_serveAllKings_1
    obtain ⟨q_X2_serveAllKings_1_1, q_X2_serveAllKings_1_2⟩ := q_X2_serveAllKings_1
    refine wp_bd1 (s_X2_stirPot _ _ _ _ _ (by omega) /- pre X2_stirPot.1#1 -/ (by omega) /- pre X2_stirPot.2#1 -/ (by omega) /- pre X2_stirPot.3#1 -/ (by omega) /- pre X2_stirPot.4#1 -/ (by exact hrow) /- pre X2_stirPot.5#1 -/) (fun w5 q_X2_stirPot_1 => ?_)
    try dsimp only at q_X2_stirPot_1
    obtain ⟨q_X2_stirPot_1_1, q_X2_stirPot_1_2⟩ := q_X2_stirPot_1
    have hst9 : ∀ q, 0 ≤ q → q < i_p0_rules_seats → 0 ≤ w5 q ∧ w5 q ≤ 9 := fun q a b => stird_rng hrow q_X2_stirPot_1_1 h4 h9 a b
    refine wp_bnd ?_
    refine wp_bnd ?_
    refine wp_lq2 (fun (z8 : Int) (z9 : Int) => (0 ≤ z8) ∧ (z8 ≤ i_p0_rules_seats) ∧ (z9 = bitsOf (fun k => ∀ c, 0 ≤ c → c < i_p0_rules_seats → ¬ c = k → ¬ leadP i_p0_rules_seats v_p0_state_friends v_p0_state_spoons w5 c k) z8.toNat)) (fun (z8 : Int) (z9 : Int) => (i_p0_rules_seats - z8).toNat) (fun again32 z8 z9 hI ih_B_X11_firm_32 => ?_) 1000 _ _ ⟨(by omega) /- B_X11_firm_32.init1#1 -/, (by omega) /- B_X11_firm_32.init2#1 -/, (by rfl) /- B_X11_firm_32.init3#1 -/⟩ (by omega) /- B_X11_firm_32.fuel#1 -/
    obtain ⟨i_B_X11_firm_32_1, i_B_X11_firm_32_2, i_B_X11_firm_32_3⟩ := hI
    unfold B_X11_firm_32
    have hbr := bits_rng (fun k => ∀ c, 0 ≤ c → c < i_p0_rules_seats → ¬ c = k → ¬ leadP i_p0_rules_seats v_p0_state_friends v_p0_state_spoons w5 c k) z8.toNat (by omega)
    rw [← i_B_X11_firm_32_3] at hbr
    refine wp_ck (z_r32_i.mpr ⟨(by omega) /- z_r32.lo z8#1 -/, (by omega) /- z_r32.hi z8#1 -/⟩) ?_
    refine wp_ck (z_r32_i.mpr ⟨(by omega) /- z_r32.lo i_p0_rules_seats#1 -/, (by omega) /- z_r32.hi i_p0_rules_seats#1 -/⟩) ?_
    refine wp_if (fun c2 => ?_) (fun c2 => ?_)
    ·
      refine wp_some ?_
      try dsimp only
      all_goals exact ⟨(by omega) /- post1#2 -/, (by unfold Hid; intro h; exact absurd hs2 h) /- post2#2 -/, (by unfold Hid; intro _; exact ⟨w5, q_X2_stirPot_1_1, by rw [i_B_X11_firm_32_3]; congr 1; omega⟩) /- post3#2 -/⟩
    ·
      refine wp_bd1 (s_X0_leastLeader _ _ _ _ _ v_p0_state_friends (by omega) /- pre X0_leastLeader.1#1 -/ (by omega) /- pre X0_leastLeader.2#1 -/ (by exact q_X2_serveAllKings_1_1) /- pre X0_leastLeader.3#1 -/ (by exact hst9) /- pre X0_leastLeader.4#1 -/ (by exact h8) /- pre X0_leastLeader.5#1 -/ (by omega) /- pre X0_leastLeader.6#1 -/ (by omega) /- pre X0_leastLeader.7#1 -/) (fun z13 q_X0_leastLeader_1 => ?_)
      try dsimp only at q_X0_leastLeader_1
      have hll : z13 = -4 ∨ (0 ≤ z13 ∧ z13 < i_p0_rules_seats) := by
        rcases q_X0_leastLeader_1 with hq | hq
        · left; exact hq.1
        · right; exact hq.1
      refine wp_ck (z_r32_i.mpr ⟨(by omega) /- z_r32.lo z13#1 -/, (by omega) /- z_r32.hi z13#1 -/⟩) ?_
      refine wp_if (fun c3 => ?_) (fun c3 => ?_)
      ·
        refine wp_bndE (fun z16 hz16 => ?_)
        refine wp_bndE (fun z17 hz17 => ?_)
        exact ih_B_X11_firm_32 _ _ ⟨(by omega) /- B_X11_firm_32.inv1#1 -/, (by omega) /- B_X11_firm_32.inv2#1 -/, (by first | (rw [hz16, bits_tz i_B_X11_firm_32_1 (by show ∀ c, _; rcases q_X0_leastLeader_1 with hq | hq; exact hq.2; omega), ← i_B_X11_firm_32_3]; omega) | (rw [hz17, bits_tz i_B_X11_firm_32_1 (by show ∀ c, _; rcases q_X0_leastLeader_1 with hq | hq; exact hq.2; omega), ← i_B_X11_firm_32_3]; omega) | (rw [hz15, bits_fz i_B_X11_firm_32_1 (by show ¬ ∀ c, _; intro hh; rcases q_X0_leastLeader_1 with hq | hq; omega; exact hh z13 hq.1.1 hq.1.2 hq.2.1 hq.2.2.1)]; exact i_B_X11_firm_32_3) | (rw [hz17, bits_fz i_B_X11_firm_32_1 (by show ¬ ∀ c, _; intro hh; rcases q_X0_leastLeader_1 with hq | hq; omega; exact hh z13 hq.1.1 hq.1.2 hq.2.1 hq.2.2.1)]; exact i_B_X11_firm_32_3) | (rw [hz16, bits_fz i_B_X11_firm_32_1 (by show ¬ ∀ c, _; intro hh; rcases q_X0_leastLeader_1 with hq | hq; omega; exact hh z13 hq.1.1 hq.1.2 hq.2.1 hq.2.2.1)]; exact i_B_X11_firm_32_3)) /- B_X11_firm_32.inv3#1 -/⟩ (by omega) /- B_X11_firm_32.dec#1 -/
      ·
        refine wp_bndE (fun z15 hz15 => ?_)
        exact ih_B_X11_firm_32 _ _ ⟨(by omega) /- B_X11_firm_32.inv1#2 -/, (by omega) /- B_X11_firm_32.inv2#2 -/, (by first | (rw [hz16, bits_tz i_B_X11_firm_32_1 (by show ∀ c, _; rcases q_X0_leastLeader_1 with hq | hq; exact hq.2; omega), ← i_B_X11_firm_32_3]; omega) | (rw [hz17, bits_tz i_B_X11_firm_32_1 (by show ∀ c, _; rcases q_X0_leastLeader_1 with hq | hq; exact hq.2; omega), ← i_B_X11_firm_32_3]; omega) | (rw [hz15, bits_fz i_B_X11_firm_32_1 (by show ¬ ∀ c, _; intro hh; rcases q_X0_leastLeader_1 with hq | hq; omega; exact hh z13 hq.1.1 hq.1.2 hq.2.1 hq.2.2.1)]; exact i_B_X11_firm_32_3) | (rw [hz17, bits_fz i_B_X11_firm_32_1 (by show ¬ ∀ c, _; intro hh; rcases q_X0_leastLeader_1 with hq | hq; omega; exact hh z13 hq.1.1 hq.1.2 hq.2.1 hq.2.2.1)]; exact i_B_X11_firm_32_3) | (rw [hz16, bits_fz i_B_X11_firm_32_1 (by show ¬ ∀ c, _; intro hh; rcases q_X0_leastLeader_1 with hq | hq; omega; exact hh z13 hq.1.1 hq.1.2 hq.2.1 hq.2.2.1)]; exact i_B_X11_firm_32_3)) /- B_X11_firm_32.inv3#2 -/⟩ (by omega) /- B_X11_firm_32.dec#2 -/

set_option maxHeartbeats 1000000 in
theorem s_X11_histories (i_p0_rules_seats : Int) (i_p0_rules_stirs : Int) (v_p0_rules_after : (Int → Int)) (i_p0_state_seenDays : Int) (i_p0_state_bone : Int) (i_p0_state_king : Int) (v_p0_state_friends : (Int → Int)) (v_p0_state_seen : (Int → Int)) (v_p0_kitchen_places : (Int → Int)) (v_p0_kitchen_holders : (Int → Int)) (v_p0_past_fitting : (Int → Int)) (x1 : Int) (h1 : -2147483648 ≤ x1) (h2 : x1 < 2147483648) (h3 : 2 ≤ i_p0_rules_seats) (h4 : i_p0_rules_seats ≤ 7) (h5 : 0 ≤ i_p0_rules_stirs) (h6 : i_p0_rules_stirs ≤ 5) (h7 : rows i_p0_rules_seats i_p0_rules_stirs v_p0_rules_after) (h8 : 0 ≤ i_p0_state_bone) (h9 : i_p0_state_bone < i_p0_rules_seats) (h10 : 0 ≤ i_p0_state_king) (h11 : i_p0_state_king < i_p0_rules_seats) (h12 : 0 ≤ i_p0_state_seenDays) (h13 : i_p0_state_seenDays ≤ 6) (h14 : ∀ j, 0 ≤ j → j < i_p0_state_seenDays → 0 ≤ v_p0_state_seen j ∧ v_p0_state_seen j < i_p0_rules_seats) : wp (f_X11_histories i_p0_rules_seats i_p0_rules_stirs v_p0_rules_after i_p0_state_seenDays i_p0_state_bone i_p0_state_king v_p0_state_friends v_p0_state_seen v_p0_kitchen_places v_p0_kitchen_holders v_p0_past_fitting x1) (fun o => (-4 ≤ o.1 ∧ o.1 ≤ 9765625) ∧ (Hid (¬ (x1 = 0 ∨ (10 ≤ x1 ∧ x1 < 16)) → o.1 = -1)) ∧ (Hid (x1 = 0 → o.1 = prq i_p0_rules_seats i_p0_rules_stirs i_p0_state_king i_p0_state_bone v_p0_state_friends v_p0_state_seen (fun y b => v_p0_rules_after (y * 7 + b)) i_p0_state_seenDays.toNat)) ∧ (Hid ((10 ≤ x1 ∧ x1 < 16) → fstq i_p0_rules_stirs (fun t => ¬ bt (if (0 ≤ x1 - 10 ∧ x1 - 10 < i_p0_state_seenDays) ∧ 0 < prq i_p0_rules_seats i_p0_rules_stirs i_p0_state_king i_p0_state_bone v_p0_state_friends v_p0_state_seen (fun y b => v_p0_rules_after (y * 7 + b)) i_p0_state_seenDays.toNat then fitq i_p0_rules_seats i_p0_rules_stirs i_p0_state_king i_p0_state_bone v_p0_state_friends v_p0_state_seen (fun y b => v_p0_rules_after (y * 7 + b)) (x1 - 10) else 0) t = 0) o.1))) := by
  unfold f_X11_histories
  refine wp_bd1 (s_X11_isRowQuestion _ _ (by omega) /- pre X11_isRowQuestion.1#1 -/ (by omega) /- pre X11_isRowQuestion.2#1 -/ (by omega) /- pre X11_isRowQuestion.3#1 -/ (by omega) /- pre X11_isRowQuestion.4#1 -/) (fun z1 q_X11_isRowQuestion_1 => ?_)
  try dsimp only at q_X11_isRowQuestion_1
  refine wp_ck (z_r32_i.mpr ⟨(by omega) /- z_r32.lo z1#1 -/, (by omega) /- z_r32.hi z1#1 -/⟩) ?_
  refine wp_if (fun c1 => ?_) (fun c1 => ?_)
  ·
    refine wp_some ?_
    try dsimp only
    all_goals exact ⟨(by omega) /- post1#1 -/, (by unfold Hid; intro _; rfl) /- post2#1 -/, (by unfold Hid; intro h; exfalso; split at q_X11_isRowQuestion_1 <;> omega) /- post3#1 -/, (by unfold Hid; intro h; exfalso; split at q_X11_isRowQuestion_1 <;> omega) /- post4#1 -/⟩
  ·
    have hq2 : x1 = 0 ∨ (10 ≤ x1 ∧ x1 < 16) := by split at q_X11_isRowQuestion_1 <;> omega
    clear q_X11_isRowQuestion_1
    refine wp_ck (z_r32_i.mpr ⟨(by omega) /- z_r32.lo x1#1 -/, (by omega) /- z_r32.hi x1#1 -/⟩) ?_
    refine wp_if (fun c2 => ?_) (fun c2 => ?_)
    ·
      refine wp_bd4 (s_X4_howMany _ _ _ _ _ _ _ _ _ _ _ (by omega) /- pre X4_howMany.1#1 -/ (by omega) /- pre X4_howMany.2#1 -/ (by omega) /- pre X4_howMany.3#1 -/ (by omega) /- pre X4_howMany.4#1 -/ (by exact h7) /- pre X4_howMany.5#1 -/ (by omega) /- pre X4_howMany.6#1 -/ (by omega) /- pre X4_howMany.7#1 -/ (by omega) /- pre X4_howMany.8#1 -/ (by omega) /- pre X4_howMany.9#1 -/ (by omega) /- pre X4_howMany.10#1 -/ (by omega) /- pre X4_howMany.11#1 -/ (by exact h14) /- pre X4_howMany.12#1 -/) (fun z8 w9 w10 w11 q_X4_howMany_1 => ?_)
      try dsimp only at q_X4_howMany_1
      obtain ⟨q_X4_howMany_1_1, q_X4_howMany_1_2, q_X4_howMany_1_3, q_X4_howMany_1_4⟩ := q_X4_howMany_1
      refine wp_some ?_
      try dsimp only
      all_goals exact ⟨(by omega) /- post1#2 -/, (by unfold Hid; intro h; exact absurd hq2 h) /- post2#2 -/, (by unfold Hid; intro _; exact q_X4_howMany_1_3) /- post3#2 -/, (by unfold Hid; intro h; exfalso; omega) /- post4#2 -/⟩
    ·
      refine wp_bd4 (s_X4_firstStirOfDay _ _ _ _ _ _ _ _ _ _ _ _ (by omega) /- pre X4_firstStirOfDay.1#1 -/ (by omega) /- pre X4_firstStirOfDay.2#1 -/ (by omega) /- pre X4_firstStirOfDay.3#1 -/ (by omega) /- pre X4_firstStirOfDay.4#1 -/ (by exact h7) /- pre X4_firstStirOfDay.5#1 -/ (by omega) /- pre X4_firstStirOfDay.6#1 -/ (by omega) /- pre X4_firstStirOfDay.7#1 -/ (by omega) /- pre X4_firstStirOfDay.8#1 -/ (by omega) /- pre X4_firstStirOfDay.9#1 -/ (by omega) /- pre X4_firstStirOfDay.10#1 -/ (by omega) /- pre X4_firstStirOfDay.11#1 -/ (by exact h14) /- pre X4_firstStirOfDay.12#1 -/ (by omega) /- pre X4_firstStirOfDay.13#1 -/ (by omega) /- pre X4_firstStirOfDay.14#1 -/) (fun z4 w5 w6 w7 q_X4_firstStirOfDay_1 => ?_)
      try dsimp only at q_X4_firstStirOfDay_1
      obtain ⟨q_X4_firstStirOfDay_1_1, q_X4_firstStirOfDay_1_2⟩ := q_X4_firstStirOfDay_1
      refine wp_some ?_
      try dsimp only
      all_goals exact ⟨(by omega) /- post1#3 -/, (by unfold Hid; intro h; exact absurd hq2 h) /- post2#3 -/, (by unfold Hid; intro h; exfalso; omega) /- post3#3 -/, (by unfold Hid; intro _; exact hid q_X4_firstStirOfDay_1_2) /- post4#3 -/⟩

set_option maxHeartbeats 1000000 in
theorem s_X11_could (i_p0_rules_seats : Int) (i_p0_rules_stirs : Int) (v_p0_rules_after : (Int → Int)) (i_p0_state_seenDays : Int) (i_p0_state_bone : Int) (i_p0_state_king : Int) (v_p0_state_friends : (Int → Int)) (v_p0_state_seen : (Int → Int)) (v_p0_kitchen_places : (Int → Int)) (v_p0_kitchen_holders : (Int → Int)) (v_p0_past_fitting : (Int → Int)) (x1 : Int) (h1 : -2147483648 ≤ x1) (h2 : x1 < 2147483648) (h3 : 2 ≤ i_p0_rules_seats) (h4 : i_p0_rules_seats ≤ 7) (h5 : 0 ≤ i_p0_rules_stirs) (h6 : i_p0_rules_stirs ≤ 5) (h7 : rows i_p0_rules_seats i_p0_rules_stirs v_p0_rules_after) (h8 : 0 ≤ i_p0_state_bone) (h9 : i_p0_state_bone < i_p0_rules_seats) (h10 : 0 ≤ i_p0_state_king) (h11 : i_p0_state_king < i_p0_rules_seats) (h12 : 0 ≤ i_p0_state_seenDays) (h13 : i_p0_state_seenDays ≤ 6) (h14 : ∀ j, 0 ≤ j → j < i_p0_state_seenDays → 0 ≤ v_p0_state_seen j ∧ v_p0_state_seen j < i_p0_rules_seats) : wp (f_X11_could i_p0_rules_seats i_p0_rules_stirs v_p0_rules_after i_p0_state_seenDays i_p0_state_bone i_p0_state_king v_p0_state_friends v_p0_state_seen v_p0_kitchen_places v_p0_kitchen_holders v_p0_past_fitting x1) (fun o => (-1 ≤ o.1 ∧ o.1 < 32) ∧ (Hid (¬ (0 ≤ x1 ∧ x1 < i_p0_state_seenDays) → o.1 = -1)) ∧ (Hid ((0 ≤ x1 ∧ x1 < i_p0_state_seenDays) → o.1 = (if (0 ≤ x1 ∧ x1 < i_p0_state_seenDays) ∧ 0 < prq i_p0_rules_seats i_p0_rules_stirs i_p0_state_king i_p0_state_bone v_p0_state_friends v_p0_state_seen (fun y b => v_p0_rules_after (y * 7 + b)) i_p0_state_seenDays.toNat then fitq i_p0_rules_seats i_p0_rules_stirs i_p0_state_king i_p0_state_bone v_p0_state_friends v_p0_state_seen (fun y b => v_p0_rules_after (y * 7 + b)) (x1) else 0)))) := by
  unfold f_X11_could
  refine wp_ck (z_r32_i.mpr ⟨(by omega) /- z_r32.lo x1#1 -/, (by omega) /- z_r32.hi x1#1 -/⟩) ?_
  refine wp_if (fun c1 => ?_) (fun c1 => ?_)
  ·
    refine wp_some ?_
    try dsimp only
    all_goals exact ⟨(by omega) /- post1#1 -/, (by unfold Hid; intro _; rfl) /- post2#1 -/, (by unfold Hid; intro h; exfalso; omega) /- post3#1 -/⟩
  ·
    refine wp_ck (z_r32_i.mpr ⟨(by omega) /- z_r32.lo i_p0_state_seenDays#1 -/, (by omega) /- z_r32.hi i_p0_state_seenDays#1 -/⟩) ?_
    refine wp_if (fun c2 => ?_) (fun c2 => ?_)
    ·
      refine wp_bd4 (s_X4_stirsOfDay _ _ _ _ _ _ _ _ _ _ _ _ (by omega) /- pre X4_stirsOfDay.1#1 -/ (by omega) /- pre X4_stirsOfDay.2#1 -/ (by omega) /- pre X4_stirsOfDay.3#1 -/ (by omega) /- pre X4_stirsOfDay.4#1 -/ (by exact h7) /- pre X4_stirsOfDay.5#1 -/ (by omega) /- pre X4_stirsOfDay.6#1 -/ (by omega) /- pre X4_stirsOfDay.7#1 -/ (by omega) /- pre X4_stirsOfDay.8#1 -/ (by omega) /- pre X4_stirsOfDay.9#1 -/ (by omega) /- pre X4_stirsOfDay.10#1 -/ (by omega) /- pre X4_stirsOfDay.11#1 -/ (by exact h14) /- pre X4_stirsOfDay.12#1 -/ (by omega) /- pre X4_stirsOfDay.13#1 -/ (by omega) /- pre X4_stirsOfDay.14#1 -/) (fun z3 w4 w5 w6 q_X4_stirsOfDay_1 => ?_)
      try dsimp only at q_X4_stirsOfDay_1
      obtain ⟨q_X4_stirsOfDay_1_1, q_X4_stirsOfDay_1_2⟩ := q_X4_stirsOfDay_1
      refine wp_some ?_
      try dsimp only
      all_goals exact ⟨(by omega) /- post1#2 -/, (by unfold Hid; intro h; exfalso; omega) /- post2#2 -/, (by unfold Hid; intro _; exact hid q_X4_stirsOfDay_1_2) /- post3#2 -/⟩
    ·
      refine wp_some ?_
      try dsimp only
      all_goals exact ⟨(by omega) /- post1#3 -/, (by unfold Hid; intro _; rfl) /- post2#3 -/, (by unfold Hid; intro h; exfalso; omega) /- post3#3 -/⟩

set_option maxHeartbeats 1000000 in
theorem s_X11_blind (i_p0_rules_seats : Int) (v_p0_luck_finds : (Int → Int)) (x1 : Int) (x2 : Int) (x3 : Int) (h1 : -2147483648 ≤ x1) (h2 : x1 < 2147483648) (h3 : -2147483648 ≤ x2) (h4 : x2 < 2147483648) (h5 : -2147483648 ≤ x3) (h6 : x3 < 2147483648) (h7 : 2 ≤ i_p0_rules_seats) (h8 : i_p0_rules_seats ≤ 7) : wp (f_X11_blind i_p0_rules_seats v_p0_luck_finds x1 x2 x3) (fun o => (-9223372036854775808 ≤ o.1 ∧ o.1 < 9223372036854775808) ∧ (Hid (¬ ((1 ≤ x2 ∧ x2 ≤ 12) ∧ (0 ≤ x1 ∧ x1 ≤ x2) ∧ (x3 = 0 ∨ x3 = 1)) → o.1 = -1)) ∧ (Hid (((1 ≤ x2 ∧ x2 ≤ 12) ∧ (0 ≤ x1 ∧ x1 ≤ x2) ∧ (x3 = 0 ∨ x3 = 1)) → o.1 = if x3 = 0 then (sumTo (fun j => if x1 ≤ j then tfn (i_p0_rules_seats - 1) x2.toNat j else 0) (x2 + 1).toNat) / gz (sumTo (fun j => if x1 ≤ j then tfn (i_p0_rules_seats - 1) x2.toNat j else 0) (x2 + 1).toNat) (i_p0_rules_seats ^ x2.toNat) else (i_p0_rules_seats ^ x2.toNat) / gz (sumTo (fun j => if x1 ≤ j then tfn (i_p0_rules_seats - 1) x2.toNat j else 0) (x2 + 1).toNat) (i_p0_rules_seats ^ x2.toNat)))) := by
  unfold f_X11_blind
  refine wp_ck (z_r32_i.mpr ⟨(by omega) /- z_r32.lo x2#1 -/, (by omega) /- z_r32.hi x2#1 -/⟩) ?_
  refine wp_if (fun c1 => ?_) (fun c1 => ?_)
  ·
    refine wp_some ?_
    try dsimp only
    all_goals exact ⟨(by omega) /- post1#1 -/, (by unfold Hid; intro _; rfl) /- post2#1 -/, (by unfold Hid; intro h; exfalso; omega) /- post3#1 -/⟩
  ·
    refine wp_if (fun c2 => ?_) (fun c2 => ?_)
    ·
      refine wp_some ?_
      try dsimp only
      all_goals exact ⟨(by omega) /- post1#2 -/, (by unfold Hid; intro _; rfl) /- post2#2 -/, (by unfold Hid; intro h; exfalso; omega) /- post3#2 -/⟩
    ·
      refine wp_ck (z_r32_i.mpr ⟨(by omega) /- z_r32.lo x1#1 -/, (by omega) /- z_r32.hi x1#1 -/⟩) ?_
      refine wp_if (fun c3 => ?_) (fun c3 => ?_)
      ·
        refine wp_some ?_
        try dsimp only
        all_goals exact ⟨(by omega) /- post1#3 -/, (by unfold Hid; intro _; rfl) /- post2#3 -/, (by unfold Hid; intro h; exfalso; omega) /- post3#3 -/⟩
      ·
        refine wp_if (fun c4 => ?_) (fun c4 => ?_)
        ·
          refine wp_some ?_
          try dsimp only
          all_goals exact ⟨(by omega) /- post1#4 -/, (by unfold Hid; intro _; rfl) /- post2#4 -/, (by unfold Hid; intro h; exfalso; omega) /- post3#4 -/⟩
        ·
          refine wp_bd1 (s_X11_isPart _ (by omega) /- pre X11_isPart.1#1 -/ (by omega) /- pre X11_isPart.2#1 -/) (fun z3 q_X11_isPart_1 => ?_)
          try dsimp only at q_X11_isPart_1
          refine wp_ck (z_r32_i.mpr ⟨(by omega) /- z_r32.lo z3#1 -/, (by omega) /- z_r32.hi z3#1 -/⟩) ?_
          refine wp_if (fun c5 => ?_) (fun c5 => ?_)
          ·
            refine wp_some ?_
            try dsimp only
            all_goals exact ⟨(by omega) /- post1#5 -/, (by unfold Hid; intro _; rfl) /- post2#5 -/, (by unfold Hid; intro h; exfalso; split at q_X11_isPart_1 <;> omega) /- post3#5 -/⟩
          ·
            have hs3 : x3 = 0 ∨ x3 = 1 := by split at q_X11_isPart_1 <;> omega
            clear q_X11_isPart_1
            refine wp_bd2 (s_X3_triesWithFinds _ _ _ _ (by omega) /- pre X3_triesWithFinds.1#1 -/ (by omega) /- pre X3_triesWithFinds.2#1 -/ (by omega) /- pre X3_triesWithFinds.3#1 -/ (by omega) /- pre X3_triesWithFinds.4#1 -/ (by omega) /- pre X3_triesWithFinds.5#1 -/ (by omega) /- pre X3_triesWithFinds.6#1 -/) (fun z5 w6 q_X3_triesWithFinds_1 => ?_)
            try dsimp only at q_X3_triesWithFinds_1
            obtain ⟨q_X3_triesWithFinds_1_1, q_X3_triesWithFinds_1_2⟩ := q_X3_triesWithFinds_1
            refine wp_bd1 (s_X3_power _ _ (by omega) /- pre X3_power.1#1 -/ (by omega) /- pre X3_power.2#1 -/ (by omega) /- pre X3_power.3#1 -/ (by omega) /- pre X3_power.4#1 -/) (fun z7 q_X3_power_1 => ?_)
            try dsimp only at q_X3_power_1
            have hpb := powb_r (b := i_p0_rules_seats) (z := x2) (by omega) (by omega) (by omega) (by omega)
            have hpp := powb_p (b := i_p0_rules_seats) (z := x2) (by omega) (by omega) (by omega) (by omega)
            refine wp_bd1 (s_X3_part _ _ _ (by omega) /- pre X3_part.1#1 -/ (by omega) /- pre X3_part.2#1 -/ (by omega) /- pre X3_part.3#1 -/ (by omega) /- pre X3_part.4#1 -/ (by omega) /- pre X3_part.5#1 -/) (fun z8 q_X3_part_1 => ?_)
            try dsimp only at q_X3_part_1
            obtain ⟨q_X3_part_1_1, q_X3_part_1_2⟩ := q_X3_part_1
            refine wp_some ?_
            try dsimp only
            all_goals exact ⟨(by omega) /- post1#6 -/, (by unfold Hid; intro h; exfalso; exact h ⟨by omega, by omega, hs3⟩) /- post2#6 -/, (by unfold Hid; intro _; rw [hid q_X3_part_1_2, q_X3_power_1, hid q_X3_triesWithFinds_1_2]) /- post3#6 -/⟩

set_option maxHeartbeats 1000000 in
theorem s_X11_fair (i_p0_rules_seats : Int) (i_p0_rules_stirs : Int) (v_p0_rules_after : (Int → Int)) (i_p0_state_bone : Int) (i_p0_state_king : Int) (v_p0_state_pieces : (Int → Int)) (v_p0_state_friends : (Int → Int)) (v_p0_kitchen_places : (Int → Int)) (v_p0_kitchen_holders : (Int → Int)) (i_p0_fairDays_days : Int) (i_p0_fairDays_least : Int) (v_p0_fairDays_pots : (Int → Int)) (v_p0_fairDays_sums : (Int → Int)) (v_p0_fairDays_kings : (Int → Int)) (v_p0_fairDays_bones : (Int → Int)) (v_p0_fairDays_row : (Int → Int)) (v_p0_fairDays_bestRow : (Int → Int)) (x1 : Int) (x2 : Int) (h1 : -2147483648 ≤ x1) (h2 : x1 < 2147483648) (h3 : -2147483648 ≤ x2) (h4 : x2 < 2147483648) (h5 : 2 ≤ i_p0_rules_seats) (h6 : i_p0_rules_seats ≤ 7) (h7 : 0 ≤ i_p0_rules_stirs) (h8 : i_p0_rules_stirs ≤ 5) (h9 : rows i_p0_rules_seats i_p0_rules_stirs v_p0_rules_after) (h10 : 0 ≤ i_p0_state_bone) (h11 : i_p0_state_bone < i_p0_rules_seats) (h12 : 0 ≤ i_p0_state_king) (h13 : i_p0_state_king < i_p0_rules_seats) (h14 : ∀ j, 0 ≤ j → j < 7 → 0 ≤ v_p0_state_pieces j ∧ v_p0_state_pieces j ≤ 9) (h15 : ∀ j, 0 ≤ j → j < 4 → 0 ≤ v_p0_fairDays_bestRow j ∧ v_p0_fairDays_bestRow j < 5) : wp (f_X11_fair i_p0_rules_seats i_p0_rules_stirs v_p0_rules_after i_p0_state_bone i_p0_state_king v_p0_state_pieces v_p0_state_friends v_p0_kitchen_places v_p0_kitchen_holders i_p0_fairDays_days i_p0_fairDays_least v_p0_fairDays_pots v_p0_fairDays_sums v_p0_fairDays_kings v_p0_fairDays_bones v_p0_fairDays_row v_p0_fairDays_bestRow x1 x2) (fun o => (-4 ≤ o.1 ∧ o.1 ≤ 1000) ∧ (∀ j, 0 ≤ j → j < 4 → 0 ≤ o.2.2.2.2.2.2.2.2.2.2 j ∧ o.2.2.2.2.2.2.2.2.2.2 j < 5) ∧ (Hid (¬ ((1 ≤ x1 ∧ x1 ≤ 4) ∧ (x2 = 0 ∨ (10 ≤ x2 ∧ x2 < 14))) → o.1 = -1)) ∧ (Hid (((1 ≤ x1 ∧ x1 ≤ 4) ∧ (x2 = 0 ∨ (10 ≤ x2 ∧ x2 < 14))) → i_p0_rules_stirs = 0 → o.1 = -2)) ∧ (Hid (((1 ≤ x1 ∧ x1 ≤ 4) ∧ (x2 = 0 ∨ (10 ≤ x2 ∧ x2 < 14))) → ¬ i_p0_rules_stirs = 0 → 10 + x1 ≤ x2 → o.1 = -4)) ∧ (Hid (((1 ≤ x1 ∧ x1 ≤ 4) ∧ (x2 = 0 ∨ (10 ≤ x2 ∧ x2 < 14))) → ¬ i_p0_rules_stirs = 0 → x2 < 10 + x1 → ∃ b l, lst (spi i_p0_rules_seats i_p0_rules_stirs (clF i_p0_rules_seats v_p0_state_friends) (clA i_p0_rules_seats i_p0_rules_stirs (fun y b => v_p0_rules_after (y * 7 + b))) (clF i_p0_rules_seats v_p0_state_pieces) i_p0_state_king i_p0_state_bone x1) (i_p0_rules_stirs ^ x1.toNat) b l ∧ o.1 = if x2 = 0 then l else dgt i_p0_rules_stirs x1 b (x2 - 10)))) := by
  unfold f_X11_fair
  refine wp_ck (z_r32_i.mpr ⟨(by omega) /- z_r32.lo x1#1 -/, (by omega) /- z_r32.hi x1#1 -/⟩) ?_
  refine wp_if (fun c1 => ?_) (fun c1 => ?_)
  ·
    refine wp_some ?_
    try dsimp only
    all_goals exact ⟨(by omega) /- post1#1 -/, (by first | exact h15 | exact q_X1_leastSpread_1_2) /- post2#1 -/, (by unfold Hid; intro _; rfl) /- post3#1 -/, (by unfold Hid; intro h _; exfalso; first | omega | (split at q_X11_isRowQuestion_1 <;> omega)) /- post4#1 -/, (by unfold Hid; intro h _ _; exfalso; first | omega | (split at q_X11_isRowQuestion_1 <;> omega)) /- post5#1 -/, (by unfold Hid; intro h _ _; exfalso; first | omega | (split at q_X11_isRowQuestion_1 <;> omega)) /- post6#1 -/⟩
  ·
    refine wp_if (fun c2 => ?_) (fun c2 => ?_)
    ·
      refine wp_some ?_
      try dsimp only
      all_goals exact ⟨(by omega) /- post1#2 -/, (by first | exact h15 | exact q_X1_leastSpread_1_2) /- post2#2 -/, (by unfold Hid; intro _; rfl) /- post3#2 -/, (by unfold Hid; intro h _; exfalso; first | omega | (split at q_X11_isRowQuestion_1 <;> omega)) /- post4#2 -/, (by unfold Hid; intro h _ _; exfalso; first | omega | (split at q_X11_isRowQuestion_1 <;> omega)) /- post5#2 -/, (by unfold Hid; intro h _ _; exfalso; first | omega | (split at q_X11_isRowQuestion_1 <;> omega)) /- post6#2 -/⟩
    ·
      refine wp_bd1 (s_X11_isRowQuestion _ _ (by omega) /- pre X11_isRowQuestion.1#1 -/ (by omega) /- pre X11_isRowQuestion.2#1 -/ (by omega) /- pre X11_isRowQuestion.3#1 -/ (by omega) /- pre X11_isRowQuestion.4#1 -/) (fun z2 q_X11_isRowQuestion_1 => ?_)
      try dsimp only at q_X11_isRowQuestion_1
      refine wp_ck (z_r32_i.mpr ⟨(by omega) /- z_r32.lo z2#1 -/, (by omega) /- z_r32.hi z2#1 -/⟩) ?_
      refine wp_if (fun c3 => ?_) (fun c3 => ?_)
      ·
        refine wp_some ?_
        try dsimp only
        all_goals exact ⟨(by omega) /- post1#3 -/, (by first | exact h15 | exact q_X1_leastSpread_1_2) /- post2#3 -/, (by unfold Hid; intro _; rfl) /- post3#3 -/, (by unfold Hid; intro h _; exfalso; first | omega | (split at q_X11_isRowQuestion_1 <;> omega)) /- post4#3 -/, (by unfold Hid; intro h _ _; exfalso; first | omega | (split at q_X11_isRowQuestion_1 <;> omega)) /- post5#3 -/, (by unfold Hid; intro h _ _; exfalso; first | omega | (split at q_X11_isRowQuestion_1 <;> omega)) /- post6#3 -/⟩
      ·
        have hq2 : x2 = 0 ∨ (10 ≤ x2 ∧ x2 < 14) := by split at q_X11_isRowQuestion_1 <;> omega
        clear q_X11_isRowQuestion_1
        refine wp_ck (z_r32_i.mpr ⟨(by omega) /- z_r32.lo i_p0_rules_stirs#1 -/, (by omega) /- z_r32.hi i_p0_rules_stirs#1 -/⟩) ?_
        refine wp_if (fun c4 => ?_) (fun c4 => ?_)
        ·
          refine wp_some ?_
          try dsimp only
          all_goals exact ⟨(by omega) /- post1#4 -/, (by first | exact h15 | exact q_X1_leastSpread_1_2) /- post2#4 -/, (by unfold Hid; intro h; exfalso; first | omega | (split at q_X11_isRowQuestion_1 <;> omega)) /- post3#4 -/, (by unfold Hid; intro _ _; rfl) /- post4#4 -/, (by unfold Hid; intro _ h; exact absurd (by assumption) h) /- post5#4 -/, (by unfold Hid; intro _ h; exact absurd (by assumption) h) /- post6#4 -/⟩
        ·
          refine wp_ck (z_r32_i.mpr ⟨(by omega) /- z_r32.lo x2#1 -/, (by omega) /- z_r32.hi x2#1 -/⟩) ?_
          refine wp_ck (z_r32_i.mpr ⟨(by omega) /- z_r32.lo ((10 : Int) + x1)#1 -/, (by omega) /- z_r32.hi ((10 : Int) + x1)#1 -/⟩) ?_
          refine wp_if (fun c5 => ?_) (fun c5 => ?_)
          ·
            refine wp_bd11 (s_X1_leastSpread _ _ _ _ _ _ _ _ _ _ _ _ _ _ _ _ (by omega) /- pre X1_leastSpread.1#1 -/ (by omega) /- pre X1_leastSpread.2#1 -/ (by omega) /- pre X1_leastSpread.3#1 -/ (by omega) /- pre X1_leastSpread.4#1 -/ (by exact h9) /- pre X1_leastSpread.5#1 -/ (by omega) /- pre X1_leastSpread.6#1 -/ (by omega) /- pre X1_leastSpread.7#1 -/ (by omega) /- pre X1_leastSpread.8#1 -/ (by omega) /- pre X1_leastSpread.9#1 -/ (by exact h14) /- pre X1_leastSpread.10#1 -/ (by omega) /- pre X1_leastSpread.11#1 -/ (by omega) /- pre X1_leastSpread.12#1 -/ (by exact h15) /- pre X1_leastSpread.13#1 -/) (fun z7 z8 z9 w10 w11 w12 w13 w14 w15 w16 w17 q_X1_leastSpread_1 => ?_)
            try dsimp only at q_X1_leastSpread_1
            obtain ⟨q_X1_leastSpread_1_1, q_X1_leastSpread_1_2, q_X1_leastSpread_1_3⟩ := q_X1_leastSpread_1
            refine wp_bnd ?_
            refine wp_if (fun c6 => ?_) (fun c6 => ?_)
            ·
              refine wp_some ?_
              try dsimp only
              all_goals exact ⟨(by omega) /- post1#5 -/, (by first | exact h15 | exact q_X1_leastSpread_1_2) /- post2#5 -/, (by unfold Hid; intro h; exfalso; first | omega | (split at q_X11_isRowQuestion_1 <;> omega)) /- post3#5 -/, (by unfold Hid; intro _ h; exact absurd h (by assumption)) /- post4#5 -/, (by unfold Hid; intro _ _ h; exfalso; omega) /- post5#5 -/, (by unfold Hid; intro _ _ _; obtain ⟨b, w1, w2⟩ := hid q_X1_leastSpread_1_3; exact ⟨b, _, w1, by rw [if_pos (by assumption)]⟩) /- post6#5 -/⟩
            ·
              refine wp_bd1 (s_X11_ofRow _ _ _ _ (by decide) /- pre X11_ofRow.1#1 -/ (by omega) /- pre X11_ofRow.2#1 -/ (by omega) /- pre X11_ofRow.3#1 -/ (by omega) /- pre X11_ofRow.4#1 -/ (by omega) /- pre X11_ofRow.5#1 -/) (fun z19 q_X11_ofRow_1 => ?_)
              try dsimp only at q_X11_ofRow_1
              have hor : -4 ≤ z19 ∧ z19 < 5 := by
                rw [q_X11_ofRow_1]; split
                · have := q_X1_leastSpread_1_2 (x2 - 10) (by omega) (by omega); omega
                · omega
              refine wp_some ?_
              try dsimp only
              all_goals exact ⟨(by omega) /- post1#6 -/, (by first | exact h15 | exact q_X1_leastSpread_1_2) /- post2#6 -/, (by unfold Hid; intro h; exfalso; first | omega | (split at q_X11_isRowQuestion_1 <;> omega)) /- post3#6 -/, (by unfold Hid; intro _ h; exact absurd h (by assumption)) /- post4#6 -/, (by unfold Hid; intro _ _ h; exfalso; omega) /- post5#6 -/, (by unfold Hid; intro _ _ _; obtain ⟨b, w1, w2⟩ := hid q_X1_leastSpread_1_3; refine ⟨b, _, w1, ?_⟩; rw [if_neg (by assumption), q_X11_ofRow_1, if_pos (by omega)]; exact w2 _ (by omega) (by omega)) /- post6#6 -/⟩
          ·
            refine wp_some ?_
            try dsimp only
            all_goals exact ⟨(by omega) /- post1#7 -/, (by first | exact h15 | exact q_X1_leastSpread_1_2) /- post2#7 -/, (by unfold Hid; intro h; exfalso; first | omega | (split at q_X11_isRowQuestion_1 <;> omega)) /- post3#7 -/, (by unfold Hid; intro _ h; exact absurd h (by assumption)) /- post4#7 -/, (by unfold Hid; intro _ _ _; rfl) /- post5#7 -/, (by unfold Hid; intro _ _ h; exfalso; omega) /- post6#7 -/⟩
