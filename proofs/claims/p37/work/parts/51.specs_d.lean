set_option maxHeartbeats 1000000 in
theorem s_X6_reset (v_p0_need : (Int → Int)) : wp (f_X6_reset v_p0_need) (fun o => (o.1 = 4) ∧ (o.2.1 = 0) ∧ (o.2.2 = z_fill v_p0_need 7 0)) := by
  unfold f_X6_reset
  refine wp_bnd ?_
  refine wp_bnd ?_
  refine wp_bd1 (s_J7_fill_53178 _ _ _ (by decide) /- pre J7_fill_53178.1#1 -/) (fun w3 q_J7_fill_53178_1 => ?_)
  try dsimp only at q_J7_fill_53178_1
  refine wp_some ?_
  try dsimp only
  all_goals exact ⟨(by first | assumption | omega | rfl) /- post1#1 -/, (by first | assumption | omega | rfl) /- post2#1 -/, (by first | assumption | omega | rfl) /- post3#1 -/⟩

set_option maxHeartbeats 1000000 in
theorem s_X6_copy (v_p0_need : (Int → Int)) (v_p0_after : (Int → Int)) (i_p1_seats : Int) (i_p1_stirs : Int) (v_p1_need : (Int → Int)) (v_p1_after : (Int → Int)) : wp (f_X6_copy v_p0_need v_p0_after i_p1_seats i_p1_stirs v_p1_need v_p1_after) (fun o => (o.1 = i_p1_seats) ∧ (o.2.1 = i_p1_stirs) ∧ (o.2.2.1 = z_cpy v_p1_need v_p0_need 0 0 7) ∧ (o.2.2.2 = z_cpy v_p1_after v_p0_after 0 0 35)) := by
  unfold f_X6_copy
  refine wp_bnd ?_
  refine wp_bnd ?_
  refine wp_ck (z_cp_i.mpr ⟨⟨⟨(by first | omega | decide) /- cp.0 (0 : Int)#1 -/, (by first | omega | decide) /- cp.1 (0 : Int)#1 -/⟩, (by first | omega | decide) /- cp.2 (0 : Int)#1 -/⟩, (by first | omega | decide) /- cp.3 (0 : Int)#1 -/⟩) ?_
  refine wp_ck (z_cp_i.mpr ⟨⟨⟨(by first | omega | decide) /- cp.0 (0 : Int)#2 -/, (by first | omega | decide) /- cp.1 (0 : Int)#2 -/⟩, (by first | omega | decide) /- cp.2 (0 : Int)#2 -/⟩, (by first | omega | decide) /- cp.3 (0 : Int)#2 -/⟩) ?_
  refine wp_bnd ?_
  refine wp_ck (z_cp_i.mpr ⟨⟨⟨(by first | omega | decide) /- cp.0 (0 : Int)#3 -/, (by first | omega | decide) /- cp.1 (0 : Int)#3 -/⟩, (by first | omega | decide) /- cp.2 (0 : Int)#3 -/⟩, (by first | omega | decide) /- cp.3 (0 : Int)#3 -/⟩) ?_
  refine wp_ck (z_cp_i.mpr ⟨⟨⟨(by first | omega | decide) /- cp.0 (0 : Int)#4 -/, (by first | omega | decide) /- cp.1 (0 : Int)#4 -/⟩, (by first | omega | decide) /- cp.2 (0 : Int)#4 -/⟩, (by first | omega | decide) /- cp.3 (0 : Int)#4 -/⟩) ?_
  refine wp_bnd ?_
  refine wp_some ?_
  try dsimp only
  all_goals exact ⟨(by first | assumption | omega | rfl) /- post1#1 -/, (by first | assumption | omega | rfl) /- post2#1 -/, (by first | assumption | omega | rfl) /- post3#1 -/, (by first | assumption | omega | rfl) /- post4#1 -/⟩

set_option maxHeartbeats 1000000 in
theorem s_X6_addStir (i_p0_stirs : Int) (v_p0_kind : (Int → Int)) (v_p0_first : (Int → Int)) (v_p0_second : (Int → Int)) (x1 : Int) (x2 : Int) (x3 : Int) (h1 : 0 ≤ i_p0_stirs) (h2 : i_p0_stirs < 5) : wp (f_X6_addStir i_p0_stirs v_p0_kind v_p0_first v_p0_second x1 x2 x3) (fun o => (o.1 = i_p0_stirs + 1) ∧ (o.2.1 = z_up v_p0_kind i_p0_stirs x1) ∧ (o.2.2.1 = z_up v_p0_first i_p0_stirs x2) ∧ (o.2.2.2 = z_up v_p0_second i_p0_stirs x3)) := by
  unfold f_X6_addStir
  refine wp_ck (z_r32_i.mpr ⟨(by first | omega | grind) /- z_r32.lo i_p0_stirs#1 -/, (by first | omega | grind) /- z_r32.hi i_p0_stirs#1 -/⟩) ?_
  refine wp_if (fun c1 => ?_) (fun c1 => ?_)
  ·
    refine wp_some ?_
    try dsimp only
    all_goals exact ⟨(by first | rfl | omega) /- post1#1 -/, (by first | rfl | omega) /- post2#1 -/, (by first | rfl | omega) /- post3#1 -/, (by first | rfl | omega) /- post4#1 -/⟩
  ·
    refine wp_ck (z_ix_i.mpr ⟨⟨(by first | omega | grind) /- ix.lo i_p0_stirs#1 -/, (by first | omega | grind) /- ix.hi i_p0_stirs#1 -/⟩, (by first | omega | grind) /- ix.big i_p0_stirs#1 -/⟩) ?_
    refine wp_bnd ?_
    refine wp_ck (z_ix_i.mpr ⟨⟨(by first | omega | grind) /- ix.lo i_p0_stirs#2 -/, (by first | omega | grind) /- ix.hi i_p0_stirs#2 -/⟩, (by first | omega | grind) /- ix.big i_p0_stirs#2 -/⟩) ?_
    refine wp_bnd ?_
    refine wp_ck (z_ix_i.mpr ⟨⟨(by first | omega | grind) /- ix.lo i_p0_stirs#3 -/, (by first | omega | grind) /- ix.hi i_p0_stirs#3 -/⟩, (by first | omega | grind) /- ix.big i_p0_stirs#3 -/⟩) ?_
    refine wp_bnd ?_
    refine wp_bndE (fun z5 hz5 => ?_)
    refine wp_some ?_
    try dsimp only
    all_goals exact ⟨(by first | rfl | omega) /- post1#2 -/, (by first | rfl | omega) /- post2#2 -/, (by first | rfl | omega) /- post3#2 -/, (by first | rfl | omega) /- post4#2 -/⟩

set_option maxHeartbeats 1000000 in
theorem s_X6_swapped (x0 : Int) (x1 : Int) (x2 : Int) (h1 : 0 ≤ x0) (h2 : x0 < 7) (h3 : 0 ≤ x1) (h4 : x1 < 7) (h5 : 0 ≤ x2) (h6 : x2 < 7) : wp (f_X6_swapped x0 x1 x2) (fun o => (o = if x0 = x1 then x2 else if x0 = x2 then x1 else x0)) := by
  unfold f_X6_swapped
  refine wp_ck (z_r32_i.mpr ⟨(by first | omega | grind) /- z_r32.lo x0#1 -/, (by first | omega | grind) /- z_r32.hi x0#1 -/⟩) ?_
  refine wp_ck (z_r32_i.mpr ⟨(by first | omega | grind) /- z_r32.lo x1#1 -/, (by first | omega | grind) /- z_r32.hi x1#1 -/⟩) ?_
  refine wp_if (fun c1 => ?_) (fun c1 => ?_)
  ·
    refine wp_some ?_
    try dsimp only
    all_goals exact (by rw [if_pos c1]) /- post1#1 -/
  ·
    refine wp_ck (z_r32_i.mpr ⟨(by first | omega | grind) /- z_r32.lo x2#1 -/, (by first | omega | grind) /- z_r32.hi x2#1 -/⟩) ?_
    refine wp_if (fun c2 => ?_) (fun c2 => ?_)
    ·
      refine wp_some ?_
      try dsimp only
      all_goals exact (by rw [if_neg c1, if_pos c2]) /- post1#2 -/
    ·
      refine wp_some ?_
      try dsimp only
      all_goals exact (by rw [if_neg c1, if_neg c2]) /- post1#3 -/

set_option maxHeartbeats 1000000 in
theorem s_X6_lifted (x0 : Int) (x1 : Int) (h1 : 0 ≤ x0) (h2 : x0 < 7) (h3 : 0 ≤ x1) (h4 : x1 < 7) : wp (f_X6_lifted x0 x1) (fun o => (o = if x0 = x1 then 0 else if x0 < x1 then x0 + 1 else x0)) := by
  unfold f_X6_lifted
  refine wp_ck (z_r32_i.mpr ⟨(by first | omega | grind) /- z_r32.lo x0#1 -/, (by first | omega | grind) /- z_r32.hi x0#1 -/⟩) ?_
  refine wp_ck (z_r32_i.mpr ⟨(by first | omega | grind) /- z_r32.lo x1#1 -/, (by first | omega | grind) /- z_r32.hi x1#1 -/⟩) ?_
  refine wp_if (fun c1 => ?_) (fun c1 => ?_)
  ·
    refine wp_some ?_
    try dsimp only
    all_goals exact (by rw [if_pos c1]) /- post1#1 -/
  ·
    refine wp_if (fun c2 => ?_) (fun c2 => ?_)
    ·
      refine wp_some ?_
      try dsimp only
      all_goals exact (by split <;> (try split) <;> omega) /- post1#2 -/
    ·
      refine wp_some ?_
      try dsimp only
      all_goals exact (by split <;> (try split) <;> omega) /- post1#3 -/

set_option maxHeartbeats 1000000 in
theorem s_X6_workOut (i_p0_seats : Int) (v_p0_kind : (Int → Int)) (v_p0_first : (Int → Int)) (v_p0_second : (Int → Int)) (x1 : Int) (x2 : Int) (h1 : 2 ≤ i_p0_seats) (h2 : i_p0_seats ≤ 7) (h3 : 0 ≤ x1) (h4 : x1 < 5) (h5 : 0 ≤ x2) (h6 : x2 < i_p0_seats) (h7 : okSt i_p0_seats (v_p0_kind x1) (v_p0_first x1) (v_p0_second x1)) : wp (f_X6_workOut i_p0_seats v_p0_kind v_p0_first v_p0_second x1 x2) (fun o => (o = bro i_p0_seats (v_p0_kind x1) (v_p0_first x1) (v_p0_second x1) x2)) := by
  unfold f_X6_workOut
  have hst := h7
  unfold okSt at hst
  refine wp_ck (z_ix_i.mpr ⟨⟨(by first | omega | grind) /- ix.lo x1#1 -/, (by first | omega | grind) /- ix.hi x1#1 -/⟩, (by first | omega | grind) /- ix.big x1#1 -/⟩) ?_
  refine wp_ck (z_r32_i.mpr ⟨(by first | omega | grind) /- z_r32.lo (v_p0_kind x1)#1 -/, (by first | omega | grind) /- z_r32.hi (v_p0_kind x1)#1 -/⟩) ?_
  refine wp_if (fun c1 => ?_) (fun c1 => ?_)
  ·
    refine wp_ck (z_ix_i.mpr ⟨⟨(by first | omega | grind) /- ix.lo x1#2 -/, (by first | omega | grind) /- ix.hi x1#2 -/⟩, (by first | omega | grind) /- ix.big x1#2 -/⟩) ?_
    refine wp_bd1 (s_X6_inRing _ _ (by first | assumption | omega) /- pre X6_inRing.1#1 -/ (by first | assumption | omega) /- pre X6_inRing.2#1 -/ (by first | assumption | omega) /- pre X6_inRing.3#1 -/ (by first | assumption | omega) /- pre X6_inRing.4#1 -/) (fun z3 q_X6_inRing_1 => ?_)
    try dsimp only at q_X6_inRing_1
    refine wp_some ?_
    try dsimp only
    all_goals exact (by unfold bro; rw [if_pos c1]; assumption) /- post1#1 -/
  ·
    refine wp_if (fun c2 => ?_) (fun c2 => ?_)
    ·
      refine wp_some ?_
      try dsimp only
      all_goals exact (by unfold bro; rw [if_neg c1, if_pos c2]) /- post1#2 -/
    ·
      refine wp_if (fun c3 => ?_) (fun c3 => ?_)
      ·
        refine wp_ck (z_ix_i.mpr ⟨⟨(by first | omega | grind) /- ix.lo x1#3 -/, (by first | omega | grind) /- ix.hi x1#3 -/⟩, (by first | omega | grind) /- ix.big x1#3 -/⟩) ?_
        refine wp_ck (z_ix_i.mpr ⟨⟨(by first | omega | grind) /- ix.lo x1#4 -/, (by first | omega | grind) /- ix.hi x1#4 -/⟩, (by first | omega | grind) /- ix.big x1#4 -/⟩) ?_
        refine wp_bd1 (s_X6_swapped _ _ _ (by first | assumption | omega) /- pre X6_swapped.1#1 -/ (by first | assumption | omega) /- pre X6_swapped.2#1 -/ (by first | assumption | omega) /- pre X6_swapped.3#1 -/ (by first | assumption | omega) /- pre X6_swapped.4#1 -/ (by first | assumption | omega) /- pre X6_swapped.5#1 -/ (by first | assumption | omega) /- pre X6_swapped.6#1 -/) (fun z6 q_X6_swapped_1 => ?_)
        try dsimp only at q_X6_swapped_1
        refine wp_some ?_
        try dsimp only
        all_goals exact (by unfold bro; rw [if_neg c1, if_neg c2, if_pos c3]; assumption) /- post1#3 -/
      ·
        refine wp_ck (z_ix_i.mpr ⟨⟨(by first | omega | grind) /- ix.lo x1#5 -/, (by first | omega | grind) /- ix.hi x1#5 -/⟩, (by first | omega | grind) /- ix.big x1#5 -/⟩) ?_
        refine wp_bd1 (s_X6_lifted _ _ (by first | assumption | omega) /- pre X6_lifted.1#1 -/ (by first | assumption | omega) /- pre X6_lifted.2#1 -/ (by first | assumption | omega) /- pre X6_lifted.3#1 -/ (by first | assumption | omega) /- pre X6_lifted.4#1 -/) (fun z7 q_X6_lifted_1 => ?_)
        try dsimp only at q_X6_lifted_1
        refine wp_some ?_
        try dsimp only
        all_goals exact (by unfold bro; rw [if_neg c1, if_neg c2, if_neg c3]; assumption) /- post1#4 -/

set_option maxHeartbeats 1000000 in
theorem s_X6_workOutStirs (i_p0_seats : Int) (i_p0_stirs : Int) (v_p0_kind : (Int → Int)) (v_p0_first : (Int → Int)) (v_p0_second : (Int → Int)) (v_p0_after : (Int → Int)) (h1 : 2 ≤ i_p0_seats) (h2 : i_p0_seats ≤ 7) (h3 : 0 ≤ i_p0_stirs) (h4 : i_p0_stirs ≤ 5) (h5 : ∀ r, 0 ≤ r → r < i_p0_stirs → okSt i_p0_seats (v_p0_kind r) (v_p0_first r) (v_p0_second r)) : wp (f_X6_workOutStirs i_p0_seats i_p0_stirs v_p0_kind v_p0_first v_p0_second v_p0_after) (fun o => (∀ t, 0 ≤ t → t < i_p0_stirs → ∀ i, 0 ≤ i → i < i_p0_seats → o (t * 7 + i) = bro i_p0_seats (v_p0_kind t) (v_p0_first t) (v_p0_second t) i)) := by
  unfold f_X6_workOutStirs
  refine wp_bnd ?_
  refine wp_lq2 (fun (z2 : Int) (w3 : (Int → Int)) => (0 ≤ z2) ∧ (z2 ≤ i_p0_stirs) ∧ (∀ r, 0 ≤ r → r < z2 → ∀ i, 0 ≤ i → i < i_p0_seats → w3 (r * 7 + i) = bro i_p0_seats (v_p0_kind r) (v_p0_first r) (v_p0_second r) i)) (fun (z2 : Int) (w3 : (Int → Int)) => (i_p0_stirs - z2).toNat) (fun again2 z2 w3 hI ih_B_X6_workOutStirs_2 => ?_) 1000 _ _ ⟨(by first | assumption | omega | grind [z_up, z_cpy]) /- B_X6_workOutStirs_2.init1#1 -/, (by first | assumption | omega | grind [z_up, z_cpy]) /- B_X6_workOutStirs_2.init2#1 -/, (by intro r; omega) /- B_X6_workOutStirs_2.init3#1 -/⟩ (by first | omega | grind) /- B_X6_workOutStirs_2.fuel#1 -/
  obtain ⟨i_B_X6_workOutStirs_2_1, i_B_X6_workOutStirs_2_2, i_B_X6_workOutStirs_2_3⟩ := hI
  unfold B_X6_workOutStirs_2
  refine wp_ck (z_r32_i.mpr ⟨(by first | omega | grind) /- z_r32.lo z2#1 -/, (by first | omega | grind) /- z_r32.hi z2#1 -/⟩) ?_
  refine wp_ck (z_r32_i.mpr ⟨(by first | omega | grind) /- z_r32.lo i_p0_stirs#1 -/, (by first | omega | grind) /- z_r32.hi i_p0_stirs#1 -/⟩) ?_
  refine wp_if (fun c1 => ?_) (fun c1 => ?_)
  ·
    refine wp_some ?_
    try dsimp only
    all_goals exact (by intro t a b i c d; exact i_B_X6_workOutStirs_2_3 t a (by omega) i c d) /- post1#1 -/
  ·
    refine wp_bnd ?_
    refine wp_lq2 (fun (z8 : Int) (w9 : (Int → Int)) => (0 ≤ z8) ∧ (z8 ≤ i_p0_seats) ∧ (∀ r, 0 ≤ r → r < z2 → ∀ i, 0 ≤ i → i < i_p0_seats → w9 (r * 7 + i) = bro i_p0_seats (v_p0_kind r) (v_p0_first r) (v_p0_second r) i) ∧ (∀ i, 0 ≤ i → i < z8 → w9 (z2 * 7 + i) = bro i_p0_seats (v_p0_kind z2) (v_p0_first z2) (v_p0_second z2) i)) (fun (z8 : Int) (w9 : (Int → Int)) => (i_p0_seats - z8).toNat) (fun again12 z8 w9 hI ih_B_X6_workOutStirs_12 => ?_) 1000 _ _ ⟨(by first | assumption | omega | grind [z_up, z_cpy]) /- B_X6_workOutStirs_12.init1#1 -/, (by first | assumption | omega | grind [z_up, z_cpy]) /- B_X6_workOutStirs_12.init2#1 -/, (by exact i_B_X6_workOutStirs_2_3) /- B_X6_workOutStirs_12.init3#1 -/, (by intro i; omega) /- B_X6_workOutStirs_12.init4#1 -/⟩ (by first | omega | grind) /- B_X6_workOutStirs_12.fuel#1 -/
    obtain ⟨i_B_X6_workOutStirs_12_1, i_B_X6_workOutStirs_12_2, i_B_X6_workOutStirs_12_3, i_B_X6_workOutStirs_12_4⟩ := hI
    unfold B_X6_workOutStirs_12
    refine wp_ck (z_r32_i.mpr ⟨(by first | omega | grind) /- z_r32.lo z8#1 -/, (by first | omega | grind) /- z_r32.hi z8#1 -/⟩) ?_
    refine wp_ck (z_r32_i.mpr ⟨(by first | omega | grind) /- z_r32.lo i_p0_seats#1 -/, (by first | omega | grind) /- z_r32.hi i_p0_seats#1 -/⟩) ?_
    refine wp_if (fun c2 => ?_) (fun c2 => ?_)
    ·
      refine wp_bndE (fun z13 hz13 => ?_)
      exact ih_B_X6_workOutStirs_2 _ _ ⟨(by first | assumption | omega | grind [z_up, z_cpy]) /- B_X6_workOutStirs_2.inv1#1 -/, (by first | assumption | omega | grind [z_up, z_cpy]) /- B_X6_workOutStirs_2.inv2#1 -/, (by 
                                        intro r a b i c d
                                        by_cases e : r = z2
                                        · subst e; exact i_B_X6_workOutStirs_12_4 i c (by omega)
                                        · exact i_B_X6_workOutStirs_12_3 r a (by omega) i c d) /- B_X6_workOutStirs_2.inv3#1 -/⟩ (by first | omega | grind) /- B_X6_workOutStirs_2.dec#1 -/
    ·
      refine wp_bd1 (s_X6_workOut _ _ _ _ _ _ (by first | assumption | omega | grind [z_up, z_cpy]) /- pre X6_workOut.1#1 -/ (by first | assumption | omega | grind [z_up, z_cpy]) /- pre X6_workOut.2#1 -/ (by first | assumption | omega | grind [z_up, z_cpy]) /- pre X6_workOut.3#1 -/ (by first | assumption | omega | grind [z_up, z_cpy]) /- pre X6_workOut.4#1 -/ (by first | assumption | omega | grind [z_up, z_cpy]) /- pre X6_workOut.5#1 -/ (by first | assumption | omega | grind [z_up, z_cpy]) /- pre X6_workOut.6#1 -/ (by exact h5 z2 (by omega) (by omega)) /- pre X6_workOut.7#1 -/) (fun z14 q_X6_workOut_1 => ?_)
      try dsimp only at q_X6_workOut_1
      refine wp_ck (z_ix_i.mpr ⟨⟨(by first | omega | grind) /- ix.lo ((z2 * (7 : Int)) + z8)#1 -/, (by first | omega | grind) /- ix.hi ((z2 * (7 : Int)) + z8)#1 -/⟩, (by first | omega | grind) /- ix.big ((z2 * (7 : Int)) + z8)#1 -/⟩) ?_
      refine wp_bnd ?_
      refine wp_bndE (fun z16 hz16 => ?_)
      exact ih_B_X6_workOutStirs_12 _ _ ⟨(by first | assumption | omega | grind [z_up, z_cpy]) /- B_X6_workOutStirs_12.inv1#1 -/, (by first | assumption | omega | grind [z_up, z_cpy]) /- B_X6_workOutStirs_12.inv2#1 -/, (by intro r a b i c d; rw [z_up_n _ _ (by omega)]; exact i_B_X6_workOutStirs_12_3 r a b i c d) /- B_X6_workOutStirs_12.inv3#1 -/, (by 
                                        intro i c d
                                        by_cases e : i = z8
                                        · subst e; rw [z_up_s]; exact q_X6_workOut_1
                                        · rw [z_up_n _ _ (by omega)]; exact i_B_X6_workOutStirs_12_4 i c (by omega)) /- B_X6_workOutStirs_12.inv4#1 -/⟩ (by first | omega | grind) /- B_X6_workOutStirs_12.dec#1 -/

set_option maxHeartbeats 1000000 in
theorem s_X7_isNothing (i_p0_lane : Int) (h1 : -2147483648 ≤ i_p0_lane) (h2 : i_p0_lane < 2147483648) : wp (f_X7_isNothing i_p0_lane) (fun o => (o = if i_p0_lane = -4 then 1 else 0)) := by
  unfold f_X7_isNothing
  refine wp_ck (z_r32_i.mpr ⟨(by first | omega | grind) /- z_r32.lo i_p0_lane#1 -/, (by first | omega | grind) /- z_r32.hi i_p0_lane#1 -/⟩) ?_
  refine wp_if (fun c1 => ?_) (fun c1 => ?_)
  ·
    refine wp_some ?_
    try dsimp only
    all_goals exact (by split <;> omega) /- post1#1 -/
  ·
    refine wp_some ?_
    try dsimp only
    all_goals exact (by split <;> omega) /- post1#2 -/

set_option maxHeartbeats 1000000 in
theorem s_X7_renew (v_p0_cells : (Int → Int)) (x1 : Int) (x2 : Int) : wp (f_X7_renew v_p0_cells x1 x2) (fun o => (o.1 = x1) ∧ (o.2.1 = x2) ∧ (o.2.2 = z_fill v_p0_cells 40 0)) := by
  unfold f_X7_renew
  refine wp_bnd ?_
  refine wp_bnd ?_
  refine wp_bd1 (s_J7_fill_53178 _ _ _ (by decide) /- pre J7_fill_53178.1#1 -/) (fun w3 q_J7_fill_53178_1 => ?_)
  try dsimp only at q_J7_fill_53178_1
  refine wp_some ?_
  try dsimp only
  all_goals exact ⟨(by first | assumption | omega | rfl) /- post1#1 -/, (by first | assumption | omega | rfl) /- post2#1 -/, (by first | assumption | omega | rfl) /- post3#1 -/⟩

set_option maxHeartbeats 1000000 in
theorem s_X7_faultAt (i_p0_lane : Int) (i_p0_size : Int) (x1 : Int) (x2 : Int) (h1 : -2147483648 ≤ i_p0_lane) (h2 : i_p0_lane < 2147483648) (h3 : -2147483648 ≤ i_p0_size) (h4 : i_p0_size < 2147483648) (h5 : -2147483648 ≤ x1) (h6 : x1 < 2147483648) (h7 : -2147483648 ≤ x2) (h8 : x2 < 2147483648) : wp (f_X7_faultAt i_p0_lane i_p0_size x1 x2) (fun o => (o = if i_p0_lane = -4 then 1 else if x1 = i_p0_lane then (if 0 ≤ x2 ∧ x2 < i_p0_size then 0 else 2) else 3)) := by
  unfold f_X7_faultAt
  refine wp_bd1 (s_X7_isNothing _ (by (first | assumption | omega | (split at q_X7_isNothing_1 <;> split <;> (try split) <;> (try split) <;> omega))) /- pre X7_isNothing.1#1 -/ (by (first | assumption | omega | (split at q_X7_isNothing_1 <;> split <;> (try split) <;> (try split) <;> omega))) /- pre X7_isNothing.2#1 -/) (fun z1 q_X7_isNothing_1 => ?_)
  try dsimp only at q_X7_isNothing_1
  refine wp_ck (z_r32_i.mpr ⟨(by first | omega | grind) /- z_r32.lo z1#1 -/, (by first | omega | grind) /- z_r32.hi z1#1 -/⟩) ?_
  refine wp_if (fun c1 => ?_) (fun c1 => ?_)
  ·
    refine wp_ck (z_r32_i.mpr ⟨(by first | omega | grind) /- z_r32.lo x1#1 -/, (by first | omega | grind) /- z_r32.hi x1#1 -/⟩) ?_
    refine wp_ck (z_r32_i.mpr ⟨(by first | omega | grind) /- z_r32.lo i_p0_lane#1 -/, (by first | omega | grind) /- z_r32.hi i_p0_lane#1 -/⟩) ?_
    refine wp_if (fun c2 => ?_) (fun c2 => ?_)
    ·
      refine wp_ck (z_r32_i.mpr ⟨(by first | omega | grind) /- z_r32.lo x2#1 -/, (by first | omega | grind) /- z_r32.hi x2#1 -/⟩) ?_
      refine wp_if (fun c3 => ?_) (fun c3 => ?_)
      ·
        refine wp_some ?_
        try dsimp only
        all_goals exact (by (first | assumption | omega | (split at q_X7_isNothing_1 <;> split <;> (try split) <;> (try split) <;> omega))) /- post1#1 -/
      ·
        refine wp_ck (z_r32_i.mpr ⟨(by first | omega | grind) /- z_r32.lo i_p0_size#1 -/, (by first | omega | grind) /- z_r32.hi i_p0_size#1 -/⟩) ?_
        refine wp_if (fun c4 => ?_) (fun c4 => ?_)
        ·
          refine wp_some ?_
          try dsimp only
          all_goals exact (by (first | assumption | omega | (split at q_X7_isNothing_1 <;> split <;> (try split) <;> (try split) <;> omega))) /- post1#2 -/
        ·
          refine wp_some ?_
          try dsimp only
          all_goals exact (by (first | assumption | omega | (split at q_X7_isNothing_1 <;> split <;> (try split) <;> (try split) <;> omega))) /- post1#3 -/
    ·
      refine wp_some ?_
      try dsimp only
      all_goals exact (by (first | assumption | omega | (split at q_X7_isNothing_1 <;> split <;> (try split) <;> (try split) <;> omega))) /- post1#4 -/
  ·
    refine wp_some ?_
    try dsimp only
    all_goals exact (by (first | assumption | omega | (split at q_X7_isNothing_1 <;> split <;> (try split) <;> (try split) <;> omega))) /- post1#5 -/

set_option maxHeartbeats 1000000 in
theorem s_X7_put (i_p0_lane : Int) (v_p0_cells : (Int → Int)) (x1 : Int) (x2 : Int) (h1 : -2147483648 ≤ i_p0_lane) (h2 : i_p0_lane < 2147483648) (h3 : 0 ≤ x1) (h4 : x1 < 40) : wp (f_X7_put i_p0_lane v_p0_cells x1 x2) (fun o => (o = z_up v_p0_cells x1 (if i_p0_lane = 0 then z_i2b x2 else if i_p0_lane = 1 then z_i2s x2 else x2))) := by
  unfold f_X7_put
  refine wp_ck (z_r32_i.mpr ⟨(by first | omega | grind) /- z_r32.lo i_p0_lane#1 -/, (by first | omega | grind) /- z_r32.hi i_p0_lane#1 -/⟩) ?_
  refine wp_if (fun c1 => ?_) (fun c1 => ?_)
  ·
    refine wp_ck (z_ix_i.mpr ⟨⟨(by first | omega | grind) /- ix.lo x1#1 -/, (by first | omega | grind) /- ix.hi x1#1 -/⟩, (by first | omega | grind) /- ix.big x1#1 -/⟩) ?_
    refine wp_bnd ?_
    refine wp_some ?_
    try dsimp only
    all_goals exact (by rw [if_pos c1]) /- post1#1 -/
  ·
    refine wp_if (fun c2 => ?_) (fun c2 => ?_)
    ·
      refine wp_ck (z_ix_i.mpr ⟨⟨(by first | omega | grind) /- ix.lo x1#2 -/, (by first | omega | grind) /- ix.hi x1#2 -/⟩, (by first | omega | grind) /- ix.big x1#2 -/⟩) ?_
      refine wp_bnd ?_
      refine wp_some ?_
      try dsimp only
      all_goals exact (by rw [if_neg c1, if_pos c2]) /- post1#2 -/
    ·
      refine wp_ck (z_ix_i.mpr ⟨⟨(by first | omega | grind) /- ix.lo x1#3 -/, (by first | omega | grind) /- ix.hi x1#3 -/⟩, (by first | omega | grind) /- ix.big x1#3 -/⟩) ?_
      refine wp_bnd ?_
      refine wp_some ?_
      try dsimp only
      all_goals exact (by rw [if_neg c1, if_neg c2]) /- post1#3 -/

set_option maxHeartbeats 1000000 in
theorem s_X8_reset (v_p0_pieces : (Int → Int)) (v_p0_friends : (Int → Int)) (v_p0_spoons : (Int → Int)) (v_p0_eaten : (Int → Int)) : wp (f_X8_reset v_p0_pieces v_p0_friends v_p0_spoons v_p0_eaten) (fun o => (o.1 = 0) ∧ (o.2.1 = 0) ∧ (o.2.2.1 = 0) ∧ (o.2.2.2.1 = 0) ∧ (o.2.2.2.2.1 = z_fill v_p0_pieces 7 0) ∧ (o.2.2.2.2.2.1 = z_fill v_p0_friends 7 0) ∧ (o.2.2.2.2.2.2.1 = z_fill v_p0_spoons 7 1) ∧ (o.2.2.2.2.2.2.2 = z_fill v_p0_eaten 7 0)) := by
  unfold f_X8_reset
  refine wp_bd1 (s_J7_fill_53178 _ _ _ (by decide) /- pre J7_fill_53178.1#1 -/) (fun w1 q_J7_fill_53178_1 => ?_)
  try dsimp only at q_J7_fill_53178_1
  refine wp_bd1 (s_J7_fill_53178 _ _ _ (by decide) /- pre J7_fill_53178.1#2 -/) (fun w2 q_J7_fill_53178_2 => ?_)
  try dsimp only at q_J7_fill_53178_2
  refine wp_bd1 (s_J7_fill_53178 _ _ _ (by decide) /- pre J7_fill_53178.1#3 -/) (fun w3 q_J7_fill_53178_3 => ?_)
  try dsimp only at q_J7_fill_53178_3
  refine wp_bd1 (s_J7_fill_53178 _ _ _ (by decide) /- pre J7_fill_53178.1#4 -/) (fun w4 q_J7_fill_53178_4 => ?_)
  try dsimp only at q_J7_fill_53178_4
  refine wp_bnd ?_
  refine wp_bnd ?_
  refine wp_bnd ?_
  refine wp_bnd ?_
  refine wp_some ?_
  try dsimp only
  all_goals exact ⟨(by first | assumption | omega | rfl) /- post1#1 -/, (by first | assumption | omega | rfl) /- post2#1 -/, (by first | assumption | omega | rfl) /- post3#1 -/, (by first | assumption | omega | rfl) /- post4#1 -/, (by first | assumption | omega | rfl) /- post5#1 -/, (by first | assumption | omega | rfl) /- post6#1 -/, (by first | assumption | omega | rfl) /- post7#1 -/, (by first | assumption | omega | rfl) /- post8#1 -/⟩

set_option maxHeartbeats 1000000 in
theorem s_X8_copy (v_p0_pieces : (Int → Int)) (v_p0_friends : (Int → Int)) (v_p0_spoons : (Int → Int)) (v_p0_eaten : (Int → Int)) (v_p0_seen : (Int → Int)) (i_p1_seenDays : Int) (i_p1_bone : Int) (i_p1_king : Int) (i_p1_days : Int) (v_p1_pieces : (Int → Int)) (v_p1_friends : (Int → Int)) (v_p1_spoons : (Int → Int)) (v_p1_eaten : (Int → Int)) (v_p1_seen : (Int → Int)) : wp (f_X8_copy v_p0_pieces v_p0_friends v_p0_spoons v_p0_eaten v_p0_seen i_p1_seenDays i_p1_bone i_p1_king i_p1_days v_p1_pieces v_p1_friends v_p1_spoons v_p1_eaten v_p1_seen) (fun o => (o.1 = i_p1_seenDays) ∧ (o.2.1 = i_p1_bone) ∧ (o.2.2.1 = i_p1_king) ∧ (o.2.2.2.1 = i_p1_days) ∧ (o.2.2.2.2.1 = z_cpy v_p1_pieces v_p0_pieces 0 0 7) ∧ (o.2.2.2.2.2.1 = z_cpy v_p1_friends v_p0_friends 0 0 7) ∧ (o.2.2.2.2.2.2.1 = z_cpy v_p1_spoons v_p0_spoons 0 0 7) ∧ (o.2.2.2.2.2.2.2.1 = z_cpy v_p1_eaten v_p0_eaten 0 0 7) ∧ (o.2.2.2.2.2.2.2.2 = z_cpy v_p1_seen v_p0_seen 0 0 6)) := by
  unfold f_X8_copy
  refine wp_ck (z_cp_i.mpr ⟨⟨⟨(by first | omega | decide) /- cp.0 (0 : Int)#1 -/, (by first | omega | decide) /- cp.1 (0 : Int)#1 -/⟩, (by first | omega | decide) /- cp.2 (0 : Int)#1 -/⟩, (by first | omega | decide) /- cp.3 (0 : Int)#1 -/⟩) ?_
  refine wp_ck (z_cp_i.mpr ⟨⟨⟨(by first | omega | decide) /- cp.0 (0 : Int)#2 -/, (by first | omega | decide) /- cp.1 (0 : Int)#2 -/⟩, (by first | omega | decide) /- cp.2 (0 : Int)#2 -/⟩, (by first | omega | decide) /- cp.3 (0 : Int)#2 -/⟩) ?_
  refine wp_bnd ?_
  refine wp_ck (z_cp_i.mpr ⟨⟨⟨(by first | omega | decide) /- cp.0 (0 : Int)#3 -/, (by first | omega | decide) /- cp.1 (0 : Int)#3 -/⟩, (by first | omega | decide) /- cp.2 (0 : Int)#3 -/⟩, (by first | omega | decide) /- cp.3 (0 : Int)#3 -/⟩) ?_
  refine wp_ck (z_cp_i.mpr ⟨⟨⟨(by first | omega | decide) /- cp.0 (0 : Int)#4 -/, (by first | omega | decide) /- cp.1 (0 : Int)#4 -/⟩, (by first | omega | decide) /- cp.2 (0 : Int)#4 -/⟩, (by first | omega | decide) /- cp.3 (0 : Int)#4 -/⟩) ?_
  refine wp_bnd ?_
  refine wp_ck (z_cp_i.mpr ⟨⟨⟨(by first | omega | decide) /- cp.0 (0 : Int)#5 -/, (by first | omega | decide) /- cp.1 (0 : Int)#5 -/⟩, (by first | omega | decide) /- cp.2 (0 : Int)#5 -/⟩, (by first | omega | decide) /- cp.3 (0 : Int)#5 -/⟩) ?_
  refine wp_ck (z_cp_i.mpr ⟨⟨⟨(by first | omega | decide) /- cp.0 (0 : Int)#6 -/, (by first | omega | decide) /- cp.1 (0 : Int)#6 -/⟩, (by first | omega | decide) /- cp.2 (0 : Int)#6 -/⟩, (by first | omega | decide) /- cp.3 (0 : Int)#6 -/⟩) ?_
  refine wp_bnd ?_
  refine wp_ck (z_cp_i.mpr ⟨⟨⟨(by first | omega | decide) /- cp.0 (0 : Int)#7 -/, (by first | omega | decide) /- cp.1 (0 : Int)#7 -/⟩, (by first | omega | decide) /- cp.2 (0 : Int)#7 -/⟩, (by first | omega | decide) /- cp.3 (0 : Int)#7 -/⟩) ?_
  refine wp_ck (z_cp_i.mpr ⟨⟨⟨(by first | omega | decide) /- cp.0 (0 : Int)#8 -/, (by first | omega | decide) /- cp.1 (0 : Int)#8 -/⟩, (by first | omega | decide) /- cp.2 (0 : Int)#8 -/⟩, (by first | omega | decide) /- cp.3 (0 : Int)#8 -/⟩) ?_
  refine wp_bnd ?_
  refine wp_ck (z_cp_i.mpr ⟨⟨⟨(by first | omega | decide) /- cp.0 (0 : Int)#9 -/, (by first | omega | decide) /- cp.1 (0 : Int)#9 -/⟩, (by first | omega | decide) /- cp.2 (0 : Int)#9 -/⟩, (by first | omega | decide) /- cp.3 (0 : Int)#9 -/⟩) ?_
  refine wp_ck (z_cp_i.mpr ⟨⟨⟨(by first | omega | decide) /- cp.0 (0 : Int)#10 -/, (by first | omega | decide) /- cp.1 (0 : Int)#10 -/⟩, (by first | omega | decide) /- cp.2 (0 : Int)#10 -/⟩, (by first | omega | decide) /- cp.3 (0 : Int)#10 -/⟩) ?_
  refine wp_bnd ?_
  refine wp_bnd ?_
  refine wp_bnd ?_
  refine wp_bnd ?_
  refine wp_bnd ?_
  refine wp_some ?_
  try dsimp only
  all_goals exact ⟨(by first | assumption | omega | rfl) /- post1#1 -/, (by first | assumption | omega | rfl) /- post2#1 -/, (by first | assumption | omega | rfl) /- post3#1 -/, (by first | assumption | omega | rfl) /- post4#1 -/, (by first | assumption | omega | rfl) /- post5#1 -/, (by first | assumption | omega | rfl) /- post6#1 -/, (by first | assumption | omega | rfl) /- post7#1 -/, (by first | assumption | omega | rfl) /- post8#1 -/, (by first | assumption | omega | rfl) /- post9#1 -/⟩

set_option maxHeartbeats 1000000 in
theorem s_X8_setFriend (v_p0_friends : (Int → Int)) (x1 : Int) (x2 : Int) (x3 : Int) (h1 : 0 ≤ x1) (h2 : x1 < 7) (h3 : -2147483648 ≤ x3) (h4 : x3 < 2147483648) : wp (f_X8_setFriend v_p0_friends x1 x2 x3) (fun o => (o = z_up v_p0_friends x1 (if x3 = 0 then z_and (v_p0_friends x1) (z_xor (z_shl 1 x2) (-1)) else z_or (v_p0_friends x1) (z_shl 1 x2)))) := by
  unfold f_X8_setFriend
  refine wp_ck (z_r32_i.mpr ⟨(by first | omega | grind) /- z_r32.lo x3#1 -/, (by first | omega | grind) /- z_r32.hi x3#1 -/⟩) ?_
  refine wp_if (fun c1 => ?_) (fun c1 => ?_)
  ·
    refine wp_ck (z_ix_i.mpr ⟨⟨(by first | omega | grind) /- ix.lo x1#1 -/, (by first | omega | grind) /- ix.hi x1#1 -/⟩, (by first | omega | grind) /- ix.big x1#1 -/⟩) ?_
    refine wp_ck (z_ix_i.mpr ⟨⟨(by first | omega | grind) /- ix.lo x1#2 -/, (by first | omega | grind) /- ix.hi x1#2 -/⟩, (by first | omega | grind) /- ix.big x1#2 -/⟩) ?_
    refine wp_bnd ?_
    refine wp_some ?_
    try dsimp only
    all_goals exact (by rw [if_pos c1]) /- post1#1 -/
  ·
    refine wp_ck (z_ix_i.mpr ⟨⟨(by first | omega | grind) /- ix.lo x1#3 -/, (by first | omega | grind) /- ix.hi x1#3 -/⟩, (by first | omega | grind) /- ix.big x1#3 -/⟩) ?_
    refine wp_ck (z_ix_i.mpr ⟨⟨(by first | omega | grind) /- ix.lo x1#4 -/, (by first | omega | grind) /- ix.hi x1#4 -/⟩, (by first | omega | grind) /- ix.big x1#4 -/⟩) ?_
    refine wp_bnd ?_
    refine wp_some ?_
    try dsimp only
    all_goals exact (by rw [if_neg c1]) /- post1#2 -/

set_option maxHeartbeats 1000000 in
theorem s_X9_append (i_p0_length : Int) (v_p0_bytes : (Int → Int)) (x1 : Int) (h1 : 0 ≤ i_p0_length) (h2 : i_p0_length ≤ 320) : wp (f_X9_append i_p0_length v_p0_bytes x1) (fun o => (o.1 = if i_p0_length + 8 ≤ 320 then 1 else 0) ∧ (o.2.1 = if i_p0_length + 8 ≤ 320 then i_p0_length + 8 else i_p0_length) ∧ (i_p0_length + 8 ≤ 320 → ∀ j, 0 ≤ j → j < 8 → o.2.2 (i_p0_length + j) = z_i2b (z_i2b (w_shr x1 (56 - 8 * j)))) ∧ (∀ q, (¬ i_p0_length + 8 ≤ 320 ∨ q < i_p0_length ∨ i_p0_length + 8 ≤ q) → o.2.2 q = v_p0_bytes q)) := by
  unfold f_X9_append
  refine wp_ck (z_r32_i.mpr ⟨(by first | omega | grind) /- z_r32.lo (i_p0_length + (8 : Int))#1 -/, (by first | omega | grind) /- z_r32.hi (i_p0_length + (8 : Int))#1 -/⟩) ?_
  refine wp_if (fun c1 => ?_) (fun c1 => ?_)
  ·
    refine wp_bnd ?_
    refine wp_lq3 (fun (z3 : Int) (z4 : Int) (w5 : (Int → Int)) => (z3 + 8 * z4 = 56 + 8 * i_p0_length) ∧ (i_p0_length ≤ z4) ∧ (z4 ≤ i_p0_length + 8) ∧ (∀ j, 0 ≤ j → i_p0_length + j < z4 → w5 (i_p0_length + j) = z_i2b (z_i2b (w_shr x1 (56 - 8 * j)))) ∧ (∀ q, (q < i_p0_length ∨ i_p0_length + 8 ≤ q) → w5 q = v_p0_bytes q)) (fun (z3 : Int) (z4 : Int) (w5 : (Int → Int)) => (i_p0_length + 8 - z4).toNat) (fun again18 z3 z4 w5 hI ih_B_X9_append_18 => ?_) 1000 _ _ _ ⟨(by first | assumption | omega | grind [z_up, z_cpy]) /- B_X9_append_18.init1#1 -/, (by first | assumption | omega | grind [z_up, z_cpy]) /- B_X9_append_18.init2#1 -/, (by first | assumption | omega | grind [z_up, z_cpy]) /- B_X9_append_18.init3#1 -/, (by intro j; omega) /- B_X9_append_18.init4#1 -/, (by intro q hq; rfl) /- B_X9_append_18.init5#1 -/⟩ (by first | omega | grind) /- B_X9_append_18.fuel#1 -/
    obtain ⟨i_B_X9_append_18_1, i_B_X9_append_18_2, i_B_X9_append_18_3, i_B_X9_append_18_4, i_B_X9_append_18_5⟩ := hI
    unfold B_X9_append_18
    refine wp_ck (z_r32_i.mpr ⟨(by first | omega | grind) /- z_r32.lo z3#1 -/, (by first | omega | grind) /- z_r32.hi z3#1 -/⟩) ?_
    refine wp_if (fun c2 => ?_) (fun c2 => ?_)
    ·
      refine wp_some ?_
      try dsimp only
      all_goals exact ⟨(by split <;> omega) /- post1#1 -/, (by split <;> omega) /- post2#1 -/, (by intro _ j a b; exact i_B_X9_append_18_4 j a (by omega)) /- post3#1 -/, (by intro q hq; exact i_B_X9_append_18_5 q (by omega)) /- post4#1 -/⟩
    ·
      refine wp_ck (z_ix_i.mpr ⟨⟨(by first | omega | grind) /- ix.lo z4#1 -/, (by first | omega | grind) /- ix.hi z4#1 -/⟩, (by first | omega | grind) /- ix.big z4#1 -/⟩) ?_
      refine wp_bnd ?_
      refine wp_bndE (fun z9 hz9 => ?_)
      refine wp_bndE (fun z10 hz10 => ?_)
      exact ih_B_X9_append_18 _ _ _ ⟨(by first | assumption | omega | grind [z_up, z_cpy]) /- B_X9_append_18.inv1#1 -/, (by first | assumption | omega | grind [z_up, z_cpy]) /- B_X9_append_18.inv2#1 -/, (by first | assumption | omega | grind [z_up, z_cpy]) /- B_X9_append_18.inv3#1 -/, (by 
                                        intro j a b
                                        by_cases e : i_p0_length + j = z4
                                        · rw [e, z_up_s, show 56 - 8 * j = z3 from by omega]
                                        · rw [z_up_n _ _ e]; exact i_B_X9_append_18_4 j a (by omega)) /- B_X9_append_18.inv4#1 -/, (by intro q hq; rw [z_up_n _ _ (by omega)]; exact i_B_X9_append_18_5 q hq) /- B_X9_append_18.inv5#1 -/⟩ (by first | omega | grind) /- B_X9_append_18.dec#1 -/
  ·
    refine wp_some ?_
    try dsimp only
    all_goals exact ⟨(by split <;> omega) /- post1#2 -/, (by split <;> omega) /- post2#2 -/, (by intro h; omega) /- post3#2 -/, (by intro q hq; rfl) /- post4#2 -/⟩

set_option maxHeartbeats 1000000 in
theorem s_X9_rewind  : wp (f_X9_rewind ) (fun o => (o = 0)) := by
  unfold f_X9_rewind
  refine wp_bnd ?_
  refine wp_some ?_
  try dsimp only
  all_goals exact (by first | assumption | omega) /- post1#1 -/

set_option maxHeartbeats 1000000 in
theorem s_X9_isLetter (x0 : Int) (h1 : -2147483648 ≤ x0) (h2 : x0 < 2147483648) : wp (f_X9_isLetter x0) (fun o => (o = if 97 ≤ x0 ∧ x0 ≤ 122 then 1 else 0)) := by
  unfold f_X9_isLetter
  refine wp_ck (z_r32_i.mpr ⟨(by first | omega | grind) /- z_r32.lo x0#1 -/, (by first | omega | grind) /- z_r32.hi x0#1 -/⟩) ?_
  refine wp_if (fun c1 => ?_) (fun c1 => ?_)
  ·
    refine wp_some ?_
    try dsimp only
    all_goals exact (by split <;> omega) /- post1#1 -/
  ·
    refine wp_if (fun c2 => ?_) (fun c2 => ?_)
    ·
      refine wp_some ?_
      try dsimp only
      all_goals exact (by split <;> omega) /- post1#2 -/
    ·
      refine wp_some ?_
      try dsimp only
      all_goals exact (by split <;> omega) /- post1#3 -/

set_option maxHeartbeats 1000000 in
theorem s_X9_readName (i_p0_length : Int) (i_p0_at : Int) (v_p0_bytes : (Int → Int)) (h1 : 0 ≤ i_p0_length) (h2 : i_p0_length ≤ 320) (h3 : 0 ≤ i_p0_at) (h4 : i_p0_at ≤ i_p0_length) (h5 : ∀ j, 0 ≤ j → j < 320 → -128 ≤ v_p0_bytes j ∧ v_p0_bytes j < 128) : wp (f_X9_readName i_p0_length i_p0_at v_p0_bytes) (fun o => (o.2 = 1) ∧ (i_p0_at ≤ o.1 ∧ o.1 ≤ i_p0_length) ∧ (∀ j, i_p0_at ≤ j → j < o.1 → 97 ≤ v_p0_bytes j ∧ v_p0_bytes j ≤ 122) ∧ (o.1 < i_p0_length → ¬ (97 ≤ v_p0_bytes o.1 ∧ v_p0_bytes o.1 ≤ 122))) := by
  unfold f_X9_readName
  refine wp_jn ?_
  refine wp_lq1 (fun (z4 : Int) => (i_p0_at ≤ z4) ∧ (z4 ≤ i_p0_length) ∧ (∀ j, i_p0_at ≤ j → j < z4 → 97 ≤ v_p0_bytes j ∧ v_p0_bytes j ≤ 122)) (fun (z4 : Int) => (i_p0_length - z4).toNat) (fun again0 z4 hI ih_B_X9_readName_0 => ?_) 1000 _ ⟨(by first | assumption | omega | grind [z_up, z_cpy]) /- B_X9_readName_0.init1#1 -/, (by first | assumption | omega | grind [z_up, z_cpy]) /- B_X9_readName_0.init2#1 -/, (by intro j; omega) /- B_X9_readName_0.init3#1 -/⟩ (by first | omega | grind) /- B_X9_readName_0.fuel#1 -/
  obtain ⟨i_B_X9_readName_0_1, i_B_X9_readName_0_2, i_B_X9_readName_0_3⟩ := hI
  unfold B_X9_readName_0
  refine wp_ck (z_r32_i.mpr ⟨(by first | omega | grind) /- z_r32.lo z4#1 -/, (by first | omega | grind) /- z_r32.hi z4#1 -/⟩) ?_
  refine wp_ck (z_r32_i.mpr ⟨(by first | omega | grind) /- z_r32.lo i_p0_length#1 -/, (by first | omega | grind) /- z_r32.hi i_p0_length#1 -/⟩) ?_
  refine wp_if (fun c1 => ?_) (fun c1 => ?_)
  ·
    refine wp_bnd ?_
    refine wp_some ?_
    try dsimp only
    all_goals exact ⟨(by rfl) /- post1#1 -/, (by first | assumption | omega | grind [z_up, z_cpy]) /- post2#1 -/, (by exact i_B_X9_readName_0_3) /- post3#1 -/, (by intro h; omega) /- post4#1 -/⟩
  ·
    refine wp_ck (z_ix_i.mpr ⟨⟨(by first | omega | grind) /- ix.lo z4#1 -/, (by first | omega | grind) /- ix.hi z4#1 -/⟩, (by first | omega | grind) /- ix.big z4#1 -/⟩) ?_
    have hb := h5 z4 (by omega) (by omega)
    refine wp_bd1 (s_X9_isLetter _ (by first | assumption | omega | grind [z_up, z_cpy]) /- pre X9_isLetter.1#1 -/ (by first | assumption | omega | grind [z_up, z_cpy]) /- pre X9_isLetter.2#1 -/) (fun z8 q_X9_isLetter_1 => ?_)
    try dsimp only at q_X9_isLetter_1
    refine wp_ck (z_r32_i.mpr ⟨(by first | omega | grind) /- z_r32.lo z8#1 -/, (by first | omega | grind) /- z_r32.hi z8#1 -/⟩) ?_
    refine wp_if (fun c2 => ?_) (fun c2 => ?_)
    ·
      refine wp_bnd ?_
      refine wp_some ?_
      try dsimp only
      all_goals exact ⟨(by rfl) /- post1#2 -/, (by first | assumption | omega | grind [z_up, z_cpy]) /- post2#2 -/, (by exact i_B_X9_readName_0_3) /- post3#2 -/, (by intro h hh; rw [if_pos hh] at q_X9_isLetter_1; omega) /- post4#2 -/⟩
    ·
      refine wp_bndE (fun z10 hz10 => ?_)
      exact ih_B_X9_readName_0 _ ⟨(by first | assumption | omega | grind [z_up, z_cpy]) /- B_X9_readName_0.inv1#1 -/, (by first | assumption | omega | grind [z_up, z_cpy]) /- B_X9_readName_0.inv2#1 -/, (by 
                                        intro j a b
                                        by_cases e : j = z4
                                        · subst e
                                          by_cases hh : 97 ≤ v_p0_bytes j ∧ v_p0_bytes j ≤ 122
                                          · exact hh
                                          · rw [if_neg hh] at q_X9_isLetter_1; omega
                                        · exact i_B_X9_readName_0_3 j a (by omega)) /- B_X9_readName_0.inv3#1 -/⟩ (by first | omega | grind) /- B_X9_readName_0.dec#1 -/

set_option maxHeartbeats 1000000 in
theorem s_X9_isFigure (x0 : Int) (h1 : -2147483648 ≤ x0) (h2 : x0 < 2147483648) : wp (f_X9_isFigure x0) (fun o => (o = if 48 ≤ x0 ∧ x0 ≤ 57 then 1 else 0)) := by
  unfold f_X9_isFigure
  refine wp_ck (z_r32_i.mpr ⟨(by first | omega | grind) /- z_r32.lo x0#1 -/, (by first | omega | grind) /- z_r32.hi x0#1 -/⟩) ?_
  refine wp_if (fun c1 => ?_) (fun c1 => ?_)
  ·
    refine wp_some ?_
    try dsimp only
    all_goals exact (by split <;> omega) /- post1#1 -/
  ·
    refine wp_if (fun c2 => ?_) (fun c2 => ?_)
    ·
      refine wp_some ?_
      try dsimp only
      all_goals exact (by split <;> omega) /- post1#2 -/
    ·
      refine wp_some ?_
      try dsimp only
      all_goals exact (by split <;> omega) /- post1#3 -/

set_option maxHeartbeats 1000000 in
theorem s_X9_readFigures (i_p0_length : Int) (i_p0_at : Int) (i_p0_start : Int) (v_p0_bytes : (Int → Int)) (h1 : 0 ≤ i_p0_length) (h2 : i_p0_length ≤ 320) (h3 : 0 ≤ i_p0_at) (h4 : i_p0_at ≤ i_p0_length) (h5 : ∀ j, 0 ≤ j → j < 320 → -128 ≤ v_p0_bytes j ∧ v_p0_bytes j < 128) (h6 : i_p0_start = i_p0_at) (h7 : i_p0_at < i_p0_length) (h8 : 48 ≤ v_p0_bytes i_p0_at) (h9 : v_p0_bytes i_p0_at ≤ 57) : wp (f_X9_readFigures i_p0_length i_p0_at i_p0_start v_p0_bytes) (fun o => (o.2.1 = if o.1 - i_p0_at ≤ 2 then 2 else 4) ∧ (i_p0_at < o.1 ∧ o.1 ≤ i_p0_length) ∧ (∀ j, i_p0_at ≤ j → j < o.1 → 48 ≤ v_p0_bytes j ∧ v_p0_bytes j ≤ 57) ∧ (o.1 < i_p0_length → ¬ (48 ≤ v_p0_bytes o.1 ∧ v_p0_bytes o.1 ≤ 57)) ∧ ((o.1 - i_p0_at = 1 → o.2.2 = v_p0_bytes i_p0_at - 48) ∧ (o.1 - i_p0_at = 2 → o.2.2 = 10 * (v_p0_bytes i_p0_at - 48) + (v_p0_bytes (i_p0_at + 1) - 48)))) := by
  unfold f_X9_readFigures
  refine wp_bnd ?_
  refine wp_jn ?_
  refine wp_lq2 (fun (z8 : Int) (z9 : Int) => (i_p0_at ≤ z8) ∧ (z8 ≤ i_p0_length) ∧ (∀ j, i_p0_at ≤ j → j < z8 → 48 ≤ v_p0_bytes j ∧ v_p0_bytes j ≤ 57) ∧ (z8 = i_p0_at → z9 = 0) ∧ ((z8 - i_p0_at = 1 → z9 = v_p0_bytes i_p0_at - 48) ∧ (z8 - i_p0_at = 2 → z9 = 10 * (v_p0_bytes i_p0_at - 48) + (v_p0_bytes (i_p0_at + 1) - 48)))) (fun (z8 : Int) (z9 : Int) => (i_p0_length - z8).toNat) (fun again5 z8 z9 hI ih_B_X9_readFigures_5 => ?_) 1000 _ _ ⟨(by first | assumption | omega | grind [z_up, z_cpy]) /- B_X9_readFigures_5.init1#1 -/, (by first | assumption | omega | grind [z_up, z_cpy]) /- B_X9_readFigures_5.init2#1 -/, (by intro j; omega) /- B_X9_readFigures_5.init3#1 -/, (by first | assumption | omega | grind [z_up, z_cpy]) /- B_X9_readFigures_5.init4#1 -/, (by refine ⟨fun h => ?_, fun h => ?_⟩ <;> omega) /- B_X9_readFigures_5.init5#1 -/⟩ (by first | omega | grind) /- B_X9_readFigures_5.fuel#1 -/
  obtain ⟨i_B_X9_readFigures_5_1, i_B_X9_readFigures_5_2, i_B_X9_readFigures_5_3, i_B_X9_readFigures_5_4, i_B_X9_readFigures_5_5⟩ := hI
  unfold B_X9_readFigures_5
  refine wp_ck (z_r32_i.mpr ⟨(by first | omega | grind) /- z_r32.lo z8#1 -/, (by first | omega | grind) /- z_r32.hi z8#1 -/⟩) ?_
  refine wp_ck (z_r32_i.mpr ⟨(by first | omega | grind) /- z_r32.lo i_p0_length#1 -/, (by first | omega | grind) /- z_r32.hi i_p0_length#1 -/⟩) ?_
  refine wp_if (fun c1 => ?_) (fun c1 => ?_)
  ·
    refine wp_ck (z_r32_i.mpr ⟨(by first | omega | grind) /- z_r32.lo (z2 - i_p0_start)#1 -/, (by first | omega | grind) /- z_r32.hi (z2 - i_p0_start)#1 -/⟩) ?_
    refine wp_if (fun c2 => ?_) (fun c2 => ?_)
    ·
      refine wp_bnd ?_
      refine wp_some ?_
      try dsimp only
      all_goals exact ⟨(by split <;> omega) /- post1#1 -/, (by first | assumption | omega | grind [z_up, z_cpy]) /- post2#1 -/, (by exact i_B_X9_readFigures_5_3) /- post3#1 -/, (by intro h; omega) /- post4#1 -/, (by exact i_B_X9_readFigures_5_5) /- post5#1 -/⟩
    ·
      refine wp_bnd ?_
      refine wp_some ?_
      try dsimp only
      all_goals exact ⟨(by split <;> omega) /- post1#2 -/, (by first | assumption | omega | grind [z_up, z_cpy]) /- post2#2 -/, (by exact i_B_X9_readFigures_5_3) /- post3#2 -/, (by intro h; omega) /- post4#2 -/, (by exact i_B_X9_readFigures_5_5) /- post5#2 -/⟩
  ·
    refine wp_ck (z_ix_i.mpr ⟨⟨(by first | omega | grind) /- ix.lo z8#1 -/, (by first | omega | grind) /- ix.hi z8#1 -/⟩, (by first | omega | grind) /- ix.big z8#1 -/⟩) ?_
    have hb := h5 z8 (by omega) (by omega)
    refine wp_bd1 (s_X9_isFigure _ (by first | assumption | omega | grind [z_up, z_cpy]) /- pre X9_isFigure.1#1 -/ (by first | assumption | omega | grind [z_up, z_cpy]) /- pre X9_isFigure.2#1 -/) (fun z13 q_X9_isFigure_1 => ?_)
    try dsimp only at q_X9_isFigure_1
    refine wp_ck (z_r32_i.mpr ⟨(by first | omega | grind) /- z_r32.lo z13#1 -/, (by first | omega | grind) /- z_r32.hi z13#1 -/⟩) ?_
    refine wp_if (fun c3 => ?_) (fun c3 => ?_)
    ·
      refine wp_ck (z_r32_i.mpr ⟨(by first | omega | grind) /- z_r32.lo (z2 - i_p0_start)#2 -/, (by first | omega | grind) /- z_r32.hi (z2 - i_p0_start)#2 -/⟩) ?_
      refine wp_if (fun c4 => ?_) (fun c4 => ?_)
      ·
        refine wp_bnd ?_
        refine wp_some ?_
        try dsimp only
        all_goals exact ⟨(by split <;> omega) /- post1#3 -/, (by refine ⟨?_, by omega⟩; rcases Int.lt_or_eq_of_le i_B_X9_readFigures_5_1 with h | h; exact h; exfalso; rw [← h] at q_X9_isFigure_1; rw [if_pos (by omega)] at q_X9_isFigure_1; omega) /- post2#3 -/, (by exact i_B_X9_readFigures_5_3) /- post3#3 -/, (by intro h hh; rw [if_pos hh] at q_X9_isFigure_1; omega) /- post4#3 -/, (by exact i_B_X9_readFigures_5_5) /- post5#3 -/⟩
      ·
        refine wp_bnd ?_
        refine wp_some ?_
        try dsimp only
        all_goals exact ⟨(by split <;> omega) /- post1#4 -/, (by refine ⟨?_, by omega⟩; rcases Int.lt_or_eq_of_le i_B_X9_readFigures_5_1 with h | h; exact h; exfalso; rw [← h] at q_X9_isFigure_1; rw [if_pos (by omega)] at q_X9_isFigure_1; omega) /- post2#4 -/, (by exact i_B_X9_readFigures_5_3) /- post3#4 -/, (by intro h hh; rw [if_pos hh] at q_X9_isFigure_1; omega) /- post4#4 -/, (by exact i_B_X9_readFigures_5_5) /- post5#4 -/⟩
    ·
      refine wp_ck (z_ix_i.mpr ⟨⟨(by first | omega | grind) /- ix.lo z8#2 -/, (by first | omega | grind) /- ix.hi z8#2 -/⟩, (by first | omega | grind) /- ix.big z8#2 -/⟩) ?_
      refine wp_bndE (fun z15 hz15 => ?_)
      refine wp_bndE (fun z16 hz16 => ?_)
      exact ih_B_X9_readFigures_5 _ _ ⟨(by first | assumption | omega | grind [z_up, z_cpy]) /- B_X9_readFigures_5.inv1#1 -/, (by first | assumption | omega | grind [z_up, z_cpy]) /- B_X9_readFigures_5.inv2#1 -/, (by 
                                        intro j a b
                                        by_cases e : j = z8
                                        · subst e
                                          by_cases hh : 48 ≤ v_p0_bytes j ∧ v_p0_bytes j ≤ 57
                                          · exact hh
                                          · rw [if_neg hh] at q_X9_isFigure_1; omega
                                        · exact i_B_X9_readFigures_5_3 j a (by omega)) /- B_X9_readFigures_5.inv3#1 -/, (by first | assumption | omega | grind [z_up, z_cpy]) /- B_X9_readFigures_5.inv4#1 -/, (by 
                                        obtain ⟨a1, a2⟩ := i_B_X9_readFigures_5_5
                                        refine ⟨fun h => ?_, fun h => ?_⟩
                                        · have e : z8 = i_p0_at := by omega
                                          have := i_B_X9_readFigures_5_4 e
                                          rw [e] at hz15; omega
                                        · have e : z8 = i_p0_at + 1 := by omega
                                          have := a1 (by omega)
                                          rw [e] at hz15; omega) /- B_X9_readFigures_5.inv5#1 -/⟩ (by first | omega | grind) /- B_X9_readFigures_5.dec#1 -/

set_option maxHeartbeats 1000000 in
theorem s_X9_readToken (i_p0_length : Int) (i_p0_at : Int) (i_p0_value : Int) (v_p0_bytes : (Int → Int)) (h1 : 0 ≤ i_p0_length) (h2 : i_p0_length ≤ 320) (h3 : 0 ≤ i_p0_at) (h4 : i_p0_at ≤ i_p0_length) (h5 : ∀ j, 0 ≤ j → j < 320 → -128 ≤ v_p0_bytes j ∧ v_p0_bytes j < 128) : wp (f_X9_readToken i_p0_length i_p0_at i_p0_value v_p0_bytes) (fun o => (i_p0_at ≤ o.2.2.1 ∧ o.2.2.1 ≤ i_p0_length) ∧ (∀ j, i_p0_at ≤ j → j < o.2.2.1 → v_p0_bytes j = 32) ∧ (o.2.2.1 < i_p0_length → ¬ v_p0_bytes o.2.2.1 = 32) ∧ (tokc v_p0_bytes i_p0_length o.2.2.1 o.1 o.2.1 o.2.2.2)) := by
  unfold f_X9_readToken
  refine wp_jn ?_
  refine wp_lq1 (fun (z20 : Int) => (i_p0_at ≤ z20) ∧ (z20 ≤ i_p0_length) ∧ (∀ j, i_p0_at ≤ j → j < z20 → v_p0_bytes j = 32)) (fun (z20 : Int) => (i_p0_length - z20).toNat) (fun again0 z20 hI ih_B_X9_readToken_0 => ?_) 1000 _ ⟨(by first | assumption | omega | grind [z_up, z_cpy]) /- B_X9_readToken_0.init1#1 -/, (by first | assumption | omega | grind [z_up, z_cpy]) /- B_X9_readToken_0.init2#1 -/, (by intro j; omega) /- B_X9_readToken_0.init3#1 -/⟩ (by first | omega | grind) /- B_X9_readToken_0.fuel#1 -/
  obtain ⟨i_B_X9_readToken_0_1, i_B_X9_readToken_0_2, i_B_X9_readToken_0_3⟩ := hI
  unfold B_X9_readToken_0
  have hb := fun (h : z20 < i_p0_length) => h5 z20 (by omega) (by omega)
  refine wp_ck (z_r32_i.mpr ⟨(by first | omega | grind) /- z_r32.lo z20#1 -/, (by first | omega | grind) /- z_r32.hi z20#1 -/⟩) ?_
  refine wp_ck (z_r32_i.mpr ⟨(by first | omega | grind) /- z_r32.lo i_p0_length#1 -/, (by first | omega | grind) /- z_r32.hi i_p0_length#1 -/⟩) ?_
  refine wp_if (fun c1 => ?_) (fun c1 => ?_)
  ·
    refine wp_bnd ?_
    refine wp_ck (z_r32_i.mpr ⟨(by first | omega | grind) /- z_r32.lo z1#1 -/, (by first | omega | grind) /- z_r32.hi z1#1 -/⟩) ?_
    refine wp_ck (z_r32_i.mpr ⟨(by first | omega | grind) /- z_r32.lo i_p0_length#2 -/, (by first | omega | grind) /- z_r32.hi i_p0_length#2 -/⟩) ?_
    refine wp_if (fun c2 => ?_) (fun c2 => ?_)
    ·
      refine wp_ck (z_ix_i.mpr ⟨⟨(by first | omega | grind) /- ix.lo z1#1 -/, (by first | omega | grind) /- ix.hi z1#1 -/⟩, (by first | omega | grind) /- ix.big z1#1 -/⟩) ?_
      refine wp_bd1 (s_X9_isLetter _ (by first | assumption | omega | grind [z_up, z_cpy]) /- pre X9_isLetter.1#1 -/ (by first | assumption | omega | grind [z_up, z_cpy]) /- pre X9_isLetter.2#1 -/) (fun z6 q_X9_isLetter_1 => ?_)
      try dsimp only at q_X9_isLetter_1
      refine wp_ck (z_r32_i.mpr ⟨(by first | omega | grind) /- z_r32.lo z6#1 -/, (by first | omega | grind) /- z_r32.hi z6#1 -/⟩) ?_
      refine wp_if (fun c3 => ?_) (fun c3 => ?_)
      ·
        refine wp_ck (z_ix_i.mpr ⟨⟨(by first | omega | grind) /- ix.lo z1#2 -/, (by first | omega | grind) /- ix.hi z1#2 -/⟩, (by first | omega | grind) /- ix.big z1#2 -/⟩) ?_
        refine wp_bd1 (s_X9_isFigure _ (by first | assumption | omega | grind [z_up, z_cpy]) /- pre X9_isFigure.1#1 -/ (by first | assumption | omega | grind [z_up, z_cpy]) /- pre X9_isFigure.2#1 -/) (fun z8 q_X9_isFigure_1 => ?_)
        try dsimp only at q_X9_isFigure_1
        refine wp_ck (z_r32_i.mpr ⟨(by first | omega | grind) /- z_r32.lo z8#1 -/, (by first | omega | grind) /- z_r32.hi z8#1 -/⟩) ?_
        refine wp_if (fun c4 => ?_) (fun c4 => ?_)
        ·
          refine wp_ck (z_ix_i.mpr ⟨⟨(by first | omega | grind) /- ix.lo z1#3 -/, (by first | omega | grind) /- ix.hi z1#3 -/⟩, (by first | omega | grind) /- ix.big z1#3 -/⟩) ?_
          refine wp_ck (z_r32_i.mpr ⟨(by first | omega | grind) /- z_r32.lo (v_p0_bytes z1)#1 -/, (by first | omega | grind) /- z_r32.hi (v_p0_bytes z1)#1 -/⟩) ?_
          refine wp_if (fun c5 => ?_) (fun c5 => ?_)
          ·
            refine wp_bndE (fun z12 hz12 => ?_)
            refine wp_bnd ?_
            refine wp_some ?_
            try dsimp only
            all_goals exact ⟨(by omega) /- post1#1 -/, (by exact i_B_X9_readToken_0_3) /- post2#1 -/, (by exfalso; omega) /- post3#1 -/, (by exfalso; omega) /- post4#1 -/⟩
          ·
            refine wp_bnd ?_
            refine wp_some ?_
            try dsimp only
            all_goals exact ⟨(by omega) /- post1#2 -/, (by exact i_B_X9_readToken_0_3) /- post2#2 -/, (by exfalso; omega) /- post3#2 -/, (by exfalso; omega) /- post4#2 -/⟩
        ·
          refine wp_bd3 (s_X9_readFigures _ _ _ _ (by first | assumption | omega | grind [z_up, z_cpy]) /- pre X9_readFigures.1#1 -/ (by first | assumption | omega | grind [z_up, z_cpy]) /- pre X9_readFigures.2#1 -/ (by first | assumption | omega | grind [z_up, z_cpy]) /- pre X9_readFigures.3#1 -/ (by first | assumption | omega | grind [z_up, z_cpy]) /- pre X9_readFigures.4#1 -/ (by exact h5) /- pre X9_readFigures.5#1 -/ (by first | assumption | omega | grind [z_up, z_cpy]) /- pre X9_readFigures.6#1 -/ (by first | assumption | omega | grind [z_up, z_cpy]) /- pre X9_readFigures.7#1 -/ (by 
                                        by_cases hh : 48 ≤ v_p0_bytes z20 ∧ v_p0_bytes z20 ≤ 57
                                        · exact hh.1
                                        · exfalso; simp only [if_neg hh] at *; omega) /- pre X9_readFigures.8#1 -/ (by 
                                        by_cases hh : 48 ≤ v_p0_bytes z20 ∧ v_p0_bytes z20 ≤ 57
                                        · exact hh.2
                                        · exfalso; simp only [if_neg hh] at *; omega) /- pre X9_readFigures.9#1 -/) (fun z14 z15 z16 q_X9_readFigures_1 => ?_)
          try dsimp only at q_X9_readFigures_1
          obtain ⟨q_X9_readFigures_1_1, q_X9_readFigures_1_2, q_X9_readFigures_1_3, q_X9_readFigures_1_4, q_X9_readFigures_1_5⟩ := q_X9_readFigures_1
          refine wp_some ?_
          try dsimp only
          all_goals exact ⟨(by omega) /- post1#3 -/, (by exact i_B_X9_readToken_0_3) /- post2#3 -/, (by exfalso; omega) /- post3#3 -/, (by exfalso; omega) /- post4#3 -/⟩
      ·
        refine wp_bd2 (s_X9_readName _ _ _ (by first | assumption | omega | grind [z_up, z_cpy]) /- pre X9_readName.1#1 -/ (by first | assumption | omega | grind [z_up, z_cpy]) /- pre X9_readName.2#1 -/ (by first | assumption | omega | grind [z_up, z_cpy]) /- pre X9_readName.3#1 -/ (by first | assumption | omega | grind [z_up, z_cpy]) /- pre X9_readName.4#1 -/ (by exact h5) /- pre X9_readName.5#1 -/) (fun z17 z18 q_X9_readName_1 => ?_)
        try dsimp only at q_X9_readName_1
        obtain ⟨q_X9_readName_1_1, q_X9_readName_1_2, q_X9_readName_1_3, q_X9_readName_1_4⟩ := q_X9_readName_1
        refine wp_some ?_
        try dsimp only
        all_goals exact ⟨(by omega) /- post1#4 -/, (by exact i_B_X9_readToken_0_3) /- post2#4 -/, (by exfalso; omega) /- post3#4 -/, (by exfalso; omega) /- post4#4 -/⟩
    ·
      refine wp_bnd ?_
      refine wp_some ?_
      try dsimp only
      all_goals exact ⟨(by omega) /- post1#5 -/, (by exact i_B_X9_readToken_0_3) /- post2#5 -/, (by intro h; exfalso; omega) /- post3#5 -/, (by unfold tokc; rw [if_pos (by omega)]; omega) /- post4#5 -/⟩
  ·
    refine wp_ck (z_ix_i.mpr ⟨⟨(by first | omega | grind) /- ix.lo z20#1 -/, (by first | omega | grind) /- ix.hi z20#1 -/⟩, (by first | omega | grind) /- ix.big z20#1 -/⟩) ?_
    refine wp_ck (z_r32_i.mpr ⟨(by first | omega | grind) /- z_r32.lo (v_p0_bytes z20)#1 -/, (by first | omega | grind) /- z_r32.hi (v_p0_bytes z20)#1 -/⟩) ?_
    refine wp_if (fun c6 => ?_) (fun c6 => ?_)
    ·
      refine wp_bndE (fun z25 hz25 => ?_)
      exact ih_B_X9_readToken_0 _ ⟨(by first | assumption | omega | grind [z_up, z_cpy]) /- B_X9_readToken_0.inv1#1 -/, (by first | assumption | omega | grind [z_up, z_cpy]) /- B_X9_readToken_0.inv2#1 -/, (by 
                                        intro j a b
                                        by_cases e : j = z20
                                        · subst e; assumption
                                        · exact i_B_X9_readToken_0_3 j a (by omega)) /- B_X9_readToken_0.inv3#1 -/⟩ (by first | omega | grind) /- B_X9_readToken_0.dec#1 -/
    ·
      refine wp_bnd ?_
      refine wp_ck (z_r32_i.mpr ⟨(by first | omega | grind) /- z_r32.lo z1#2 -/, (by first | omega | grind) /- z_r32.hi z1#2 -/⟩) ?_
      refine wp_ck (z_r32_i.mpr ⟨(by first | omega | grind) /- z_r32.lo i_p0_length#3 -/, (by first | omega | grind) /- z_r32.hi i_p0_length#3 -/⟩) ?_
      refine wp_if (fun c7 => ?_) (fun c7 => ?_)
      ·
        refine wp_ck (z_ix_i.mpr ⟨⟨(by first | omega | grind) /- ix.lo z1#4 -/, (by first | omega | grind) /- ix.hi z1#4 -/⟩, (by first | omega | grind) /- ix.big z1#4 -/⟩) ?_
        refine wp_bd1 (s_X9_isLetter _ (by first | assumption | omega | grind [z_up, z_cpy]) /- pre X9_isLetter.1#2 -/ (by first | assumption | omega | grind [z_up, z_cpy]) /- pre X9_isLetter.2#2 -/) (fun z6 q_X9_isLetter_2 => ?_)
        try dsimp only at q_X9_isLetter_2
        refine wp_ck (z_r32_i.mpr ⟨(by first | omega | grind) /- z_r32.lo z6#2 -/, (by first | omega | grind) /- z_r32.hi z6#2 -/⟩) ?_
        refine wp_if (fun c8 => ?_) (fun c8 => ?_)
        ·
          refine wp_ck (z_ix_i.mpr ⟨⟨(by first | omega | grind) /- ix.lo z1#5 -/, (by first | omega | grind) /- ix.hi z1#5 -/⟩, (by first | omega | grind) /- ix.big z1#5 -/⟩) ?_
          refine wp_bd1 (s_X9_isFigure _ (by first | assumption | omega | grind [z_up, z_cpy]) /- pre X9_isFigure.1#2 -/ (by first | assumption | omega | grind [z_up, z_cpy]) /- pre X9_isFigure.2#2 -/) (fun z8 q_X9_isFigure_2 => ?_)
          try dsimp only at q_X9_isFigure_2
          refine wp_ck (z_r32_i.mpr ⟨(by first | omega | grind) /- z_r32.lo z8#2 -/, (by first | omega | grind) /- z_r32.hi z8#2 -/⟩) ?_
          refine wp_if (fun c9 => ?_) (fun c9 => ?_)
          ·
            refine wp_ck (z_ix_i.mpr ⟨⟨(by first | omega | grind) /- ix.lo z1#6 -/, (by first | omega | grind) /- ix.hi z1#6 -/⟩, (by first | omega | grind) /- ix.big z1#6 -/⟩) ?_
            refine wp_ck (z_r32_i.mpr ⟨(by first | omega | grind) /- z_r32.lo (v_p0_bytes z1)#2 -/, (by first | omega | grind) /- z_r32.hi (v_p0_bytes z1)#2 -/⟩) ?_
            refine wp_if (fun c10 => ?_) (fun c10 => ?_)
            ·
              refine wp_bndE (fun z12 hz12 => ?_)
              refine wp_bnd ?_
              refine wp_some ?_
              try dsimp only
              all_goals exact ⟨(by omega) /- post1#6 -/, (by exact i_B_X9_readToken_0_3) /- post2#6 -/, (by intro _; assumption) /- post3#6 -/, (by unfold tokc; rw [if_neg (by omega), if_neg (fun hh => by rw [if_pos hh] at q_X9_isLetter_2; omega), if_neg (fun hh => by rw [if_pos hh] at q_X9_isFigure_2; omega), if_pos (by assumption)]; omega) /- post4#6 -/⟩
            ·
              refine wp_bnd ?_
              refine wp_some ?_
              try dsimp only
              all_goals exact ⟨(by omega) /- post1#7 -/, (by exact i_B_X9_readToken_0_3) /- post2#7 -/, (by intro _; assumption) /- post3#7 -/, (by unfold tokc; rw [if_neg (by omega), if_neg (fun hh => by rw [if_pos hh] at q_X9_isLetter_2; omega), if_neg (fun hh => by rw [if_pos hh] at q_X9_isFigure_2; omega), if_neg (by assumption)]; omega) /- post4#7 -/⟩
          ·
            refine wp_bd3 (s_X9_readFigures _ _ _ _ (by first | assumption | omega | grind [z_up, z_cpy]) /- pre X9_readFigures.1#2 -/ (by first | assumption | omega | grind [z_up, z_cpy]) /- pre X9_readFigures.2#2 -/ (by first | assumption | omega | grind [z_up, z_cpy]) /- pre X9_readFigures.3#2 -/ (by first | assumption | omega | grind [z_up, z_cpy]) /- pre X9_readFigures.4#2 -/ (by exact h5) /- pre X9_readFigures.5#2 -/ (by first | assumption | omega | grind [z_up, z_cpy]) /- pre X9_readFigures.6#2 -/ (by first | assumption | omega | grind [z_up, z_cpy]) /- pre X9_readFigures.7#2 -/ (by 
                                        by_cases hh : 48 ≤ v_p0_bytes z20 ∧ v_p0_bytes z20 ≤ 57
                                        · exact hh.1
                                        · exfalso; simp only [if_neg hh] at *; omega) /- pre X9_readFigures.8#2 -/ (by 
                                        by_cases hh : 48 ≤ v_p0_bytes z20 ∧ v_p0_bytes z20 ≤ 57
                                        · exact hh.2
                                        · exfalso; simp only [if_neg hh] at *; omega) /- pre X9_readFigures.9#2 -/) (fun z14 z15 z16 q_X9_readFigures_2 => ?_)
            try dsimp only at q_X9_readFigures_2
            obtain ⟨q_X9_readFigures_2_1, q_X9_readFigures_2_2, q_X9_readFigures_2_3, q_X9_readFigures_2_4, q_X9_readFigures_2_5⟩ := q_X9_readFigures_2
            refine wp_some ?_
            try dsimp only
            all_goals exact ⟨(by omega) /- post1#8 -/, (by exact i_B_X9_readToken_0_3) /- post2#8 -/, (by intro _; assumption) /- post3#8 -/, (by 
                                        have hf : 48 ≤ v_p0_bytes z20 ∧ v_p0_bytes z20 ≤ 57 := by
                                          by_cases hh : 48 ≤ v_p0_bytes z20 ∧ v_p0_bytes z20 ≤ 57
                                          · exact hh
                                          · rw [if_neg hh] at q_X9_isFigure_2; omega
                                        unfold tokc; rw [if_neg (by omega), if_neg (fun hh => by rw [if_pos hh] at q_X9_isLetter_2; omega), if_pos hf]
                                        exact ⟨q_X9_readFigures_2_1, q_X9_readFigures_2_2.1, q_X9_readFigures_2_2.2, q_X9_readFigures_2_3, q_X9_readFigures_2_4, q_X9_readFigures_2_5.1, q_X9_readFigures_2_5.2⟩) /- post4#8 -/⟩
        ·
          refine wp_bd2 (s_X9_readName _ _ _ (by first | assumption | omega | grind [z_up, z_cpy]) /- pre X9_readName.1#2 -/ (by first | assumption | omega | grind [z_up, z_cpy]) /- pre X9_readName.2#2 -/ (by first | assumption | omega | grind [z_up, z_cpy]) /- pre X9_readName.3#2 -/ (by first | assumption | omega | grind [z_up, z_cpy]) /- pre X9_readName.4#2 -/ (by exact h5) /- pre X9_readName.5#2 -/) (fun z17 z18 q_X9_readName_2 => ?_)
          try dsimp only at q_X9_readName_2
          obtain ⟨q_X9_readName_2_1, q_X9_readName_2_2, q_X9_readName_2_3, q_X9_readName_2_4⟩ := q_X9_readName_2
          refine wp_some ?_
          try dsimp only
          all_goals exact ⟨(by omega) /- post1#9 -/, (by exact i_B_X9_readToken_0_3) /- post2#9 -/, (by intro _; assumption) /- post3#9 -/, (by 
                                        have hf : 97 ≤ v_p0_bytes z20 ∧ v_p0_bytes z20 ≤ 122 := by
                                          by_cases hh : 97 ≤ v_p0_bytes z20 ∧ v_p0_bytes z20 ≤ 122
                                          · exact hh
                                          · rw [if_neg hh] at q_X9_isLetter_2; omega
                                        have hlt : z20 < z17 := by
                                          rcases Int.lt_or_eq_of_le q_X9_readName_2_2.1 with h | h
                                          · exact h
                                          · exact absurd (h ▸ hf) (q_X9_readName_2_4 (by omega))
                                        unfold tokc; rw [if_neg (by omega), if_pos hf]
                                        exact ⟨q_X9_readName_2_1, hlt, q_X9_readName_2_2.2, q_X9_readName_2_3, q_X9_readName_2_4⟩) /- post4#9 -/⟩
      ·
        refine wp_bnd ?_
        refine wp_some ?_
        try dsimp only
        all_goals exact ⟨(by omega) /- post1#10 -/, (by exact i_B_X9_readToken_0_3) /- post2#10 -/, (by exfalso; omega) /- post3#10 -/, (by exfalso; omega) /- post4#10 -/⟩

set_option maxHeartbeats 1000000 in
theorem s_J0_coder_7d493 (x0 : Int) (h1 : 0 ≤ x0) (h2 : x0 < 11) : wp (f_J0_coder_7d493 x0) (fun o => (o = 0)) := by
  unfold f_J0_coder_7d493
  refine wp_if (fun c1 => ?_) (fun c1 => ?_)
  ·
    refine wp_some ?_
    try dsimp only
    all_goals exact (by first | rfl | omega) /- post1#1 -/
  ·
    refine wp_ck (z_ix_i.mpr ⟨⟨(by first | omega | grind) /- ix.lo x0#1 -/, (by first | omega | grind) /- ix.hi x0#1 -/⟩, (by first | omega | grind) /- ix.big x0#1 -/⟩) ?_
    refine wp_some ?_
    try dsimp only
    all_goals exact (by first | rfl | omega) /- post1#2 -/

set_option maxHeartbeats 1000000 in
theorem s_J0_length_8abf5 (x0 : Int) (h1 : 0 ≤ x0) (h2 : x0 < 11) : wp (f_J0_length_8abf5 x0) (fun o => (o = z_sl x0)) := by
  unfold f_J0_length_8abf5
  refine wp_ck (z_ix_i.mpr ⟨⟨(by first | omega | grind) /- ix.lo x0#1 -/, (by first | omega | grind) /- ix.hi x0#1 -/⟩, (by first | omega | grind) /- ix.big x0#1 -/⟩) ?_
  refine wp_bd1 (s_J0_coder_7d493 _ (by first | assumption | omega) /- pre J0_coder_7d493.1#1 -/ (by first | assumption | omega) /- pre J0_coder_7d493.2#1 -/) (fun z2 q_J0_coder_7d493_1 => ?_)
  try dsimp only at q_J0_coder_7d493_1
  refine wp_some ?_
  try dsimp only
  all_goals exact (by rw [q_J0_coder_7d493_1]; exact sl_shr h1 h2) /- post1#1 -/

set_option maxHeartbeats 1000000 in
theorem s_J0_isLatin1_aae02 (x0 : Int) (h1 : 0 ≤ x0) (h2 : x0 < 11) : wp (f_J0_isLatin1_aae02 x0) (fun o => (o = 1)) := by
  unfold f_J0_isLatin1_aae02
  refine wp_if (fun c1 => ?_) (fun c1 => ?_)
  ·
    refine wp_some ?_
    try dsimp only
    all_goals exact (by first | rfl | omega) /- post1#1 -/
  ·
    refine wp_ck (z_ix_i.mpr ⟨⟨(by first | omega | grind) /- ix.lo x0#1 -/, (by first | omega | grind) /- ix.hi x0#1 -/⟩, (by first | omega | grind) /- ix.big x0#1 -/⟩) ?_
    refine wp_if (fun c2 => ?_) (fun c2 => ?_)
    ·
      refine wp_some ?_
      try dsimp only
      all_goals exact (by first | rfl | omega) /- post1#2 -/
    ·
      refine wp_some ?_
      try dsimp only
      all_goals exact (by first | rfl | omega) /- post1#3 -/

set_option maxHeartbeats 1000000 in
theorem s_J3_checkIndex_8e157 (x0 : Int) (x1 : Int) (h1 : 0 ≤ x0) (h2 : x0 < x1) (h3 : x1 < 2147483648) : wp (f_J3_checkIndex_8e157 x0 x1) (fun o => (o = x0)) := by
  unfold f_J3_checkIndex_8e157
  refine wp_ck (z_r32_i.mpr ⟨(by first | omega | grind) /- z_r32.lo x0#1 -/, (by first | omega | grind) /- z_r32.hi x0#1 -/⟩) ?_
  refine wp_if (fun c1 => ?_) (fun c1 => ?_)
  ·
    exfalso
    exact (by first | rfl | omega) /- none#1 -/
  ·
    refine wp_ck (z_r32_i.mpr ⟨(by first | omega | grind) /- z_r32.lo x1#1 -/, (by first | omega | grind) /- z_r32.hi x1#1 -/⟩) ?_
    refine wp_if (fun c2 => ?_) (fun c2 => ?_)
    ·
      refine wp_some ?_
      try dsimp only
      all_goals exact (by first | rfl | omega) /- post1#1 -/
    ·
      exfalso
      exact (by first | rfl | omega) /- none#2 -/

set_option maxHeartbeats 1000000 in
theorem s_J0_checkIndex_df160 (x0 : Int) (x1 : Int) (h1 : 0 ≤ x0) (h2 : x0 < x1) (h3 : x1 < 2147483648) : wp (f_J0_checkIndex_df160 x0 x1) (fun o => True) := by
  unfold f_J0_checkIndex_df160
  refine wp_bd1 (s_J3_checkIndex_8e157 _ _ (by first | assumption | omega) /- pre J3_checkIndex_8e157.1#1 -/ (by first | assumption | omega) /- pre J3_checkIndex_8e157.2#1 -/ (by first | assumption | omega) /- pre J3_checkIndex_8e157.3#1 -/) (fun z1 q_J3_checkIndex_8e157_1 => ?_)
  try dsimp only at q_J3_checkIndex_8e157_1
  exact wp_some trivial

set_option maxHeartbeats 1000000 in
theorem s_J1_charAt_3b067 (x0 : Int) (x1 : Int) (h1 : 0 ≤ x0) (h2 : x0 < 11) (h3 : 0 ≤ x1) (h4 : x1 < z_sl x0) : wp (f_J1_charAt_3b067 x0 x1) (fun o => (o = z_sb x0 x1)) := by
  unfold f_J1_charAt_3b067
  have hsl := sl_z h1 h2
  have hch := ch_z h1 h2 h3 h4
  refine wp_ck (z_ix_i.mpr ⟨⟨(by first | omega | grind) /- ix.lo x0#1 -/, (by first | omega | grind) /- ix.hi x0#1 -/⟩, (by first | omega | grind) /- ix.big x0#1 -/⟩) ?_
  refine wp_bd0 (s_J0_checkIndex_df160 _ _ (by first | omega | assumption) /- pre J0_checkIndex_df160.1#1 -/ (by first | omega | assumption) /- pre J0_checkIndex_df160.2#1 -/ (by first | omega | assumption) /- pre J0_checkIndex_df160.3#1 -/) (fun q_J0_checkIndex_df160_1 => ?_)
  refine wp_ck (z_ix_i.mpr ⟨⟨(by first | omega | grind) /- ix.lo x1#1 -/, (by exact h4) /- ix.hi x1#1 -/⟩, (by first | omega | grind) /- ix.big x1#1 -/⟩) ?_
  refine wp_ck (z_cC_i.mpr ⟨(by rw [hch.1]; omega) /- z_cC.lo (z_i2c (z_and (z_sb x0 x1) (255 : Int)))#1 -/, (by rw [hch.1]; omega) /- z_cC.hi (z_i2c (z_and (z_sb x0 x1) (255 : Int)))#1 -/⟩) ?_
  refine wp_some ?_
  try dsimp only
  all_goals exact (by exact hch.1) /- post1#1 -/

set_option maxHeartbeats 1000000 in
theorem s_J0_charAt_5068e (x0 : Int) (x1 : Int) (h1 : 0 ≤ x0) (h2 : x0 < 11) (h3 : 0 ≤ x1) (h4 : x1 < z_sl x0) : wp (f_J0_charAt_5068e x0 x1) (fun o => (o = z_sb x0 x1)) := by
  unfold f_J0_charAt_5068e
  have hsl := sl_z h1 h2
  have hch := ch_z h1 h2 h3 h4
  refine wp_bd1 (s_J0_isLatin1_aae02 _ (by first | assumption | omega) /- pre J0_isLatin1_aae02.1#1 -/ (by first | assumption | omega) /- pre J0_isLatin1_aae02.2#1 -/) (fun z1 q_J0_isLatin1_aae02_1 => ?_)
  try dsimp only at q_J0_isLatin1_aae02_1
  refine wp_ck (z_ix_i.mpr ⟨⟨(by first | omega | grind) /- ix.lo x0#1 -/, (by first | omega | grind) /- ix.hi x0#1 -/⟩, (by first | omega | grind) /- ix.big x0#1 -/⟩) ?_
  refine wp_ck (z_r32_i.mpr ⟨(by first | omega | grind) /- z_r32.lo z1#1 -/, (by first | omega | grind) /- z_r32.hi z1#1 -/⟩) ?_
  refine wp_if (fun c1 => ?_) (fun c1 => ?_)
  ·
    exfalso
    exact (by first | assumption | omega) /- none#1 -/
  ·
    refine wp_bd1 (s_J1_charAt_3b067 _ _ (by first | assumption | omega) /- pre J1_charAt_3b067.1#1 -/ (by first | assumption | omega) /- pre J1_charAt_3b067.2#1 -/ (by first | assumption | omega) /- pre J1_charAt_3b067.3#1 -/ (by first | assumption | omega) /- pre J1_charAt_3b067.4#1 -/) (fun z4 q_J1_charAt_3b067_1 => ?_)
    try dsimp only at q_J1_charAt_3b067_1
    refine wp_ck (z_cC_i.mpr ⟨(by first | omega | grind) /- z_cC.lo z4#1 -/, (by first | omega | grind) /- z_cC.hi z4#1 -/⟩) ?_
    refine wp_some ?_
    try dsimp only
    all_goals exact (by first | assumption | omega) /- post1#1 -/

set_option maxHeartbeats 1000000 in
theorem s_X9_isNamed (i_p0_at : Int) (i_p0_start : Int) (v_p0_bytes : (Int → Int)) (x1 : Int) (h1 : 0 ≤ i_p0_start) (h2 : i_p0_start ≤ i_p0_at) (h3 : i_p0_at ≤ 320) (h4 : ∀ j, 0 ≤ j → j < 320 → -128 ≤ v_p0_bytes j ∧ v_p0_bytes j < 128) (h5 : 0 ≤ x1) (h6 : x1 < 11) : wp (f_X9_isNamed i_p0_at i_p0_start v_p0_bytes x1) (fun o => ((o = 1 ∧ nmd v_p0_bytes i_p0_start i_p0_at x1) ∨ (o = 0 ∧ ¬ nmd v_p0_bytes i_p0_start i_p0_at x1))) := by
  unfold f_X9_isNamed
  have hsl := sl_z h5 h6
  refine wp_bd1 (s_J0_length_8abf5 _ (by first | assumption | omega) /- pre J0_length_8abf5.1#1 -/ (by first | assumption | omega) /- pre J0_length_8abf5.2#1 -/) (fun z1 q_J0_length_8abf5_1 => ?_)
  try dsimp only at q_J0_length_8abf5_1
  refine wp_ck (z_ix_i.mpr ⟨⟨(by first | omega | grind) /- ix.lo x1#1 -/, (by first | omega | grind) /- ix.hi x1#1 -/⟩, (by first | omega | grind) /- ix.big x1#1 -/⟩) ?_
  refine wp_ck (z_r32_i.mpr ⟨(by first | omega | grind) /- z_r32.lo (i_p0_at - i_p0_start)#1 -/, (by first | omega | grind) /- z_r32.hi (i_p0_at - i_p0_start)#1 -/⟩) ?_
  refine wp_ck (z_r32_i.mpr ⟨(by first | omega | grind) /- z_r32.lo z1#1 -/, (by first | omega | grind) /- z_r32.hi z1#1 -/⟩) ?_
  refine wp_if (fun c1 => ?_) (fun c1 => ?_)
  ·
    refine wp_bnd ?_
    refine wp_lq1 (fun (z6 : Int) => (0 ≤ z6) ∧ (z6 ≤ z_sl x1) ∧ (∀ i, 0 ≤ i → i < z6 → v_p0_bytes (i_p0_start + i) = z_sb x1 i)) (fun (z6 : Int) => (z_sl x1 - z6).toNat) (fun again20 z6 hI ih_B_X9_isNamed_20 => ?_) 1000 _ ⟨(by first | assumption | omega) /- B_X9_isNamed_20.init1#1 -/, (by first | assumption | omega) /- B_X9_isNamed_20.init2#1 -/, (by intro i; omega) /- B_X9_isNamed_20.init3#1 -/⟩ (by first | omega | grind) /- B_X9_isNamed_20.fuel#1 -/
    obtain ⟨i_B_X9_isNamed_20_1, i_B_X9_isNamed_20_2, i_B_X9_isNamed_20_3⟩ := hI
    unfold B_X9_isNamed_20
    refine wp_bd1 (s_J0_length_8abf5 _ (by first | assumption | omega) /- pre J0_length_8abf5.1#2 -/ (by first | assumption | omega) /- pre J0_length_8abf5.2#2 -/) (fun z8 q_J0_length_8abf5_2 => ?_)
    try dsimp only at q_J0_length_8abf5_2
    refine wp_ck (z_r32_i.mpr ⟨(by first | omega | grind) /- z_r32.lo z6#1 -/, (by first | omega | grind) /- z_r32.hi z6#1 -/⟩) ?_
    refine wp_ck (z_r32_i.mpr ⟨(by first | omega | grind) /- z_r32.lo z8#1 -/, (by first | omega | grind) /- z_r32.hi z8#1 -/⟩) ?_
    refine wp_if (fun c2 => ?_) (fun c2 => ?_)
    ·
      refine wp_some ?_
      try dsimp only
      all_goals exact (by exact Or.inl ⟨rfl, by omega, fun i a b => i_B_X9_isNamed_20_3 i a (by omega)⟩) /- post1#1 -/
    ·
      refine wp_ck (z_ix_i.mpr ⟨⟨(by first | omega | grind) /- ix.lo (i_p0_start + z6)#1 -/, (by first | omega | grind) /- ix.hi (i_p0_start + z6)#1 -/⟩, (by first | omega | grind) /- ix.big (i_p0_start + z6)#1 -/⟩) ?_
      have hch := ch_z h5 h6 i_B_X9_isNamed_20_1 (by omega)
      have hb := h4 (i_p0_start + z6) (by omega) (by omega)
      refine wp_bd1 (s_J0_charAt_5068e _ _ (by first | assumption | omega) /- pre J0_charAt_5068e.1#1 -/ (by first | assumption | omega) /- pre J0_charAt_5068e.2#1 -/ (by first | assumption | omega) /- pre J0_charAt_5068e.3#1 -/ (by first | assumption | omega) /- pre J0_charAt_5068e.4#1 -/) (fun z11 q_J0_charAt_5068e_1 => ?_)
      try dsimp only at q_J0_charAt_5068e_1
      refine wp_ck (z_r32_i.mpr ⟨(by first | omega | grind) /- z_r32.lo (v_p0_bytes (i_p0_start + z6))#1 -/, (by first | omega | grind) /- z_r32.hi (v_p0_bytes (i_p0_start + z6))#1 -/⟩) ?_
      refine wp_ck (z_r32_i.mpr ⟨(by first | omega | grind) /- z_r32.lo z11#1 -/, (by first | omega | grind) /- z_r32.hi z11#1 -/⟩) ?_
      refine wp_if (fun c3 => ?_) (fun c3 => ?_)
      ·
        refine wp_bndE (fun z14 hz14 => ?_)
        exact ih_B_X9_isNamed_20 _ ⟨(by first | assumption | omega) /- B_X9_isNamed_20.inv1#1 -/, (by first | assumption | omega) /- B_X9_isNamed_20.inv2#1 -/, (by 
                                        intro i a b
                                        by_cases e : i = z6
                                        · subst e; omega
                                        · exact i_B_X9_isNamed_20_3 i a (by omega)) /- B_X9_isNamed_20.inv3#1 -/⟩ (by first | omega | grind) /- B_X9_isNamed_20.dec#1 -/
      ·
        refine wp_some ?_
        try dsimp only
        all_goals exact (by refine Or.inr ⟨rfl, fun hh => ?_⟩; have := hh.2 z6 (by omega) (by omega); omega) /- post1#2 -/
  ·
    refine wp_some ?_
    try dsimp only
    all_goals exact (by refine Or.inr ⟨rfl, fun hh => ?_⟩; have := hh.1; omega) /- post1#3 -/

set_option maxHeartbeats 1000000 in
theorem s_X10_begin (v_p0_rules_need : (Int → Int)) (v_p0_state_pieces : (Int → Int)) (v_p0_state_friends : (Int → Int)) (v_p0_state_spoons : (Int → Int)) (v_p0_state_eaten : (Int → Int)) : wp (f_X10_begin v_p0_rules_need v_p0_state_pieces v_p0_state_friends v_p0_state_spoons v_p0_state_eaten) (fun o => (o.1 = 0) ∧ (o.2.1 = 0) ∧ (o.2.2.1 = 0) ∧ (o.2.2.2.1 = 0) ∧ (o.2.2.2.2.1 = 0) ∧ (o.2.2.2.2.2.1 = 4) ∧ (o.2.2.2.2.2.2.1 = 0) ∧ (o.2.2.2.2.2.2.2.1 = z_fill v_p0_rules_need 7 0) ∧ (o.2.2.2.2.2.2.2.2.1 = 0) ∧ (o.2.2.2.2.2.2.2.2.2.1 = 0) ∧ (o.2.2.2.2.2.2.2.2.2.2.1 = 0) ∧ (o.2.2.2.2.2.2.2.2.2.2.2.1 = 0) ∧ (o.2.2.2.2.2.2.2.2.2.2.2.2.1 = z_fill v_p0_state_pieces 7 0) ∧ (o.2.2.2.2.2.2.2.2.2.2.2.2.2.1 = z_fill v_p0_state_friends 7 0) ∧ (o.2.2.2.2.2.2.2.2.2.2.2.2.2.2.1 = z_fill v_p0_state_spoons 7 1) ∧ (o.2.2.2.2.2.2.2.2.2.2.2.2.2.2.2 = z_fill v_p0_state_eaten 7 0)) := by
  unfold f_X10_begin
  refine wp_bd3 (s_X6_reset _) (fun z1 z2 w3 q_X6_reset_1 => ?_)
  try dsimp only at q_X6_reset_1
  obtain ⟨q_X6_reset_1_1, q_X6_reset_1_2, q_X6_reset_1_3⟩ := q_X6_reset_1
  refine wp_bd8 (s_X8_reset _ _ _ _) (fun z4 z5 z6 z7 w8 w9 w10 w11 q_X8_reset_1 => ?_)
  try dsimp only at q_X8_reset_1
  obtain ⟨q_X8_reset_1_1, q_X8_reset_1_2, q_X8_reset_1_3, q_X8_reset_1_4, q_X8_reset_1_5, q_X8_reset_1_6, q_X8_reset_1_7, q_X8_reset_1_8⟩ := q_X8_reset_1
  refine wp_bd1 (s_X9_rewind ) (fun z12 q_X9_rewind_1 => ?_)
  try dsimp only at q_X9_rewind_1
  refine wp_bnd ?_
  refine wp_bnd ?_
  refine wp_bnd ?_
  refine wp_bnd ?_
  refine wp_some ?_
  try dsimp only
  all_goals exact ⟨(by first | assumption | omega | rfl) /- post1#1 -/, (by first | assumption | omega | rfl) /- post2#1 -/, (by first | assumption | omega | rfl) /- post3#1 -/, (by first | assumption | omega | rfl) /- post4#1 -/, (by first | assumption | omega | rfl) /- post5#1 -/, (by first | assumption | omega | rfl) /- post6#1 -/, (by first | assumption | omega | rfl) /- post7#1 -/, (by first | assumption | omega | rfl) /- post8#1 -/, (by first | assumption | omega | rfl) /- post9#1 -/, (by first | assumption | omega | rfl) /- post10#1 -/, (by first | assumption | omega | rfl) /- post11#1 -/, (by first | assumption | omega | rfl) /- post12#1 -/, (by first | assumption | omega | rfl) /- post13#1 -/, (by first | assumption | omega | rfl) /- post14#1 -/, (by first | assumption | omega | rfl) /- post15#1 -/, (by first | assumption | omega | rfl) /- post16#1 -/⟩

set_option maxHeartbeats 1000000 in
theorem s_X10_nameOf (x0 : Int) (h1 : 0 ≤ x0) (h2 : x0 < 11) : wp (f_X10_nameOf x0) (fun o => (o = x0)) := by
  unfold f_X10_nameOf
  refine wp_ck (z_r32_i.mpr ⟨(by first | omega | grind) /- z_r32.lo x0#1 -/, (by first | omega | grind) /- z_r32.hi x0#1 -/⟩) ?_
  refine wp_if (fun c1 => ?_) (fun c1 => ?_)
  ·
    refine wp_some ?_
    try dsimp only
    all_goals exact (by omega) /- post1#1 -/
  ·
    refine wp_if (fun c2 => ?_) (fun c2 => ?_)
    ·
      refine wp_some ?_
      try dsimp only
      all_goals exact (by omega) /- post1#2 -/
    ·
      refine wp_if (fun c3 => ?_) (fun c3 => ?_)
      ·
        refine wp_some ?_
        try dsimp only
        all_goals exact (by omega) /- post1#3 -/
      ·
        refine wp_if (fun c4 => ?_) (fun c4 => ?_)
        ·
          refine wp_some ?_
          try dsimp only
          all_goals exact (by omega) /- post1#4 -/
        ·
          refine wp_if (fun c5 => ?_) (fun c5 => ?_)
          ·
            refine wp_some ?_
            try dsimp only
            all_goals exact (by omega) /- post1#5 -/
          ·
            refine wp_if (fun c6 => ?_) (fun c6 => ?_)
            ·
              refine wp_some ?_
              try dsimp only
              all_goals exact (by omega) /- post1#6 -/
            ·
              refine wp_if (fun c7 => ?_) (fun c7 => ?_)
              ·
                refine wp_some ?_
                try dsimp only
                all_goals exact (by omega) /- post1#7 -/
              ·
                refine wp_if (fun c8 => ?_) (fun c8 => ?_)
                ·
                  refine wp_some ?_
                  try dsimp only
                  all_goals exact (by omega) /- post1#8 -/
                ·
                  refine wp_if (fun c9 => ?_) (fun c9 => ?_)
                  ·
                    refine wp_some ?_
                    try dsimp only
                    all_goals exact (by omega) /- post1#9 -/
                  ·
                    refine wp_if (fun c10 => ?_) (fun c10 => ?_)
                    ·
                      refine wp_some ?_
                      try dsimp only
                      all_goals exact (by omega) /- post1#10 -/
                    ·
                      refine wp_some ?_
                      try dsimp only
                      all_goals exact (by omega) /- post1#11 -/

set_option maxHeartbeats 1000000 in
theorem s_X10_nameRead (i_p0_tape_at : Int) (i_p0_tape_token : Int) (i_p0_tape_start : Int) (v_p0_tape_bytes : (Int → Int)) (h1 : 0 ≤ i_p0_tape_start) (h2 : i_p0_tape_start ≤ i_p0_tape_at) (h3 : i_p0_tape_at ≤ 320) (h4 : ∀ j, 0 ≤ j → j < 320 → -128 ≤ v_p0_tape_bytes j ∧ v_p0_tape_bytes j < 128) (h5 : 0 ≤ i_p0_tape_token) (h6 : i_p0_tape_token ≤ 4) : wp (f_X10_nameRead i_p0_tape_at i_p0_tape_token i_p0_tape_start v_p0_tape_bytes) (fun o => ((0 ≤ o ∧ o < 11 ∧ i_p0_tape_token = 1 ∧ nmd v_p0_tape_bytes i_p0_tape_start i_p0_tape_at o ∧ ∀ k, 0 ≤ k → k < o → ¬ nmd v_p0_tape_bytes i_p0_tape_start i_p0_tape_at k) ∨ (o = -4 ∧ (i_p0_tape_token = 1 → ∀ k, 0 ≤ k → k < 11 → ¬ nmd v_p0_tape_bytes i_p0_tape_start i_p0_tape_at k)))) := by
  unfold f_X10_nameRead
  refine wp_bnd ?_
  refine wp_lq1 (fun (z2 : Int) => (0 ≤ z2) ∧ (z2 ≤ 11) ∧ (∀ k, 0 ≤ k → k < z2 → ¬ nmd v_p0_tape_bytes i_p0_tape_start i_p0_tape_at k)) (fun (z2 : Int) => (11 - z2).toNat) (fun again2 z2 hI ih_B_X10_nameRead_2 => ?_) 1000 _ ⟨(by first | assumption | omega) /- B_X10_nameRead_2.init1#1 -/, (by first | assumption | omega) /- B_X10_nameRead_2.init2#1 -/, (by intro i; omega) /- B_X10_nameRead_2.init3#1 -/⟩ (by first | omega | grind) /- B_X10_nameRead_2.fuel#1 -/
  obtain ⟨i_B_X10_nameRead_2_1, i_B_X10_nameRead_2_2, i_B_X10_nameRead_2_3⟩ := hI
  unfold B_X10_nameRead_2
  refine wp_ck (z_r32_i.mpr ⟨(by first | omega | grind) /- z_r32.lo z2#1 -/, (by first | omega | grind) /- z_r32.hi z2#1 -/⟩) ?_
  refine wp_if (fun c1 => ?_) (fun c1 => ?_)
  ·
    refine wp_some ?_
    try dsimp only
    all_goals exact (by exact Or.inr ⟨rfl, fun _ k a b => i_B_X10_nameRead_2_3 k a (by omega)⟩) /- post1#1 -/
  ·
    refine wp_ck (z_r32_i.mpr ⟨(by first | omega | grind) /- z_r32.lo i_p0_tape_token#1 -/, (by first | omega | grind) /- z_r32.hi i_p0_tape_token#1 -/⟩) ?_
    refine wp_if (fun c2 => ?_) (fun c2 => ?_)
    ·
      refine wp_bd1 (s_X10_nameOf _ (by first | assumption | omega) /- pre X10_nameOf.1#1 -/ (by first | assumption | omega) /- pre X10_nameOf.2#1 -/) (fun z6 q_X10_nameOf_1 => ?_)
      try dsimp only at q_X10_nameOf_1
      refine wp_bd1 (s_X9_isNamed _ _ _ _ (by first | assumption | omega) /- pre X9_isNamed.1#1 -/ (by first | assumption | omega) /- pre X9_isNamed.2#1 -/ (by first | assumption | omega) /- pre X9_isNamed.3#1 -/ (by exact h4) /- pre X9_isNamed.4#1 -/ (by first | assumption | omega) /- pre X9_isNamed.5#1 -/ (by first | assumption | omega) /- pre X9_isNamed.6#1 -/) (fun z7 q_X9_isNamed_1 => ?_)
      try dsimp only at q_X9_isNamed_1
      refine wp_ck (z_r32_i.mpr ⟨(by first | omega | grind) /- z_r32.lo z7#1 -/, (by first | omega | grind) /- z_r32.hi z7#1 -/⟩) ?_
      refine wp_if (fun c3 => ?_) (fun c3 => ?_)
      ·
        refine wp_bndE (fun z9 hz9 => ?_)
        exact ih_B_X10_nameRead_2 _ ⟨(by first | assumption | omega) /- B_X10_nameRead_2.inv1#1 -/, (by first | assumption | omega) /- B_X10_nameRead_2.inv2#1 -/, (by 
                                        intro k a b
                                        by_cases e : k = z2
                                        · subst e
                                          rcases q_X9_isNamed_1 with hh | hh
                                          · omega
                                          · rw [q_X10_nameOf_1] at hh; exact hh.2
                                        · exact i_B_X10_nameRead_2_3 k a (by omega)) /- B_X10_nameRead_2.inv3#1 -/⟩ (by first | omega | grind) /- B_X10_nameRead_2.dec#1 -/
      ·
        refine wp_some ?_
        try dsimp only
        all_goals exact (by 
                                        rcases q_X9_isNamed_1 with hh | hh
                                        · exact Or.inl ⟨by omega, by omega, by assumption, by rw [q_X10_nameOf_1] at hh; exact hh.2, i_B_X10_nameRead_2_3⟩
                                        · omega) /- post1#2 -/
    ·
      refine wp_some ?_
      try dsimp only
      all_goals exact (by exact Or.inr ⟨rfl, fun h => absurd h (by assumption)⟩) /- post1#3 -/

set_option maxHeartbeats 1000000 in
theorem s_X10_faultOfName (i_p0_met : Int) (i_p0_tape_token : Int) (i_p0_rules_stirs : Int) (x1 : Int) (h1 : 0 ≤ i_p0_tape_token) (h2 : i_p0_tape_token ≤ 4) (h3 : -4 ≤ x1) (h4 : x1 < 11) (h5 : 0 ≤ i_p0_rules_stirs) (h6 : i_p0_rules_stirs ≤ 5) : wp (f_X10_faultOfName i_p0_met i_p0_tape_token i_p0_rules_stirs x1) (fun o => (o = if i_p0_tape_token = 4 then 1 else if x1 = -4 then 2 else if x1 ≤ 3 ∧ ¬ bt i_p0_met x1 = 0 then 4 else if 7 ≤ x1 ∧ 5 ≤ i_p0_rules_stirs then 5 else 0)) := by
  unfold f_X10_faultOfName
  refine wp_ck (z_r32_i.mpr ⟨(by first | omega | grind) /- z_r32.lo i_p0_tape_token#1 -/, (by first | omega | grind) /- z_r32.hi i_p0_tape_token#1 -/⟩) ?_
  refine wp_if (fun c1 => ?_) (fun c1 => ?_)
  ·
    refine wp_some ?_
    try dsimp only
    all_goals exact (by first | assumption | (unfold bt; simp only [*]; first | omega | (simp; try omega) | (split <;> (try split) <;> (try split) <;> (try split) <;> omega))) /- post1#1 -/
  ·
    refine wp_ck (z_r32_i.mpr ⟨(by first | omega | grind) /- z_r32.lo x1#1 -/, (by first | omega | grind) /- z_r32.hi x1#1 -/⟩) ?_
    refine wp_if (fun c2 => ?_) (fun c2 => ?_)
    ·
      refine wp_some ?_
      try dsimp only
      all_goals exact (by first | assumption | (unfold bt; simp only [*]; first | omega | (simp; try omega) | (split <;> (try split) <;> (try split) <;> (try split) <;> omega))) /- post1#2 -/
    ·
      refine wp_jn ?_
      refine wp_if (fun c3 => ?_) (fun c3 => ?_)
      ·
        refine wp_if (fun c4 => ?_) (fun c4 => ?_)
        ·
          refine wp_some ?_
          try dsimp only
          all_goals exact (by first | assumption | (unfold bt; simp only [*]; first | omega | (simp; try omega) | (split <;> (try split) <;> (try split) <;> (try split) <;> omega))) /- post1#3 -/
        ·
          refine wp_ck (z_r32_i.mpr ⟨(by first | omega | grind) /- z_r32.lo i_p0_rules_stirs#1 -/, (by first | omega | grind) /- z_r32.hi i_p0_rules_stirs#1 -/⟩) ?_
          refine wp_if (fun c5 => ?_) (fun c5 => ?_)
          ·
            refine wp_some ?_
            try dsimp only
            all_goals exact (by first | assumption | (unfold bt; simp only [*]; first | omega | (simp; try omega) | (split <;> (try split) <;> (try split) <;> (try split) <;> omega))) /- post1#4 -/
          ·
            refine wp_some ?_
            try dsimp only
            all_goals exact (by first | assumption | (unfold bt; simp only [*]; first | omega | (simp; try omega) | (split <;> (try split) <;> (try split) <;> (try split) <;> omega))) /- post1#5 -/
      ·
        refine wp_ck (z_r32_t _) ?_
        refine wp_if (fun c6 => ?_) (fun c6 => ?_)
        ·
          refine wp_if (fun c7 => ?_) (fun c7 => ?_)
          ·
            refine wp_some ?_
            try dsimp only
            all_goals exact (by first | assumption | (unfold bt; simp only [*]; first | omega | (simp; try omega) | (split <;> (try split) <;> (try split) <;> (try split) <;> omega))) /- post1#6 -/
          ·
            refine wp_ck (z_r32_i.mpr ⟨(by first | omega | grind) /- z_r32.lo i_p0_rules_stirs#2 -/, (by first | omega | grind) /- z_r32.hi i_p0_rules_stirs#2 -/⟩) ?_
            refine wp_if (fun c8 => ?_) (fun c8 => ?_)
            ·
              refine wp_some ?_
              try dsimp only
              all_goals exact (by first | assumption | (unfold bt; simp only [*]; first | omega | (simp; try omega) | (split <;> (try split) <;> (try split) <;> (try split) <;> omega))) /- post1#7 -/
            ·
              refine wp_some ?_
              try dsimp only
              all_goals exact (by first | assumption | (unfold bt; simp only [*]; first | omega | (simp; try omega) | (split <;> (try split) <;> (try split) <;> (try split) <;> omega))) /- post1#8 -/
        ·
          refine wp_some ?_
          try dsimp only
          all_goals exact (by first | assumption | (unfold bt; simp only [*]; first | omega | (simp; try omega) | (split <;> (try split) <;> (try split) <;> (try split) <;> omega))) /- post1#9 -/

set_option maxHeartbeats 1000000 in
theorem s_X10_refuse (x1 : Int) (x2 : Int) : wp (f_X10_refuse x1 x2) (fun o => (o.1 = 0) ∧ (o.2.1 = x1) ∧ (o.2.2 = x2)) := by
  unfold f_X10_refuse
  refine wp_bnd ?_
  refine wp_bnd ?_
  refine wp_some ?_
  try dsimp only
  all_goals exact ⟨(by first | assumption | omega) /- post1#1 -/, (by first | assumption | omega) /- post2#1 -/, (by first | assumption | omega) /- post3#1 -/⟩

set_option maxHeartbeats 1000000 in
theorem s_X10_heed (i_p0_greatest : Int) (x1 : Int) (h1 : 0 ≤ i_p0_greatest) (h2 : i_p0_greatest ≤ 6) (h3 : 0 ≤ x1) (h4 : x1 ≤ 6) : wp (f_X10_heed i_p0_greatest x1) (fun o => (o = max i_p0_greatest x1)) := by
  unfold f_X10_heed
  refine wp_ck (z_r32_i.mpr ⟨(by first | omega | grind) /- z_r32.lo i_p0_greatest#1 -/, (by first | omega | grind) /- z_r32.hi i_p0_greatest#1 -/⟩) ?_
  refine wp_ck (z_r32_i.mpr ⟨(by first | omega | grind) /- z_r32.lo x1#1 -/, (by first | omega | grind) /- z_r32.hi x1#1 -/⟩) ?_
  refine wp_bndE (fun z3 hz3 => ?_)
  refine wp_some ?_
  try dsimp only
  all_goals exact (by first | assumption | omega) /- post1#1 -/

set_option maxHeartbeats 1000000 in
theorem s_X10_takeStir (i_p0_greatest : Int) (i_p0_rules_stirs : Int) (v_p0_rules_kind : (Int → Int)) (v_p0_rules_first : (Int → Int)) (v_p0_rules_second : (Int → Int)) (x1 : Int) (x2 : Int) (x3 : Int) (h1 : 0 ≤ i_p0_rules_stirs) (h2 : i_p0_rules_stirs < 5) (h3 : 7 ≤ x1) (h4 : x1 ≤ 10) (h5 : 0 ≤ i_p0_greatest) (h6 : i_p0_greatest ≤ 6) (h7 : x1 = 9 ∨ x1 = 10 → 0 ≤ x2 ∧ x2 ≤ 6) (h8 : x1 = 9 → 0 ≤ x3 ∧ x3 ≤ 6) : wp (f_X10_takeStir i_p0_greatest i_p0_rules_stirs v_p0_rules_kind v_p0_rules_first v_p0_rules_second x1 x2 x3) (fun o => (o.1 = if x1 = 9 then max i_p0_greatest (max x2 x3) else if x1 = 10 then max i_p0_greatest x2 else i_p0_greatest) ∧ (o.2.1 = i_p0_rules_stirs + 1) ∧ (o.2.2.1 = z_up v_p0_rules_kind i_p0_rules_stirs x1) ∧ (o.2.2.2.1 = z_up v_p0_rules_first i_p0_rules_stirs x2) ∧ (o.2.2.2.2 = z_up v_p0_rules_second i_p0_rules_stirs x3)) := by
  unfold f_X10_takeStir
  refine wp_bd4 (s_X6_addStir _ _ _ _ _ _ _ (by first | assumption | omega) /- pre X6_addStir.1#1 -/ (by first | assumption | omega) /- pre X6_addStir.2#1 -/) (fun z1 w2 w3 w4 q_X6_addStir_1 => ?_)
  try dsimp only at q_X6_addStir_1
  obtain ⟨q_X6_addStir_1_1, q_X6_addStir_1_2, q_X6_addStir_1_3, q_X6_addStir_1_4⟩ := q_X6_addStir_1
  refine wp_ck (z_r32_i.mpr ⟨(by first | omega | grind) /- z_r32.lo x1#1 -/, (by first | omega | grind) /- z_r32.hi x1#1 -/⟩) ?_
  refine wp_if (fun c1 => ?_) (fun c1 => ?_)
  ·
    refine wp_ck (z_r32_i.mpr ⟨(by first | omega | grind) /- z_r32.lo x2#1 -/, (by first | omega | grind) /- z_r32.hi x2#1 -/⟩) ?_
    refine wp_ck (z_r32_i.mpr ⟨(by first | omega | grind) /- z_r32.lo x3#1 -/, (by first | omega | grind) /- z_r32.hi x3#1 -/⟩) ?_
    refine wp_bd1 (s_X10_heed _ _ (by first | assumption | omega) /- pre X10_heed.1#1 -/ (by first | assumption | omega) /- pre X10_heed.2#1 -/ (by first | assumption | omega) /- pre X10_heed.3#1 -/ (by first | assumption | omega) /- pre X10_heed.4#1 -/) (fun z9 q_X10_heed_1 => ?_)
    try dsimp only at q_X10_heed_1
    refine wp_some ?_
    try dsimp only
    all_goals exact ⟨(by rw [if_pos c1]; assumption) /- post1#1 -/, (by first | assumption | omega) /- post2#1 -/, (by first | assumption | omega) /- post3#1 -/, (by first | assumption | omega) /- post4#1 -/, (by first | assumption | omega) /- post5#1 -/⟩
  ·
    refine wp_if (fun c2 => ?_) (fun c2 => ?_)
    ·
      refine wp_bd1 (s_X10_heed _ _ (by first | assumption | omega) /- pre X10_heed.1#2 -/ (by first | assumption | omega) /- pre X10_heed.2#2 -/ (by first | assumption | omega) /- pre X10_heed.3#2 -/ (by first | assumption | omega) /- pre X10_heed.4#2 -/) (fun z6 q_X10_heed_2 => ?_)
      try dsimp only at q_X10_heed_2
      refine wp_some ?_
      try dsimp only
      all_goals exact ⟨(by rw [if_neg c1, if_pos c2]; assumption) /- post1#2 -/, (by first | assumption | omega) /- post2#2 -/, (by first | assumption | omega) /- post3#2 -/, (by first | assumption | omega) /- post4#2 -/, (by first | assumption | omega) /- post5#2 -/⟩
    ·
      refine wp_some ?_
      try dsimp only
      all_goals exact ⟨(by rw [if_neg c1, if_neg c2]) /- post1#3 -/, (by first | assumption | omega) /- post2#3 -/, (by first | assumption | omega) /- post3#3 -/, (by first | assumption | omega) /- post4#3 -/, (by first | assumption | omega) /- post5#3 -/⟩

set_option maxHeartbeats 4000000 in
theorem s_X10_takeLine (i_p0_lines : Int) (i_p0_greatest : Int) (i_p0_rules_seats : Int) (i_p0_rules_stirs : Int) (v_p0_rules_need : (Int → Int)) (v_p0_rules_kind : (Int → Int)) (v_p0_rules_first : (Int → Int)) (v_p0_rules_second : (Int → Int)) (i_p0_state_bone : Int) (i_p0_state_king : Int) (v_p0_state_pieces : (Int → Int)) (v_p0_state_friends : (Int → Int)) (v_p0_state_spoons : (Int → Int)) (v_p0_numbers : (Int → Int)) (x1 : Int) (x2 : Int) (h1 : 0 ≤ x1) (h2 : x1 < 11) (h3 : 0 ≤ x2) (h4 : x2 ≤ 7) (h5 : x1 = 1 → 1 ≤ x2) (h6 : 0 ≤ i_p0_greatest) (h7 : i_p0_greatest ≤ 6) (h8 : 0 ≤ i_p0_rules_stirs) (h9 : 7 ≤ x1 → i_p0_rules_stirs < 5) (h10 : (x1 = 2 ∨ x1 = 3 ∨ x1 = 4 ∨ x1 = 5 ∨ x1 = 6 ∨ x1 = 9 ∨ x1 = 10) → 0 ≤ (v_p0_numbers 0) ∧ (v_p0_numbers 0) ≤ 6) (h11 : (x1 = 4 ∨ x1 = 9) → 0 ≤ (v_p0_numbers 1) ∧ (v_p0_numbers 1) ≤ 6) : wp (f_X10_takeLine i_p0_lines i_p0_greatest i_p0_rules_seats i_p0_rules_stirs v_p0_rules_need v_p0_rules_kind v_p0_rules_first v_p0_rules_second i_p0_state_bone i_p0_state_king v_p0_state_pieces v_p0_state_friends v_p0_state_spoons v_p0_numbers x1 x2) (fun o => (o.1 = i_p0_lines + 1) ∧ (o.2.1 = grt x1 x2 i_p0_greatest (v_p0_numbers 0) (v_p0_numbers 1)) ∧ (o.2.2.1 = if x1 = 0 then (v_p0_numbers 0) else i_p0_rules_seats) ∧ (o.2.2.2.1 = if 7 ≤ x1 then i_p0_rules_stirs + 1 else i_p0_rules_stirs) ∧ (o.2.2.2.2.1 = if x1 = 6 then z_up v_p0_rules_need (v_p0_numbers 0) (v_p0_numbers 1) else v_p0_rules_need) ∧ (o.2.2.2.2.2.1 = if 7 ≤ x1 then z_up v_p0_rules_kind i_p0_rules_stirs x1 else v_p0_rules_kind) ∧ (o.2.2.2.2.2.2.1 = if 7 ≤ x1 then z_up v_p0_rules_first i_p0_rules_stirs (v_p0_numbers 0) else v_p0_rules_first) ∧ (o.2.2.2.2.2.2.2.1 = if 7 ≤ x1 then z_up v_p0_rules_second i_p0_rules_stirs (v_p0_numbers 1) else v_p0_rules_second) ∧ (o.2.2.2.2.2.2.2.2.1 = if x1 = 2 then (v_p0_numbers 0) else i_p0_state_bone) ∧ (o.2.2.2.2.2.2.2.2.2.1 = if x1 = 3 then (v_p0_numbers 0) else i_p0_state_king) ∧ (o.2.2.2.2.2.2.2.2.2.2.1 = if x1 = 1 then z_cpy v_p0_numbers v_p0_state_pieces 0 0 x2 else v_p0_state_pieces) ∧ (o.2.2.2.2.2.2.2.2.2.2.2.1 = if x1 = 4 then z_up v_p0_state_friends (v_p0_numbers 0) (z_or (v_p0_state_friends (v_p0_numbers 0)) (z_shl 1 (v_p0_numbers 1))) else v_p0_state_friends) ∧ (o.2.2.2.2.2.2.2.2.2.2.2.2 = if x1 = 5 then z_up v_p0_state_spoons (v_p0_numbers 0) (v_p0_numbers 1) else v_p0_state_spoons)) := by
  unfold f_X10_takeLine
  refine wp_bndE (fun z1 hz1 => ?_)
  refine wp_ck (z_ix_i.mpr ⟨⟨(by first | omega | grind) /- ix.lo (0 : Int)#1 -/, (by first | omega | grind) /- ix.hi (0 : Int)#1 -/⟩, (by first | omega | grind) /- ix.big (0 : Int)#1 -/⟩) ?_
  refine wp_bndE (fun z2 hz2 => ?_)
  refine wp_ck (z_ix_i.mpr ⟨⟨(by first | omega | grind) /- ix.lo (1 : Int)#1 -/, (by first | omega | grind) /- ix.hi (1 : Int)#1 -/⟩, (by first | omega | grind) /- ix.big (1 : Int)#1 -/⟩) ?_
  refine wp_bndE (fun z3 hz3 => ?_)
  refine wp_ck (z_r32_i.mpr ⟨(by first | omega | grind) /- z_r32.lo x1#1 -/, (by first | omega | grind) /- z_r32.hi x1#1 -/⟩) ?_
  refine wp_if (fun c1 => ?_) (fun c1 => ?_)
  ·
    refine wp_bnd ?_
    refine wp_some ?_
    try dsimp only
    all_goals exact ⟨(by omega) /- post1#1 -/, (by unfold grt; rw [if_neg (by omega), if_neg (by omega), if_neg (by omega)]) /- post2#1 -/, (by rw [if_pos (by omega)]; omega) /- post3#1 -/, (by rw [if_neg (by omega)]) /- post4#1 -/, (by rw [if_neg (by omega)]) /- post5#1 -/, (by rw [if_neg (by omega)]) /- post6#1 -/, (by rw [if_neg (by omega)]) /- post7#1 -/, (by rw [if_neg (by omega)]) /- post8#1 -/, (by rw [if_neg (by omega)]) /- post9#1 -/, (by rw [if_neg (by omega)]) /- post10#1 -/, (by rw [if_neg (by omega)]) /- post11#1 -/, (by rw [if_neg (by omega)]) /- post12#1 -/, (by rw [if_neg (by omega)]) /- post13#1 -/⟩
  ·
    refine wp_if (fun c2 => ?_) (fun c2 => ?_)
    ·
      refine wp_ck (z_cp_i.mpr ⟨⟨⟨(by first | omega | grind) /- cp.0 (0 : Int)#1 -/, (by first | omega | grind) /- cp.1 (0 : Int)#1 -/⟩, (by first | omega | grind) /- cp.2 (0 : Int)#1 -/⟩, (by first | omega | grind) /- cp.3 (0 : Int)#1 -/⟩) ?_
      refine wp_ck (z_cp_i.mpr ⟨⟨⟨(by first | omega | grind) /- cp.0 (0 : Int)#2 -/, (by first | omega | grind) /- cp.1 (0 : Int)#2 -/⟩, (by first | omega | grind) /- cp.2 (0 : Int)#2 -/⟩, (by first | omega | grind) /- cp.3 (0 : Int)#2 -/⟩) ?_
      refine wp_bnd ?_
      refine wp_bd1 (s_X10_heed _ _ (by first | assumption | omega) /- pre X10_heed.1#1 -/ (by first | assumption | omega) /- pre X10_heed.2#1 -/ (by first | assumption | omega) /- pre X10_heed.3#1 -/ (by first | assumption | omega) /- pre X10_heed.4#1 -/) (fun z9 q_X10_heed_1 => ?_)
      try dsimp only at q_X10_heed_1
      refine wp_some ?_
      try dsimp only
      all_goals exact ⟨(by omega) /- post1#2 -/, (by unfold grt; rw [if_pos (by omega)]; assumption) /- post2#2 -/, (by rw [if_neg (by omega)]) /- post3#2 -/, (by rw [if_neg (by omega)]) /- post4#2 -/, (by rw [if_neg (by omega)]) /- post5#2 -/, (by rw [if_neg (by omega)]) /- post6#2 -/, (by rw [if_neg (by omega)]) /- post7#2 -/, (by rw [if_neg (by omega)]) /- post8#2 -/, (by rw [if_neg (by omega)]) /- post9#2 -/, (by rw [if_neg (by omega)]) /- post10#2 -/, (by rw [if_pos (by omega)]) /- post11#2 -/, (by rw [if_neg (by omega)]) /- post12#2 -/, (by rw [if_neg (by omega)]) /- post13#2 -/⟩
    ·
      refine wp_if (fun c3 => ?_) (fun c3 => ?_)
      ·
        refine wp_bnd ?_
        refine wp_bd1 (s_X10_heed _ _ (by first | assumption | omega) /- pre X10_heed.1#2 -/ (by first | assumption | omega) /- pre X10_heed.2#2 -/ (by first | assumption | omega) /- pre X10_heed.3#2 -/ (by first | assumption | omega) /- pre X10_heed.4#2 -/) (fun z12 q_X10_heed_2 => ?_)
        try dsimp only at q_X10_heed_2
        refine wp_some ?_
        try dsimp only
        all_goals exact ⟨(by omega) /- post1#3 -/, (by unfold grt; rw [if_neg (by omega), if_neg (by omega), if_pos (by omega), ← hz2]; assumption) /- post2#3 -/, (by rw [if_neg (by omega)]) /- post3#3 -/, (by rw [if_neg (by omega)]) /- post4#3 -/, (by rw [if_neg (by omega)]) /- post5#3 -/, (by rw [if_neg (by omega)]) /- post6#3 -/, (by rw [if_neg (by omega)]) /- post7#3 -/, (by rw [if_neg (by omega)]) /- post8#3 -/, (by rw [if_pos (by omega)]; omega) /- post9#3 -/, (by rw [if_neg (by omega)]) /- post10#3 -/, (by rw [if_neg (by omega)]) /- post11#3 -/, (by rw [if_neg (by omega)]) /- post12#3 -/, (by rw [if_neg (by omega)]) /- post13#3 -/⟩
      ·
        refine wp_if (fun c4 => ?_) (fun c4 => ?_)
        ·
          refine wp_bnd ?_
          refine wp_bd1 (s_X10_heed _ _ (by first | assumption | omega) /- pre X10_heed.1#3 -/ (by first | assumption | omega) /- pre X10_heed.2#3 -/ (by first | assumption | omega) /- pre X10_heed.3#3 -/ (by first | assumption | omega) /- pre X10_heed.4#3 -/) (fun z15 q_X10_heed_3 => ?_)
          try dsimp only at q_X10_heed_3
          refine wp_some ?_
          try dsimp only
          all_goals exact ⟨(by omega) /- post1#4 -/, (by unfold grt; rw [if_neg (by omega), if_neg (by omega), if_pos (by omega), ← hz2]; assumption) /- post2#4 -/, (by rw [if_neg (by omega)]) /- post3#4 -/, (by rw [if_neg (by omega)]) /- post4#4 -/, (by rw [if_neg (by omega)]) /- post5#4 -/, (by rw [if_neg (by omega)]) /- post6#4 -/, (by rw [if_neg (by omega)]) /- post7#4 -/, (by rw [if_neg (by omega)]) /- post8#4 -/, (by rw [if_neg (by omega)]) /- post9#4 -/, (by rw [if_pos (by omega)]; omega) /- post10#4 -/, (by rw [if_neg (by omega)]) /- post11#4 -/, (by rw [if_neg (by omega)]) /- post12#4 -/, (by rw [if_neg (by omega)]) /- post13#4 -/⟩
        ·
          refine wp_if (fun c5 => ?_) (fun c5 => ?_)
          ·
            refine wp_bd1 (s_X8_setFriend _ _ _ _ (by first | assumption | omega) /- pre X8_setFriend.1#1 -/ (by first | assumption | omega) /- pre X8_setFriend.2#1 -/ (by first | assumption | omega) /- pre X8_setFriend.3#1 -/ (by first | assumption | omega) /- pre X8_setFriend.4#1 -/) (fun w17 q_X8_setFriend_1 => ?_)
            try dsimp only at q_X8_setFriend_1
            refine wp_ck (z_r32_i.mpr ⟨(by first | omega | grind) /- z_r32.lo z2#1 -/, (by first | omega | grind) /- z_r32.hi z2#1 -/⟩) ?_
            refine wp_ck (z_r32_i.mpr ⟨(by first | omega | grind) /- z_r32.lo z3#1 -/, (by first | omega | grind) /- z_r32.hi z3#1 -/⟩) ?_
            refine wp_bd1 (s_X10_heed _ _ (by first | assumption | omega) /- pre X10_heed.1#4 -/ (by first | assumption | omega) /- pre X10_heed.2#4 -/ (by first | assumption | omega) /- pre X10_heed.3#4 -/ (by first | assumption | omega) /- pre X10_heed.4#4 -/) (fun z20 q_X10_heed_4 => ?_)
            try dsimp only at q_X10_heed_4
            refine wp_some ?_
            try dsimp only
            all_goals exact ⟨(by omega) /- post1#5 -/, (by unfold grt; rw [if_neg (by omega), if_pos (by omega), ← hz2, ← hz3]; assumption) /- post2#5 -/, (by rw [if_neg (by omega)]) /- post3#5 -/, (by rw [if_neg (by omega)]) /- post4#5 -/, (by rw [if_neg (by omega)]) /- post5#5 -/, (by rw [if_neg (by omega)]) /- post6#5 -/, (by rw [if_neg (by omega)]) /- post7#5 -/, (by rw [if_neg (by omega)]) /- post8#5 -/, (by rw [if_neg (by omega)]) /- post9#5 -/, (by rw [if_neg (by omega)]) /- post10#5 -/, (by rw [if_neg (by omega)]) /- post11#5 -/, (by rw [if_pos (by omega), ← hz2, ← hz3]; rw [if_neg (by decide)] at q_X8_setFriend_1; exact q_X8_setFriend_1) /- post12#5 -/, (by rw [if_neg (by omega)]) /- post13#5 -/⟩
          ·
            refine wp_if (fun c6 => ?_) (fun c6 => ?_)
            ·
              refine wp_ck (z_ix_i.mpr ⟨⟨(by first | omega | grind) /- ix.lo z2#1 -/, (by first | omega | grind) /- ix.hi z2#1 -/⟩, (by first | omega | grind) /- ix.big z2#1 -/⟩) ?_
              refine wp_bnd ?_
              refine wp_bd1 (s_X10_heed _ _ (by first | assumption | omega) /- pre X10_heed.1#5 -/ (by first | assumption | omega) /- pre X10_heed.2#5 -/ (by first | assumption | omega) /- pre X10_heed.3#5 -/ (by first | assumption | omega) /- pre X10_heed.4#5 -/) (fun z23 q_X10_heed_5 => ?_)
              try dsimp only at q_X10_heed_5
              refine wp_some ?_
              try dsimp only
              all_goals exact ⟨(by omega) /- post1#6 -/, (by unfold grt; rw [if_neg (by omega), if_neg (by omega), if_pos (by omega), ← hz2]; assumption) /- post2#6 -/, (by rw [if_neg (by omega)]) /- post3#6 -/, (by rw [if_neg (by omega)]) /- post4#6 -/, (by rw [if_neg (by omega)]) /- post5#6 -/, (by rw [if_neg (by omega)]) /- post6#6 -/, (by rw [if_neg (by omega)]) /- post7#6 -/, (by rw [if_neg (by omega)]) /- post8#6 -/, (by rw [if_neg (by omega)]) /- post9#6 -/, (by rw [if_neg (by omega)]) /- post10#6 -/, (by rw [if_neg (by omega)]) /- post11#6 -/, (by rw [if_neg (by omega)]) /- post12#6 -/, (by rw [if_pos (by omega), ← hz2, ← hz3]) /- post13#6 -/⟩
            ·
              refine wp_if (fun c7 => ?_) (fun c7 => ?_)
              ·
                refine wp_ck (z_ix_i.mpr ⟨⟨(by first | omega | grind) /- ix.lo z2#2 -/, (by first | omega | grind) /- ix.hi z2#2 -/⟩, (by first | omega | grind) /- ix.big z2#2 -/⟩) ?_
                refine wp_bnd ?_
                refine wp_bd1 (s_X10_heed _ _ (by first | assumption | omega) /- pre X10_heed.1#6 -/ (by first | assumption | omega) /- pre X10_heed.2#6 -/ (by first | assumption | omega) /- pre X10_heed.3#6 -/ (by first | assumption | omega) /- pre X10_heed.4#6 -/) (fun z26 q_X10_heed_6 => ?_)
                try dsimp only at q_X10_heed_6
                refine wp_some ?_
                try dsimp only
                all_goals exact ⟨(by omega) /- post1#7 -/, (by unfold grt; rw [if_neg (by omega), if_neg (by omega), if_pos (by omega), ← hz2]; assumption) /- post2#7 -/, (by rw [if_neg (by omega)]) /- post3#7 -/, (by rw [if_neg (by omega)]) /- post4#7 -/, (by rw [if_pos (by omega), ← hz2, ← hz3]) /- post5#7 -/, (by rw [if_neg (by omega)]) /- post6#7 -/, (by rw [if_neg (by omega)]) /- post7#7 -/, (by rw [if_neg (by omega)]) /- post8#7 -/, (by rw [if_neg (by omega)]) /- post9#7 -/, (by rw [if_neg (by omega)]) /- post10#7 -/, (by rw [if_neg (by omega)]) /- post11#7 -/, (by rw [if_neg (by omega)]) /- post12#7 -/, (by rw [if_neg (by omega)]) /- post13#7 -/⟩
              ·
                refine wp_bd5 (s_X10_takeStir _ _ _ _ _ _ _ _ (by first | assumption | omega) /- pre X10_takeStir.1#1 -/ (by first | assumption | omega) /- pre X10_takeStir.2#1 -/ (by first | assumption | omega) /- pre X10_takeStir.3#1 -/ (by first | assumption | omega) /- pre X10_takeStir.4#1 -/ (by first | assumption | omega) /- pre X10_takeStir.5#1 -/ (by first | assumption | omega) /- pre X10_takeStir.6#1 -/ (by first | assumption | omega) /- pre X10_takeStir.7#1 -/ (by first | assumption | omega) /- pre X10_takeStir.8#1 -/) (fun z27 z28 w29 w30 w31 q_X10_takeStir_1 => ?_)
                try dsimp only at q_X10_takeStir_1
                obtain ⟨q_X10_takeStir_1_1, q_X10_takeStir_1_2, q_X10_takeStir_1_3, q_X10_takeStir_1_4, q_X10_takeStir_1_5⟩ := q_X10_takeStir_1
                refine wp_some ?_
                try dsimp only
                all_goals exact ⟨(by omega) /- post1#8 -/, (by 
                                        rw [q_X10_takeStir_1_1, hz2, hz3]
                                        unfold grt
                                        rw [if_neg (show ¬ x1 = 1 from by omega)]
                                        by_cases e9 : x1 = 9
                                        · rw [if_pos e9, if_pos (Or.inr e9)]
                                        · rw [if_neg e9, if_neg (show ¬ (x1 = 4 ∨ x1 = 9) from by omega)]
                                          by_cases e10 : x1 = 10
                                          · rw [if_pos e10, if_pos (by omega)]
                                          · rw [if_neg e10, if_neg (by omega)]) /- post2#8 -/, (by rw [if_neg (by omega)]) /- post3#8 -/, (by rw [if_pos (by omega)]; exact q_X10_takeStir_1_2) /- post4#8 -/, (by rw [if_neg (by omega)]) /- post5#8 -/, (by rw [if_pos (by omega)]; exact q_X10_takeStir_1_3) /- post6#8 -/, (by rw [if_pos (by omega)]; rw [← hz2]; exact q_X10_takeStir_1_4) /- post7#8 -/, (by rw [if_pos (by omega)]; rw [← hz3]; exact q_X10_takeStir_1_5) /- post8#8 -/, (by rw [if_neg (by omega)]) /- post9#8 -/, (by rw [if_neg (by omega)]) /- post10#8 -/, (by rw [if_neg (by omega)]) /- post11#8 -/, (by rw [if_neg (by omega)]) /- post12#8 -/, (by rw [if_neg (by omega)]) /- post13#8 -/⟩

set_option maxHeartbeats 1000000 in
theorem s_X10_isAgain (i_p0_tape_value : Int) (v_p0_state_friends : (Int → Int)) (v_p0_numbers : (Int → Int)) (x1 : Int) (h1 : 0 ≤ i_p0_tape_value) (h2 : i_p0_tape_value ≤ 99) (h3 : 0 ≤ v_p0_numbers 0) (h4 : v_p0_numbers 0 ≤ 9) (h5 : 0 ≤ x1) (h6 : x1 < 11) (h7 : x1 = 4 → v_p0_numbers 0 ≤ 6) : wp (f_X10_isAgain i_p0_tape_value v_p0_state_friends v_p0_numbers x1) (fun o => ((o = 1 ∧ agn v_p0_state_friends v_p0_numbers x1 i_p0_tape_value) ∨ (o = 0 ∧ ¬ agn v_p0_state_friends v_p0_numbers x1 i_p0_tape_value))) := by
  unfold f_X10_isAgain
  refine wp_ck (z_ix_i.mpr ⟨⟨(by first | omega | grind) /- ix.lo (0 : Int)#1 -/, (by first | omega | grind) /- ix.hi (0 : Int)#1 -/⟩, (by first | omega | grind) /- ix.big (0 : Int)#1 -/⟩) ?_
  refine wp_ck (z_r32_i.mpr ⟨(by first | omega | grind) /- z_r32.lo i_p0_tape_value#1 -/, (by first | omega | grind) /- z_r32.hi i_p0_tape_value#1 -/⟩) ?_
  refine wp_ck (z_r32_i.mpr ⟨(by first | omega | grind) /- z_r32.lo (v_p0_numbers (0 : Int))#1 -/, (by first | omega | grind) /- z_r32.hi (v_p0_numbers (0 : Int))#1 -/⟩) ?_
  refine wp_jn ?_
  refine wp_if (fun c1 => ?_) (fun c1 => ?_)
  ·
    refine wp_bnd ?_
    refine wp_ck (z_r32_i.mpr ⟨(by first | omega | grind) /- z_r32.lo x1#1 -/, (by first | omega | grind) /- z_r32.hi x1#1 -/⟩) ?_
    refine wp_if (fun c2 => ?_) (fun c2 => ?_)
    ·
      refine wp_ck (z_r32_i.mpr ⟨(by first | omega | grind) /- z_r32.lo z5#1 -/, (by first | omega | grind) /- z_r32.hi z5#1 -/⟩) ?_
      refine wp_if (fun c3 => ?_) (fun c3 => ?_)
      ·
        refine wp_ck (z_ix_i.mpr ⟨⟨(by first | omega | grind) /- ix.lo (0 : Int)#2 -/, (by first | omega | grind) /- ix.hi (0 : Int)#2 -/⟩, (by first | omega | grind) /- ix.big (0 : Int)#2 -/⟩) ?_
        refine wp_bd1 (s_X8_isFriend _ _ _ (by first | assumption | omega | (unfold agn; first | (left; refine ⟨rfl, ?_⟩; first | omega | (left; refine ⟨by omega, ?_⟩; right; intro hb; rw [if_pos hb] at q_X8_isFriend_2; omega) | (left; refine ⟨by omega, ?_⟩; right; intro hb; rw [if_pos hb] at q_X8_isFriend_1; omega)) | (right; refine ⟨rfl, ?_⟩; intro hh; rcases hh with ⟨h8, h9 | h9⟩ | ⟨h8, h9⟩ <;> first | omega | (rw [if_neg h9] at q_X8_isFriend_2; omega) | (rw [if_neg h9] at q_X8_isFriend_1; omega)))) /- pre X8_isFriend.1#1 -/ (by first | assumption | omega | (unfold agn; first | (left; refine ⟨rfl, ?_⟩; first | omega | (left; refine ⟨by omega, ?_⟩; right; intro hb; rw [if_pos hb] at q_X8_isFriend_2; omega) | (left; refine ⟨by omega, ?_⟩; right; intro hb; rw [if_pos hb] at q_X8_isFriend_1; omega)) | (right; refine ⟨rfl, ?_⟩; intro hh; rcases hh with ⟨h8, h9 | h9⟩ | ⟨h8, h9⟩ <;> first | omega | (rw [if_neg h9] at q_X8_isFriend_2; omega) | (rw [if_neg h9] at q_X8_isFriend_1; omega)))) /- pre X8_isFriend.2#1 -/) (fun z9 q_X8_isFriend_1 => ?_)
        try dsimp only at q_X8_isFriend_1
        refine wp_ck (z_r32_i.mpr ⟨(by first | omega | grind) /- z_r32.lo z9#1 -/, (by first | omega | grind) /- z_r32.hi z9#1 -/⟩) ?_
        refine wp_if (fun c4 => ?_) (fun c4 => ?_)
        ·
          refine wp_some ?_
          try dsimp only
          all_goals exact (by first | assumption | omega | (unfold agn; first | (left; refine ⟨rfl, ?_⟩; first | omega | (left; refine ⟨by omega, ?_⟩; right; intro hb; rw [if_pos hb] at q_X8_isFriend_2; omega) | (left; refine ⟨by omega, ?_⟩; right; intro hb; rw [if_pos hb] at q_X8_isFriend_1; omega)) | (right; refine ⟨rfl, ?_⟩; intro hh; rcases hh with ⟨h8, h9 | h9⟩ | ⟨h8, h9⟩ <;> first | omega | (rw [if_neg h9] at q_X8_isFriend_2; omega) | (rw [if_neg h9] at q_X8_isFriend_1; omega)))) /- post1#1 -/
        ·
          refine wp_some ?_
          try dsimp only
          all_goals exact (by first | assumption | omega | (unfold agn; first | (left; refine ⟨rfl, ?_⟩; first | omega | (left; refine ⟨by omega, ?_⟩; right; intro hb; rw [if_pos hb] at q_X8_isFriend_2; omega) | (left; refine ⟨by omega, ?_⟩; right; intro hb; rw [if_pos hb] at q_X8_isFriend_1; omega)) | (right; refine ⟨rfl, ?_⟩; intro hh; rcases hh with ⟨h8, h9 | h9⟩ | ⟨h8, h9⟩ <;> first | omega | (rw [if_neg h9] at q_X8_isFriend_2; omega) | (rw [if_neg h9] at q_X8_isFriend_1; omega)))) /- post1#2 -/
      ·
        refine wp_some ?_
        try dsimp only
        all_goals exact (by first | assumption | omega | (unfold agn; first | (left; refine ⟨rfl, ?_⟩; first | omega | (left; refine ⟨by omega, ?_⟩; right; intro hb; rw [if_pos hb] at q_X8_isFriend_2; omega) | (left; refine ⟨by omega, ?_⟩; right; intro hb; rw [if_pos hb] at q_X8_isFriend_1; omega)) | (right; refine ⟨rfl, ?_⟩; intro hh; rcases hh with ⟨h8, h9 | h9⟩ | ⟨h8, h9⟩ <;> first | omega | (rw [if_neg h9] at q_X8_isFriend_2; omega) | (rw [if_neg h9] at q_X8_isFriend_1; omega)))) /- post1#3 -/
    ·
      refine wp_if (fun c5 => ?_) (fun c5 => ?_)
      ·
        refine wp_ck (z_r32_i.mpr ⟨(by first | omega | grind) /- z_r32.lo z5#2 -/, (by first | omega | grind) /- z_r32.hi z5#2 -/⟩) ?_
        refine wp_if (fun c6 => ?_) (fun c6 => ?_)
        ·
          refine wp_some ?_
          try dsimp only
          all_goals exact (by first | assumption | omega | (unfold agn; first | (left; refine ⟨rfl, ?_⟩; first | omega | (left; refine ⟨by omega, ?_⟩; right; intro hb; rw [if_pos hb] at q_X8_isFriend_2; omega) | (left; refine ⟨by omega, ?_⟩; right; intro hb; rw [if_pos hb] at q_X8_isFriend_1; omega)) | (right; refine ⟨rfl, ?_⟩; intro hh; rcases hh with ⟨h8, h9 | h9⟩ | ⟨h8, h9⟩ <;> first | omega | (rw [if_neg h9] at q_X8_isFriend_2; omega) | (rw [if_neg h9] at q_X8_isFriend_1; omega)))) /- post1#4 -/
        ·
          refine wp_some ?_
          try dsimp only
          all_goals exact (by first | assumption | omega | (unfold agn; first | (left; refine ⟨rfl, ?_⟩; first | omega | (left; refine ⟨by omega, ?_⟩; right; intro hb; rw [if_pos hb] at q_X8_isFriend_2; omega) | (left; refine ⟨by omega, ?_⟩; right; intro hb; rw [if_pos hb] at q_X8_isFriend_1; omega)) | (right; refine ⟨rfl, ?_⟩; intro hh; rcases hh with ⟨h8, h9 | h9⟩ | ⟨h8, h9⟩ <;> first | omega | (rw [if_neg h9] at q_X8_isFriend_2; omega) | (rw [if_neg h9] at q_X8_isFriend_1; omega)))) /- post1#5 -/
      ·
        refine wp_some ?_
        try dsimp only
        all_goals exact (by first | assumption | omega | (unfold agn; first | (left; refine ⟨rfl, ?_⟩; first | omega | (left; refine ⟨by omega, ?_⟩; right; intro hb; rw [if_pos hb] at q_X8_isFriend_2; omega) | (left; refine ⟨by omega, ?_⟩; right; intro hb; rw [if_pos hb] at q_X8_isFriend_1; omega)) | (right; refine ⟨rfl, ?_⟩; intro hh; rcases hh with ⟨h8, h9 | h9⟩ | ⟨h8, h9⟩ <;> first | omega | (rw [if_neg h9] at q_X8_isFriend_2; omega) | (rw [if_neg h9] at q_X8_isFriend_1; omega)))) /- post1#6 -/
  ·
    refine wp_bnd ?_
    refine wp_ck (z_r32_i.mpr ⟨(by first | omega | grind) /- z_r32.lo x1#2 -/, (by first | omega | grind) /- z_r32.hi x1#2 -/⟩) ?_
    refine wp_if (fun c7 => ?_) (fun c7 => ?_)
    ·
      refine wp_ck (z_r32_i.mpr ⟨(by first | omega | grind) /- z_r32.lo z5#3 -/, (by first | omega | grind) /- z_r32.hi z5#3 -/⟩) ?_
      refine wp_if (fun c8 => ?_) (fun c8 => ?_)
      ·
        refine wp_ck (z_ix_i.mpr ⟨⟨(by first | omega | grind) /- ix.lo (0 : Int)#3 -/, (by first | omega | grind) /- ix.hi (0 : Int)#3 -/⟩, (by first | omega | grind) /- ix.big (0 : Int)#3 -/⟩) ?_
        refine wp_bd1 (s_X8_isFriend _ _ _ (by first | assumption | omega | (unfold agn; first | (left; refine ⟨rfl, ?_⟩; first | omega | (left; refine ⟨by omega, ?_⟩; right; intro hb; rw [if_pos hb] at q_X8_isFriend_2; omega) | (left; refine ⟨by omega, ?_⟩; right; intro hb; rw [if_pos hb] at q_X8_isFriend_1; omega)) | (right; refine ⟨rfl, ?_⟩; intro hh; rcases hh with ⟨h8, h9 | h9⟩ | ⟨h8, h9⟩ <;> first | omega | (rw [if_neg h9] at q_X8_isFriend_2; omega) | (rw [if_neg h9] at q_X8_isFriend_1; omega)))) /- pre X8_isFriend.1#2 -/ (by first | assumption | omega | (unfold agn; first | (left; refine ⟨rfl, ?_⟩; first | omega | (left; refine ⟨by omega, ?_⟩; right; intro hb; rw [if_pos hb] at q_X8_isFriend_2; omega) | (left; refine ⟨by omega, ?_⟩; right; intro hb; rw [if_pos hb] at q_X8_isFriend_1; omega)) | (right; refine ⟨rfl, ?_⟩; intro hh; rcases hh with ⟨h8, h9 | h9⟩ | ⟨h8, h9⟩ <;> first | omega | (rw [if_neg h9] at q_X8_isFriend_2; omega) | (rw [if_neg h9] at q_X8_isFriend_1; omega)))) /- pre X8_isFriend.2#2 -/) (fun z9 q_X8_isFriend_2 => ?_)
        try dsimp only at q_X8_isFriend_2
        refine wp_ck (z_r32_i.mpr ⟨(by first | omega | grind) /- z_r32.lo z9#2 -/, (by first | omega | grind) /- z_r32.hi z9#2 -/⟩) ?_
        refine wp_if (fun c9 => ?_) (fun c9 => ?_)
        ·
          refine wp_some ?_
          try dsimp only
          all_goals exact (by first | assumption | omega | (unfold agn; first | (left; refine ⟨rfl, ?_⟩; first | omega | (left; refine ⟨by omega, ?_⟩; right; intro hb; rw [if_pos hb] at q_X8_isFriend_2; omega) | (left; refine ⟨by omega, ?_⟩; right; intro hb; rw [if_pos hb] at q_X8_isFriend_1; omega)) | (right; refine ⟨rfl, ?_⟩; intro hh; rcases hh with ⟨h8, h9 | h9⟩ | ⟨h8, h9⟩ <;> first | omega | (rw [if_neg h9] at q_X8_isFriend_2; omega) | (rw [if_neg h9] at q_X8_isFriend_1; omega)))) /- post1#7 -/
        ·
          refine wp_some ?_
          try dsimp only
          all_goals exact (by first | assumption | omega | (unfold agn; first | (left; refine ⟨rfl, ?_⟩; first | omega | (left; refine ⟨by omega, ?_⟩; right; intro hb; rw [if_pos hb] at q_X8_isFriend_2; omega) | (left; refine ⟨by omega, ?_⟩; right; intro hb; rw [if_pos hb] at q_X8_isFriend_1; omega)) | (right; refine ⟨rfl, ?_⟩; intro hh; rcases hh with ⟨h8, h9 | h9⟩ | ⟨h8, h9⟩ <;> first | omega | (rw [if_neg h9] at q_X8_isFriend_2; omega) | (rw [if_neg h9] at q_X8_isFriend_1; omega)))) /- post1#8 -/
      ·
        refine wp_some ?_
        try dsimp only
        all_goals exact (by first | assumption | omega | (unfold agn; first | (left; refine ⟨rfl, ?_⟩; first | omega | (left; refine ⟨by omega, ?_⟩; right; intro hb; rw [if_pos hb] at q_X8_isFriend_2; omega) | (left; refine ⟨by omega, ?_⟩; right; intro hb; rw [if_pos hb] at q_X8_isFriend_1; omega)) | (right; refine ⟨rfl, ?_⟩; intro hh; rcases hh with ⟨h8, h9 | h9⟩ | ⟨h8, h9⟩ <;> first | omega | (rw [if_neg h9] at q_X8_isFriend_2; omega) | (rw [if_neg h9] at q_X8_isFriend_1; omega)))) /- post1#9 -/
    ·
      refine wp_if (fun c10 => ?_) (fun c10 => ?_)
      ·
        refine wp_ck (z_r32_i.mpr ⟨(by first | omega | grind) /- z_r32.lo z5#4 -/, (by first | omega | grind) /- z_r32.hi z5#4 -/⟩) ?_
        refine wp_if (fun c11 => ?_) (fun c11 => ?_)
        ·
          refine wp_some ?_
          try dsimp only
          all_goals exact (by first | assumption | omega | (unfold agn; first | (left; refine ⟨rfl, ?_⟩; first | omega | (left; refine ⟨by omega, ?_⟩; right; intro hb; rw [if_pos hb] at q_X8_isFriend_2; omega) | (left; refine ⟨by omega, ?_⟩; right; intro hb; rw [if_pos hb] at q_X8_isFriend_1; omega)) | (right; refine ⟨rfl, ?_⟩; intro hh; rcases hh with ⟨h8, h9 | h9⟩ | ⟨h8, h9⟩ <;> first | omega | (rw [if_neg h9] at q_X8_isFriend_2; omega) | (rw [if_neg h9] at q_X8_isFriend_1; omega)))) /- post1#10 -/
        ·
          refine wp_some ?_
          try dsimp only
          all_goals exact (by first | assumption | omega | (unfold agn; first | (left; refine ⟨rfl, ?_⟩; first | omega | (left; refine ⟨by omega, ?_⟩; right; intro hb; rw [if_pos hb] at q_X8_isFriend_2; omega) | (left; refine ⟨by omega, ?_⟩; right; intro hb; rw [if_pos hb] at q_X8_isFriend_1; omega)) | (right; refine ⟨rfl, ?_⟩; intro hh; rcases hh with ⟨h8, h9 | h9⟩ | ⟨h8, h9⟩ <;> first | omega | (rw [if_neg h9] at q_X8_isFriend_2; omega) | (rw [if_neg h9] at q_X8_isFriend_1; omega)))) /- post1#11 -/
      ·
        refine wp_some ?_
        try dsimp only
        all_goals exact (by first | assumption | omega | (unfold agn; first | (left; refine ⟨rfl, ?_⟩; first | omega | (left; refine ⟨by omega, ?_⟩; right; intro hb; rw [if_pos hb] at q_X8_isFriend_2; omega) | (left; refine ⟨by omega, ?_⟩; right; intro hb; rw [if_pos hb] at q_X8_isFriend_1; omega)) | (right; refine ⟨rfl, ?_⟩; intro hh; rcases hh with ⟨h8, h9 | h9⟩ | ⟨h8, h9⟩ <;> first | omega | (rw [if_neg h9] at q_X8_isFriend_2; omega) | (rw [if_neg h9] at q_X8_isFriend_1; omega)))) /- post1#12 -/

set_option maxHeartbeats 8000000 in
theorem s_X10_faultOfNumber (i_p0_tape_token : Int) (i_p0_tape_value : Int) (v_p0_state_friends : (Int → Int)) (v_p0_numbers : (Int → Int)) (x1 : Int) (x2 : Int) (h1 : 0 ≤ i_p0_tape_token) (h2 : i_p0_tape_token ≤ 4) (h3 : i_p0_tape_token = 2 → 0 ≤ i_p0_tape_value ∧ i_p0_tape_value ≤ 99) (h4 : 0 ≤ x1) (h5 : x1 < 11) (h6 : 0 ≤ x2) (h7 : x2 ≤ 7) (h8 : x2 = 1 → 0 ≤ v_p0_numbers 0 ∧ v_p0_numbers 0 ≤ 9 ∧ (x1 = 4 → v_p0_numbers 0 ≤ 6)) : wp (f_X10_faultOfNumber i_p0_tape_token i_p0_tape_value v_p0_state_friends v_p0_numbers x1 x2) (fun o => (fonP v_p0_state_friends v_p0_numbers i_p0_tape_token i_p0_tape_value x1 x2 o)) := by
  unfold f_X10_faultOfNumber
  have t1 := T_z 1 (by decide) h4 h5
  have t2 := T_z 2 (by decide) h4 h5
  have t3 := T_z 3 (by decide) h4 h5
  have t4 := T_z 4 (by decide) h4 h5
  have t5 := T_z 5 (by decide) h4 h5
  refine wp_ck (z_r32_i.mpr ⟨(by first | omega | grind) /- z_r32.lo i_p0_tape_token#1 -/, (by first | omega | grind) /- z_r32.hi i_p0_tape_token#1 -/⟩) ?_
  refine wp_if (fun c1 => ?_) (fun c1 => ?_)
  ·
    refine wp_some ?_
    try dsimp only
    all_goals exact (by first | assumption | omega | (unfold fonP; grind)) /- post1#1 -/
  ·
    refine wp_ck (z_ix_i.mpr ⟨⟨(by first | omega | grind) /- ix.lo x1#1 -/, (by first | omega | grind) /- ix.hi x1#1 -/⟩, (by first | omega | grind) /- ix.big x1#1 -/⟩) ?_
    refine wp_ck (z_r32_i.mpr ⟨(by first | omega | grind) /- z_r32.lo x2#1 -/, (by first | omega | grind) /- z_r32.hi x2#1 -/⟩) ?_
    refine wp_ck (z_r32_i.mpr ⟨(by first | omega | grind) /- z_r32.lo (z_T 1 x1)#1 -/, (by first | omega | grind) /- z_r32.hi (z_T 1 x1)#1 -/⟩) ?_
    refine wp_jn ?_
    refine wp_jn ?_
    refine wp_if (fun c2 => ?_) (fun c2 => ?_)
    ·
      refine wp_bnd ?_
      refine wp_if (fun c3 => ?_) (fun c3 => ?_)
      ·
        refine wp_ck (z_r32_i.mpr ⟨(by first | omega | grind) /- z_r32.lo z6#1 -/, (by first | omega | grind) /- z_r32.hi z6#1 -/⟩) ?_
        refine wp_if (fun c4 => ?_) (fun c4 => ?_)
        ·
          refine wp_some ?_
          try dsimp only
          all_goals exact (by first | assumption | omega | (unfold fonP; grind)) /- post1#2 -/
        ·
          refine wp_jn ?_
          refine wp_if (fun c5 => ?_) (fun c5 => ?_)
          ·
            refine wp_ck (z_ix_i.mpr ⟨⟨(by first | omega | grind) /- ix.lo x1#2 -/, (by first | omega | grind) /- ix.hi x1#2 -/⟩, (by first | omega | grind) /- ix.big x1#2 -/⟩) ?_
            refine wp_bnd ?_
            refine wp_jn ?_
            refine wp_if (fun c6 => ?_) (fun c6 => ?_)
            ·
              refine wp_ck (z_ix_i.mpr ⟨⟨(by first | omega | grind) /- ix.lo x1#3 -/, (by first | omega | grind) /- ix.hi x1#3 -/⟩, (by first | omega | grind) /- ix.big x1#3 -/⟩) ?_
              refine wp_bnd ?_
              refine wp_ck (z_r32_i.mpr ⟨(by first | omega | grind) /- z_r32.lo i_p0_tape_value#1 -/, (by first | omega | grind) /- z_r32.hi i_p0_tape_value#1 -/⟩) ?_
              refine wp_ck (z_r32_i.mpr ⟨(by first | omega | grind) /- z_r32.lo z10#1 -/, (by first | omega | grind) /- z_r32.hi z10#1 -/⟩) ?_
              refine wp_if (fun c7 => ?_) (fun c7 => ?_)
              ·
                refine wp_some ?_
                try dsimp only
                all_goals exact (by first | assumption | omega | (unfold fonP; grind)) /- post1#3 -/
              ·
                refine wp_ck (z_r32_i.mpr ⟨(by first | omega | grind) /- z_r32.lo z13#1 -/, (by first | omega | grind) /- z_r32.hi z13#1 -/⟩) ?_
                refine wp_if (fun c8 => ?_) (fun c8 => ?_)
                ·
                  refine wp_jn ?_
                  refine wp_if (fun c9 => ?_) (fun c9 => ?_)
                  ·
                    refine wp_bd1 (s_X10_isAgain _ _ _ _ (by first | assumption | omega | (unfold fonP; grind)) /- pre X10_isAgain.1#1 -/ (by first | assumption | omega | (unfold fonP; grind)) /- pre X10_isAgain.2#1 -/ (by first | assumption | omega | (unfold fonP; grind)) /- pre X10_isAgain.3#1 -/ (by first | assumption | omega | (unfold fonP; grind)) /- pre X10_isAgain.4#1 -/ (by first | assumption | omega | (unfold fonP; grind)) /- pre X10_isAgain.5#1 -/ (by first | assumption | omega | (unfold fonP; grind)) /- pre X10_isAgain.6#1 -/ (by first | assumption | omega | (unfold fonP; grind)) /- pre X10_isAgain.7#1 -/) (fun z18 q_X10_isAgain_1 => ?_)
                    try dsimp only at q_X10_isAgain_1
                    refine wp_ck (z_r32_i.mpr ⟨(by first | omega | grind) /- z_r32.lo z18#1 -/, (by first | omega | grind) /- z_r32.hi z18#1 -/⟩) ?_
                    refine wp_if (fun c10 => ?_) (fun c10 => ?_)
                    ·
                      refine wp_ck (z_ix_i.mpr ⟨⟨(by first | omega | grind) /- ix.lo x1#4 -/, (by first | omega | grind) /- ix.hi x1#4 -/⟩, (by first | omega | grind) /- ix.big x1#4 -/⟩) ?_
                      refine wp_if (fun c11 => ?_) (fun c11 => ?_)
                      ·
                        refine wp_some ?_
                        try dsimp only
                        all_goals exact (by first | assumption | omega | (unfold fonP; grind)) /- post1#4 -/
                      ·
                        refine wp_some ?_
                        try dsimp only
                        all_goals exact (by first | assumption | omega | (unfold fonP; grind)) /- post1#5 -/
                    ·
                      refine wp_some ?_
                      try dsimp only
                      all_goals exact (by first | assumption | omega | (unfold fonP; grind)) /- post1#6 -/
                  ·
                    refine wp_ck (z_ix_i.mpr ⟨⟨(by first | omega | grind) /- ix.lo x1#5 -/, (by first | omega | grind) /- ix.hi x1#5 -/⟩, (by first | omega | grind) /- ix.big x1#5 -/⟩) ?_
                    refine wp_if (fun c12 => ?_) (fun c12 => ?_)
                    ·
                      refine wp_some ?_
                      try dsimp only
                      all_goals exact (by first | assumption | omega | (unfold fonP; grind)) /- post1#7 -/
                    ·
                      refine wp_some ?_
                      try dsimp only
                      all_goals exact (by first | assumption | omega | (unfold fonP; grind)) /- post1#8 -/
                ·
                  refine wp_some ?_
                  try dsimp only
                  all_goals exact (by first | assumption | omega | (unfold fonP; grind)) /- post1#9 -/
            ·
              refine wp_ck (z_ix_i.mpr ⟨⟨(by first | omega | grind) /- ix.lo x1#6 -/, (by first | omega | grind) /- ix.hi x1#6 -/⟩, (by first | omega | grind) /- ix.big x1#6 -/⟩) ?_
              refine wp_bnd ?_
              refine wp_ck (z_r32_i.mpr ⟨(by first | omega | grind) /- z_r32.lo i_p0_tape_value#2 -/, (by first | omega | grind) /- z_r32.hi i_p0_tape_value#2 -/⟩) ?_
              refine wp_ck (z_r32_i.mpr ⟨(by first | omega | grind) /- z_r32.lo z10#2 -/, (by first | omega | grind) /- z_r32.hi z10#2 -/⟩) ?_
              refine wp_if (fun c13 => ?_) (fun c13 => ?_)
              ·
                refine wp_some ?_
                try dsimp only
                all_goals exact (by first | assumption | omega | (unfold fonP; grind)) /- post1#10 -/
              ·
                refine wp_ck (z_r32_i.mpr ⟨(by first | omega | grind) /- z_r32.lo z13#2 -/, (by first | omega | grind) /- z_r32.hi z13#2 -/⟩) ?_
                refine wp_if (fun c14 => ?_) (fun c14 => ?_)
                ·
                  refine wp_jn ?_
                  refine wp_if (fun c15 => ?_) (fun c15 => ?_)
                  ·
                    refine wp_bd1 (s_X10_isAgain _ _ _ _ (by first | assumption | omega | (unfold fonP; grind)) /- pre X10_isAgain.1#2 -/ (by first | assumption | omega | (unfold fonP; grind)) /- pre X10_isAgain.2#2 -/ (by first | assumption | omega | (unfold fonP; grind)) /- pre X10_isAgain.3#2 -/ (by first | assumption | omega | (unfold fonP; grind)) /- pre X10_isAgain.4#2 -/ (by first | assumption | omega | (unfold fonP; grind)) /- pre X10_isAgain.5#2 -/ (by first | assumption | omega | (unfold fonP; grind)) /- pre X10_isAgain.6#2 -/ (by first | assumption | omega | (unfold fonP; grind)) /- pre X10_isAgain.7#2 -/) (fun z18 q_X10_isAgain_2 => ?_)
                    try dsimp only at q_X10_isAgain_2
                    refine wp_ck (z_r32_i.mpr ⟨(by first | omega | grind) /- z_r32.lo z18#2 -/, (by first | omega | grind) /- z_r32.hi z18#2 -/⟩) ?_
                    refine wp_if (fun c16 => ?_) (fun c16 => ?_)
                    ·
                      refine wp_ck (z_ix_i.mpr ⟨⟨(by first | omega | grind) /- ix.lo x1#7 -/, (by first | omega | grind) /- ix.hi x1#7 -/⟩, (by first | omega | grind) /- ix.big x1#7 -/⟩) ?_
                      refine wp_if (fun c17 => ?_) (fun c17 => ?_)
                      ·
                        refine wp_some ?_
                        try dsimp only
                        all_goals exact (by first | assumption | omega | (unfold fonP; grind)) /- post1#11 -/
                      ·
                        refine wp_some ?_
                        try dsimp only
                        all_goals exact (by first | assumption | omega | (unfold fonP; grind)) /- post1#12 -/
                    ·
                      refine wp_some ?_
                      try dsimp only
                      all_goals exact (by first | assumption | omega | (unfold fonP; grind)) /- post1#13 -/
                  ·
                    refine wp_ck (z_ix_i.mpr ⟨⟨(by first | omega | grind) /- ix.lo x1#8 -/, (by first | omega | grind) /- ix.hi x1#8 -/⟩, (by first | omega | grind) /- ix.big x1#8 -/⟩) ?_
                    refine wp_if (fun c18 => ?_) (fun c18 => ?_)
                    ·
                      refine wp_some ?_
                      try dsimp only
                      all_goals exact (by first | assumption | omega | (unfold fonP; grind)) /- post1#14 -/
                    ·
                      refine wp_some ?_
                      try dsimp only
                      all_goals exact (by first | assumption | omega | (unfold fonP; grind)) /- post1#15 -/
                ·
                  refine wp_some ?_
                  try dsimp only
                  all_goals exact (by first | assumption | omega | (unfold fonP; grind)) /- post1#16 -/
          ·
            refine wp_ck (z_ix_i.mpr ⟨⟨(by first | omega | grind) /- ix.lo x1#9 -/, (by first | omega | grind) /- ix.hi x1#9 -/⟩, (by first | omega | grind) /- ix.big x1#9 -/⟩) ?_
            refine wp_bnd ?_
            refine wp_jn ?_
            refine wp_if (fun c19 => ?_) (fun c19 => ?_)
            ·
              refine wp_ck (z_ix_i.mpr ⟨⟨(by first | omega | grind) /- ix.lo x1#10 -/, (by first | omega | grind) /- ix.hi x1#10 -/⟩, (by first | omega | grind) /- ix.big x1#10 -/⟩) ?_
              refine wp_bnd ?_
              refine wp_ck (z_r32_i.mpr ⟨(by first | omega | grind) /- z_r32.lo i_p0_tape_value#3 -/, (by first | omega | grind) /- z_r32.hi i_p0_tape_value#3 -/⟩) ?_
              refine wp_ck (z_r32_i.mpr ⟨(by first | omega | grind) /- z_r32.lo z10#3 -/, (by first | omega | grind) /- z_r32.hi z10#3 -/⟩) ?_
              refine wp_if (fun c20 => ?_) (fun c20 => ?_)
              ·
                refine wp_some ?_
                try dsimp only
                all_goals exact (by first | assumption | omega | (unfold fonP; grind)) /- post1#17 -/
              ·
                refine wp_ck (z_r32_i.mpr ⟨(by first | omega | grind) /- z_r32.lo z13#3 -/, (by first | omega | grind) /- z_r32.hi z13#3 -/⟩) ?_
                refine wp_if (fun c21 => ?_) (fun c21 => ?_)
                ·
                  refine wp_jn ?_
                  refine wp_if (fun c22 => ?_) (fun c22 => ?_)
                  ·
                    refine wp_bd1 (s_X10_isAgain _ _ _ _ (by first | assumption | omega | (unfold fonP; grind)) /- pre X10_isAgain.1#3 -/ (by first | assumption | omega | (unfold fonP; grind)) /- pre X10_isAgain.2#3 -/ (by first | assumption | omega | (unfold fonP; grind)) /- pre X10_isAgain.3#3 -/ (by first | assumption | omega | (unfold fonP; grind)) /- pre X10_isAgain.4#3 -/ (by first | assumption | omega | (unfold fonP; grind)) /- pre X10_isAgain.5#3 -/ (by first | assumption | omega | (unfold fonP; grind)) /- pre X10_isAgain.6#3 -/ (by first | assumption | omega | (unfold fonP; grind)) /- pre X10_isAgain.7#3 -/) (fun z18 q_X10_isAgain_3 => ?_)
                    try dsimp only at q_X10_isAgain_3
                    refine wp_ck (z_r32_i.mpr ⟨(by first | omega | grind) /- z_r32.lo z18#3 -/, (by first | omega | grind) /- z_r32.hi z18#3 -/⟩) ?_
                    refine wp_if (fun c23 => ?_) (fun c23 => ?_)
                    ·
                      refine wp_ck (z_ix_i.mpr ⟨⟨(by first | omega | grind) /- ix.lo x1#11 -/, (by first | omega | grind) /- ix.hi x1#11 -/⟩, (by first | omega | grind) /- ix.big x1#11 -/⟩) ?_
                      refine wp_if (fun c24 => ?_) (fun c24 => ?_)
                      ·
                        refine wp_some ?_
                        try dsimp only
                        all_goals exact (by first | assumption | omega | (unfold fonP; grind)) /- post1#18 -/
                      ·
                        refine wp_some ?_
                        try dsimp only
                        all_goals exact (by first | assumption | omega | (unfold fonP; grind)) /- post1#19 -/
                    ·
                      refine wp_some ?_
                      try dsimp only
                      all_goals exact (by first | assumption | omega | (unfold fonP; grind)) /- post1#20 -/
                  ·
                    refine wp_ck (z_ix_i.mpr ⟨⟨(by first | omega | grind) /- ix.lo x1#12 -/, (by first | omega | grind) /- ix.hi x1#12 -/⟩, (by first | omega | grind) /- ix.big x1#12 -/⟩) ?_
                    refine wp_if (fun c25 => ?_) (fun c25 => ?_)
                    ·
                      refine wp_some ?_
                      try dsimp only
                      all_goals exact (by first | assumption | omega | (unfold fonP; grind)) /- post1#21 -/
                    ·
                      refine wp_some ?_
                      try dsimp only
                      all_goals exact (by first | assumption | omega | (unfold fonP; grind)) /- post1#22 -/
                ·
                  refine wp_some ?_
                  try dsimp only
                  all_goals exact (by first | assumption | omega | (unfold fonP; grind)) /- post1#23 -/
            ·
              refine wp_ck (z_ix_i.mpr ⟨⟨(by first | omega | grind) /- ix.lo x1#13 -/, (by first | omega | grind) /- ix.hi x1#13 -/⟩, (by first | omega | grind) /- ix.big x1#13 -/⟩) ?_
              refine wp_bnd ?_
              refine wp_ck (z_r32_i.mpr ⟨(by first | omega | grind) /- z_r32.lo i_p0_tape_value#4 -/, (by first | omega | grind) /- z_r32.hi i_p0_tape_value#4 -/⟩) ?_
              refine wp_ck (z_r32_i.mpr ⟨(by first | omega | grind) /- z_r32.lo z10#4 -/, (by first | omega | grind) /- z_r32.hi z10#4 -/⟩) ?_
              refine wp_if (fun c26 => ?_) (fun c26 => ?_)
              ·
                refine wp_some ?_
                try dsimp only
                all_goals exact (by first | assumption | omega | (unfold fonP; grind)) /- post1#24 -/
              ·
                refine wp_ck (z_r32_i.mpr ⟨(by first | omega | grind) /- z_r32.lo z13#4 -/, (by first | omega | grind) /- z_r32.hi z13#4 -/⟩) ?_
                refine wp_if (fun c27 => ?_) (fun c27 => ?_)
                ·
                  refine wp_jn ?_
                  refine wp_if (fun c28 => ?_) (fun c28 => ?_)
                  ·
                    refine wp_bd1 (s_X10_isAgain _ _ _ _ (by first | assumption | omega | (unfold fonP; grind)) /- pre X10_isAgain.1#4 -/ (by first | assumption | omega | (unfold fonP; grind)) /- pre X10_isAgain.2#4 -/ (by first | assumption | omega | (unfold fonP; grind)) /- pre X10_isAgain.3#4 -/ (by first | assumption | omega | (unfold fonP; grind)) /- pre X10_isAgain.4#4 -/ (by first | assumption | omega | (unfold fonP; grind)) /- pre X10_isAgain.5#4 -/ (by first | assumption | omega | (unfold fonP; grind)) /- pre X10_isAgain.6#4 -/ (by first | assumption | omega | (unfold fonP; grind)) /- pre X10_isAgain.7#4 -/) (fun z18 q_X10_isAgain_4 => ?_)
                    try dsimp only at q_X10_isAgain_4
                    refine wp_ck (z_r32_i.mpr ⟨(by first | omega | grind) /- z_r32.lo z18#4 -/, (by first | omega | grind) /- z_r32.hi z18#4 -/⟩) ?_
                    refine wp_if (fun c29 => ?_) (fun c29 => ?_)
                    ·
                      refine wp_ck (z_ix_i.mpr ⟨⟨(by first | omega | grind) /- ix.lo x1#14 -/, (by first | omega | grind) /- ix.hi x1#14 -/⟩, (by first | omega | grind) /- ix.big x1#14 -/⟩) ?_
                      refine wp_if (fun c30 => ?_) (fun c30 => ?_)
                      ·
                        refine wp_some ?_
                        try dsimp only
                        all_goals exact (by first | assumption | omega | (unfold fonP; grind)) /- post1#25 -/
                      ·
                        refine wp_some ?_
                        try dsimp only
                        all_goals exact (by first | assumption | omega | (unfold fonP; grind)) /- post1#26 -/
                    ·
                      refine wp_some ?_
                      try dsimp only
                      all_goals exact (by first | assumption | omega | (unfold fonP; grind)) /- post1#27 -/
                  ·
                    refine wp_ck (z_ix_i.mpr ⟨⟨(by first | omega | grind) /- ix.lo x1#15 -/, (by first | omega | grind) /- ix.hi x1#15 -/⟩, (by first | omega | grind) /- ix.big x1#15 -/⟩) ?_
                    refine wp_if (fun c31 => ?_) (fun c31 => ?_)
                    ·
                      refine wp_some ?_
                      try dsimp only
                      all_goals exact (by first | assumption | omega | (unfold fonP; grind)) /- post1#28 -/
                    ·
                      refine wp_some ?_
                      try dsimp only
                      all_goals exact (by first | assumption | omega | (unfold fonP; grind)) /- post1#29 -/
                ·
                  refine wp_some ?_
                  try dsimp only
                  all_goals exact (by first | assumption | omega | (unfold fonP; grind)) /- post1#30 -/
      ·
        refine wp_some ?_
        try dsimp only
        all_goals exact (by first | assumption | omega | (unfold fonP; grind)) /- post1#31 -/
    ·
      refine wp_ck (z_r32_i.mpr ⟨(by first | omega | grind) /- z_r32.lo x1#1 -/, (by first | omega | grind) /- z_r32.hi x1#1 -/⟩) ?_
      refine wp_if (fun c32 => ?_) (fun c32 => ?_)
      ·
        refine wp_bnd ?_
        refine wp_if (fun c33 => ?_) (fun c33 => ?_)
        ·
          refine wp_ck (z_r32_i.mpr ⟨(by first | omega | grind) /- z_r32.lo z6#2 -/, (by first | omega | grind) /- z_r32.hi z6#2 -/⟩) ?_
          refine wp_if (fun c34 => ?_) (fun c34 => ?_)
          ·
            refine wp_some ?_
            try dsimp only
            all_goals exact (by first | assumption | omega | (unfold fonP; grind)) /- post1#32 -/
          ·
            refine wp_jn ?_
            refine wp_if (fun c35 => ?_) (fun c35 => ?_)
            ·
              refine wp_ck (z_ix_i.mpr ⟨⟨(by first | omega | grind) /- ix.lo x1#16 -/, (by first | omega | grind) /- ix.hi x1#16 -/⟩, (by first | omega | grind) /- ix.big x1#16 -/⟩) ?_
              refine wp_bnd ?_
              refine wp_jn ?_
              refine wp_if (fun c36 => ?_) (fun c36 => ?_)
              ·
                refine wp_ck (z_ix_i.mpr ⟨⟨(by first | omega | grind) /- ix.lo x1#17 -/, (by first | omega | grind) /- ix.hi x1#17 -/⟩, (by first | omega | grind) /- ix.big x1#17 -/⟩) ?_
                refine wp_bnd ?_
                refine wp_ck (z_r32_i.mpr ⟨(by first | omega | grind) /- z_r32.lo i_p0_tape_value#5 -/, (by first | omega | grind) /- z_r32.hi i_p0_tape_value#5 -/⟩) ?_
                refine wp_ck (z_r32_i.mpr ⟨(by first | omega | grind) /- z_r32.lo z10#5 -/, (by first | omega | grind) /- z_r32.hi z10#5 -/⟩) ?_
                refine wp_if (fun c37 => ?_) (fun c37 => ?_)
                ·
                  refine wp_some ?_
                  try dsimp only
                  all_goals exact (by first | assumption | omega | (unfold fonP; grind)) /- post1#33 -/
                ·
                  refine wp_ck (z_r32_i.mpr ⟨(by first | omega | grind) /- z_r32.lo z13#5 -/, (by first | omega | grind) /- z_r32.hi z13#5 -/⟩) ?_
                  refine wp_if (fun c38 => ?_) (fun c38 => ?_)
                  ·
                    refine wp_jn ?_
                    refine wp_if (fun c39 => ?_) (fun c39 => ?_)
                    ·
                      refine wp_bd1 (s_X10_isAgain _ _ _ _ (by first | assumption | omega | (unfold fonP; grind)) /- pre X10_isAgain.1#5 -/ (by first | assumption | omega | (unfold fonP; grind)) /- pre X10_isAgain.2#5 -/ (by first | assumption | omega | (unfold fonP; grind)) /- pre X10_isAgain.3#5 -/ (by first | assumption | omega | (unfold fonP; grind)) /- pre X10_isAgain.4#5 -/ (by first | assumption | omega | (unfold fonP; grind)) /- pre X10_isAgain.5#5 -/ (by first | assumption | omega | (unfold fonP; grind)) /- pre X10_isAgain.6#5 -/ (by first | assumption | omega | (unfold fonP; grind)) /- pre X10_isAgain.7#5 -/) (fun z18 q_X10_isAgain_5 => ?_)
                      try dsimp only at q_X10_isAgain_5
                      refine wp_ck (z_r32_i.mpr ⟨(by first | omega | grind) /- z_r32.lo z18#5 -/, (by first | omega | grind) /- z_r32.hi z18#5 -/⟩) ?_
                      refine wp_if (fun c40 => ?_) (fun c40 => ?_)
                      ·
                        refine wp_ck (z_ix_i.mpr ⟨⟨(by first | omega | grind) /- ix.lo x1#18 -/, (by first | omega | grind) /- ix.hi x1#18 -/⟩, (by first | omega | grind) /- ix.big x1#18 -/⟩) ?_
                        refine wp_if (fun c41 => ?_) (fun c41 => ?_)
                        ·
                          refine wp_some ?_
                          try dsimp only
                          all_goals exact (by first | assumption | omega | (unfold fonP; grind)) /- post1#34 -/
                        ·
                          refine wp_some ?_
                          try dsimp only
                          all_goals exact (by first | assumption | omega | (unfold fonP; grind)) /- post1#35 -/
                      ·
                        refine wp_some ?_
                        try dsimp only
                        all_goals exact (by first | assumption | omega | (unfold fonP; grind)) /- post1#36 -/
                    ·
                      refine wp_ck (z_ix_i.mpr ⟨⟨(by first | omega | grind) /- ix.lo x1#19 -/, (by first | omega | grind) /- ix.hi x1#19 -/⟩, (by first | omega | grind) /- ix.big x1#19 -/⟩) ?_
                      refine wp_if (fun c42 => ?_) (fun c42 => ?_)
                      ·
                        refine wp_some ?_
                        try dsimp only
                        all_goals exact (by first | assumption | omega | (unfold fonP; grind)) /- post1#37 -/
                      ·
                        refine wp_some ?_
                        try dsimp only
                        all_goals exact (by first | assumption | omega | (unfold fonP; grind)) /- post1#38 -/
                  ·
                    refine wp_some ?_
                    try dsimp only
                    all_goals exact (by first | assumption | omega | (unfold fonP; grind)) /- post1#39 -/
              ·
                refine wp_ck (z_ix_i.mpr ⟨⟨(by first | omega | grind) /- ix.lo x1#20 -/, (by first | omega | grind) /- ix.hi x1#20 -/⟩, (by first | omega | grind) /- ix.big x1#20 -/⟩) ?_
                refine wp_bnd ?_
                refine wp_ck (z_r32_i.mpr ⟨(by first | omega | grind) /- z_r32.lo i_p0_tape_value#6 -/, (by first | omega | grind) /- z_r32.hi i_p0_tape_value#6 -/⟩) ?_
                refine wp_ck (z_r32_i.mpr ⟨(by first | omega | grind) /- z_r32.lo z10#6 -/, (by first | omega | grind) /- z_r32.hi z10#6 -/⟩) ?_
                refine wp_if (fun c43 => ?_) (fun c43 => ?_)
                ·
                  refine wp_some ?_
                  try dsimp only
                  all_goals exact (by first | assumption | omega | (unfold fonP; grind)) /- post1#40 -/
                ·
                  refine wp_ck (z_r32_i.mpr ⟨(by first | omega | grind) /- z_r32.lo z13#6 -/, (by first | omega | grind) /- z_r32.hi z13#6 -/⟩) ?_
                  refine wp_if (fun c44 => ?_) (fun c44 => ?_)
                  ·
                    refine wp_jn ?_
                    refine wp_if (fun c45 => ?_) (fun c45 => ?_)
                    ·
                      refine wp_bd1 (s_X10_isAgain _ _ _ _ (by first | assumption | omega | (unfold fonP; grind)) /- pre X10_isAgain.1#6 -/ (by first | assumption | omega | (unfold fonP; grind)) /- pre X10_isAgain.2#6 -/ (by first | assumption | omega | (unfold fonP; grind)) /- pre X10_isAgain.3#6 -/ (by first | assumption | omega | (unfold fonP; grind)) /- pre X10_isAgain.4#6 -/ (by first | assumption | omega | (unfold fonP; grind)) /- pre X10_isAgain.5#6 -/ (by first | assumption | omega | (unfold fonP; grind)) /- pre X10_isAgain.6#6 -/ (by first | assumption | omega | (unfold fonP; grind)) /- pre X10_isAgain.7#6 -/) (fun z18 q_X10_isAgain_6 => ?_)
                      try dsimp only at q_X10_isAgain_6
                      refine wp_ck (z_r32_i.mpr ⟨(by first | omega | grind) /- z_r32.lo z18#6 -/, (by first | omega | grind) /- z_r32.hi z18#6 -/⟩) ?_
                      refine wp_if (fun c46 => ?_) (fun c46 => ?_)
                      ·
                        refine wp_ck (z_ix_i.mpr ⟨⟨(by first | omega | grind) /- ix.lo x1#21 -/, (by first | omega | grind) /- ix.hi x1#21 -/⟩, (by first | omega | grind) /- ix.big x1#21 -/⟩) ?_
                        refine wp_if (fun c47 => ?_) (fun c47 => ?_)
                        ·
                          refine wp_some ?_
                          try dsimp only
                          all_goals exact (by first | assumption | omega | (unfold fonP; grind)) /- post1#41 -/
                        ·
                          refine wp_some ?_
                          try dsimp only
                          all_goals exact (by first | assumption | omega | (unfold fonP; grind)) /- post1#42 -/
                      ·
                        refine wp_some ?_
                        try dsimp only
                        all_goals exact (by first | assumption | omega | (unfold fonP; grind)) /- post1#43 -/
                    ·
                      refine wp_ck (z_ix_i.mpr ⟨⟨(by first | omega | grind) /- ix.lo x1#22 -/, (by first | omega | grind) /- ix.hi x1#22 -/⟩, (by first | omega | grind) /- ix.big x1#22 -/⟩) ?_
                      refine wp_if (fun c48 => ?_) (fun c48 => ?_)
                      ·
                        refine wp_some ?_
                        try dsimp only
                        all_goals exact (by first | assumption | omega | (unfold fonP; grind)) /- post1#44 -/
                      ·
                        refine wp_some ?_
                        try dsimp only
                        all_goals exact (by first | assumption | omega | (unfold fonP; grind)) /- post1#45 -/
                  ·
                    refine wp_some ?_
                    try dsimp only
                    all_goals exact (by first | assumption | omega | (unfold fonP; grind)) /- post1#46 -/
            ·
              refine wp_ck (z_ix_i.mpr ⟨⟨(by first | omega | grind) /- ix.lo x1#23 -/, (by first | omega | grind) /- ix.hi x1#23 -/⟩, (by first | omega | grind) /- ix.big x1#23 -/⟩) ?_
              refine wp_bnd ?_
              refine wp_jn ?_
              refine wp_if (fun c49 => ?_) (fun c49 => ?_)
              ·
                refine wp_ck (z_ix_i.mpr ⟨⟨(by first | omega | grind) /- ix.lo x1#24 -/, (by first | omega | grind) /- ix.hi x1#24 -/⟩, (by first | omega | grind) /- ix.big x1#24 -/⟩) ?_
                refine wp_bnd ?_
                refine wp_ck (z_r32_i.mpr ⟨(by first | omega | grind) /- z_r32.lo i_p0_tape_value#7 -/, (by first | omega | grind) /- z_r32.hi i_p0_tape_value#7 -/⟩) ?_
                refine wp_ck (z_r32_i.mpr ⟨(by first | omega | grind) /- z_r32.lo z10#7 -/, (by first | omega | grind) /- z_r32.hi z10#7 -/⟩) ?_
                refine wp_if (fun c50 => ?_) (fun c50 => ?_)
                ·
                  refine wp_some ?_
                  try dsimp only
                  all_goals exact (by first | assumption | omega | (unfold fonP; grind)) /- post1#47 -/
                ·
                  refine wp_ck (z_r32_i.mpr ⟨(by first | omega | grind) /- z_r32.lo z13#7 -/, (by first | omega | grind) /- z_r32.hi z13#7 -/⟩) ?_
                  refine wp_if (fun c51 => ?_) (fun c51 => ?_)
                  ·
                    refine wp_jn ?_
                    refine wp_if (fun c52 => ?_) (fun c52 => ?_)
                    ·
                      refine wp_bd1 (s_X10_isAgain _ _ _ _ (by first | assumption | omega | (unfold fonP; grind)) /- pre X10_isAgain.1#7 -/ (by first | assumption | omega | (unfold fonP; grind)) /- pre X10_isAgain.2#7 -/ (by first | assumption | omega | (unfold fonP; grind)) /- pre X10_isAgain.3#7 -/ (by first | assumption | omega | (unfold fonP; grind)) /- pre X10_isAgain.4#7 -/ (by first | assumption | omega | (unfold fonP; grind)) /- pre X10_isAgain.5#7 -/ (by first | assumption | omega | (unfold fonP; grind)) /- pre X10_isAgain.6#7 -/ (by first | assumption | omega | (unfold fonP; grind)) /- pre X10_isAgain.7#7 -/) (fun z18 q_X10_isAgain_7 => ?_)
                      try dsimp only at q_X10_isAgain_7
                      refine wp_ck (z_r32_i.mpr ⟨(by first | omega | grind) /- z_r32.lo z18#7 -/, (by first | omega | grind) /- z_r32.hi z18#7 -/⟩) ?_
                      refine wp_if (fun c53 => ?_) (fun c53 => ?_)
                      ·
                        refine wp_ck (z_ix_i.mpr ⟨⟨(by first | omega | grind) /- ix.lo x1#25 -/, (by first | omega | grind) /- ix.hi x1#25 -/⟩, (by first | omega | grind) /- ix.big x1#25 -/⟩) ?_
                        refine wp_if (fun c54 => ?_) (fun c54 => ?_)
                        ·
                          refine wp_some ?_
                          try dsimp only
                          all_goals exact (by first | assumption | omega | (unfold fonP; grind)) /- post1#48 -/
                        ·
                          refine wp_some ?_
                          try dsimp only
                          all_goals exact (by first | assumption | omega | (unfold fonP; grind)) /- post1#49 -/
                      ·
                        refine wp_some ?_
                        try dsimp only
                        all_goals exact (by first | assumption | omega | (unfold fonP; grind)) /- post1#50 -/
                    ·
                      refine wp_ck (z_ix_i.mpr ⟨⟨(by first | omega | grind) /- ix.lo x1#26 -/, (by first | omega | grind) /- ix.hi x1#26 -/⟩, (by first | omega | grind) /- ix.big x1#26 -/⟩) ?_
                      refine wp_if (fun c55 => ?_) (fun c55 => ?_)
                      ·
                        refine wp_some ?_
                        try dsimp only
                        all_goals exact (by first | assumption | omega | (unfold fonP; grind)) /- post1#51 -/
                      ·
                        refine wp_some ?_
                        try dsimp only
                        all_goals exact (by first | assumption | omega | (unfold fonP; grind)) /- post1#52 -/
                  ·
                    refine wp_some ?_
                    try dsimp only
                    all_goals exact (by first | assumption | omega | (unfold fonP; grind)) /- post1#53 -/
              ·
                refine wp_ck (z_ix_i.mpr ⟨⟨(by first | omega | grind) /- ix.lo x1#27 -/, (by first | omega | grind) /- ix.hi x1#27 -/⟩, (by first | omega | grind) /- ix.big x1#27 -/⟩) ?_
                refine wp_bnd ?_
                refine wp_ck (z_r32_i.mpr ⟨(by first | omega | grind) /- z_r32.lo i_p0_tape_value#8 -/, (by first | omega | grind) /- z_r32.hi i_p0_tape_value#8 -/⟩) ?_
                refine wp_ck (z_r32_i.mpr ⟨(by first | omega | grind) /- z_r32.lo z10#8 -/, (by first | omega | grind) /- z_r32.hi z10#8 -/⟩) ?_
                refine wp_if (fun c56 => ?_) (fun c56 => ?_)
                ·
                  refine wp_some ?_
                  try dsimp only
                  all_goals exact (by first | assumption | omega | (unfold fonP; grind)) /- post1#54 -/
                ·
                  refine wp_ck (z_r32_i.mpr ⟨(by first | omega | grind) /- z_r32.lo z13#8 -/, (by first | omega | grind) /- z_r32.hi z13#8 -/⟩) ?_
                  refine wp_if (fun c57 => ?_) (fun c57 => ?_)
                  ·
                    refine wp_jn ?_
                    refine wp_if (fun c58 => ?_) (fun c58 => ?_)
                    ·
                      refine wp_bd1 (s_X10_isAgain _ _ _ _ (by first | assumption | omega | (unfold fonP; grind)) /- pre X10_isAgain.1#8 -/ (by first | assumption | omega | (unfold fonP; grind)) /- pre X10_isAgain.2#8 -/ (by first | assumption | omega | (unfold fonP; grind)) /- pre X10_isAgain.3#8 -/ (by first | assumption | omega | (unfold fonP; grind)) /- pre X10_isAgain.4#8 -/ (by first | assumption | omega | (unfold fonP; grind)) /- pre X10_isAgain.5#8 -/ (by first | assumption | omega | (unfold fonP; grind)) /- pre X10_isAgain.6#8 -/ (by first | assumption | omega | (unfold fonP; grind)) /- pre X10_isAgain.7#8 -/) (fun z18 q_X10_isAgain_8 => ?_)
                      try dsimp only at q_X10_isAgain_8
                      refine wp_ck (z_r32_i.mpr ⟨(by first | omega | grind) /- z_r32.lo z18#8 -/, (by first | omega | grind) /- z_r32.hi z18#8 -/⟩) ?_
                      refine wp_if (fun c59 => ?_) (fun c59 => ?_)
                      ·
                        refine wp_ck (z_ix_i.mpr ⟨⟨(by first | omega | grind) /- ix.lo x1#28 -/, (by first | omega | grind) /- ix.hi x1#28 -/⟩, (by first | omega | grind) /- ix.big x1#28 -/⟩) ?_
                        refine wp_if (fun c60 => ?_) (fun c60 => ?_)
                        ·
                          refine wp_some ?_
                          try dsimp only
                          all_goals exact (by first | assumption | omega | (unfold fonP; grind)) /- post1#55 -/
                        ·
                          refine wp_some ?_
                          try dsimp only
                          all_goals exact (by first | assumption | omega | (unfold fonP; grind)) /- post1#56 -/
                      ·
                        refine wp_some ?_
                        try dsimp only
                        all_goals exact (by first | assumption | omega | (unfold fonP; grind)) /- post1#57 -/
                    ·
                      refine wp_ck (z_ix_i.mpr ⟨⟨(by first | omega | grind) /- ix.lo x1#29 -/, (by first | omega | grind) /- ix.hi x1#29 -/⟩, (by first | omega | grind) /- ix.big x1#29 -/⟩) ?_
                      refine wp_if (fun c61 => ?_) (fun c61 => ?_)
                      ·
                        refine wp_some ?_
                        try dsimp only
                        all_goals exact (by first | assumption | omega | (unfold fonP; grind)) /- post1#58 -/
                      ·
                        refine wp_some ?_
                        try dsimp only
                        all_goals exact (by first | assumption | omega | (unfold fonP; grind)) /- post1#59 -/
                  ·
                    refine wp_some ?_
                    try dsimp only
                    all_goals exact (by first | assumption | omega | (unfold fonP; grind)) /- post1#60 -/
        ·
          refine wp_some ?_
          try dsimp only
          all_goals exact (by first | assumption | omega | (unfold fonP; grind)) /- post1#61 -/
      ·
        refine wp_bnd ?_
        refine wp_if (fun c62 => ?_) (fun c62 => ?_)
        ·
          refine wp_ck (z_r32_i.mpr ⟨(by first | omega | grind) /- z_r32.lo z6#3 -/, (by first | omega | grind) /- z_r32.hi z6#3 -/⟩) ?_
          refine wp_if (fun c63 => ?_) (fun c63 => ?_)
          ·
            refine wp_some ?_
            try dsimp only
            all_goals exact (by first | assumption | omega | (unfold fonP; grind)) /- post1#62 -/
          ·
            refine wp_jn ?_
            refine wp_if (fun c64 => ?_) (fun c64 => ?_)
            ·
              refine wp_ck (z_ix_i.mpr ⟨⟨(by first | omega | grind) /- ix.lo x1#30 -/, (by first | omega | grind) /- ix.hi x1#30 -/⟩, (by first | omega | grind) /- ix.big x1#30 -/⟩) ?_
              refine wp_bnd ?_
              refine wp_jn ?_
              refine wp_if (fun c65 => ?_) (fun c65 => ?_)
              ·
                refine wp_ck (z_ix_i.mpr ⟨⟨(by first | omega | grind) /- ix.lo x1#31 -/, (by first | omega | grind) /- ix.hi x1#31 -/⟩, (by first | omega | grind) /- ix.big x1#31 -/⟩) ?_
                refine wp_bnd ?_
                refine wp_ck (z_r32_i.mpr ⟨(by first | omega | grind) /- z_r32.lo i_p0_tape_value#9 -/, (by first | omega | grind) /- z_r32.hi i_p0_tape_value#9 -/⟩) ?_
                refine wp_ck (z_r32_i.mpr ⟨(by first | omega | grind) /- z_r32.lo z10#9 -/, (by first | omega | grind) /- z_r32.hi z10#9 -/⟩) ?_
                refine wp_if (fun c66 => ?_) (fun c66 => ?_)
                ·
                  refine wp_some ?_
                  try dsimp only
                  all_goals exact (by first | assumption | omega | (unfold fonP; grind)) /- post1#63 -/
                ·
                  refine wp_ck (z_r32_i.mpr ⟨(by first | omega | grind) /- z_r32.lo z13#9 -/, (by first | omega | grind) /- z_r32.hi z13#9 -/⟩) ?_
                  refine wp_if (fun c67 => ?_) (fun c67 => ?_)
                  ·
                    refine wp_jn ?_
                    refine wp_if (fun c68 => ?_) (fun c68 => ?_)
                    ·
                      refine wp_bd1 (s_X10_isAgain _ _ _ _ (by first | assumption | omega | (unfold fonP; grind)) /- pre X10_isAgain.1#9 -/ (by first | assumption | omega | (unfold fonP; grind)) /- pre X10_isAgain.2#9 -/ (by first | assumption | omega | (unfold fonP; grind)) /- pre X10_isAgain.3#9 -/ (by first | assumption | omega | (unfold fonP; grind)) /- pre X10_isAgain.4#9 -/ (by first | assumption | omega | (unfold fonP; grind)) /- pre X10_isAgain.5#9 -/ (by first | assumption | omega | (unfold fonP; grind)) /- pre X10_isAgain.6#9 -/ (by first | assumption | omega | (unfold fonP; grind)) /- pre X10_isAgain.7#9 -/) (fun z18 q_X10_isAgain_9 => ?_)
                      try dsimp only at q_X10_isAgain_9
                      refine wp_ck (z_r32_i.mpr ⟨(by first | omega | grind) /- z_r32.lo z18#9 -/, (by first | omega | grind) /- z_r32.hi z18#9 -/⟩) ?_
                      refine wp_if (fun c69 => ?_) (fun c69 => ?_)
                      ·
                        refine wp_ck (z_ix_i.mpr ⟨⟨(by first | omega | grind) /- ix.lo x1#32 -/, (by first | omega | grind) /- ix.hi x1#32 -/⟩, (by first | omega | grind) /- ix.big x1#32 -/⟩) ?_
                        refine wp_if (fun c70 => ?_) (fun c70 => ?_)
                        ·
                          refine wp_some ?_
                          try dsimp only
                          all_goals exact (by first | assumption | omega | (unfold fonP; grind)) /- post1#64 -/
                        ·
                          refine wp_some ?_
                          try dsimp only
                          all_goals exact (by first | assumption | omega | (unfold fonP; grind)) /- post1#65 -/
                      ·
                        refine wp_some ?_
                        try dsimp only
                        all_goals exact (by first | assumption | omega | (unfold fonP; grind)) /- post1#66 -/
                    ·
                      refine wp_ck (z_ix_i.mpr ⟨⟨(by first | omega | grind) /- ix.lo x1#33 -/, (by first | omega | grind) /- ix.hi x1#33 -/⟩, (by first | omega | grind) /- ix.big x1#33 -/⟩) ?_
                      refine wp_if (fun c71 => ?_) (fun c71 => ?_)
                      ·
                        refine wp_some ?_
                        try dsimp only
                        all_goals exact (by first | assumption | omega | (unfold fonP; grind)) /- post1#67 -/
                      ·
                        refine wp_some ?_
                        try dsimp only
                        all_goals exact (by first | assumption | omega | (unfold fonP; grind)) /- post1#68 -/
                  ·
                    refine wp_some ?_
                    try dsimp only
                    all_goals exact (by first | assumption | omega | (unfold fonP; grind)) /- post1#69 -/
              ·
                refine wp_ck (z_ix_i.mpr ⟨⟨(by first | omega | grind) /- ix.lo x1#34 -/, (by first | omega | grind) /- ix.hi x1#34 -/⟩, (by first | omega | grind) /- ix.big x1#34 -/⟩) ?_
                refine wp_bnd ?_
                refine wp_ck (z_r32_i.mpr ⟨(by first | omega | grind) /- z_r32.lo i_p0_tape_value#10 -/, (by first | omega | grind) /- z_r32.hi i_p0_tape_value#10 -/⟩) ?_
                refine wp_ck (z_r32_i.mpr ⟨(by first | omega | grind) /- z_r32.lo z10#10 -/, (by first | omega | grind) /- z_r32.hi z10#10 -/⟩) ?_
                refine wp_if (fun c72 => ?_) (fun c72 => ?_)
                ·
                  refine wp_some ?_
                  try dsimp only
                  all_goals exact (by first | assumption | omega | (unfold fonP; grind)) /- post1#70 -/
                ·
                  refine wp_ck (z_r32_i.mpr ⟨(by first | omega | grind) /- z_r32.lo z13#10 -/, (by first | omega | grind) /- z_r32.hi z13#10 -/⟩) ?_
                  refine wp_if (fun c73 => ?_) (fun c73 => ?_)
                  ·
                    refine wp_jn ?_
                    refine wp_if (fun c74 => ?_) (fun c74 => ?_)
                    ·
                      refine wp_bd1 (s_X10_isAgain _ _ _ _ (by first | assumption | omega | (unfold fonP; grind)) /- pre X10_isAgain.1#10 -/ (by first | assumption | omega | (unfold fonP; grind)) /- pre X10_isAgain.2#10 -/ (by first | assumption | omega | (unfold fonP; grind)) /- pre X10_isAgain.3#10 -/ (by first | assumption | omega | (unfold fonP; grind)) /- pre X10_isAgain.4#10 -/ (by first | assumption | omega | (unfold fonP; grind)) /- pre X10_isAgain.5#10 -/ (by first | assumption | omega | (unfold fonP; grind)) /- pre X10_isAgain.6#10 -/ (by first | assumption | omega | (unfold fonP; grind)) /- pre X10_isAgain.7#10 -/) (fun z18 q_X10_isAgain_10 => ?_)
                      try dsimp only at q_X10_isAgain_10
                      refine wp_ck (z_r32_i.mpr ⟨(by first | omega | grind) /- z_r32.lo z18#10 -/, (by first | omega | grind) /- z_r32.hi z18#10 -/⟩) ?_
                      refine wp_if (fun c75 => ?_) (fun c75 => ?_)
                      ·
                        refine wp_ck (z_ix_i.mpr ⟨⟨(by first | omega | grind) /- ix.lo x1#35 -/, (by first | omega | grind) /- ix.hi x1#35 -/⟩, (by first | omega | grind) /- ix.big x1#35 -/⟩) ?_
                        refine wp_if (fun c76 => ?_) (fun c76 => ?_)
                        ·
                          refine wp_some ?_
                          try dsimp only
                          all_goals exact (by first | assumption | omega | (unfold fonP; grind)) /- post1#71 -/
                        ·
                          refine wp_some ?_
                          try dsimp only
                          all_goals exact (by first | assumption | omega | (unfold fonP; grind)) /- post1#72 -/
                      ·
                        refine wp_some ?_
                        try dsimp only
                        all_goals exact (by first | assumption | omega | (unfold fonP; grind)) /- post1#73 -/
                    ·
                      refine wp_ck (z_ix_i.mpr ⟨⟨(by first | omega | grind) /- ix.lo x1#36 -/, (by first | omega | grind) /- ix.hi x1#36 -/⟩, (by first | omega | grind) /- ix.big x1#36 -/⟩) ?_
                      refine wp_if (fun c77 => ?_) (fun c77 => ?_)
                      ·
                        refine wp_some ?_
                        try dsimp only
                        all_goals exact (by first | assumption | omega | (unfold fonP; grind)) /- post1#74 -/
                      ·
                        refine wp_some ?_
                        try dsimp only
                        all_goals exact (by first | assumption | omega | (unfold fonP; grind)) /- post1#75 -/
                  ·
                    refine wp_some ?_
                    try dsimp only
                    all_goals exact (by first | assumption | omega | (unfold fonP; grind)) /- post1#76 -/
            ·
              refine wp_ck (z_ix_i.mpr ⟨⟨(by first | omega | grind) /- ix.lo x1#37 -/, (by first | omega | grind) /- ix.hi x1#37 -/⟩, (by first | omega | grind) /- ix.big x1#37 -/⟩) ?_
              refine wp_bnd ?_
              refine wp_jn ?_
              refine wp_if (fun c78 => ?_) (fun c78 => ?_)
              ·
                refine wp_ck (z_ix_i.mpr ⟨⟨(by first | omega | grind) /- ix.lo x1#38 -/, (by first | omega | grind) /- ix.hi x1#38 -/⟩, (by first | omega | grind) /- ix.big x1#38 -/⟩) ?_
                refine wp_bnd ?_
                refine wp_ck (z_r32_i.mpr ⟨(by first | omega | grind) /- z_r32.lo i_p0_tape_value#11 -/, (by first | omega | grind) /- z_r32.hi i_p0_tape_value#11 -/⟩) ?_
                refine wp_ck (z_r32_i.mpr ⟨(by first | omega | grind) /- z_r32.lo z10#11 -/, (by first | omega | grind) /- z_r32.hi z10#11 -/⟩) ?_
                refine wp_if (fun c79 => ?_) (fun c79 => ?_)
                ·
                  refine wp_some ?_
                  try dsimp only
                  all_goals exact (by first | assumption | omega | (unfold fonP; grind)) /- post1#77 -/
                ·
                  refine wp_ck (z_r32_i.mpr ⟨(by first | omega | grind) /- z_r32.lo z13#11 -/, (by first | omega | grind) /- z_r32.hi z13#11 -/⟩) ?_
                  refine wp_if (fun c80 => ?_) (fun c80 => ?_)
                  ·
                    refine wp_jn ?_
                    refine wp_if (fun c81 => ?_) (fun c81 => ?_)
                    ·
                      refine wp_bd1 (s_X10_isAgain _ _ _ _ (by first | assumption | omega | (unfold fonP; grind)) /- pre X10_isAgain.1#11 -/ (by first | assumption | omega | (unfold fonP; grind)) /- pre X10_isAgain.2#11 -/ (by first | assumption | omega | (unfold fonP; grind)) /- pre X10_isAgain.3#11 -/ (by first | assumption | omega | (unfold fonP; grind)) /- pre X10_isAgain.4#11 -/ (by first | assumption | omega | (unfold fonP; grind)) /- pre X10_isAgain.5#11 -/ (by first | assumption | omega | (unfold fonP; grind)) /- pre X10_isAgain.6#11 -/ (by first | assumption | omega | (unfold fonP; grind)) /- pre X10_isAgain.7#11 -/) (fun z18 q_X10_isAgain_11 => ?_)
                      try dsimp only at q_X10_isAgain_11
                      refine wp_ck (z_r32_i.mpr ⟨(by first | omega | grind) /- z_r32.lo z18#11 -/, (by first | omega | grind) /- z_r32.hi z18#11 -/⟩) ?_
                      refine wp_if (fun c82 => ?_) (fun c82 => ?_)
                      ·
                        refine wp_ck (z_ix_i.mpr ⟨⟨(by first | omega | grind) /- ix.lo x1#39 -/, (by first | omega | grind) /- ix.hi x1#39 -/⟩, (by first | omega | grind) /- ix.big x1#39 -/⟩) ?_
                        refine wp_if (fun c83 => ?_) (fun c83 => ?_)
                        ·
                          refine wp_some ?_
                          try dsimp only
                          all_goals exact (by first | assumption | omega | (unfold fonP; grind)) /- post1#78 -/
                        ·
                          refine wp_some ?_
                          try dsimp only
                          all_goals exact (by first | assumption | omega | (unfold fonP; grind)) /- post1#79 -/
                      ·
                        refine wp_some ?_
                        try dsimp only
                        all_goals exact (by first | assumption | omega | (unfold fonP; grind)) /- post1#80 -/
                    ·
                      refine wp_ck (z_ix_i.mpr ⟨⟨(by first | omega | grind) /- ix.lo x1#40 -/, (by first | omega | grind) /- ix.hi x1#40 -/⟩, (by first | omega | grind) /- ix.big x1#40 -/⟩) ?_
                      refine wp_if (fun c84 => ?_) (fun c84 => ?_)
                      ·
                        refine wp_some ?_
                        try dsimp only
                        all_goals exact (by first | assumption | omega | (unfold fonP; grind)) /- post1#81 -/
                      ·
                        refine wp_some ?_
                        try dsimp only
                        all_goals exact (by first | assumption | omega | (unfold fonP; grind)) /- post1#82 -/
                  ·
                    refine wp_some ?_
                    try dsimp only
                    all_goals exact (by first | assumption | omega | (unfold fonP; grind)) /- post1#83 -/
              ·
                refine wp_ck (z_ix_i.mpr ⟨⟨(by first | omega | grind) /- ix.lo x1#41 -/, (by first | omega | grind) /- ix.hi x1#41 -/⟩, (by first | omega | grind) /- ix.big x1#41 -/⟩) ?_
                refine wp_bnd ?_
                refine wp_ck (z_r32_i.mpr ⟨(by first | omega | grind) /- z_r32.lo i_p0_tape_value#12 -/, (by first | omega | grind) /- z_r32.hi i_p0_tape_value#12 -/⟩) ?_
                refine wp_ck (z_r32_i.mpr ⟨(by first | omega | grind) /- z_r32.lo z10#12 -/, (by first | omega | grind) /- z_r32.hi z10#12 -/⟩) ?_
                refine wp_if (fun c85 => ?_) (fun c85 => ?_)
                ·
                  refine wp_some ?_
                  try dsimp only
                  all_goals exact (by first | assumption | omega | (unfold fonP; grind)) /- post1#84 -/
                ·
                  refine wp_ck (z_r32_i.mpr ⟨(by first | omega | grind) /- z_r32.lo z13#12 -/, (by first | omega | grind) /- z_r32.hi z13#12 -/⟩) ?_
                  refine wp_if (fun c86 => ?_) (fun c86 => ?_)
                  ·
                    refine wp_jn ?_
                    refine wp_if (fun c87 => ?_) (fun c87 => ?_)
                    ·
                      refine wp_bd1 (s_X10_isAgain _ _ _ _ (by first | assumption | omega | (unfold fonP; grind)) /- pre X10_isAgain.1#12 -/ (by first | assumption | omega | (unfold fonP; grind)) /- pre X10_isAgain.2#12 -/ (by first | assumption | omega | (unfold fonP; grind)) /- pre X10_isAgain.3#12 -/ (by first | assumption | omega | (unfold fonP; grind)) /- pre X10_isAgain.4#12 -/ (by first | assumption | omega | (unfold fonP; grind)) /- pre X10_isAgain.5#12 -/ (by first | assumption | omega | (unfold fonP; grind)) /- pre X10_isAgain.6#12 -/ (by first | assumption | omega | (unfold fonP; grind)) /- pre X10_isAgain.7#12 -/) (fun z18 q_X10_isAgain_12 => ?_)
                      try dsimp only at q_X10_isAgain_12
                      refine wp_ck (z_r32_i.mpr ⟨(by first | omega | grind) /- z_r32.lo z18#12 -/, (by first | omega | grind) /- z_r32.hi z18#12 -/⟩) ?_
                      refine wp_if (fun c88 => ?_) (fun c88 => ?_)
                      ·
                        refine wp_ck (z_ix_i.mpr ⟨⟨(by first | omega | grind) /- ix.lo x1#42 -/, (by first | omega | grind) /- ix.hi x1#42 -/⟩, (by first | omega | grind) /- ix.big x1#42 -/⟩) ?_
                        refine wp_if (fun c89 => ?_) (fun c89 => ?_)
                        ·
                          refine wp_some ?_
                          try dsimp only
                          all_goals exact (by first | assumption | omega | (unfold fonP; grind)) /- post1#85 -/
                        ·
                          refine wp_some ?_
                          try dsimp only
                          all_goals exact (by first | assumption | omega | (unfold fonP; grind)) /- post1#86 -/
                      ·
                        refine wp_some ?_
                        try dsimp only
                        all_goals exact (by first | assumption | omega | (unfold fonP; grind)) /- post1#87 -/
                    ·
                      refine wp_ck (z_ix_i.mpr ⟨⟨(by first | omega | grind) /- ix.lo x1#43 -/, (by first | omega | grind) /- ix.hi x1#43 -/⟩, (by first | omega | grind) /- ix.big x1#43 -/⟩) ?_
                      refine wp_if (fun c90 => ?_) (fun c90 => ?_)
                      ·
                        refine wp_some ?_
                        try dsimp only
                        all_goals exact (by first | assumption | omega | (unfold fonP; grind)) /- post1#88 -/
                      ·
                        refine wp_some ?_
                        try dsimp only
                        all_goals exact (by first | assumption | omega | (unfold fonP; grind)) /- post1#89 -/
                  ·
                    refine wp_some ?_
                    try dsimp only
                    all_goals exact (by first | assumption | omega | (unfold fonP; grind)) /- post1#90 -/
        ·
          refine wp_some ?_
          try dsimp only
          all_goals exact (by first | assumption | omega | (unfold fonP; grind)) /- post1#91 -/
