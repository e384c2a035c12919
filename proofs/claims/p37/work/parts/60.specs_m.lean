theorem wp_jnS {β : Type} {x : Option β} {k : Option β → Option β} {P : β → Prop} (h1 : wp x P) (h2 : ∀ J, wp J P → wp (k J) P) : wp (jn x k) P := h2 x h1
/-- the reference's token from place s of the tape t -/
def tokr (t : Int → Int) (L s a so v fl : Int) : Prop :=
  if s = L then so = 0 ∧ a = s ∧ fl = 0
  else if 97 ≤ t s ∧ t s ≤ 122 then so = 1 ∧ s < a ∧ a ≤ L ∧ (∀ j, s ≤ j → j < a → 97 ≤ t j ∧ t j ≤ 122) ∧ (a < L → ¬ (97 ≤ t a ∧ t a ≤ 122)) ∧ fl = 0
  else if 48 ≤ t s ∧ t s ≤ 57 then so = 2 ∧ s < a ∧ a ≤ L ∧ (∀ j, s ≤ j → j < a → 48 ≤ t j ∧ t j ≤ 57) ∧ (a < L → ¬ (48 ≤ t a ∧ t a ≤ 57)) ∧ (a - s = 1 → v = t s - 48) ∧ (2 ≤ a - s → v = 10 * (t s - 48) + (t (s + 1) - 48)) ∧ (fl = if a - s ≤ 2 then 0 else 1)
  else so = 3 ∧ a = s + 1 ∧ (fl = if t s = 59 then 0 else 1)
/-- what is known of the reference's token -/
def tokI (L pos frm so v fl wa : Int) : Prop := (0 ≤ frm ∧ frm ≤ pos ∧ pos ≤ L) ∧ (0 ≤ so ∧ so ≤ 3) ∧ (so = 2 → 0 ≤ v ∧ v ≤ 99) ∧ (0 ≤ fl ∧ fl ≤ 6) ∧ (¬ fl = 0 → 0 ≤ wa ∧ wa ≤ L) ∧ (¬ so = 0 → frm < pos) ∧ (so = 0 → frm = L)
theorem tokr_use {t : Int → Int} {L s a so v fl : Int} (ht : ∀ j, 0 ≤ j → j < 320 → 0 ≤ t j ∧ t j ≤ 255) (h0 : 0 ≤ s) (hL : L ≤ 320) (hs : s ≤ L) (h : tokr t L s a so v fl) : (s ≤ a ∧ a ≤ L) ∧ (0 ≤ so ∧ so ≤ 3) ∧ (so = 2 → 0 ≤ v ∧ v ≤ 99) ∧ (fl = 0 ∨ fl = 1) ∧ (¬ so = 0 → s < a) ∧ (so = 0 → s = L) := by
  unfold tokr at h
  split at h
  · omega
  · split at h
    · obtain ⟨h1, h2, h3, h4, h5, h6⟩ := h
      omega
    · split at h
      · obtain ⟨h1, h2, h3, h4, h5, h6, h7, h8⟩ := h
        refine ⟨by omega, by omega, fun _ => ?_, ?_, by omega, by omega⟩
        · by_cases c : a - s = 1
          · have := h6 c; omega
          · have := h7 (by omega)
            have := h4 (s + 1) (by omega) (by omega)
            omega
        · split at h8 <;> omega
      · obtain ⟨h1, h2, h3⟩ := h
        split at h3 <;> omega
def rrdr (n s h : Int) (need dst dr : Int → Int) : Prop := rdr n s (max h 0) need (fun r => 7 + dst (3 * r)) (fun r => dst (3 * r + 1)) (fun r => dst (3 * r + 2)) (dr 7) (dr 8) dr (fun j => dr (9 + j)) (fun j => dr (16 + j))
theorem cmp_lt {x y : Int} : z_cmp x y < 0 ↔ x < y := by
  unfold z_cmp
  split
  · omega
  · split <;> omega
theorem cmp_gt {x y : Int} : 0 < z_cmp x y ↔ y < x := by
  unfold z_cmp
  split
  · omega
  · split <;> omega
set_option maxHeartbeats 1000000 in
theorem s_X12_in (x0 : Int) (x2 : Int) (x4 : Int) (h1 : -9223372036854775808 ≤ x0) (h2 : x0 < 9223372036854775808) (h3 : -9223372036854775808 ≤ x2) (h4 : x2 < 9223372036854775808) (h5 : -9223372036854775808 ≤ x4) (h6 : x4 < 9223372036854775808) : wp (f_X12_in x0 x2 x4) (fun o => (o = if x2 ≤ x0 ∧ x0 ≤ x4 then 1 else 0)) := by
  unfold f_X12_in
  refine wp_ck (z_r64_i.mpr ⟨(by first | omega | grind) /- z_r64.lo x0#1 -/, (by first | omega | grind) /- z_r64.hi x0#1 -/⟩) ?_
  refine wp_ck (z_r64_i.mpr ⟨(by first | omega | grind) /- z_r64.lo x2#1 -/, (by first | omega | grind) /- z_r64.hi x2#1 -/⟩) ?_
  refine wp_ck (z_r32_cmp _ _) ?_
  refine wp_if (fun c1 => ?_) (fun c1 => ?_)
  ·
    refine wp_some ?_
    try dsimp only
    all_goals exact (by have := cmp_lt.mp c1; rw [if_neg (by omega)]) /- post1#1 -/
  ·
    refine wp_ck (z_r64_i.mpr ⟨(by first | omega | grind) /- z_r64.lo x4#1 -/, (by first | omega | grind) /- z_r64.hi x4#1 -/⟩) ?_
    refine wp_ck (z_r32_cmp _ _) ?_
    refine wp_if (fun c2 => ?_) (fun c2 => ?_)
    ·
      refine wp_some ?_
      try dsimp only
      all_goals exact (by have := cmp_gt.mp c2; rw [if_neg (by omega)]) /- post1#2 -/
    ·
      refine wp_some ?_
      try dsimp only
      all_goals exact (by have a : ¬ x0 < x2 := fun h => c1 (cmp_lt.mpr h); have b : ¬ x4 < x0 := fun h => c2 (cmp_gt.mpr h); rw [if_pos (by omega)]) /- post1#3 -/

set_option maxHeartbeats 1000000 in
theorem s_X12_flag (x0 : Int) (h1 : x0 = 0 ∨ x0 = 1) : wp (f_X12_flag x0) (fun o => (o = x0)) := by
  unfold f_X12_flag
  refine wp_ck (z_r32_i.mpr ⟨(by omega) /- z_r32.lo x0#1 -/, (by omega) /- z_r32.hi x0#1 -/⟩) ?_
  refine wp_if (fun c1 => ?_) (fun c1 => ?_)
  ·
    refine wp_some ?_
    try dsimp only
    all_goals exact (by omega) /- post1#1 -/
  ·
    refine wp_some ?_
    try dsimp only
    all_goals exact (by omega) /- post1#2 -/

set_option maxHeartbeats 1000000 in
theorem s_X12_firstDraft (v_p0_draft : (Int → Int)) (v_p0_dNeed : (Int → Int)) : wp (f_X12_firstDraft v_p0_draft v_p0_dNeed) (fun o => (o.1 = 4) ∧ (o.2.1 = 0) ∧ (o.2.2.1 = 0) ∧ (o.2.2.2.1 = -4) ∧ (∀ j, 0 ≤ j → j < 38 → o.2.2.2.2.1 j = (if 16 ≤ j ∧ j < 23 then 1 else 0)) ∧ (∀ j, 0 ≤ j → j < 7 → o.2.2.2.2.2 j = 0)) := by
  unfold f_X12_firstDraft
  refine wp_bnd ?_
  refine wp_jn ?_
  refine wp_lq2 (fun (z17 : Int) (w18 : (Int → Int)) => (0 ≤ z17) ∧ (z17 ≤ 38) ∧ (∀ j, 0 ≤ j → j < z17 → w18 j = (if 16 ≤ j ∧ j < 23 then 1 else 0))) (fun (z17 : Int) (w18 : (Int → Int)) => (38 - z17).toNat) (fun again2 z17 w18 hI ih_B_X12_firstDraft_2 => ?_) 1000 _ _ ⟨(by first | rfl | omega) /- B_X12_firstDraft_2.init1#1 -/, (by first | rfl | omega) /- B_X12_firstDraft_2.init2#1 -/, (by intro j; omega) /- B_X12_firstDraft_2.init3#1 -/⟩ (by omega) /- B_X12_firstDraft_2.fuel#1 -/
  obtain ⟨i_B_X12_firstDraft_2_1, i_B_X12_firstDraft_2_2, i_B_X12_firstDraft_2_3⟩ := hI
  unfold B_X12_firstDraft_2
  refine wp_ck (z_r32_i.mpr ⟨(by omega) /- z_r32.lo z17#1 -/, (by omega) /- z_r32.hi z17#1 -/⟩) ?_
  refine wp_if (fun c1 => ?_) (fun c1 => ?_)
  ·
    refine wp_bnd ?_
    refine wp_jn ?_
    refine wp_lq2 (fun (z11 : Int) (w12 : (Int → Int)) => (0 ≤ z11) ∧ (z11 ≤ 7) ∧ (∀ j, 0 ≤ j → j < z11 → w12 j = 0)) (fun (z11 : Int) (w12 : (Int → Int)) => (7 - z11).toNat) (fun again39 z11 w12 hI ih_B_X12_firstDraft_39 => ?_) 1000 _ _ ⟨(by first | rfl | omega) /- B_X12_firstDraft_39.init1#1 -/, (by first | rfl | omega) /- B_X12_firstDraft_39.init2#1 -/, (by intro j; omega) /- B_X12_firstDraft_39.init3#1 -/⟩ (by omega) /- B_X12_firstDraft_39.fuel#1 -/
    obtain ⟨i_B_X12_firstDraft_39_1, i_B_X12_firstDraft_39_2, i_B_X12_firstDraft_39_3⟩ := hI
    unfold B_X12_firstDraft_39
    refine wp_ck (z_r32_i.mpr ⟨(by omega) /- z_r32.lo z11#1 -/, (by omega) /- z_r32.hi z11#1 -/⟩) ?_
    refine wp_if (fun c2 => ?_) (fun c2 => ?_)
    ·
      refine wp_bnd ?_
      refine wp_bnd ?_
      refine wp_bnd ?_
      refine wp_bnd ?_
      refine wp_some ?_
      try dsimp only
      all_goals exact ⟨(by first | rfl | omega) /- post1#1 -/, (by first | rfl | omega) /- post2#1 -/, (by first | rfl | omega) /- post3#1 -/, (by first | rfl | omega) /- post4#1 -/, (by intro j a b; exact i_B_X12_firstDraft_2_3 j a (by omega)) /- post5#1 -/, (by intro j a b; exact i_B_X12_firstDraft_39_3 j a (by omega)) /- post6#1 -/⟩
    ·
      refine wp_ck (z_ix_i.mpr ⟨⟨(by omega) /- ix.lo z11#1 -/, (by omega) /- ix.hi z11#1 -/⟩, (by omega) /- ix.big z11#1 -/⟩) ?_
      refine wp_bnd ?_
      refine wp_bndE (fun z16 hz16 => ?_)
      exact ih_B_X12_firstDraft_39 _ _ ⟨(by first | rfl | omega) /- B_X12_firstDraft_39.inv1#1 -/, (by first | rfl | omega) /- B_X12_firstDraft_39.inv2#1 -/, (by intro j a b; rw [z_up_a]; split; rfl; exact i_B_X12_firstDraft_39_3 j a (by omega)) /- B_X12_firstDraft_39.inv3#1 -/⟩ (by omega) /- B_X12_firstDraft_39.dec#1 -/
  ·
    refine wp_if (fun c3 => ?_) (fun c3 => ?_)
    ·
      refine wp_ck (z_ix_i.mpr ⟨⟨(by omega) /- ix.lo z17#1 -/, (by omega) /- ix.hi z17#1 -/⟩, (by omega) /- ix.big z17#1 -/⟩) ?_
      refine wp_bnd ?_
      refine wp_bndE (fun z22 hz22 => ?_)
      exact ih_B_X12_firstDraft_2 _ _ ⟨(by first | rfl | omega) /- B_X12_firstDraft_2.inv1#1 -/, (by first | rfl | omega) /- B_X12_firstDraft_2.inv2#1 -/, (by intro j a b; rw [z_up_a]; split; (first | rw [if_pos (by omega)] | rw [if_neg (by omega)]); exact i_B_X12_firstDraft_2_3 j a (by omega)) /- B_X12_firstDraft_2.inv3#1 -/⟩ (by omega) /- B_X12_firstDraft_2.dec#1 -/
    ·
      refine wp_if (fun c4 => ?_) (fun c4 => ?_)
      ·
        refine wp_ck (z_ix_i.mpr ⟨⟨(by omega) /- ix.lo z17#2 -/, (by omega) /- ix.hi z17#2 -/⟩, (by omega) /- ix.big z17#2 -/⟩) ?_
        refine wp_bnd ?_
        refine wp_bndE (fun z24 hz24 => ?_)
        exact ih_B_X12_firstDraft_2 _ _ ⟨(by first | rfl | omega) /- B_X12_firstDraft_2.inv1#2 -/, (by first | rfl | omega) /- B_X12_firstDraft_2.inv2#2 -/, (by intro j a b; rw [z_up_a]; split; (first | rw [if_pos (by omega)] | rw [if_neg (by omega)]); exact i_B_X12_firstDraft_2_3 j a (by omega)) /- B_X12_firstDraft_2.inv3#2 -/⟩ (by omega) /- B_X12_firstDraft_2.dec#2 -/
      ·
        refine wp_ck (z_ix_i.mpr ⟨⟨(by omega) /- ix.lo z17#3 -/, (by omega) /- ix.hi z17#3 -/⟩, (by omega) /- ix.big z17#3 -/⟩) ?_
        refine wp_bnd ?_
        refine wp_bndE (fun z26 hz26 => ?_)
        exact ih_B_X12_firstDraft_2 _ _ ⟨(by first | rfl | omega) /- B_X12_firstDraft_2.inv1#3 -/, (by first | rfl | omega) /- B_X12_firstDraft_2.inv2#3 -/, (by intro j a b; rw [z_up_a]; split; (first | rw [if_pos (by omega)] | rw [if_neg (by omega)]); exact i_B_X12_firstDraft_2_3 j a (by omega)) /- B_X12_firstDraft_2.inv3#3 -/⟩ (by omega) /- B_X12_firstDraft_2.dec#3 -/

set_option maxHeartbeats 1000000 in
theorem s_X12_broughtTo (i_p0_dSeats : Int) (v_p0_dStir : (Int → Int)) (x1 : Int) (x2 : Int) (h1 : 2 ≤ i_p0_dSeats) (h2 : i_p0_dSeats ≤ 7) (h3 : 0 ≤ x1) (h4 : x1 < 5) (h5 : 0 ≤ x2) (h6 : x2 < i_p0_dSeats) (h7 : okSt i_p0_dSeats (7 + v_p0_dStir (3 * x1)) (v_p0_dStir (3 * x1 + 1)) (v_p0_dStir (3 * x1 + 2))) : wp (f_X12_broughtTo i_p0_dSeats v_p0_dStir x1 x2) (fun o => (o = bro i_p0_dSeats (7 + v_p0_dStir (3 * x1)) (v_p0_dStir (3 * x1 + 1)) (v_p0_dStir (3 * x1 + 2)) x2)) := by
  unfold f_X12_broughtTo
  have hst := h7
  unfold okSt at hst
  refine wp_ck (z_ix_i.mpr ⟨⟨(by omega) /- ix.lo (((3 : Int) * x1) + (1 : Int))#1 -/, (by omega) /- ix.hi (((3 : Int) * x1) + (1 : Int))#1 -/⟩, (by omega) /- ix.big (((3 : Int) * x1) + (1 : Int))#1 -/⟩) ?_
  refine wp_bndE (fun z1 hz1 => ?_)
  refine wp_ck (z_ix_i.mpr ⟨⟨(by omega) /- ix.lo (((3 : Int) * x1) + (2 : Int))#1 -/, (by omega) /- ix.hi (((3 : Int) * x1) + (2 : Int))#1 -/⟩, (by omega) /- ix.big (((3 : Int) * x1) + (2 : Int))#1 -/⟩) ?_
  refine wp_bndE (fun z2 hz2 => ?_)
  refine wp_ck (z_ix_i.mpr ⟨⟨(by omega) /- ix.lo ((3 : Int) * x1)#1 -/, (by omega) /- ix.hi ((3 : Int) * x1)#1 -/⟩, (by omega) /- ix.big ((3 : Int) * x1)#1 -/⟩) ?_
  refine wp_ck (z_r32_i.mpr ⟨(by omega) /- z_r32.lo (v_p0_dStir ((3 : Int) * x1))#1 -/, (by omega) /- z_r32.hi (v_p0_dStir ((3 : Int) * x1))#1 -/⟩) ?_
  refine wp_if (fun c1 => ?_) (fun c1 => ?_)
  ·
    refine wp_ck (z_dv_i.mpr ⟨⟨⟨(by omega) /- dv.0 (x2 + z1)#1 -/, (by omega) /- dv.1 (x2 + z1)#1 -/⟩, (by omega) /- dv.2 (x2 + z1)#1 -/⟩, (by omega) /- dv.3 (x2 + z1)#1 -/⟩) ?_
    refine wp_some ?_
    try dsimp only
    all_goals exact (by unfold bro; rw [if_pos (by omega), hz1]) /- post1#1 -/
  ·
    refine wp_if (fun c2 => ?_) (fun c2 => ?_)
    ·
      refine wp_some ?_
      try dsimp only
      all_goals exact (by unfold bro; rw [if_neg (by omega), if_pos (by omega)]) /- post1#2 -/
    ·
      refine wp_if (fun c3 => ?_) (fun c3 => ?_)
      ·
        refine wp_ck (z_r32_i.mpr ⟨(by omega) /- z_r32.lo x2#1 -/, (by omega) /- z_r32.hi x2#1 -/⟩) ?_
        refine wp_ck (z_r32_i.mpr ⟨(by omega) /- z_r32.lo z1#1 -/, (by omega) /- z_r32.hi z1#1 -/⟩) ?_
        refine wp_if (fun c4 => ?_) (fun c4 => ?_)
        ·
          refine wp_some ?_
          try dsimp only
          all_goals exact (by unfold bro; rw [if_neg (by omega), if_neg (by omega), if_pos (by omega), if_pos (by omega)]; omega) /- post1#3 -/
        ·
          refine wp_ck (z_r32_i.mpr ⟨(by omega) /- z_r32.lo z2#1 -/, (by omega) /- z_r32.hi z2#1 -/⟩) ?_
          refine wp_if (fun c5 => ?_) (fun c5 => ?_)
          ·
            refine wp_some ?_
            try dsimp only
            all_goals exact (by unfold bro; rw [if_neg (by omega), if_neg (by omega), if_pos (by omega), if_neg (by omega), if_pos (by omega)]; omega) /- post1#4 -/
          ·
            refine wp_some ?_
            try dsimp only
            all_goals exact (by unfold bro; rw [if_neg (by omega), if_neg (by omega), if_pos (by omega), if_neg (by omega), if_neg (by omega)]) /- post1#5 -/
      ·
        refine wp_ck (z_r32_i.mpr ⟨(by omega) /- z_r32.lo x2#2 -/, (by omega) /- z_r32.hi x2#2 -/⟩) ?_
        refine wp_ck (z_r32_i.mpr ⟨(by omega) /- z_r32.lo z1#2 -/, (by omega) /- z_r32.hi z1#2 -/⟩) ?_
        refine wp_if (fun c6 => ?_) (fun c6 => ?_)
        ·
          refine wp_some ?_
          try dsimp only
          all_goals exact (by unfold bro; rw [if_neg (by omega), if_neg (by omega), if_neg (by omega), if_pos (by omega)]) /- post1#6 -/
        ·
          refine wp_if (fun c7 => ?_) (fun c7 => ?_)
          ·
            refine wp_some ?_
            try dsimp only
            all_goals exact (by unfold bro; rw [if_neg (by omega), if_neg (by omega), if_neg (by omega), if_neg (by omega), if_neg (by omega)]) /- post1#7 -/
          ·
            refine wp_some ?_
            try dsimp only
            all_goals exact (by unfold bro; rw [if_neg (by omega), if_neg (by omega), if_neg (by omega), if_neg (by omega), if_pos (by omega)]) /- post1#8 -/

set_option maxHeartbeats 1000000 in
theorem s_X12_keepDraft (i_p0_dSeats : Int) (i_p0_dStirs : Int) (v_p0_st : (Int → Int)) (v_p0_isKept : (Int → Int)) (v_p0_brings : (Int → Int)) (v_p0_need : (Int → Int)) (v_p0_draft : (Int → Int)) (v_p0_dStir : (Int → Int)) (v_p0_dNeed : (Int → Int)) (h1 : 2 ≤ i_p0_dSeats) (h2 : i_p0_dSeats ≤ 7) (h3 : 0 ≤ i_p0_dStirs) (h4 : i_p0_dStirs ≤ 5) (h5 : ∀ t, 0 ≤ t → t < i_p0_dStirs → okSt i_p0_dSeats (7 + v_p0_dStir (3 * t)) (v_p0_dStir (3 * t + 1)) (v_p0_dStir (3 * t + 2))) : wp (f_X12_keepDraft i_p0_dSeats i_p0_dStirs v_p0_st v_p0_isKept v_p0_brings v_p0_need v_p0_draft v_p0_dStir v_p0_dNeed) (fun o => (o.1 = i_p0_dSeats) ∧ (o.2.1 = i_p0_dStirs) ∧ (∀ j, 0 ≤ j → j < 38 → o.2.2.1 j = v_p0_draft j) ∧ (∀ j, 38 ≤ j → o.2.2.1 j = v_p0_st j) ∧ (∀ j, 0 ≤ j → j < 2 → o.2.2.2.1 j = 0) ∧ (∀ t, 0 ≤ t → t < i_p0_dStirs → ∀ i, 0 ≤ i → i < i_p0_dSeats → o.2.2.2.2.1 (7 * t + i) = bro i_p0_dSeats (7 + v_p0_dStir (3 * t)) (v_p0_dStir (3 * t + 1)) (v_p0_dStir (3 * t + 2)) i) ∧ (∀ j, 0 ≤ j → j < 7 → o.2.2.2.2.2 j = v_p0_dNeed j)) := by
  unfold f_X12_keepDraft
  refine wp_bnd ?_
  refine wp_jn ?_
  refine wp_lq2 (fun (z35 : Int) (w36 : (Int → Int)) => (0 ≤ z35) ∧ (z35 ≤ 38) ∧ (∀ j, 0 ≤ j → j < z35 → w36 j = v_p0_draft j) ∧ (∀ j, 38 ≤ j → w36 j = v_p0_st j)) (fun (z35 : Int) (w36 : (Int → Int)) => (38 - z35).toNat) (fun again2 z35 w36 hI ih_B_X12_keepDraft_2 => ?_) 1000 _ _ ⟨(by first | rfl | omega) /- B_X12_keepDraft_2.init1#1 -/, (by first | rfl | omega) /- B_X12_keepDraft_2.init2#1 -/, (by intro j; omega) /- B_X12_keepDraft_2.init3#1 -/, (by intro j _; rfl) /- B_X12_keepDraft_2.init4#1 -/⟩ (by omega) /- B_X12_keepDraft_2.fuel#1 -/
  obtain ⟨i_B_X12_keepDraft_2_1, i_B_X12_keepDraft_2_2, i_B_X12_keepDraft_2_3, i_B_X12_keepDraft_2_4⟩ := hI
  unfold B_X12_keepDraft_2
  refine wp_ck (z_r32_i.mpr ⟨(by omega) /- z_r32.lo z35#1 -/, (by omega) /- z_r32.hi z35#1 -/⟩) ?_
  refine wp_if (fun c1 => ?_) (fun c1 => ?_)
  ·
    refine wp_bnd ?_
    refine wp_bnd ?_
    refine wp_bnd ?_
    refine wp_jn ?_
    refine wp_lq2 (fun (z29 : Int) (w30 : (Int → Int)) => (0 ≤ z29) ∧ (z29 ≤ 7) ∧ (∀ j, 0 ≤ j → j < z29 → w30 j = v_p0_dNeed j)) (fun (z29 : Int) (w30 : (Int → Int)) => (7 - z29).toNat) (fun again44 z29 w30 hI ih_B_X12_keepDraft_44 => ?_) 1000 _ _ ⟨(by first | rfl | omega) /- B_X12_keepDraft_44.init1#1 -/, (by first | rfl | omega) /- B_X12_keepDraft_44.init2#1 -/, (by intro j; omega) /- B_X12_keepDraft_44.init3#1 -/⟩ (by omega) /- B_X12_keepDraft_44.fuel#1 -/
    obtain ⟨i_B_X12_keepDraft_44_1, i_B_X12_keepDraft_44_2, i_B_X12_keepDraft_44_3⟩ := hI
    unfold B_X12_keepDraft_44
    refine wp_ck (z_r32_i.mpr ⟨(by omega) /- z_r32.lo z29#1 -/, (by omega) /- z_r32.hi z29#1 -/⟩) ?_
    refine wp_if (fun c2 => ?_) (fun c2 => ?_)
    ·
      refine wp_bnd ?_
      refine wp_jn ?_
      refine wp_lq2 (fun (z14 : Int) (w15 : (Int → Int)) => (0 ≤ z14) ∧ (z14 ≤ i_p0_dStirs) ∧ (∀ t, 0 ≤ t → t < z14 → ∀ i, 0 ≤ i → i < i_p0_dSeats → w15 (7 * t + i) = bro i_p0_dSeats (7 + v_p0_dStir (3 * t)) (v_p0_dStir (3 * t + 1)) (v_p0_dStir (3 * t + 2)) i)) (fun (z14 : Int) (w15 : (Int → Int)) => (i_p0_dStirs - z14).toNat) (fun again70 z14 w15 hI ih_B_X12_keepDraft_70 => ?_) 1000 _ _ ⟨(by first | rfl | omega) /- B_X12_keepDraft_70.init1#1 -/, (by first | rfl | omega) /- B_X12_keepDraft_70.init2#1 -/, (by intro j; omega) /- B_X12_keepDraft_70.init3#1 -/⟩ (by omega) /- B_X12_keepDraft_70.fuel#1 -/
      obtain ⟨i_B_X12_keepDraft_70_1, i_B_X12_keepDraft_70_2, i_B_X12_keepDraft_70_3⟩ := hI
      unfold B_X12_keepDraft_70
      refine wp_ck (z_r32_i.mpr ⟨(by omega) /- z_r32.lo z14#1 -/, (by omega) /- z_r32.hi z14#1 -/⟩) ?_
      refine wp_ck (z_r32_i.mpr ⟨(by omega) /- z_r32.lo z5#1 -/, (by omega) /- z_r32.hi z5#1 -/⟩) ?_
      refine wp_if (fun c3 => ?_) (fun c3 => ?_)
      ·
        refine wp_ck (z_ix_i.mpr ⟨⟨(by omega) /- ix.lo (0 : Int)#1 -/, (by omega) /- ix.hi (0 : Int)#1 -/⟩, (by omega) /- ix.big (0 : Int)#1 -/⟩) ?_
        refine wp_ck (z_bB_i.mpr (by omega) /- bB (0 : Int)#1 -/) ?_
        refine wp_bnd ?_
        refine wp_ck (z_ix_i.mpr ⟨⟨(by omega) /- ix.lo (1 : Int)#1 -/, (by omega) /- ix.hi (1 : Int)#1 -/⟩, (by omega) /- ix.big (1 : Int)#1 -/⟩) ?_
        refine wp_ck (z_bB_i.mpr (by omega) /- bB (0 : Int)#2 -/) ?_
        refine wp_bnd ?_
        refine wp_some ?_
        try dsimp only
        all_goals exact ⟨(by first | rfl | omega) /- post1#1 -/, (by first | rfl | omega) /- post2#1 -/, (by intro j a b; exact i_B_X12_keepDraft_2_3 j a (by omega)) /- post3#1 -/, (by exact i_B_X12_keepDraft_2_4) /- post4#1 -/, (by intro j a b; rw [z_up_a]; split; rfl; rw [z_up_a]; split; rfl; omega) /- post5#1 -/, (by intro t a b; exact i_B_X12_keepDraft_70_3 t a (by omega)) /- post6#1 -/, (by intro j a b; exact i_B_X12_keepDraft_44_3 j a (by omega)) /- post7#1 -/⟩
      ·
        refine wp_bnd ?_
        refine wp_lq2 (fun (z20 : Int) (w21 : (Int → Int)) => (0 ≤ z20) ∧ (z20 ≤ i_p0_dSeats) ∧ (∀ t, 0 ≤ t → t < z14 → ∀ i, 0 ≤ i → i < i_p0_dSeats → w21 (7 * t + i) = bro i_p0_dSeats (7 + v_p0_dStir (3 * t)) (v_p0_dStir (3 * t + 1)) (v_p0_dStir (3 * t + 2)) i) ∧ (∀ i, 0 ≤ i → i < z20 → w21 (7 * z14 + i) = bro i_p0_dSeats (7 + v_p0_dStir (3 * z14)) (v_p0_dStir (3 * z14 + 1)) (v_p0_dStir (3 * z14 + 2)) i)) (fun (z20 : Int) (w21 : (Int → Int)) => (i_p0_dSeats - z20).toNat) (fun again80 z20 w21 hI ih_B_X12_keepDraft_80 => ?_) 1000 _ _ ⟨(by first | rfl | omega) /- B_X12_keepDraft_80.init1#1 -/, (by first | rfl | omega) /- B_X12_keepDraft_80.init2#1 -/, (by exact i_B_X12_keepDraft_70_3) /- B_X12_keepDraft_80.init3#1 -/, (by intro j; omega) /- B_X12_keepDraft_80.init4#1 -/⟩ (by omega) /- B_X12_keepDraft_80.fuel#1 -/
        obtain ⟨i_B_X12_keepDraft_80_1, i_B_X12_keepDraft_80_2, i_B_X12_keepDraft_80_3, i_B_X12_keepDraft_80_4⟩ := hI
        unfold B_X12_keepDraft_80
        refine wp_ck (z_r32_i.mpr ⟨(by omega) /- z_r32.lo z20#1 -/, (by omega) /- z_r32.hi z20#1 -/⟩) ?_
        refine wp_ck (z_r32_i.mpr ⟨(by omega) /- z_r32.lo z4#1 -/, (by omega) /- z_r32.hi z4#1 -/⟩) ?_
        refine wp_if (fun c4 => ?_) (fun c4 => ?_)
        ·
          refine wp_bndE (fun z25 hz25 => ?_)
          exact ih_B_X12_keepDraft_70 _ _ ⟨(by first | rfl | omega) /- B_X12_keepDraft_70.inv1#1 -/, (by first | rfl | omega) /- B_X12_keepDraft_70.inv2#1 -/, (by 
                                        intro t a b i c d
                                        by_cases e : t = z14
                                        · subst e; exact i_B_X12_keepDraft_80_4 i c (by omega)
                                        · exact i_B_X12_keepDraft_80_3 t a (by omega) i c d) /- B_X12_keepDraft_70.inv3#1 -/⟩ (by omega) /- B_X12_keepDraft_70.dec#1 -/
        ·
          refine wp_bd1 (s_X12_broughtTo _ _ _ _ (by first | rfl | omega) /- pre X12_broughtTo.1#1 -/ (by first | rfl | omega) /- pre X12_broughtTo.2#1 -/ (by first | rfl | omega) /- pre X12_broughtTo.3#1 -/ (by first | rfl | omega) /- pre X12_broughtTo.4#1 -/ (by first | rfl | omega) /- pre X12_broughtTo.5#1 -/ (by first | rfl | omega) /- pre X12_broughtTo.6#1 -/ (by exact h5 z14 (by omega) (by omega)) /- pre X12_broughtTo.7#1 -/) (fun z26 q_X12_broughtTo_1 => ?_)
          try dsimp only at q_X12_broughtTo_1
          refine wp_ck (z_ix_i.mpr ⟨⟨(by omega) /- ix.lo (((7 : Int) * z14) + z20)#1 -/, (by omega) /- ix.hi (((7 : Int) * z14) + z20)#1 -/⟩, (by omega) /- ix.big (((7 : Int) * z14) + z20)#1 -/⟩) ?_
          refine wp_bnd ?_
          refine wp_bndE (fun z28 hz28 => ?_)
          exact ih_B_X12_keepDraft_80 _ _ ⟨(by first | rfl | omega) /- B_X12_keepDraft_80.inv1#1 -/, (by first | rfl | omega) /- B_X12_keepDraft_80.inv2#1 -/, (by intro t a b i c d; rw [z_up_n _ _ (by omega)]; exact i_B_X12_keepDraft_80_3 t a b i c d) /- B_X12_keepDraft_80.inv3#1 -/, (by 
                                        intro i c d
                                        by_cases e : i = z20
                                        · subst e; rw [z_up_s]; exact q_X12_broughtTo_1
                                        · rw [z_up_n _ _ (by omega)]; exact i_B_X12_keepDraft_80_4 i c (by omega)) /- B_X12_keepDraft_80.inv4#1 -/⟩ (by omega) /- B_X12_keepDraft_80.dec#1 -/
    ·
      refine wp_ck (z_ix_i.mpr ⟨⟨(by omega) /- ix.lo z29#1 -/, (by omega) /- ix.hi z29#1 -/⟩, (by omega) /- ix.big z29#1 -/⟩) ?_
      refine wp_ck (z_ix_i.mpr ⟨⟨(by omega) /- ix.lo z29#2 -/, (by omega) /- ix.hi z29#2 -/⟩, (by omega) /- ix.big z29#2 -/⟩) ?_
      refine wp_bnd ?_
      refine wp_bndE (fun z34 hz34 => ?_)
      exact ih_B_X12_keepDraft_44 _ _ ⟨(by first | rfl | omega) /- B_X12_keepDraft_44.inv1#1 -/, (by first | rfl | omega) /- B_X12_keepDraft_44.inv2#1 -/, (by intro j a b; rw [z_up_a]; split; rename_i e; rw [e]; exact i_B_X12_keepDraft_44_3 j a (by omega)) /- B_X12_keepDraft_44.inv3#1 -/⟩ (by omega) /- B_X12_keepDraft_44.dec#1 -/
  ·
    refine wp_ck (z_ix_i.mpr ⟨⟨(by omega) /- ix.lo z35#1 -/, (by omega) /- ix.hi z35#1 -/⟩, (by omega) /- ix.big z35#1 -/⟩) ?_
    refine wp_ck (z_ix_i.mpr ⟨⟨(by omega) /- ix.lo z35#2 -/, (by omega) /- ix.hi z35#2 -/⟩, (by omega) /- ix.big z35#2 -/⟩) ?_
    refine wp_bnd ?_
    refine wp_bndE (fun z40 hz40 => ?_)
    exact ih_B_X12_keepDraft_2 _ _ ⟨(by first | rfl | omega) /- B_X12_keepDraft_2.inv1#1 -/, (by first | rfl | omega) /- B_X12_keepDraft_2.inv2#1 -/, (by intro j a b; rw [z_up_a]; split; rename_i e; rw [e]; exact i_B_X12_keepDraft_2_3 j a (by omega)) /- B_X12_keepDraft_2.inv3#1 -/, (by intro j a; rw [z_up_n _ _ (by omega)]; exact i_B_X12_keepDraft_2_4 j a) /- B_X12_keepDraft_2.inv4#1 -/⟩ (by omega) /- B_X12_keepDraft_2.dec#1 -/

set_option maxHeartbeats 1000000 in
theorem s_X12_feed (i_p0_taped : Int) (v_p0_tape : (Int → Int)) (x1 : Int) (h1 : 0 ≤ i_p0_taped) (h2 : i_p0_taped ≤ 320) : wp (f_X12_feed i_p0_taped v_p0_tape x1) (fun o => (o.1 = if i_p0_taped + 8 ≤ 320 then i_p0_taped + 8 else -3) ∧ (o.2.1 = if i_p0_taped + 8 ≤ 320 then i_p0_taped + 8 else i_p0_taped) ∧ (i_p0_taped + 8 ≤ 320 → ∀ j, 0 ≤ j → j < 8 → o.2.2 (i_p0_taped + j) = w_and (w_shr x1 (56 - 8 * j)) 255) ∧ (∀ q, (¬ i_p0_taped + 8 ≤ 320 ∨ q < i_p0_taped ∨ i_p0_taped + 8 ≤ q) → o.2.2 q = v_p0_tape q)) := by
  unfold f_X12_feed
  refine wp_ck (z_r32_i.mpr ⟨(by omega) /- z_r32.lo (i_p0_taped + (8 : Int))#1 -/, (by omega) /- z_r32.hi (i_p0_taped + (8 : Int))#1 -/⟩) ?_
  refine wp_if (fun c1 => ?_) (fun c1 => ?_)
  ·
    refine wp_bnd ?_
    refine wp_lq3 (fun (z3 : Int) (z4 : Int) (w5 : (Int → Int)) => (z3 + 8 * z4 = 56 + 8 * i_p0_taped) ∧ (i_p0_taped ≤ z4) ∧ (z4 ≤ i_p0_taped + 8) ∧ (∀ j, 0 ≤ j → i_p0_taped + j < z4 → w5 (i_p0_taped + j) = w_and (w_shr x1 (56 - 8 * j)) 255) ∧ (∀ q, (q < i_p0_taped ∨ i_p0_taped + 8 ≤ q) → w5 q = v_p0_tape q)) (fun (z3 : Int) (z4 : Int) (w5 : (Int → Int)) => (i_p0_taped + 8 - z4).toNat) (fun again19 z3 z4 w5 hI ih_B_X12_feed_19 => ?_) 1000 _ _ _ ⟨(by omega) /- B_X12_feed_19.init1#1 -/, (by omega) /- B_X12_feed_19.init2#1 -/, (by omega) /- B_X12_feed_19.init3#1 -/, (by intro j; omega) /- B_X12_feed_19.init4#1 -/, (by intro q hq; rfl) /- B_X12_feed_19.init5#1 -/⟩ (by omega) /- B_X12_feed_19.fuel#1 -/
    obtain ⟨i_B_X12_feed_19_1, i_B_X12_feed_19_2, i_B_X12_feed_19_3, i_B_X12_feed_19_4, i_B_X12_feed_19_5⟩ := hI
    unfold B_X12_feed_19
    refine wp_ck (z_r32_i.mpr ⟨(by omega) /- z_r32.lo z3#1 -/, (by omega) /- z_r32.hi z3#1 -/⟩) ?_
    refine wp_if (fun c2 => ?_) (fun c2 => ?_)
    ·
      refine wp_some ?_
      try dsimp only
      all_goals exact ⟨(by split <;> omega) /- post1#1 -/, (by split <;> omega) /- post2#1 -/, (by intro _ j a b; exact i_B_X12_feed_19_4 j a (by omega)) /- post3#1 -/, (by intro q hq; exact i_B_X12_feed_19_5 q (by omega)) /- post4#1 -/⟩
    ·
      refine wp_ck (z_ix_i.mpr ⟨⟨(by omega) /- ix.lo z4#1 -/, (by omega) /- ix.hi z4#1 -/⟩, (by omega) /- ix.big z4#1 -/⟩) ?_
      refine wp_bnd ?_
      refine wp_bndE (fun z9 hz9 => ?_)
      refine wp_bndE (fun z10 hz10 => ?_)
      exact ih_B_X12_feed_19 _ _ _ ⟨(by omega) /- B_X12_feed_19.inv1#1 -/, (by omega) /- B_X12_feed_19.inv2#1 -/, (by omega) /- B_X12_feed_19.inv3#1 -/, (by 
                                        intro j a b
                                        by_cases e : i_p0_taped + j = z4
                                        · rw [e, z_up_s, show 56 - 8 * j = z3 from by omega]
                                        · rw [z_up_n _ _ e]; exact i_B_X12_feed_19_4 j a (by omega)) /- B_X12_feed_19.inv4#1 -/, (by intro q hq; rw [z_up_n _ _ (by omega)]; exact i_B_X12_feed_19_5 q hq) /- B_X12_feed_19.inv5#1 -/⟩ (by omega) /- B_X12_feed_19.dec#1 -/
  ·
    refine wp_some ?_
    try dsimp only
    all_goals exact ⟨(by split <;> omega) /- post1#2 -/, (by split <;> omega) /- post2#2 -/, (by intro h; omega) /- post3#2 -/, (by intro q hq; rfl) /- post4#2 -/⟩

set_option maxHeartbeats 1000000 in
theorem s_X12_end (i_p0_taped : Int) (x1 : Int) (h1 : 0 ≤ i_p0_taped) (h2 : i_p0_taped ≤ 320) (h3 : -2147483648 ≤ x1) (h4 : x1 < 2147483648) : wp (f_X12_end i_p0_taped x1) (fun o => (o.1 = if 0 ≤ x1 ∧ x1 ≤ i_p0_taped then i_p0_taped else -1) ∧ (o.2 = if 0 ≤ x1 ∧ x1 ≤ i_p0_taped then x1 else i_p0_taped)) := by
  unfold f_X12_end
  refine wp_ck (z_r32_i.mpr ⟨(by first | omega | (split at q_X12_in_1 <;> omega)) /- z_r32.lo x1#1 -/, (by first | omega | (split at q_X12_in_1 <;> omega)) /- z_r32.hi x1#1 -/⟩) ?_
  refine wp_ck (z_r32_i.mpr ⟨(by first | omega | (split at q_X12_in_1 <;> omega)) /- z_r32.lo i_p0_taped#1 -/, (by first | omega | (split at q_X12_in_1 <;> omega)) /- z_r32.hi i_p0_taped#1 -/⟩) ?_
  refine wp_bd1 (s_X12_in _ _ _ (by first | omega | (split at q_X12_in_1 <;> split <;> omega)) /- pre X12_in.1#1 -/ (by first | omega | (split at q_X12_in_1 <;> split <;> omega)) /- pre X12_in.2#1 -/ (by first | omega | (split at q_X12_in_1 <;> split <;> omega)) /- pre X12_in.3#1 -/ (by first | omega | (split at q_X12_in_1 <;> split <;> omega)) /- pre X12_in.4#1 -/ (by first | omega | (split at q_X12_in_1 <;> split <;> omega)) /- pre X12_in.5#1 -/ (by first | omega | (split at q_X12_in_1 <;> split <;> omega)) /- pre X12_in.6#1 -/) (fun z3 q_X12_in_1 => ?_)
  try dsimp only at q_X12_in_1
  refine wp_ck (z_r32_i.mpr ⟨(by first | omega | (split at q_X12_in_1 <;> omega)) /- z_r32.lo z3#1 -/, (by first | omega | (split at q_X12_in_1 <;> omega)) /- z_r32.hi z3#1 -/⟩) ?_
  refine wp_if (fun c1 => ?_) (fun c1 => ?_)
  ·
    refine wp_some ?_
    try dsimp only
    all_goals exact ⟨(by first | omega | (split at q_X12_in_1 <;> split <;> omega)) /- post1#1 -/, (by first | omega | (split at q_X12_in_1 <;> split <;> omega)) /- post2#1 -/⟩
  ·
    refine wp_bnd ?_
    refine wp_bnd ?_
    refine wp_some ?_
    try dsimp only
    all_goals exact ⟨(by first | omega | (split at q_X12_in_1 <;> split <;> omega)) /- post1#2 -/, (by first | omega | (split at q_X12_in_1 <;> split <;> omega)) /- post2#2 -/⟩

set_option maxHeartbeats 1000000 in
theorem s_X12_needs (i_p0_from : Int) (i_p0_fault : Int) (i_p0_wrongAt : Int) (x1 : Int) (x2 : Int) (h1 : x1 = 0 ∨ x1 = 1) (h2 : 0 ≤ i_p0_fault) (h3 : i_p0_fault ≤ 6) : wp (f_X12_needs i_p0_from i_p0_fault i_p0_wrongAt x1 x2) (fun o => (o.1 = if x1 = 0 ∧ i_p0_fault = 0 then x2 else i_p0_fault) ∧ (o.2 = if x1 = 0 ∧ i_p0_fault = 0 then i_p0_from else i_p0_wrongAt)) := by
  unfold f_X12_needs
  refine wp_ck (z_r32_i.mpr ⟨(by omega) /- z_r32.lo x1#1 -/, (by omega) /- z_r32.hi x1#1 -/⟩) ?_
  refine wp_if (fun c1 => ?_) (fun c1 => ?_)
  ·
    refine wp_ck (z_r32_i.mpr ⟨(by omega) /- z_r32.lo i_p0_fault#1 -/, (by omega) /- z_r32.hi i_p0_fault#1 -/⟩) ?_
    refine wp_if (fun c2 => ?_) (fun c2 => ?_)
    ·
      refine wp_bnd ?_
      refine wp_bnd ?_
      refine wp_some ?_
      try dsimp only
      all_goals exact ⟨(by split <;> omega) /- post1#1 -/, (by split <;> omega) /- post2#1 -/⟩
    ·
      refine wp_some ?_
      try dsimp only
      all_goals exact ⟨(by split <;> omega) /- post1#2 -/, (by split <;> omega) /- post2#2 -/⟩
  ·
    refine wp_some ?_
    try dsimp only
    all_goals exact ⟨(by split <;> omega) /- post1#3 -/, (by split <;> omega) /- post2#3 -/⟩

set_option maxHeartbeats 1000000 in
theorem s_X12_look (i_p0_taped : Int) (v_p0_tape : (Int → Int)) (x1 : Int) (h1 : 0 ≤ i_p0_taped) (h2 : i_p0_taped ≤ 320) (h3 : 0 ≤ x1) (h4 : x1 < 1000) : wp (f_X12_look i_p0_taped v_p0_tape x1) (fun o => (o = if x1 < i_p0_taped then v_p0_tape x1 else -1)) := by
  unfold f_X12_look
  refine wp_ck (z_r32_i.mpr ⟨(by omega) /- z_r32.lo x1#1 -/, (by omega) /- z_r32.hi x1#1 -/⟩) ?_
  refine wp_ck (z_r32_i.mpr ⟨(by omega) /- z_r32.lo i_p0_taped#1 -/, (by omega) /- z_r32.hi i_p0_taped#1 -/⟩) ?_
  refine wp_if (fun c1 => ?_) (fun c1 => ?_)
  ·
    refine wp_some ?_
    try dsimp only
    all_goals exact (by first | omega | (rw [if_pos (by omega)]) | (rw [if_neg (by omega)])) /- post1#1 -/
  ·
    refine wp_ck (z_ix_i.mpr ⟨⟨(by omega) /- ix.lo x1#1 -/, (by omega) /- ix.hi x1#1 -/⟩, (by omega) /- ix.big x1#1 -/⟩) ?_
    refine wp_some ?_
    try dsimp only
    all_goals exact (by first | omega | (rw [if_pos (by omega)]) | (rw [if_neg (by omega)])) /- post1#2 -/

set_option maxHeartbeats 1000000 in
theorem s_X12_isSeat (i_p0_seats : Int) (x1 : Int) (h1 : -2147483648 ≤ x1) (h2 : x1 < 2147483648) (h3 : 2 ≤ i_p0_seats) (h4 : i_p0_seats ≤ 7) : wp (f_X12_isSeat i_p0_seats x1) (fun o => (o = if 0 ≤ x1 ∧ x1 < i_p0_seats then 1 else 0)) := by
  unfold f_X12_isSeat
  refine wp_ck (z_r32_i.mpr ⟨(by omega) /- z_r32.lo x1#1 -/, (by omega) /- z_r32.hi x1#1 -/⟩) ?_
  refine wp_ck (z_r32_i.mpr ⟨(by omega) /- z_r32.lo (i_p0_seats - (1 : Int))#1 -/, (by omega) /- z_r32.hi (i_p0_seats - (1 : Int))#1 -/⟩) ?_
  refine wp_bd1 (s_X12_in _ _ _ (by omega) /- pre X12_in.1#1 -/ (by omega) /- pre X12_in.2#1 -/ (by omega) /- pre X12_in.3#1 -/ (by omega) /- pre X12_in.4#1 -/ (by omega) /- pre X12_in.5#1 -/ (by omega) /- pre X12_in.6#1 -/) (fun z3 q_X12_in_1 => ?_)
  try dsimp only at q_X12_in_1
  refine wp_ck (z_bB_i.mpr (by omega) /- bB z3#1 -/) ?_
  refine wp_some ?_
  try dsimp only
  all_goals exact (by rw [q_X12_in_1]; split <;> split <;> omega) /- post1#1 -/

set_option maxHeartbeats 1000000 in
theorem s_X12_isStir (i_p0_stirs : Int) (x1 : Int) (h1 : -2147483648 ≤ x1) (h2 : x1 < 2147483648) (h3 : 0 ≤ i_p0_stirs) (h4 : i_p0_stirs ≤ 5) : wp (f_X12_isStir i_p0_stirs x1) (fun o => (o = if 0 ≤ x1 ∧ x1 < i_p0_stirs then 1 else 0)) := by
  unfold f_X12_isStir
  refine wp_ck (z_r32_i.mpr ⟨(by omega) /- z_r32.lo x1#1 -/, (by omega) /- z_r32.hi x1#1 -/⟩) ?_
  refine wp_ck (z_r32_i.mpr ⟨(by omega) /- z_r32.lo (i_p0_stirs - (1 : Int))#1 -/, (by omega) /- z_r32.hi (i_p0_stirs - (1 : Int))#1 -/⟩) ?_
  refine wp_bd1 (s_X12_in _ _ _ (by omega) /- pre X12_in.1#1 -/ (by omega) /- pre X12_in.2#1 -/ (by omega) /- pre X12_in.3#1 -/ (by omega) /- pre X12_in.4#1 -/ (by omega) /- pre X12_in.5#1 -/ (by omega) /- pre X12_in.6#1 -/) (fun z3 q_X12_in_1 => ?_)
  try dsimp only at q_X12_in_1
  refine wp_ck (z_bB_i.mpr (by omega) /- bB z3#1 -/) ?_
  refine wp_some ?_
  try dsimp only
  all_goals exact (by rw [q_X12_in_1]; split <;> split <;> omega) /- post1#1 -/

set_option maxHeartbeats 1000000 in
theorem s_X12_isTold (x0 : Int) (h1 : -2147483648 ≤ x0) (h2 : x0 < 2147483648) : wp (f_X12_isTold x0) (fun o => (o = if x0 = 0 ∨ x0 = 1 then 1 else 0)) := by
  unfold f_X12_isTold
  refine wp_ck (z_r32_i.mpr ⟨(by omega) /- z_r32.lo x0#1 -/, (by omega) /- z_r32.hi x0#1 -/⟩) ?_
  refine wp_bd1 (s_X12_in _ _ _ (by omega) /- pre X12_in.1#1 -/ (by omega) /- pre X12_in.2#1 -/ (by omega) /- pre X12_in.3#1 -/ (by omega) /- pre X12_in.4#1 -/ (by omega) /- pre X12_in.5#1 -/ (by omega) /- pre X12_in.6#1 -/) (fun z2 q_X12_in_1 => ?_)
  try dsimp only at q_X12_in_1
  refine wp_ck (z_bB_i.mpr (by omega) /- bB z2#1 -/) ?_
  refine wp_some ?_
  try dsimp only
  all_goals exact (by rw [q_X12_in_1]; split <;> split <;> omega) /- post1#1 -/
