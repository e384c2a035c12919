theorem look_r {t : Int → Int} {L x r : Int} (ht : ∀ j, 0 ≤ j → j < 320 → 0 ≤ t j ∧ t j ≤ 255) (hL : L ≤ 320) (h0 : 0 ≤ x) (h : r = if x < L then t x else -1) : -1 ≤ r ∧ r ≤ 255 := by
  rw [h]
  split
  · have := ht x h0 (by omega); omega
  · omega
theorem look_d {t : Int → Int} {L x r : Int} (ht : ∀ j, 0 ≤ j → j < 320 → 0 ≤ t j ∧ t j ≤ 255) (hL : L ≤ 320) (h0 : 0 ≤ x) (h : r = if x < L then t x else -1) : (x < L ∧ r = t x ∧ 0 ≤ r ∧ r ≤ 255) ∨ (L ≤ x ∧ r = -1) := by
  by_cases c : x < L
  · rw [if_pos c] at h
    have := ht x h0 (by omega)
    left; omega
  · rw [if_neg c] at h
    right; omega
theorem if01 {P : Prop} [Decidable P] {z : Int} (h : z = if P then 1 else 0) : (z = 1 ∧ P) ∨ (z = 0 ∧ ¬ P) := by
  by_cases c : P
  · rw [if_pos c] at h; exact Or.inl ⟨h, c⟩
  · rw [if_neg c] at h; exact Or.inr ⟨h, c⟩
theorem tokI_next {t : Int → Int} {L pos frm so v fl wa pos2 frm2 so2 v2 fl2 wa2 : Int} (ht : ∀ j, 0 ≤ j → j < 320 → 0 ≤ t j ∧ t j ≤ 255) (hL : L ≤ 320) (h : tokI L pos frm so v fl wa)
    (h1 : ¬ fl = 0 → pos2 = pos ∧ frm2 = frm ∧ so2 = so ∧ v2 = v ∧ fl2 = fl ∧ wa2 = wa) (h2 : fl = 0 → (pos ≤ frm2 ∧ frm2 ≤ L) ∧ (∀ j, pos ≤ j → j < frm2 → t j = 32) ∧ (frm2 < L → ¬ t frm2 = 32) ∧ tokr t L frm2 pos2 so2 v2 fl2 ∧ (wa2 = if fl2 = 0 then wa else frm2)) :
    tokI L pos2 frm2 so2 v2 fl2 wa2 ∧ frm ≤ frm2 ∧ (fl = 0 → pos ≤ frm2) ∧ (¬ fl = 0 → ¬ fl2 = 0) := by
  obtain ⟨i1, i2, i3, i4, i5, i6, i7⟩ := h
  by_cases c : fl = 0
  · obtain ⟨a1, a2, a3, a4, a5⟩ := h2 c
    obtain ⟨b1, b2, b3, b4, b5, b6⟩ := tokr_use ht (by omega) hL a1.2 a4
    refine ⟨⟨by omega, b2, b3, by omega, ?_, b5, b6⟩, by omega, fun _ => a1.1, fun h => absurd c h⟩
    intro h
    rw [if_neg h] at a5
    omega
  · obtain ⟨rfl, rfl, rfl, rfl, rfl, rfl⟩ := h1 c
    exact ⟨⟨i1, i2, i3, i4, i5, i6, i7⟩, Int.le_refl _, fun h => absurd h c, fun h => h⟩
set_option maxHeartbeats 1000000 in
theorem s_X12_is (i_p0_taped : Int) (i_p0_pos : Int) (i_p0_from : Int) (v_p0_tape : (Int → Int)) (x1 : Int) (x2 : Int) (x3 : Int) (x4 : Int) (h1 : 0 ≤ i_p0_taped) (h2 : i_p0_taped ≤ 320) (h3 : ∀ j, 0 ≤ j → j < 320 → 0 ≤ v_p0_tape j ∧ v_p0_tape j ≤ 255) (h4 : 0 ≤ i_p0_from) (h5 : i_p0_from ≤ i_p0_pos) (h6 : i_p0_pos ≤ i_p0_taped) (h7 : 0 ≤ x1) (h8 : x1 < 128) (h9 : 0 ≤ x2) (h10 : x2 < 128) (h11 : 0 ≤ x3) (h12 : x3 < 128) (h13 : 0 ≤ x4) (h14 : x4 < 128) : wp (f_X12_is i_p0_taped i_p0_pos i_p0_from v_p0_tape x1 x2 x3 x4) (fun o => (o = 0 ∨ o = 1)) := by
  unfold f_X12_is
  refine wp_ck (z_r32_i.mpr ⟨(by omega) /- z_r32.lo (i_p0_pos - i_p0_from)#1 -/, (by omega) /- z_r32.hi (i_p0_pos - i_p0_from)#1 -/⟩) ?_
  refine wp_ck (z_r32_i.mpr ⟨(by omega) /- z_r32.lo x1#1 -/, (by omega) /- z_r32.hi x1#1 -/⟩) ?_
  refine wp_if (fun c1 => ?_) (fun c1 => ?_)
  ·
    refine wp_bd1 (s_X12_look _ _ _ (by omega) /- pre X12_look.1#1 -/ (by omega) /- pre X12_look.2#1 -/ (by omega) /- pre X12_look.3#1 -/ (by omega) /- pre X12_look.4#1 -/) (fun z3 q_X12_look_1 => ?_)
    try dsimp only at q_X12_look_1
    have hl1 := look_r h3 h2 (by omega) q_X12_look_1
    refine wp_ck (z_r32_i.mpr ⟨(by omega) /- z_r32.lo z3#1 -/, (by omega) /- z_r32.hi z3#1 -/⟩) ?_
    refine wp_ck (z_r32_i.mpr ⟨(by omega) /- z_r32.lo x2#1 -/, (by omega) /- z_r32.hi x2#1 -/⟩) ?_
    refine wp_if (fun c2 => ?_) (fun c2 => ?_)
    ·
      refine wp_bd1 (s_X12_look _ _ _ (by omega) /- pre X12_look.1#2 -/ (by omega) /- pre X12_look.2#2 -/ (by omega) /- pre X12_look.3#2 -/ (by omega) /- pre X12_look.4#2 -/) (fun z6 q_X12_look_2 => ?_)
      try dsimp only at q_X12_look_2
      have hl2 := look_r h3 h2 (by omega) q_X12_look_2
      refine wp_ck (z_r32_i.mpr ⟨(by omega) /- z_r32.lo z6#1 -/, (by omega) /- z_r32.hi z6#1 -/⟩) ?_
      refine wp_ck (z_r32_i.mpr ⟨(by omega) /- z_r32.lo x3#1 -/, (by omega) /- z_r32.hi x3#1 -/⟩) ?_
      refine wp_if (fun c3 => ?_) (fun c3 => ?_)
      ·
        refine wp_bd1 (s_X12_look _ _ _ (by omega) /- pre X12_look.1#3 -/ (by omega) /- pre X12_look.2#3 -/ (by omega) /- pre X12_look.3#3 -/ (by omega) /- pre X12_look.4#3 -/) (fun z9 q_X12_look_3 => ?_)
        try dsimp only at q_X12_look_3
        have hl3 := look_r h3 h2 (by omega) q_X12_look_3
        refine wp_ck (z_r32_i.mpr ⟨(by omega) /- z_r32.lo z9#1 -/, (by omega) /- z_r32.hi z9#1 -/⟩) ?_
        refine wp_ck (z_r32_i.mpr ⟨(by omega) /- z_r32.lo x4#1 -/, (by omega) /- z_r32.hi x4#1 -/⟩) ?_
        refine wp_if (fun c4 => ?_) (fun c4 => ?_)
        ·
          refine wp_some ?_
          try dsimp only
          all_goals exact (by omega) /- post1#1 -/
        ·
          refine wp_some ?_
          try dsimp only
          all_goals exact (by omega) /- post1#2 -/
      ·
        refine wp_some ?_
        try dsimp only
        all_goals exact (by omega) /- post1#3 -/
    ·
      refine wp_some ?_
      try dsimp only
      all_goals exact (by omega) /- post1#4 -/
  ·
    refine wp_some ?_
    try dsimp only
    all_goals exact (by omega) /- post1#5 -/

set_option maxHeartbeats 1000000 in
theorem s_X12_ends (i_p0_taped : Int) (i_p0_from : Int) (v_p0_tape : (Int → Int)) (x1 : Int) (x2 : Int) (x3 : Int) (h1 : 0 ≤ i_p0_taped) (h2 : i_p0_taped ≤ 320) (h3 : ∀ j, 0 ≤ j → j < 320 → 0 ≤ v_p0_tape j ∧ v_p0_tape j ≤ 255) (h4 : 0 ≤ i_p0_from) (h5 : i_p0_from ≤ i_p0_taped) (h6 : 0 ≤ x1) (h7 : x1 < 128) (h8 : 0 ≤ x2) (h9 : x2 < 128) (h10 : 0 ≤ x3) (h11 : x3 < 128) : wp (f_X12_ends i_p0_taped i_p0_from v_p0_tape x1 x2 x3) (fun o => (o = 0 ∨ o = 1)) := by
  unfold f_X12_ends
  refine wp_bd1 (s_X12_look _ _ _ (by omega) /- pre X12_look.1#1 -/ (by omega) /- pre X12_look.2#1 -/ (by omega) /- pre X12_look.3#1 -/ (by omega) /- pre X12_look.4#1 -/) (fun z1 q_X12_look_1 => ?_)
  try dsimp only at q_X12_look_1
  have hl1 := look_r h3 h2 (by omega) q_X12_look_1
  refine wp_ck (z_r32_i.mpr ⟨(by omega) /- z_r32.lo z1#1 -/, (by omega) /- z_r32.hi z1#1 -/⟩) ?_
  refine wp_ck (z_r32_i.mpr ⟨(by omega) /- z_r32.lo x1#1 -/, (by omega) /- z_r32.hi x1#1 -/⟩) ?_
  refine wp_if (fun c1 => ?_) (fun c1 => ?_)
  ·
    refine wp_ck (z_r32_i.mpr ⟨(by omega) /- z_r32.lo x2#1 -/, (by omega) /- z_r32.hi x2#1 -/⟩) ?_
    refine wp_jnS ?_ (fun J5 hJ5 => ?_)
    ·
      refine wp_ck (z_r32_i.mpr ⟨(by omega) /- z_r32.lo x3#1 -/, (by omega) /- z_r32.hi x3#1 -/⟩) ?_
      refine wp_if (fun c2 => ?_) (fun c2 => ?_)
      ·
        refine wp_some ?_
        try dsimp only
        all_goals exact (by omega) /- post1#1 -/
      ·
        refine wp_bd1 (s_X12_look _ _ _ (by omega) /- pre X12_look.1#2 -/ (by omega) /- pre X12_look.2#2 -/ (by omega) /- pre X12_look.3#2 -/ (by omega) /- pre X12_look.4#2 -/) (fun z7 q_X12_look_2 => ?_)
        try dsimp only at q_X12_look_2
        have hl2 := look_r h3 h2 (by omega) q_X12_look_2
        refine wp_ck (z_r32_i.mpr ⟨(by omega) /- z_r32.lo z7#1 -/, (by omega) /- z_r32.hi z7#1 -/⟩) ?_
        refine wp_if (fun c3 => ?_) (fun c3 => ?_)
        ·
          refine wp_some ?_
          try dsimp only
          all_goals exact (by omega) /- post1#2 -/
        ·
          refine wp_some ?_
          try dsimp only
          all_goals exact (by omega) /- post1#3 -/
    refine wp_if (fun c4 => ?_) (fun c4 => ?_)
    ·
      exact hJ5
    ·
      refine wp_bd1 (s_X12_look _ _ _ (by omega) /- pre X12_look.1#3 -/ (by omega) /- pre X12_look.2#3 -/ (by omega) /- pre X12_look.3#3 -/ (by omega) /- pre X12_look.4#3 -/) (fun z9 q_X12_look_3 => ?_)
      try dsimp only at q_X12_look_3
      have hl3 := look_r h3 h2 (by omega) q_X12_look_3
      refine wp_ck (z_r32_i.mpr ⟨(by omega) /- z_r32.lo z9#1 -/, (by omega) /- z_r32.hi z9#1 -/⟩) ?_
      refine wp_if (fun c5 => ?_) (fun c5 => ?_)
      ·
        exact hJ5
      ·
        refine wp_some ?_
        try dsimp only
        all_goals exact (by omega) /- post1#4 -/
  ·
    refine wp_some ?_
    try dsimp only
    all_goals exact (by omega) /- post1#5 -/

set_option maxHeartbeats 1000000 in
theorem s_X12_stirNow (i_p0_taped : Int) (i_p0_pos : Int) (i_p0_from : Int) (v_p0_tape : (Int → Int)) (h1 : 0 ≤ i_p0_taped) (h2 : i_p0_taped ≤ 320) (h3 : ∀ j, 0 ≤ j → j < 320 → 0 ≤ v_p0_tape j ∧ v_p0_tape j ≤ 255) (h4 : 0 ≤ i_p0_from) (h5 : i_p0_from ≤ i_p0_pos) (h6 : i_p0_pos ≤ i_p0_taped) : wp (f_X12_stirNow i_p0_taped i_p0_pos i_p0_from v_p0_tape) (fun o => (o = -4 ∨ (0 ≤ o ∧ o ≤ 3))) := by
  unfold f_X12_stirNow
  refine wp_bd1 (s_X12_is _ _ _ _ _ _ _ _ (by omega) /- pre X12_is.1#1 -/ (by omega) /- pre X12_is.2#1 -/ (by exact h3) /- pre X12_is.3#1 -/ (by omega) /- pre X12_is.4#1 -/ (by omega) /- pre X12_is.5#1 -/ (by omega) /- pre X12_is.6#1 -/ (by omega) /- pre X12_is.7#1 -/ (by omega) /- pre X12_is.8#1 -/ (by omega) /- pre X12_is.9#1 -/ (by omega) /- pre X12_is.10#1 -/ (by omega) /- pre X12_is.11#1 -/ (by omega) /- pre X12_is.12#1 -/ (by omega) /- pre X12_is.13#1 -/ (by omega) /- pre X12_is.14#1 -/) (fun z1 q_X12_is_1 => ?_)
  try dsimp only at q_X12_is_1
  refine wp_ck (z_r32_i.mpr ⟨(by omega) /- z_r32.lo z1#1 -/, (by omega) /- z_r32.hi z1#1 -/⟩) ?_
  refine wp_jnS ?_ (fun J3 hJ3 => ?_)
  ·
    refine wp_bd1 (s_X12_is _ _ _ _ _ _ _ _ (by omega) /- pre X12_is.1#2 -/ (by omega) /- pre X12_is.2#2 -/ (by exact h3) /- pre X12_is.3#2 -/ (by omega) /- pre X12_is.4#2 -/ (by omega) /- pre X12_is.5#2 -/ (by omega) /- pre X12_is.6#2 -/ (by omega) /- pre X12_is.7#2 -/ (by omega) /- pre X12_is.8#2 -/ (by omega) /- pre X12_is.9#2 -/ (by omega) /- pre X12_is.10#2 -/ (by omega) /- pre X12_is.11#2 -/ (by omega) /- pre X12_is.12#2 -/ (by omega) /- pre X12_is.13#2 -/ (by omega) /- pre X12_is.14#2 -/) (fun z4 q_X12_is_2 => ?_)
    try dsimp only at q_X12_is_2
    refine wp_ck (z_r32_i.mpr ⟨(by omega) /- z_r32.lo z4#1 -/, (by omega) /- z_r32.hi z4#1 -/⟩) ?_
    refine wp_jnS ?_ (fun J6 hJ6 => ?_)
    ·
      refine wp_bd1 (s_X12_is _ _ _ _ _ _ _ _ (by omega) /- pre X12_is.1#3 -/ (by omega) /- pre X12_is.2#3 -/ (by exact h3) /- pre X12_is.3#3 -/ (by omega) /- pre X12_is.4#3 -/ (by omega) /- pre X12_is.5#3 -/ (by omega) /- pre X12_is.6#3 -/ (by omega) /- pre X12_is.7#3 -/ (by omega) /- pre X12_is.8#3 -/ (by omega) /- pre X12_is.9#3 -/ (by omega) /- pre X12_is.10#3 -/ (by omega) /- pre X12_is.11#3 -/ (by omega) /- pre X12_is.12#3 -/ (by omega) /- pre X12_is.13#3 -/ (by omega) /- pre X12_is.14#3 -/) (fun z7 q_X12_is_3 => ?_)
      try dsimp only at q_X12_is_3
      refine wp_ck (z_r32_i.mpr ⟨(by omega) /- z_r32.lo z7#1 -/, (by omega) /- z_r32.hi z7#1 -/⟩) ?_
      refine wp_jnS ?_ (fun J9 hJ9 => ?_)
      ·
        refine wp_bd1 (s_X12_is _ _ _ _ _ _ _ _ (by omega) /- pre X12_is.1#4 -/ (by omega) /- pre X12_is.2#4 -/ (by exact h3) /- pre X12_is.3#4 -/ (by omega) /- pre X12_is.4#4 -/ (by omega) /- pre X12_is.5#4 -/ (by omega) /- pre X12_is.6#4 -/ (by omega) /- pre X12_is.7#4 -/ (by omega) /- pre X12_is.8#4 -/ (by omega) /- pre X12_is.9#4 -/ (by omega) /- pre X12_is.10#4 -/ (by omega) /- pre X12_is.11#4 -/ (by omega) /- pre X12_is.12#4 -/ (by omega) /- pre X12_is.13#4 -/ (by omega) /- pre X12_is.14#4 -/) (fun z10 q_X12_is_4 => ?_)
        try dsimp only at q_X12_is_4
        refine wp_ck (z_r32_i.mpr ⟨(by omega) /- z_r32.lo z10#1 -/, (by omega) /- z_r32.hi z10#1 -/⟩) ?_
        refine wp_if (fun c1 => ?_) (fun c1 => ?_)
        ·
          refine wp_some ?_
          try dsimp only
          all_goals exact (by omega) /- post1#1 -/
        ·
          refine wp_bd1 (s_X12_ends _ _ _ _ _ _ (by omega) /- pre X12_ends.1#1 -/ (by omega) /- pre X12_ends.2#1 -/ (by exact h3) /- pre X12_ends.3#1 -/ (by omega) /- pre X12_ends.4#1 -/ (by omega) /- pre X12_ends.5#1 -/ (by omega) /- pre X12_ends.6#1 -/ (by omega) /- pre X12_ends.7#1 -/ (by omega) /- pre X12_ends.8#1 -/ (by omega) /- pre X12_ends.9#1 -/ (by omega) /- pre X12_ends.10#1 -/ (by omega) /- pre X12_ends.11#1 -/) (fun z12 q_X12_ends_1 => ?_)
          try dsimp only at q_X12_ends_1
          refine wp_ck (z_r32_i.mpr ⟨(by omega) /- z_r32.lo z12#1 -/, (by omega) /- z_r32.hi z12#1 -/⟩) ?_
          refine wp_if (fun c2 => ?_) (fun c2 => ?_)
          ·
            refine wp_some ?_
            try dsimp only
            all_goals exact (by omega) /- post1#2 -/
          ·
            refine wp_some ?_
            try dsimp only
            all_goals exact (by omega) /- post1#3 -/
      refine wp_if (fun c3 => ?_) (fun c3 => ?_)
      ·
        exact hJ9
      ·
        refine wp_bd1 (s_X12_ends _ _ _ _ _ _ (by omega) /- pre X12_ends.1#2 -/ (by omega) /- pre X12_ends.2#2 -/ (by exact h3) /- pre X12_ends.3#2 -/ (by omega) /- pre X12_ends.4#2 -/ (by omega) /- pre X12_ends.5#2 -/ (by omega) /- pre X12_ends.6#2 -/ (by omega) /- pre X12_ends.7#2 -/ (by omega) /- pre X12_ends.8#2 -/ (by omega) /- pre X12_ends.9#2 -/ (by omega) /- pre X12_ends.10#2 -/ (by omega) /- pre X12_ends.11#2 -/) (fun z14 q_X12_ends_2 => ?_)
        try dsimp only at q_X12_ends_2
        refine wp_ck (z_r32_i.mpr ⟨(by omega) /- z_r32.lo z14#1 -/, (by omega) /- z_r32.hi z14#1 -/⟩) ?_
        refine wp_if (fun c4 => ?_) (fun c4 => ?_)
        ·
          exact hJ9
        ·
          refine wp_some ?_
          try dsimp only
          all_goals exact (by omega) /- post1#4 -/
    refine wp_if (fun c5 => ?_) (fun c5 => ?_)
    ·
      exact hJ6
    ·
      refine wp_bd1 (s_X12_ends _ _ _ _ _ _ (by omega) /- pre X12_ends.1#3 -/ (by omega) /- pre X12_ends.2#3 -/ (by exact h3) /- pre X12_ends.3#3 -/ (by omega) /- pre X12_ends.4#3 -/ (by omega) /- pre X12_ends.5#3 -/ (by omega) /- pre X12_ends.6#3 -/ (by omega) /- pre X12_ends.7#3 -/ (by omega) /- pre X12_ends.8#3 -/ (by omega) /- pre X12_ends.9#3 -/ (by omega) /- pre X12_ends.10#3 -/ (by omega) /- pre X12_ends.11#3 -/) (fun z16 q_X12_ends_3 => ?_)
      try dsimp only at q_X12_ends_3
      refine wp_ck (z_r32_i.mpr ⟨(by omega) /- z_r32.lo z16#1 -/, (by omega) /- z_r32.hi z16#1 -/⟩) ?_
      refine wp_if (fun c6 => ?_) (fun c6 => ?_)
      ·
        exact hJ6
      ·
        refine wp_some ?_
        try dsimp only
        all_goals exact (by omega) /- post1#5 -/
  refine wp_if (fun c7 => ?_) (fun c7 => ?_)
  ·
    exact hJ3
  ·
    refine wp_bd1 (s_X12_ends _ _ _ _ _ _ (by omega) /- pre X12_ends.1#4 -/ (by omega) /- pre X12_ends.2#4 -/ (by exact h3) /- pre X12_ends.3#4 -/ (by omega) /- pre X12_ends.4#4 -/ (by omega) /- pre X12_ends.5#4 -/ (by omega) /- pre X12_ends.6#4 -/ (by omega) /- pre X12_ends.7#4 -/ (by omega) /- pre X12_ends.8#4 -/ (by omega) /- pre X12_ends.9#4 -/ (by omega) /- pre X12_ends.10#4 -/ (by omega) /- pre X12_ends.11#4 -/) (fun z18 q_X12_ends_4 => ?_)
    try dsimp only at q_X12_ends_4
    refine wp_ck (z_r32_i.mpr ⟨(by omega) /- z_r32.lo z18#1 -/, (by omega) /- z_r32.hi z18#1 -/⟩) ?_
    refine wp_if (fun c8 => ?_) (fun c8 => ?_)
    ·
      exact hJ3
    ·
      refine wp_some ?_
      try dsimp only
      all_goals exact (by omega) /- post1#6 -/

set_option maxHeartbeats 1000000 in
theorem s_X12_lineNow (i_p0_taped : Int) (i_p0_pos : Int) (i_p0_from : Int) (v_p0_tape : (Int → Int)) (h1 : 0 ≤ i_p0_taped) (h2 : i_p0_taped ≤ 320) (h3 : ∀ j, 0 ≤ j → j < 320 → 0 ≤ v_p0_tape j ∧ v_p0_tape j ≤ 255) (h4 : 0 ≤ i_p0_from) (h5 : i_p0_from ≤ i_p0_pos) (h6 : i_p0_pos ≤ i_p0_taped) : wp (f_X12_lineNow i_p0_taped i_p0_pos i_p0_from v_p0_tape) (fun o => (o = -4 ∨ (0 ≤ o ∧ o ≤ 10))) := by
  unfold f_X12_lineNow
  refine wp_bd1 (s_X12_is _ _ _ _ _ _ _ _ (by omega) /- pre X12_is.1#1 -/ (by omega) /- pre X12_is.2#1 -/ (by exact h3) /- pre X12_is.3#1 -/ (by omega) /- pre X12_is.4#1 -/ (by omega) /- pre X12_is.5#1 -/ (by omega) /- pre X12_is.6#1 -/ (by omega) /- pre X12_is.7#1 -/ (by omega) /- pre X12_is.8#1 -/ (by omega) /- pre X12_is.9#1 -/ (by omega) /- pre X12_is.10#1 -/ (by omega) /- pre X12_is.11#1 -/ (by omega) /- pre X12_is.12#1 -/ (by omega) /- pre X12_is.13#1 -/ (by omega) /- pre X12_is.14#1 -/) (fun z1 q_X12_is_1 => ?_)
  try dsimp only at q_X12_is_1
  refine wp_ck (z_r32_i.mpr ⟨(by omega) /- z_r32.lo z1#1 -/, (by omega) /- z_r32.hi z1#1 -/⟩) ?_
  refine wp_jnS ?_ (fun J3 hJ3 => ?_)
  ·
    refine wp_bd1 (s_X12_is _ _ _ _ _ _ _ _ (by omega) /- pre X12_is.1#2 -/ (by omega) /- pre X12_is.2#2 -/ (by exact h3) /- pre X12_is.3#2 -/ (by omega) /- pre X12_is.4#2 -/ (by omega) /- pre X12_is.5#2 -/ (by omega) /- pre X12_is.6#2 -/ (by omega) /- pre X12_is.7#2 -/ (by omega) /- pre X12_is.8#2 -/ (by omega) /- pre X12_is.9#2 -/ (by omega) /- pre X12_is.10#2 -/ (by omega) /- pre X12_is.11#2 -/ (by omega) /- pre X12_is.12#2 -/ (by omega) /- pre X12_is.13#2 -/ (by omega) /- pre X12_is.14#2 -/) (fun z4 q_X12_is_2 => ?_)
    try dsimp only at q_X12_is_2
    refine wp_ck (z_r32_i.mpr ⟨(by omega) /- z_r32.lo z4#1 -/, (by omega) /- z_r32.hi z4#1 -/⟩) ?_
    refine wp_if (fun c1 => ?_) (fun c1 => ?_)
    ·
      refine wp_bd1 (s_X12_is _ _ _ _ _ _ _ _ (by omega) /- pre X12_is.1#3 -/ (by omega) /- pre X12_is.2#3 -/ (by exact h3) /- pre X12_is.3#3 -/ (by omega) /- pre X12_is.4#3 -/ (by omega) /- pre X12_is.5#3 -/ (by omega) /- pre X12_is.6#3 -/ (by omega) /- pre X12_is.7#3 -/ (by omega) /- pre X12_is.8#3 -/ (by omega) /- pre X12_is.9#3 -/ (by omega) /- pre X12_is.10#3 -/ (by omega) /- pre X12_is.11#3 -/ (by omega) /- pre X12_is.12#3 -/ (by omega) /- pre X12_is.13#3 -/ (by omega) /- pre X12_is.14#3 -/) (fun z6 q_X12_is_3 => ?_)
      try dsimp only at q_X12_is_3
      refine wp_ck (z_r32_i.mpr ⟨(by omega) /- z_r32.lo z6#1 -/, (by omega) /- z_r32.hi z6#1 -/⟩) ?_
      refine wp_jnS ?_ (fun J8 hJ8 => ?_)
      ·
        refine wp_bd1 (s_X12_is _ _ _ _ _ _ _ _ (by omega) /- pre X12_is.1#4 -/ (by omega) /- pre X12_is.2#4 -/ (by exact h3) /- pre X12_is.3#4 -/ (by omega) /- pre X12_is.4#4 -/ (by omega) /- pre X12_is.5#4 -/ (by omega) /- pre X12_is.6#4 -/ (by omega) /- pre X12_is.7#4 -/ (by omega) /- pre X12_is.8#4 -/ (by omega) /- pre X12_is.9#4 -/ (by omega) /- pre X12_is.10#4 -/ (by omega) /- pre X12_is.11#4 -/ (by omega) /- pre X12_is.12#4 -/ (by omega) /- pre X12_is.13#4 -/ (by omega) /- pre X12_is.14#4 -/) (fun z9 q_X12_is_4 => ?_)
        try dsimp only at q_X12_is_4
        refine wp_ck (z_r32_i.mpr ⟨(by omega) /- z_r32.lo z9#1 -/, (by omega) /- z_r32.hi z9#1 -/⟩) ?_
        refine wp_jnS ?_ (fun J11 hJ11 => ?_)
        ·
          refine wp_bd1 (s_X12_is _ _ _ _ _ _ _ _ (by omega) /- pre X12_is.1#5 -/ (by omega) /- pre X12_is.2#5 -/ (by exact h3) /- pre X12_is.3#5 -/ (by omega) /- pre X12_is.4#5 -/ (by omega) /- pre X12_is.5#5 -/ (by omega) /- pre X12_is.6#5 -/ (by omega) /- pre X12_is.7#5 -/ (by omega) /- pre X12_is.8#5 -/ (by omega) /- pre X12_is.9#5 -/ (by omega) /- pre X12_is.10#5 -/ (by omega) /- pre X12_is.11#5 -/ (by omega) /- pre X12_is.12#5 -/ (by omega) /- pre X12_is.13#5 -/ (by omega) /- pre X12_is.14#5 -/) (fun z12 q_X12_is_5 => ?_)
          try dsimp only at q_X12_is_5
          refine wp_ck (z_r32_i.mpr ⟨(by omega) /- z_r32.lo z12#1 -/, (by omega) /- z_r32.hi z12#1 -/⟩) ?_
          refine wp_jnS ?_ (fun J14 hJ14 => ?_)
          ·
            refine wp_bd1 (s_X12_is _ _ _ _ _ _ _ _ (by omega) /- pre X12_is.1#6 -/ (by omega) /- pre X12_is.2#6 -/ (by exact h3) /- pre X12_is.3#6 -/ (by omega) /- pre X12_is.4#6 -/ (by omega) /- pre X12_is.5#6 -/ (by omega) /- pre X12_is.6#6 -/ (by omega) /- pre X12_is.7#6 -/ (by omega) /- pre X12_is.8#6 -/ (by omega) /- pre X12_is.9#6 -/ (by omega) /- pre X12_is.10#6 -/ (by omega) /- pre X12_is.11#6 -/ (by omega) /- pre X12_is.12#6 -/ (by omega) /- pre X12_is.13#6 -/ (by omega) /- pre X12_is.14#6 -/) (fun z15 q_X12_is_6 => ?_)
            try dsimp only at q_X12_is_6
            refine wp_ck (z_r32_i.mpr ⟨(by omega) /- z_r32.lo z15#1 -/, (by omega) /- z_r32.hi z15#1 -/⟩) ?_
            refine wp_jnS ?_ (fun J17 hJ17 => ?_)
            ·
              refine wp_bd1 (s_X12_is _ _ _ _ _ _ _ _ (by omega) /- pre X12_is.1#7 -/ (by omega) /- pre X12_is.2#7 -/ (by exact h3) /- pre X12_is.3#7 -/ (by omega) /- pre X12_is.4#7 -/ (by omega) /- pre X12_is.5#7 -/ (by omega) /- pre X12_is.6#7 -/ (by omega) /- pre X12_is.7#7 -/ (by omega) /- pre X12_is.8#7 -/ (by omega) /- pre X12_is.9#7 -/ (by omega) /- pre X12_is.10#7 -/ (by omega) /- pre X12_is.11#7 -/ (by omega) /- pre X12_is.12#7 -/ (by omega) /- pre X12_is.13#7 -/ (by omega) /- pre X12_is.14#7 -/) (fun z18 q_X12_is_7 => ?_)
              try dsimp only at q_X12_is_7
              refine wp_ck (z_r32_i.mpr ⟨(by omega) /- z_r32.lo z18#1 -/, (by omega) /- z_r32.hi z18#1 -/⟩) ?_
              refine wp_if (fun c2 => ?_) (fun c2 => ?_)
              ·
                refine wp_bd1 (s_X12_stirNow _ _ _ _ (by omega) /- pre X12_stirNow.1#1 -/ (by omega) /- pre X12_stirNow.2#1 -/ (by exact h3) /- pre X12_stirNow.3#1 -/ (by omega) /- pre X12_stirNow.4#1 -/ (by omega) /- pre X12_stirNow.5#1 -/ (by omega) /- pre X12_stirNow.6#1 -/) (fun z20 q_X12_stirNow_1 => ?_)
                try dsimp only at q_X12_stirNow_1
                refine wp_some ?_
                try dsimp only
                all_goals exact (by omega) /- post1#1 -/
              ·
                refine wp_bd1 (s_X12_ends _ _ _ _ _ _ (by omega) /- pre X12_ends.1#1 -/ (by omega) /- pre X12_ends.2#1 -/ (by exact h3) /- pre X12_ends.3#1 -/ (by omega) /- pre X12_ends.4#1 -/ (by omega) /- pre X12_ends.5#1 -/ (by omega) /- pre X12_ends.6#1 -/ (by omega) /- pre X12_ends.7#1 -/ (by omega) /- pre X12_ends.8#1 -/ (by omega) /- pre X12_ends.9#1 -/ (by omega) /- pre X12_ends.10#1 -/ (by omega) /- pre X12_ends.11#1 -/) (fun z21 q_X12_ends_1 => ?_)
                try dsimp only at q_X12_ends_1
                refine wp_ck (z_r32_i.mpr ⟨(by omega) /- z_r32.lo z21#1 -/, (by omega) /- z_r32.hi z21#1 -/⟩) ?_
                refine wp_if (fun c3 => ?_) (fun c3 => ?_)
                ·
                  refine wp_bd1 (s_X12_stirNow _ _ _ _ (by omega) /- pre X12_stirNow.1#2 -/ (by omega) /- pre X12_stirNow.2#2 -/ (by exact h3) /- pre X12_stirNow.3#2 -/ (by omega) /- pre X12_stirNow.4#2 -/ (by omega) /- pre X12_stirNow.5#2 -/ (by omega) /- pre X12_stirNow.6#2 -/) (fun z23 q_X12_stirNow_2 => ?_)
                  try dsimp only at q_X12_stirNow_2
                  refine wp_some ?_
                  try dsimp only
                  all_goals exact (by omega) /- post1#2 -/
                ·
                  refine wp_some ?_
                  try dsimp only
                  all_goals exact (by omega) /- post1#3 -/
            refine wp_if (fun c4 => ?_) (fun c4 => ?_)
            ·
              exact hJ17
            ·
              refine wp_bd1 (s_X12_ends _ _ _ _ _ _ (by omega) /- pre X12_ends.1#2 -/ (by omega) /- pre X12_ends.2#2 -/ (by exact h3) /- pre X12_ends.3#2 -/ (by omega) /- pre X12_ends.4#2 -/ (by omega) /- pre X12_ends.5#2 -/ (by omega) /- pre X12_ends.6#2 -/ (by omega) /- pre X12_ends.7#2 -/ (by omega) /- pre X12_ends.8#2 -/ (by omega) /- pre X12_ends.9#2 -/ (by omega) /- pre X12_ends.10#2 -/ (by omega) /- pre X12_ends.11#2 -/) (fun z24 q_X12_ends_2 => ?_)
              try dsimp only at q_X12_ends_2
              refine wp_ck (z_r32_i.mpr ⟨(by omega) /- z_r32.lo z24#1 -/, (by omega) /- z_r32.hi z24#1 -/⟩) ?_
              refine wp_if (fun c5 => ?_) (fun c5 => ?_)
              ·
                exact hJ17
              ·
                refine wp_some ?_
                try dsimp only
                all_goals exact (by omega) /- post1#4 -/
          refine wp_if (fun c6 => ?_) (fun c6 => ?_)
          ·
            exact hJ14
          ·
            refine wp_bd1 (s_X12_ends _ _ _ _ _ _ (by omega) /- pre X12_ends.1#3 -/ (by omega) /- pre X12_ends.2#3 -/ (by exact h3) /- pre X12_ends.3#3 -/ (by omega) /- pre X12_ends.4#3 -/ (by omega) /- pre X12_ends.5#3 -/ (by omega) /- pre X12_ends.6#3 -/ (by omega) /- pre X12_ends.7#3 -/ (by omega) /- pre X12_ends.8#3 -/ (by omega) /- pre X12_ends.9#3 -/ (by omega) /- pre X12_ends.10#3 -/ (by omega) /- pre X12_ends.11#3 -/) (fun z26 q_X12_ends_3 => ?_)
            try dsimp only at q_X12_ends_3
            refine wp_ck (z_r32_i.mpr ⟨(by omega) /- z_r32.lo z26#1 -/, (by omega) /- z_r32.hi z26#1 -/⟩) ?_
            refine wp_if (fun c7 => ?_) (fun c7 => ?_)
            ·
              exact hJ14
            ·
              refine wp_some ?_
              try dsimp only
              all_goals exact (by omega) /- post1#5 -/
        refine wp_if (fun c8 => ?_) (fun c8 => ?_)
        ·
          exact hJ11
        ·
          refine wp_bd1 (s_X12_ends _ _ _ _ _ _ (by omega) /- pre X12_ends.1#4 -/ (by omega) /- pre X12_ends.2#4 -/ (by exact h3) /- pre X12_ends.3#4 -/ (by omega) /- pre X12_ends.4#4 -/ (by omega) /- pre X12_ends.5#4 -/ (by omega) /- pre X12_ends.6#4 -/ (by omega) /- pre X12_ends.7#4 -/ (by omega) /- pre X12_ends.8#4 -/ (by omega) /- pre X12_ends.9#4 -/ (by omega) /- pre X12_ends.10#4 -/ (by omega) /- pre X12_ends.11#4 -/) (fun z28 q_X12_ends_4 => ?_)
          try dsimp only at q_X12_ends_4
          refine wp_ck (z_r32_i.mpr ⟨(by omega) /- z_r32.lo z28#1 -/, (by omega) /- z_r32.hi z28#1 -/⟩) ?_
          refine wp_if (fun c9 => ?_) (fun c9 => ?_)
          ·
            exact hJ11
          ·
            refine wp_some ?_
            try dsimp only
            all_goals exact (by omega) /- post1#6 -/
      refine wp_if (fun c10 => ?_) (fun c10 => ?_)
      ·
        exact hJ8
      ·
        refine wp_bd1 (s_X12_ends _ _ _ _ _ _ (by omega) /- pre X12_ends.1#5 -/ (by omega) /- pre X12_ends.2#5 -/ (by exact h3) /- pre X12_ends.3#5 -/ (by omega) /- pre X12_ends.4#5 -/ (by omega) /- pre X12_ends.5#5 -/ (by omega) /- pre X12_ends.6#5 -/ (by omega) /- pre X12_ends.7#5 -/ (by omega) /- pre X12_ends.8#5 -/ (by omega) /- pre X12_ends.9#5 -/ (by omega) /- pre X12_ends.10#5 -/ (by omega) /- pre X12_ends.11#5 -/) (fun z30 q_X12_ends_5 => ?_)
        try dsimp only at q_X12_ends_5
        refine wp_ck (z_r32_i.mpr ⟨(by omega) /- z_r32.lo z30#1 -/, (by omega) /- z_r32.hi z30#1 -/⟩) ?_
        refine wp_if (fun c11 => ?_) (fun c11 => ?_)
        ·
          exact hJ8
        ·
          refine wp_some ?_
          try dsimp only
          all_goals exact (by omega) /- post1#7 -/
    ·
      refine wp_some ?_
      try dsimp only
      all_goals exact (by omega) /- post1#8 -/
  refine wp_if (fun c12 => ?_) (fun c12 => ?_)
  ·
    exact hJ3
  ·
    refine wp_bd1 (s_X12_ends _ _ _ _ _ _ (by omega) /- pre X12_ends.1#6 -/ (by omega) /- pre X12_ends.2#6 -/ (by exact h3) /- pre X12_ends.3#6 -/ (by omega) /- pre X12_ends.4#6 -/ (by omega) /- pre X12_ends.5#6 -/ (by omega) /- pre X12_ends.6#6 -/ (by omega) /- pre X12_ends.7#6 -/ (by omega) /- pre X12_ends.8#6 -/ (by omega) /- pre X12_ends.9#6 -/ (by omega) /- pre X12_ends.10#6 -/ (by omega) /- pre X12_ends.11#6 -/) (fun z32 q_X12_ends_6 => ?_)
    try dsimp only at q_X12_ends_6
    refine wp_ck (z_r32_i.mpr ⟨(by omega) /- z_r32.lo z32#1 -/, (by omega) /- z_r32.hi z32#1 -/⟩) ?_
    refine wp_if (fun c13 => ?_) (fun c13 => ?_)
    ·
      exact hJ3
    ·
      refine wp_some ?_
      try dsimp only
      all_goals exact (by omega) /- post1#9 -/

set_option maxHeartbeats 4000000 in
theorem s_X12_nextToken (i_p0_taped : Int) (i_p0_pos : Int) (i_p0_from : Int) (i_p0_sort : Int) (i_p0_value : Int) (i_p0_fault : Int) (i_p0_wrongAt : Int) (v_p0_tape : (Int → Int)) (h1 : 0 ≤ i_p0_taped) (h2 : i_p0_taped ≤ 320) (h3 : 0 ≤ i_p0_pos) (h4 : i_p0_pos ≤ i_p0_taped) (h5 : ∀ j, 0 ≤ j → j < 320 → 0 ≤ v_p0_tape j ∧ v_p0_tape j ≤ 255) (h6 : 0 ≤ i_p0_fault) (h7 : i_p0_fault ≤ 6) : wp (f_X12_nextToken i_p0_taped i_p0_pos i_p0_from i_p0_sort i_p0_value i_p0_fault i_p0_wrongAt v_p0_tape) (fun o => (¬ i_p0_fault = 0 → o.1 = i_p0_pos ∧ o.2.1 = i_p0_from ∧ o.2.2.1 = i_p0_sort ∧ o.2.2.2.1 = i_p0_value ∧ o.2.2.2.2.1 = i_p0_fault ∧ o.2.2.2.2.2 = i_p0_wrongAt) ∧ (i_p0_fault = 0 → (i_p0_pos ≤ o.2.1 ∧ o.2.1 ≤ i_p0_taped) ∧ (∀ j, i_p0_pos ≤ j → j < o.2.1 → v_p0_tape j = 32) ∧ (o.2.1 < i_p0_taped → ¬ v_p0_tape o.2.1 = 32) ∧ tokr v_p0_tape i_p0_taped o.2.1 o.1 o.2.2.1 o.2.2.2.1 o.2.2.2.2.1 ∧ (o.2.2.2.2.2 = if o.2.2.2.2.1 = 0 then i_p0_wrongAt else o.2.1))) := by
  unfold f_X12_nextToken
  refine wp_ck (z_r32_i.mpr ⟨(by omega) /- z_r32.lo i_p0_fault#1 -/, (by omega) /- z_r32.hi i_p0_fault#1 -/⟩) ?_
  refine wp_if (fun c1 => ?_) (fun c1 => ?_)
  ·
    refine wp_jn ?_
    refine wp_lq1 (fun (z50 : Int) => (i_p0_pos ≤ z50) ∧ (z50 ≤ i_p0_taped) ∧ (∀ j, i_p0_pos ≤ j → j < z50 → v_p0_tape j = 32)) (fun (z50 : Int) => (i_p0_taped - z50).toNat) (fun again8 z50 hI ih_B_X12_nextToken_8 => ?_) 1000 _ ⟨(by omega) /- B_X12_nextToken_8.init1#1 -/, (by omega) /- B_X12_nextToken_8.init2#1 -/, (by intro j; omega) /- B_X12_nextToken_8.init3#1 -/⟩ (by omega) /- B_X12_nextToken_8.fuel#1 -/
    obtain ⟨i_B_X12_nextToken_8_1, i_B_X12_nextToken_8_2, i_B_X12_nextToken_8_3⟩ := hI
    unfold B_X12_nextToken_8
    refine wp_bd1 (s_X12_look _ _ _ (by omega) /- pre X12_look.1#1 -/ (by omega) /- pre X12_look.2#1 -/ (by omega) /- pre X12_look.3#1 -/ (by omega) /- pre X12_look.4#1 -/) (fun z52 q_X12_look_1 => ?_)
    try dsimp only at q_X12_look_1
    have hl1 := look_d h5 h2 (by omega) q_X12_look_1
    clear q_X12_look_1
    refine wp_ck (z_r32_i.mpr ⟨(by omega) /- z_r32.lo z52#1 -/, (by omega) /- z_r32.hi z52#1 -/⟩) ?_
    refine wp_if (fun c2 => ?_) (fun c2 => ?_)
    ·
      refine wp_bndE (fun z54 hz54 => ?_)
      exact ih_B_X12_nextToken_8 _ ⟨(by omega) /- B_X12_nextToken_8.inv1#1 -/, (by omega) /- B_X12_nextToken_8.inv2#1 -/, (by intro j a b; by_cases e : j = z50; subst e; omega; exact i_B_X12_nextToken_8_3 j a (by omega)) /- B_X12_nextToken_8.inv3#1 -/⟩ (by omega) /- B_X12_nextToken_8.dec#1 -/
    ·
      refine wp_bnd ?_
      refine wp_bd1 (s_X12_look _ _ _ (by omega) /- pre X12_look.1#2 -/ (by omega) /- pre X12_look.2#2 -/ (by omega) /- pre X12_look.3#2 -/ (by omega) /- pre X12_look.4#2 -/) (fun z5 q_X12_look_2 => ?_)
      try dsimp only at q_X12_look_2
      have hl2 := look_d h5 h2 (by omega) q_X12_look_2
      clear q_X12_look_2
      refine wp_bnd ?_
      refine wp_ck (z_r32_i.mpr ⟨(by omega) /- z_r32.lo z6#1 -/, (by omega) /- z_r32.hi z6#1 -/⟩) ?_
      refine wp_if (fun c3 => ?_) (fun c3 => ?_)
      ·
        refine wp_bd1 (s_X12_in _ _ _ (by omega) /- pre X12_in.1#1 -/ (by omega) /- pre X12_in.2#1 -/ (by omega) /- pre X12_in.3#1 -/ (by omega) /- pre X12_in.4#1 -/ (by omega) /- pre X12_in.5#1 -/ (by omega) /- pre X12_in.6#1 -/) (fun z8 q_X12_in_1 => ?_)
        try dsimp only at q_X12_in_1
        have hi1 := if01 q_X12_in_1
        clear q_X12_in_1
        refine wp_ck (z_r32_i.mpr ⟨(by omega) /- z_r32.lo z8#1 -/, (by omega) /- z_r32.hi z8#1 -/⟩) ?_
        refine wp_if (fun c4 => ?_) (fun c4 => ?_)
        ·
          refine wp_bd1 (s_X12_in _ _ _ (by omega) /- pre X12_in.1#2 -/ (by omega) /- pre X12_in.2#2 -/ (by omega) /- pre X12_in.3#2 -/ (by omega) /- pre X12_in.4#2 -/ (by omega) /- pre X12_in.5#2 -/ (by omega) /- pre X12_in.6#2 -/) (fun z10 q_X12_in_2 => ?_)
          try dsimp only at q_X12_in_2
          have hi2 := if01 q_X12_in_2
          clear q_X12_in_2
          refine wp_ck (z_r32_i.mpr ⟨(by omega) /- z_r32.lo z10#1 -/, (by omega) /- z_r32.hi z10#1 -/⟩) ?_
          refine wp_if (fun c5 => ?_) (fun c5 => ?_)
          ·
            refine wp_bnd ?_
            refine wp_jn ?_
            refine wp_if (fun c6 => ?_) (fun c6 => ?_)
            ·
              refine wp_bd2 (s_X12_needs _ _ _ _ _ (by omega) /- pre X12_needs.1#1 -/ (by omega) /- pre X12_needs.2#1 -/ (by omega) /- pre X12_needs.3#1 -/) (fun z15 z16 q_X12_needs_1 => ?_)
              try dsimp only at q_X12_needs_1
              obtain ⟨q_X12_needs_1_1, q_X12_needs_1_2⟩ := q_X12_needs_1
              refine wp_bndE (fun z17 hz17 => ?_)
              refine wp_some ?_
              try dsimp only
              all_goals exact ⟨(by intro h; exfalso; omega) /- post1#1 -/, (by 
                                        intro _
                                        refine ⟨by omega, i_B_X12_nextToken_8_3, fun _ => by omega, ?_, by split <;> omega⟩
                                        unfold tokr
                                        rw [if_neg (by omega), if_neg (by omega), if_neg (by omega)]
                                        exact ⟨rfl, by omega, by rw [if_pos (by omega)]; omega⟩) /- post2#1 -/⟩
            ·
              refine wp_bd2 (s_X12_needs _ _ _ _ _ (by omega) /- pre X12_needs.1#2 -/ (by omega) /- pre X12_needs.2#2 -/ (by omega) /- pre X12_needs.3#2 -/) (fun z15 z16 q_X12_needs_2 => ?_)
              try dsimp only at q_X12_needs_2
              obtain ⟨q_X12_needs_2_1, q_X12_needs_2_2⟩ := q_X12_needs_2
              refine wp_bndE (fun z17 hz17 => ?_)
              refine wp_some ?_
              try dsimp only
              all_goals exact ⟨(by intro h; exfalso; omega) /- post1#2 -/, (by 
                                        intro _
                                        refine ⟨by omega, i_B_X12_nextToken_8_3, fun _ => by omega, ?_, by split <;> omega⟩
                                        unfold tokr
                                        rw [if_neg (by omega), if_neg (by omega), if_neg (by omega)]
                                        exact ⟨rfl, by omega, by rw [if_neg (by omega)]; omega⟩) /- post2#2 -/⟩
          ·
            refine wp_bnd ?_
            refine wp_bnd ?_
            refine wp_jn ?_
            refine wp_lq2 (fun (z28 : Int) (z29 : Int) => (z50 ≤ z28) ∧ (z28 ≤ i_p0_taped) ∧ (∀ j, z50 ≤ j → j < z28 → 48 ≤ v_p0_tape j ∧ v_p0_tape j ≤ 57) ∧ (z28 = z50 → z29 = 0) ∧ (z28 - z50 = 1 → z29 = v_p0_tape z50 - 48) ∧ (2 ≤ z28 - z50 → z29 = 10 * (v_p0_tape z50 - 48) + (v_p0_tape (z50 + 1) - 48))) (fun (z28 : Int) (z29 : Int) => (i_p0_taped - z28).toNat) (fun again140 z28 z29 hI ih_B_X12_nextToken_140 => ?_) 1000 _ _ ⟨(by omega) /- B_X12_nextToken_140.init1#1 -/, (by omega) /- B_X12_nextToken_140.init2#1 -/, (by intro j; omega) /- B_X12_nextToken_140.init3#1 -/, (by intro _; rfl) /- B_X12_nextToken_140.init4#1 -/, (by intro h; omega) /- B_X12_nextToken_140.init5#1 -/, (by intro h; omega) /- B_X12_nextToken_140.init6#1 -/⟩ (by omega) /- B_X12_nextToken_140.fuel#1 -/
            obtain ⟨i_B_X12_nextToken_140_1, i_B_X12_nextToken_140_2, i_B_X12_nextToken_140_3, i_B_X12_nextToken_140_4, i_B_X12_nextToken_140_5, i_B_X12_nextToken_140_6⟩ := hI
            unfold B_X12_nextToken_140
            refine wp_bd1 (s_X12_look _ _ _ (by omega) /- pre X12_look.1#3 -/ (by omega) /- pre X12_look.2#3 -/ (by omega) /- pre X12_look.3#3 -/ (by omega) /- pre X12_look.4#3 -/) (fun z31 q_X12_look_3 => ?_)
            try dsimp only at q_X12_look_3
            have hl3 := look_d h5 h2 (by omega) q_X12_look_3
            clear q_X12_look_3
            refine wp_ck (z_r32_i.mpr ⟨(by omega) /- z_r32.lo z31#1 -/, (by omega) /- z_r32.hi z31#1 -/⟩) ?_
            refine wp_bd1 (s_X12_in _ _ _ (by omega) /- pre X12_in.1#3 -/ (by omega) /- pre X12_in.2#3 -/ (by omega) /- pre X12_in.3#3 -/ (by omega) /- pre X12_in.4#3 -/ (by omega) /- pre X12_in.5#3 -/ (by omega) /- pre X12_in.6#3 -/) (fun z33 q_X12_in_3 => ?_)
            try dsimp only at q_X12_in_3
            have hi3 := if01 q_X12_in_3
            clear q_X12_in_3
            refine wp_ck (z_r32_i.mpr ⟨(by omega) /- z_r32.lo z33#1 -/, (by omega) /- z_r32.hi z33#1 -/⟩) ?_
            refine wp_if (fun c7 => ?_) (fun c7 => ?_)
            ·
              refine wp_ck (z_r32_i.mpr ⟨(by omega) /- z_r32.lo (z20 - z4)#1 -/, (by omega) /- z_r32.hi (z20 - z4)#1 -/⟩) ?_
              refine wp_if (fun c8 => ?_) (fun c8 => ?_)
              ·
                refine wp_bd2 (s_X12_needs _ _ _ _ _ (by omega) /- pre X12_needs.1#3 -/ (by omega) /- pre X12_needs.2#3 -/ (by omega) /- pre X12_needs.3#3 -/) (fun z24 z25 q_X12_needs_3 => ?_)
                try dsimp only at q_X12_needs_3
                obtain ⟨q_X12_needs_3_1, q_X12_needs_3_2⟩ := q_X12_needs_3
                refine wp_some ?_
                try dsimp only
                all_goals exact ⟨(by intro h; exfalso; omega) /- post1#3 -/, (by 
                                        intro _
                                        refine ⟨by omega, i_B_X12_nextToken_8_3, fun _ => by omega, ?_, by split <;> omega⟩
                                        unfold tokr
                                        rw [if_neg (by omega), if_neg (by omega), if_pos (by omega)]
                                        refine ⟨rfl, ?_, by omega, i_B_X12_nextToken_140_3, fun _ => by omega, i_B_X12_nextToken_140_5, i_B_X12_nextToken_140_6, by rw [if_neg (by omega)]; omega⟩
                                        rcases Int.lt_or_eq_of_le i_B_X12_nextToken_140_1 with h | h
                                        · exact h
                                        · exfalso; subst h; omega) /- post2#3 -/⟩
              ·
                refine wp_bd2 (s_X12_needs _ _ _ _ _ (by omega) /- pre X12_needs.1#4 -/ (by omega) /- pre X12_needs.2#4 -/ (by omega) /- pre X12_needs.3#4 -/) (fun z26 z27 q_X12_needs_4 => ?_)
                try dsimp only at q_X12_needs_4
                obtain ⟨q_X12_needs_4_1, q_X12_needs_4_2⟩ := q_X12_needs_4
                refine wp_some ?_
                try dsimp only
                all_goals exact ⟨(by intro h; exfalso; omega) /- post1#4 -/, (by 
                                        intro _
                                        refine ⟨by omega, i_B_X12_nextToken_8_3, fun _ => by omega, ?_, by split <;> omega⟩
                                        unfold tokr
                                        rw [if_neg (by omega), if_neg (by omega), if_pos (by omega)]
                                        refine ⟨rfl, ?_, by omega, i_B_X12_nextToken_140_3, fun _ => by omega, i_B_X12_nextToken_140_5, i_B_X12_nextToken_140_6, by rw [if_pos (by omega)]; omega⟩
                                        rcases Int.lt_or_eq_of_le i_B_X12_nextToken_140_1 with h | h
                                        · exact h
                                        · exfalso; subst h; omega) /- post2#4 -/⟩
            ·
              refine wp_ck (z_r32_i.mpr ⟨(by omega) /- z_r32.lo (z28 - z4)#1 -/, (by omega) /- z_r32.hi (z28 - z4)#1 -/⟩) ?_
              refine wp_jn ?_
              refine wp_if (fun c9 => ?_) (fun c9 => ?_)
              ·
                refine wp_bnd ?_
                refine wp_bndE (fun z39 hz39 => ?_)
                exact ih_B_X12_nextToken_140 _ _ ⟨(by omega) /- B_X12_nextToken_140.inv1#1 -/, (by omega) /- B_X12_nextToken_140.inv2#1 -/, (by intro j a b; by_cases e : j = z28; subst e; omega; exact i_B_X12_nextToken_140_3 j a (by omega)) /- B_X12_nextToken_140.inv3#1 -/, (by omega) /- B_X12_nextToken_140.inv4#1 -/, (by intro h; exfalso; omega) /- B_X12_nextToken_140.inv5#1 -/, (by intro h; exact i_B_X12_nextToken_140_6 (by omega)) /- B_X12_nextToken_140.inv6#1 -/⟩ (by omega) /- B_X12_nextToken_140.dec#1 -/
              ·
                refine wp_bd1 (s_X12_look _ _ _ (by omega) /- pre X12_look.1#4 -/ (by omega) /- pre X12_look.2#4 -/ (by omega) /- pre X12_look.3#4 -/ (by omega) /- pre X12_look.4#4 -/) (fun z40 q_X12_look_4 => ?_)
                try dsimp only at q_X12_look_4
                have hl4 := look_d h5 h2 (by omega) q_X12_look_4
                clear q_X12_look_4
                refine wp_bnd ?_
                refine wp_bndE (fun z39 hz39 => ?_)
                exact ih_B_X12_nextToken_140 _ _ ⟨(by omega) /- B_X12_nextToken_140.inv1#2 -/, (by omega) /- B_X12_nextToken_140.inv2#2 -/, (by intro j a b; by_cases e : j = z28; subst e; omega; exact i_B_X12_nextToken_140_3 j a (by omega)) /- B_X12_nextToken_140.inv3#2 -/, (by omega) /- B_X12_nextToken_140.inv4#2 -/, (by 
                                        intro h; have e : z28 = z50 := by omega
                                        have q := i_B_X12_nextToken_140_4 e
                                        rw [e] at hl4
                                        omega) /- B_X12_nextToken_140.inv5#2 -/, (by 
                                        intro h; have e : z28 = z50 + 1 := by omega
                                        have q := i_B_X12_nextToken_140_5 (by omega)
                                        rw [e] at hl4
                                        omega) /- B_X12_nextToken_140.inv6#2 -/⟩ (by omega) /- B_X12_nextToken_140.dec#2 -/
        ·
          refine wp_bnd ?_
          refine wp_lq1 (fun (z42 : Int) => (z50 ≤ z42) ∧ (z42 ≤ i_p0_taped) ∧ (∀ j, z50 ≤ j → j < z42 → 97 ≤ v_p0_tape j ∧ v_p0_tape j ≤ 122)) (fun (z42 : Int) => (i_p0_taped - z42).toNat) (fun again82 z42 hI ih_B_X12_nextToken_82 => ?_) 1000 _ ⟨(by omega) /- B_X12_nextToken_82.init1#1 -/, (by omega) /- B_X12_nextToken_82.init2#1 -/, (by intro j; omega) /- B_X12_nextToken_82.init3#1 -/⟩ (by omega) /- B_X12_nextToken_82.fuel#1 -/
          obtain ⟨i_B_X12_nextToken_82_1, i_B_X12_nextToken_82_2, i_B_X12_nextToken_82_3⟩ := hI
          unfold B_X12_nextToken_82
          refine wp_bd1 (s_X12_look _ _ _ (by omega) /- pre X12_look.1#5 -/ (by omega) /- pre X12_look.2#5 -/ (by omega) /- pre X12_look.3#5 -/ (by omega) /- pre X12_look.4#5 -/) (fun z44 q_X12_look_5 => ?_)
          try dsimp only at q_X12_look_5
          have hl5 := look_d h5 h2 (by omega) q_X12_look_5
          clear q_X12_look_5
          refine wp_ck (z_r32_i.mpr ⟨(by omega) /- z_r32.lo z44#1 -/, (by omega) /- z_r32.hi z44#1 -/⟩) ?_
          refine wp_bd1 (s_X12_in _ _ _ (by omega) /- pre X12_in.1#4 -/ (by omega) /- pre X12_in.2#4 -/ (by omega) /- pre X12_in.3#4 -/ (by omega) /- pre X12_in.4#4 -/ (by omega) /- pre X12_in.5#4 -/ (by omega) /- pre X12_in.6#4 -/) (fun z46 q_X12_in_4 => ?_)
          try dsimp only at q_X12_in_4
          have hi4 := if01 q_X12_in_4
          clear q_X12_in_4
          refine wp_ck (z_r32_i.mpr ⟨(by omega) /- z_r32.lo z46#1 -/, (by omega) /- z_r32.hi z46#1 -/⟩) ?_
          refine wp_if (fun c10 => ?_) (fun c10 => ?_)
          ·
            refine wp_some ?_
            try dsimp only
            all_goals exact ⟨(by intro h; exfalso; omega) /- post1#5 -/, (by 
                                        intro _
                                        refine ⟨by omega, i_B_X12_nextToken_8_3, fun _ => by omega, ?_, by split <;> omega⟩
                                        unfold tokr
                                        rw [if_neg (by omega), if_pos (by omega)]
                                        refine ⟨rfl, ?_, by omega, i_B_X12_nextToken_82_3, fun _ => by omega, by omega⟩
                                        rcases Int.lt_or_eq_of_le i_B_X12_nextToken_82_1 with h | h
                                        · exact h
                                        · exfalso; subst h; omega) /- post2#5 -/⟩
          ·
            refine wp_bndE (fun z48 hz48 => ?_)
            exact ih_B_X12_nextToken_82 _ ⟨(by omega) /- B_X12_nextToken_82.inv1#1 -/, (by omega) /- B_X12_nextToken_82.inv2#1 -/, (by intro j a b; by_cases e : j = z42; subst e; omega; exact i_B_X12_nextToken_82_3 j a (by omega)) /- B_X12_nextToken_82.inv3#1 -/⟩ (by omega) /- B_X12_nextToken_82.dec#1 -/
      ·
        refine wp_bnd ?_
        refine wp_some ?_
        try dsimp only
        all_goals exact ⟨(by intro h; exfalso; omega) /- post1#6 -/, (by 
                                        intro _
                                        refine ⟨by omega, i_B_X12_nextToken_8_3, fun _ => by omega, ?_, by split <;> omega⟩
                                        unfold tokr
                                        rw [if_pos (by omega)]
                                        exact ⟨rfl, rfl, by omega⟩) /- post2#6 -/⟩
  ·
    refine wp_some ?_
    try dsimp only
    all_goals exact ⟨(by intro _; exact ⟨rfl, rfl, rfl, rfl, rfl, rfl⟩) /- post1#7 -/, (by intro h; exfalso; omega) /- post2#7 -/⟩

set_option maxHeartbeats 4000000 in
theorem s_X12_looked (i_p0_from : Int) (i_p0_sort : Int) (i_p0_value : Int) (i_p0_fault : Int) (i_p0_wrongAt : Int) (x1 : Int) (x2 : Int) (i_p0_taped i_p0_pos : Int) (h1 : tokI i_p0_taped i_p0_pos i_p0_from i_p0_sort i_p0_value i_p0_fault i_p0_wrongAt) (h2 : 0 ≤ x1) (h3 : x1 ≤ 9) (h4 : 0 ≤ x2) (h5 : x2 ≤ 9) : wp (f_X12_looked i_p0_from i_p0_sort i_p0_value i_p0_fault i_p0_wrongAt x1 x2) (fun o => (o.1 = if (i_p0_fault = 0 ∧ i_p0_sort = 2 ∧ x1 ≤ i_p0_value ∧ i_p0_value ≤ x2) then i_p0_value else 0) ∧ (o.2.1 = if ¬ i_p0_fault = 0 then i_p0_fault else if ¬ i_p0_sort = 2 then 2 else if x1 ≤ i_p0_value ∧ i_p0_value ≤ x2 then 0 else 3) ∧ (o.2.2 = if i_p0_fault = 0 ∧ ¬ (i_p0_fault = 0 ∧ i_p0_sort = 2 ∧ x1 ≤ i_p0_value ∧ i_p0_value ≤ x2) then i_p0_from else i_p0_wrongAt)) := by
  unfold f_X12_looked
  obtain ⟨i1, i2, i3, i4, i5, i6, i7⟩ := h1
  refine wp_ck (z_r32_i.mpr ⟨(by first | omega | grind) /- z_r32.lo i_p0_fault#1 -/, (by first | omega | grind) /- z_r32.hi i_p0_fault#1 -/⟩) ?_
  refine wp_jn ?_
  refine wp_if (fun c1 => ?_) (fun c1 => ?_)
  ·
    refine wp_ck (z_r32_i.mpr ⟨(by first | omega | grind) /- z_r32.lo i_p0_sort#1 -/, (by first | omega | grind) /- z_r32.hi i_p0_sort#1 -/⟩) ?_
    refine wp_if (fun c2 => ?_) (fun c2 => ?_)
    ·
      refine wp_bd2 (s_X12_needs _ _ _ _ _ (by first | omega | grind) /- pre X12_needs.1#1 -/ (by first | omega | grind) /- pre X12_needs.2#1 -/ (by first | omega | grind) /- pre X12_needs.3#1 -/) (fun z19 z20 q_X12_needs_1 => ?_)
      try dsimp only at q_X12_needs_1
      obtain ⟨q_X12_needs_1_1, q_X12_needs_1_2⟩ := q_X12_needs_1
      refine wp_ck (z_r32_i.mpr ⟨(by first | omega | grind) /- z_r32.lo z2#1 -/, (by first | omega | grind) /- z_r32.hi z2#1 -/⟩) ?_
      refine wp_jn ?_
      refine wp_if (fun c3 => ?_) (fun c3 => ?_)
      ·
        refine wp_ck (z_r32_i.mpr ⟨(by first | omega | grind) /- z_r32.lo i_p0_value#1 -/, (by first | omega | grind) /- z_r32.hi i_p0_value#1 -/⟩) ?_
        refine wp_ck (z_r32_i.mpr ⟨(by first | omega | grind) /- z_r32.lo x1#1 -/, (by first | omega | grind) /- z_r32.hi x1#1 -/⟩) ?_
        refine wp_ck (z_r32_i.mpr ⟨(by first | omega | grind) /- z_r32.lo x2#1 -/, (by first | omega | grind) /- z_r32.hi x2#1 -/⟩) ?_
        refine wp_bd1 (s_X12_in _ _ _ (by first | omega | grind) /- pre X12_in.1#1 -/ (by first | omega | grind) /- pre X12_in.2#1 -/ (by first | omega | grind) /- pre X12_in.3#1 -/ (by first | omega | grind) /- pre X12_in.4#1 -/ (by first | omega | grind) /- pre X12_in.5#1 -/ (by first | omega | grind) /- pre X12_in.6#1 -/) (fun z13 q_X12_in_1 => ?_)
        try dsimp only at q_X12_in_1
        have hi1 := if01 q_X12_in_1
        clear q_X12_in_1
        refine wp_bd2 (s_X12_needs _ _ _ _ _ (by first | omega | grind) /- pre X12_needs.1#2 -/ (by first | omega | grind) /- pre X12_needs.2#2 -/ (by first | omega | grind) /- pre X12_needs.3#2 -/) (fun z14 z15 q_X12_needs_2 => ?_)
        try dsimp only at q_X12_needs_2
        obtain ⟨q_X12_needs_2_1, q_X12_needs_2_2⟩ := q_X12_needs_2
        refine wp_ck (z_r32_i.mpr ⟨(by first | omega | grind) /- z_r32.lo z6#1 -/, (by first | omega | grind) /- z_r32.hi z6#1 -/⟩) ?_
        refine wp_if (fun c4 => ?_) (fun c4 => ?_)
        ·
          refine wp_some ?_
          try dsimp only
          all_goals exact ⟨(by first | omega | grind) /- post1#1 -/, (by first | omega | grind) /- post2#1 -/, (by first | omega | grind) /- post3#1 -/⟩
        ·
          refine wp_some ?_
          try dsimp only
          all_goals exact ⟨(by first | omega | grind) /- post1#2 -/, (by first | omega | grind) /- post2#2 -/, (by first | omega | grind) /- post3#2 -/⟩
      ·
        refine wp_ck (z_r32_i.mpr ⟨(by first | omega | grind) /- z_r32.lo z6#2 -/, (by first | omega | grind) /- z_r32.hi z6#2 -/⟩) ?_
        refine wp_if (fun c5 => ?_) (fun c5 => ?_)
        ·
          refine wp_some ?_
          try dsimp only
          all_goals exact ⟨(by first | omega | grind) /- post1#3 -/, (by first | omega | grind) /- post2#3 -/, (by first | omega | grind) /- post3#3 -/⟩
        ·
          refine wp_some ?_
          try dsimp only
          all_goals exact ⟨(by first | omega | grind) /- post1#4 -/, (by first | omega | grind) /- post2#4 -/, (by first | omega | grind) /- post3#4 -/⟩
    ·
      refine wp_bd2 (s_X12_needs _ _ _ _ _ (by first | omega | grind) /- pre X12_needs.1#3 -/ (by first | omega | grind) /- pre X12_needs.2#3 -/ (by first | omega | grind) /- pre X12_needs.3#3 -/) (fun z17 z18 q_X12_needs_3 => ?_)
      try dsimp only at q_X12_needs_3
      obtain ⟨q_X12_needs_3_1, q_X12_needs_3_2⟩ := q_X12_needs_3
      refine wp_ck (z_r32_i.mpr ⟨(by first | omega | grind) /- z_r32.lo z2#2 -/, (by first | omega | grind) /- z_r32.hi z2#2 -/⟩) ?_
      refine wp_jn ?_
      refine wp_if (fun c6 => ?_) (fun c6 => ?_)
      ·
        refine wp_ck (z_r32_i.mpr ⟨(by first | omega | grind) /- z_r32.lo i_p0_value#2 -/, (by first | omega | grind) /- z_r32.hi i_p0_value#2 -/⟩) ?_
        refine wp_ck (z_r32_i.mpr ⟨(by first | omega | grind) /- z_r32.lo x1#2 -/, (by first | omega | grind) /- z_r32.hi x1#2 -/⟩) ?_
        refine wp_ck (z_r32_i.mpr ⟨(by first | omega | grind) /- z_r32.lo x2#2 -/, (by first | omega | grind) /- z_r32.hi x2#2 -/⟩) ?_
        refine wp_bd1 (s_X12_in _ _ _ (by first | omega | grind) /- pre X12_in.1#2 -/ (by first | omega | grind) /- pre X12_in.2#2 -/ (by first | omega | grind) /- pre X12_in.3#2 -/ (by first | omega | grind) /- pre X12_in.4#2 -/ (by first | omega | grind) /- pre X12_in.5#2 -/ (by first | omega | grind) /- pre X12_in.6#2 -/) (fun z13 q_X12_in_2 => ?_)
        try dsimp only at q_X12_in_2
        have hi2 := if01 q_X12_in_2
        clear q_X12_in_2
        refine wp_bd2 (s_X12_needs _ _ _ _ _ (by first | omega | grind) /- pre X12_needs.1#4 -/ (by first | omega | grind) /- pre X12_needs.2#4 -/ (by first | omega | grind) /- pre X12_needs.3#4 -/) (fun z14 z15 q_X12_needs_4 => ?_)
        try dsimp only at q_X12_needs_4
        obtain ⟨q_X12_needs_4_1, q_X12_needs_4_2⟩ := q_X12_needs_4
        refine wp_ck (z_r32_i.mpr ⟨(by first | omega | grind) /- z_r32.lo z6#3 -/, (by first | omega | grind) /- z_r32.hi z6#3 -/⟩) ?_
        refine wp_if (fun c7 => ?_) (fun c7 => ?_)
        ·
          refine wp_some ?_
          try dsimp only
          all_goals exact ⟨(by first | omega | grind) /- post1#5 -/, (by first | omega | grind) /- post2#5 -/, (by first | omega | grind) /- post3#5 -/⟩
        ·
          refine wp_some ?_
          try dsimp only
          all_goals exact ⟨(by first | omega | grind) /- post1#6 -/, (by first | omega | grind) /- post2#6 -/, (by first | omega | grind) /- post3#6 -/⟩
      ·
        refine wp_ck (z_r32_i.mpr ⟨(by first | omega | grind) /- z_r32.lo z6#4 -/, (by first | omega | grind) /- z_r32.hi z6#4 -/⟩) ?_
        refine wp_if (fun c8 => ?_) (fun c8 => ?_)
        ·
          refine wp_some ?_
          try dsimp only
          all_goals exact ⟨(by first | omega | grind) /- post1#7 -/, (by first | omega | grind) /- post2#7 -/, (by first | omega | grind) /- post3#7 -/⟩
        ·
          refine wp_some ?_
          try dsimp only
          all_goals exact ⟨(by first | omega | grind) /- post1#8 -/, (by first | omega | grind) /- post2#8 -/, (by first | omega | grind) /- post3#8 -/⟩
  ·
    refine wp_ck (z_r32_i.mpr ⟨(by first | omega | grind) /- z_r32.lo z2#3 -/, (by first | omega | grind) /- z_r32.hi z2#3 -/⟩) ?_
    refine wp_jn ?_
    refine wp_if (fun c9 => ?_) (fun c9 => ?_)
    ·
      refine wp_ck (z_r32_i.mpr ⟨(by first | omega | grind) /- z_r32.lo i_p0_value#3 -/, (by first | omega | grind) /- z_r32.hi i_p0_value#3 -/⟩) ?_
      refine wp_ck (z_r32_i.mpr ⟨(by first | omega | grind) /- z_r32.lo x1#3 -/, (by first | omega | grind) /- z_r32.hi x1#3 -/⟩) ?_
      refine wp_ck (z_r32_i.mpr ⟨(by first | omega | grind) /- z_r32.lo x2#3 -/, (by first | omega | grind) /- z_r32.hi x2#3 -/⟩) ?_
      refine wp_bd1 (s_X12_in _ _ _ (by first | omega | grind) /- pre X12_in.1#3 -/ (by first | omega | grind) /- pre X12_in.2#3 -/ (by first | omega | grind) /- pre X12_in.3#3 -/ (by first | omega | grind) /- pre X12_in.4#3 -/ (by first | omega | grind) /- pre X12_in.5#3 -/ (by first | omega | grind) /- pre X12_in.6#3 -/) (fun z13 q_X12_in_3 => ?_)
      try dsimp only at q_X12_in_3
      have hi3 := if01 q_X12_in_3
      clear q_X12_in_3
      refine wp_bd2 (s_X12_needs _ _ _ _ _ (by first | omega | grind) /- pre X12_needs.1#5 -/ (by first | omega | grind) /- pre X12_needs.2#5 -/ (by first | omega | grind) /- pre X12_needs.3#5 -/) (fun z14 z15 q_X12_needs_5 => ?_)
      try dsimp only at q_X12_needs_5
      obtain ⟨q_X12_needs_5_1, q_X12_needs_5_2⟩ := q_X12_needs_5
      refine wp_ck (z_r32_i.mpr ⟨(by first | omega | grind) /- z_r32.lo z6#5 -/, (by first | omega | grind) /- z_r32.hi z6#5 -/⟩) ?_
      refine wp_if (fun c10 => ?_) (fun c10 => ?_)
      ·
        refine wp_some ?_
        try dsimp only
        all_goals exact ⟨(by first | omega | grind) /- post1#9 -/, (by first | omega | grind) /- post2#9 -/, (by first | omega | grind) /- post3#9 -/⟩
      ·
        refine wp_some ?_
        try dsimp only
        all_goals exact ⟨(by first | omega | grind) /- post1#10 -/, (by first | omega | grind) /- post2#10 -/, (by first | omega | grind) /- post3#10 -/⟩
    ·
      refine wp_ck (z_r32_i.mpr ⟨(by first | omega | grind) /- z_r32.lo z6#6 -/, (by first | omega | grind) /- z_r32.hi z6#6 -/⟩) ?_
      refine wp_if (fun c11 => ?_) (fun c11 => ?_)
      ·
        refine wp_some ?_
        try dsimp only
        all_goals exact ⟨(by first | omega | grind) /- post1#11 -/, (by first | omega | grind) /- post2#11 -/, (by first | omega | grind) /- post3#11 -/⟩
      ·
        refine wp_some ?_
        try dsimp only
        all_goals exact ⟨(by first | omega | grind) /- post1#12 -/, (by first | omega | grind) /- post2#12 -/, (by first | omega | grind) /- post3#12 -/⟩
