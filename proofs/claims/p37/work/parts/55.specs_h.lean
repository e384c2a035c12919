def okD (n bone king days : Int) (p e : Int → Int) : Prop := (0 ≤ bone ∧ bone < n) ∧ (0 ≤ king ∧ king < n) ∧ (0 ≤ days ∧ days ≤ 999) ∧ (∀ j, 0 ≤ j → j < 7 → 0 ≤ p j ∧ p j ≤ 9) ∧ (∀ j, 0 ≤ j → j < 7 → 0 ≤ e j ∧ e j ≤ 9 * days)
theorem okD_of {n sd bone king days : Int} {p f s e se : Int → Int} (h : okS n sd bone king days p f s e se) : okD n bone king days p e := ⟨h.1, h.2.1, h.2.2.1, h.2.2.2.2.1, h.2.2.2.2.2.2.2.1⟩
theorem okS_to {n sd bone king days bone2 king2 days2 : Int} {p f s e se p2 e2 : Int → Int} (h : okS n sd bone king days p f s e se) (d : okD n bone2 king2 days2 p2 e2) : okS n sd bone2 king2 days2 p2 f s e2 se := ⟨d.1, d.2.1, d.2.2.1, h.2.2.2.1, d.2.2.2.1, h.2.2.2.2.2.1, h.2.2.2.2.2.2.1, d.2.2.2.2, h.2.2.2.2.2.2.2.2⟩
theorem okD_day {n bone king days bone2 king2 days2 : Int} {row p f e p2 e2 : Int → Int} (hn : 2 ≤ n ∧ n ≤ 7) (hr : perm n row) (h : okD n bone king days p e) (hd : days < 999) (d : dayP n row f bone king days p e bone2 king2 days2 p2 e2) : okD n bone2 king2 days2 p2 e2 := by
  obtain ⟨h1, h2, h3, h5, h8⟩ := h
  obtain ⟨d1, d2, d3, d4, d5, d6, d7⟩ := d
  have hp : ∀ j, 0 ≤ j → j < 7 → 0 ≤ p2 j ∧ p2 j ≤ 9 := by
    intro j a b
    by_cases c : j < n
    · obtain ⟨i, hi, e⟩ := perm_sur hr a c
      rw [← e, d4 i hi.1 hi.2]
      exact h5 i hi.1 (by omega)
    · rw [d5 j (by omega)]; exact h5 j a b
  refine ⟨by rw [d1]; exact hr.1 bone h1.1 h1.2, ⟨d2.1, d2.2.1⟩, by omega, hp, fun j a b => ?_⟩
  have q := h8 j a b
  by_cases c : j < n
  · rw [d6 j a c]
    have r := plc_rng (n := n) (k := king) (f := f king) (p := j) (by omega)
    have r2 := hp _ r.1 (by omega)
    omega
  · rw [d7 j (by omega)]; omega
/-- what the machine finds at a cell -/
def fa (lane size x i : Int) : Int := if lane = -4 then 1 else if x = lane then (if 0 ≤ i ∧ i < size then 0 else 2) else 3
theorem fa_r (lane size x i : Int) : 0 ≤ fa lane size x i ∧ fa lane size x i ≤ 3 := by
  unfold fa
  split
  · omega
  · split
    · split <;> omega
    · omega
theorem fa_0 {lane size x i : Int} (h : fa lane size x i = 0) : 0 ≤ i ∧ i < size := by
  unfold fa at h
  split at h
  · omega
  · split at h
    · split at h
      · assumption
      · omega
    · omega
/-- m days one behind another, by the stirs that stand in cells from c on -/
def daysP (n : Int) (after f cells : Int → Int) (c : Int) : Nat → Int → Int → Int → (Int → Int) → (Int → Int) → Int → Int → Int → (Int → Int) → (Int → Int) → Prop
  | 0, bone, king, days, p, e, bone2, king2, days2, p2, e2 => bone2 = bone ∧ king2 = king ∧ days2 = days ∧ p2 = p ∧ e2 = e
  | m + 1, bone, king, days, p, e, bone2, king2, days2, p2, e2 => ∃ (b k d : Int) (pp ee : Int → Int), daysP n after f cells c m bone king days p e b k d pp ee ∧ dayP n (fun i => after (cells (c + (m : Int)) * 7 + i)) f b k d pp ee bone2 king2 days2 p2 e2
theorem daysP_d {n : Int} {after f cells : Int → Int} {c : Int} : ∀ (m : Nat) {bone king days bone2 king2 days2 : Int} {p e p2 e2 : Int → Int}, daysP n after f cells c m bone king days p e bone2 king2 days2 p2 e2 → days2 = days + m := by
  intro m
  induction m with
  | zero => intro bone king days bone2 king2 days2 p e p2 e2 h; have := h.2.2.1; omega
  | succ m ih =>
    intro bone king days bone2 king2 days2 p e p2 e2 h
    obtain ⟨b, k, d, pp, ee, h1, h2⟩ := h
    have := ih h1
    have := h2.2.2.1
    omega
def readP (n s : Int) (after f : Int → Int) (lane size : Int) (cells : Int → Int) (x2 x3 x4 tear bone king days : Int) (p e : Int → Int) (r tear2 bone2 king2 days2 : Int) (p2 e2 : Int → Int) : Prop :=
  ∃ m, (0 ≤ m ∧ m ≤ x4) ∧ (∀ j, 0 ≤ j → j < m → fa lane size x2 (x3 + j) = 0 ∧ (0 ≤ cells (x3 + j) ∧ cells (x3 + j) < s) ∧ days + j < 999) ∧
   ((m < x4 ∧ fa lane size x2 (x3 + m) = 0 ∧ ¬ ((0 ≤ cells (x3 + m) ∧ cells (x3 + m) < s) ∧ days + m < 999) ∧ r = -20 - m ∧ tear2 = tear ∧ bone2 = bone ∧ king2 = king ∧ days2 = days ∧ p2 = p ∧ e2 = e) ∨
    (((m < x4 ∧ ¬ fa lane size x2 (x3 + m) = 0 ∧ tear2 = fa lane size x2 (x3 + m)) ∨ (m = x4 ∧ tear2 = 0)) ∧ r = m ∧ daysP n after f cells x3 m.toNat bone king days p e bone2 king2 days2 p2 e2))
set_option maxHeartbeats 1000000 in
theorem s_X11_isPart (x0 : Int) (h1 : -2147483648 ≤ x0) (h2 : x0 < 2147483648) : wp (f_X11_isPart x0) (fun o => (o = if x0 = 0 ∨ x0 = 1 then 1 else 0)) := by
  unfold f_X11_isPart
  refine wp_ck (z_r32_i.mpr ⟨(by first | omega | grind) /- z_r32.lo x0#1 -/, (by first | omega | grind) /- z_r32.hi x0#1 -/⟩) ?_
  refine wp_if (fun c1 => ?_) (fun c1 => ?_)
  ·
    refine wp_some ?_
    try dsimp only
    all_goals exact (by split <;> omega) /- post1#1 -/
  ·
    refine wp_if (fun c2 => ?_) (fun c2 => ?_)
    ·
      refine wp_some ?_
      try dsimp only
      all_goals exact (by split <;> omega) /- post1#2 -/
    ·
      refine wp_some ?_
      try dsimp only
      all_goals exact (by split <;> omega) /- post1#3 -/

set_option maxHeartbeats 1000000 in
theorem s_X11_isRowQuestion (x0 : Int) (x1 : Int) (h1 : -2147483648 ≤ x0) (h2 : x0 < 2147483648) (h3 : 0 ≤ x1) (h4 : x1 ≤ 10) : wp (f_X11_isRowQuestion x0 x1) (fun o => (o = if x0 = 0 ∨ (10 ≤ x0 ∧ x0 < 10 + x1) then 1 else 0)) := by
  unfold f_X11_isRowQuestion
  refine wp_ck (z_r32_i.mpr ⟨(by first | omega | grind) /- z_r32.lo x0#1 -/, (by first | omega | grind) /- z_r32.hi x0#1 -/⟩) ?_
  refine wp_if (fun c1 => ?_) (fun c1 => ?_)
  ·
    refine wp_some ?_
    try dsimp only
    all_goals exact (by split <;> omega) /- post1#1 -/
  ·
    refine wp_if (fun c2 => ?_) (fun c2 => ?_)
    ·
      refine wp_some ?_
      try dsimp only
      all_goals exact (by split <;> omega) /- post1#2 -/
    ·
      refine wp_ck (z_r32_i.mpr ⟨(by first | omega | grind) /- z_r32.lo ((10 : Int) + x1)#1 -/, (by first | omega | grind) /- z_r32.hi ((10 : Int) + x1)#1 -/⟩) ?_
      refine wp_if (fun c3 => ?_) (fun c3 => ?_)
      ·
        refine wp_some ?_
        try dsimp only
        all_goals exact (by split <;> omega) /- post1#3 -/
      ·
        refine wp_some ?_
        try dsimp only
        all_goals exact (by split <;> omega) /- post1#4 -/

set_option maxHeartbeats 1000000 in
theorem s_X11_ofRow (n_p0 : Nat) (v_p0 : (Int → Int)) (x1 : Int) (x2 : Int) (h1 : n_p0 < 1000) (h2 : -2147483648 ≤ x1) (h3 : x1 < 2147483648) (h4 : -2147483648 ≤ x2) (h5 : x2 < 2147483648) : wp (f_X11_ofRow n_p0 v_p0 x1 x2) (fun o => (o = if 0 ≤ x2 ∧ x2 < x1 ∧ x2 < (n_p0 : Int) then v_p0 x2 else -4)) := by
  unfold f_X11_ofRow
  refine wp_ck (z_r32_i.mpr ⟨(by first | omega | grind) /- z_r32.lo x2#1 -/, (by first | omega | grind) /- z_r32.hi x2#1 -/⟩) ?_
  refine wp_if (fun c1 => ?_) (fun c1 => ?_)
  ·
    refine wp_some ?_
    try dsimp only
    all_goals exact (by split <;> first | omega | rfl) /- post1#1 -/
  ·
    refine wp_ck (z_r32_i.mpr ⟨(by first | omega | grind) /- z_r32.lo x1#1 -/, (by first | omega | grind) /- z_r32.hi x1#1 -/⟩) ?_
    refine wp_if (fun c2 => ?_) (fun c2 => ?_)
    ·
      refine wp_some ?_
      try dsimp only
      all_goals exact (by split <;> first | omega | rfl) /- post1#2 -/
    ·
      refine wp_ck (z_r32_i.mpr ⟨(by first | omega | grind) /- z_r32.lo ((n_p0 : Nat) : Int)#1 -/, (by first | omega | grind) /- z_r32.hi ((n_p0 : Nat) : Int)#1 -/⟩) ?_
      refine wp_if (fun c3 => ?_) (fun c3 => ?_)
      ·
        refine wp_some ?_
        try dsimp only
        all_goals exact (by split <;> first | omega | rfl) /- post1#3 -/
      ·
        refine wp_ck (z_ix_i.mpr ⟨⟨(by first | omega | grind) /- ix.lo x2#1 -/, (by first | omega | grind) /- ix.hi x2#1 -/⟩, (by first | omega | grind) /- ix.big x2#1 -/⟩) ?_
        refine wp_some ?_
        try dsimp only
        all_goals exact (by split <;> first | omega | rfl) /- post1#4 -/

set_option maxHeartbeats 1000000 in
theorem s_X11_see (i_p0_rules_seats : Int) (i_p0_state_seenDays : Int) (v_p0_state_seen : (Int → Int)) (x1 : Int) (h1 : -2147483648 ≤ x1) (h2 : x1 < 2147483648) (h3 : 2 ≤ i_p0_rules_seats) (h4 : i_p0_rules_seats ≤ 7) (h5 : 0 ≤ i_p0_state_seenDays) (h6 : i_p0_state_seenDays ≤ 6) : wp (f_X11_see i_p0_rules_seats i_p0_state_seenDays v_p0_state_seen x1) (fun o => (o.1 = if (0 ≤ x1 ∧ x1 < i_p0_rules_seats) then (if i_p0_state_seenDays = 6 then -3 else i_p0_state_seenDays + 1) else -1) ∧ (o.2.1 = if (0 ≤ x1 ∧ x1 < i_p0_rules_seats) ∧ i_p0_state_seenDays < 6 then i_p0_state_seenDays + 1 else i_p0_state_seenDays) ∧ (o.2.2 = if (0 ≤ x1 ∧ x1 < i_p0_rules_seats) ∧ i_p0_state_seenDays < 6 then z_up v_p0_state_seen i_p0_state_seenDays x1 else v_p0_state_seen)) := by
  unfold f_X11_see
  refine wp_bd1 (s_X6_hasSeat _ _ (by first | omega | assumption | grind) /- pre X6_hasSeat.1#1 -/ (by first | omega | assumption | grind) /- pre X6_hasSeat.2#1 -/ (by first | omega | assumption | grind) /- pre X6_hasSeat.3#1 -/ (by first | omega | assumption | grind) /- pre X6_hasSeat.4#1 -/) (fun z1 q_X6_hasSeat_1 => ?_)
  try dsimp only at q_X6_hasSeat_1
  refine wp_ck (z_r32_i.mpr ⟨(by first | omega | grind) /- z_r32.lo z1#1 -/, (by first | omega | grind) /- z_r32.hi z1#1 -/⟩) ?_
  refine wp_if (fun c1 => ?_) (fun c1 => ?_)
  ·
    refine wp_some ?_
    try dsimp only
    all_goals exact ⟨(by first | omega | assumption | grind) /- post1#1 -/, (by first | omega | assumption | grind) /- post2#1 -/, (by first | omega | assumption | grind) /- post3#1 -/⟩
  ·
    refine wp_ck (z_r32_i.mpr ⟨(by first | omega | grind) /- z_r32.lo i_p0_state_seenDays#1 -/, (by first | omega | grind) /- z_r32.hi i_p0_state_seenDays#1 -/⟩) ?_
    refine wp_if (fun c2 => ?_) (fun c2 => ?_)
    ·
      refine wp_ck (z_ix_i.mpr ⟨⟨(by first | omega | grind) /- ix.lo i_p0_state_seenDays#1 -/, (by first | omega | grind) /- ix.hi i_p0_state_seenDays#1 -/⟩, (by first | omega | grind) /- ix.big i_p0_state_seenDays#1 -/⟩) ?_
      refine wp_bnd ?_
      refine wp_bndE (fun z5 hz5 => ?_)
      refine wp_some ?_
      try dsimp only
      all_goals exact ⟨(by first | omega | assumption | grind) /- post1#2 -/, (by first | omega | assumption | grind) /- post2#2 -/, (by first | omega | assumption | grind) /- post3#2 -/⟩
    ·
      refine wp_some ?_
      try dsimp only
      all_goals exact ⟨(by first | omega | assumption | grind) /- post1#3 -/, (by first | omega | assumption | grind) /- post2#3 -/, (by first | omega | assumption | grind) /- post3#3 -/⟩

set_option maxHeartbeats 1000000 in
theorem s_X11_forget (i_p0_state_seenDays : Int) (x1 : Int) (h1 : -2147483648 ≤ x1) (h2 : x1 < 2147483648) (h3 : 0 ≤ i_p0_state_seenDays) (h4 : i_p0_state_seenDays ≤ 6) : wp (f_X11_forget i_p0_state_seenDays x1) (fun o => (o.1 = if 0 ≤ x1 ∧ x1 ≤ i_p0_state_seenDays then i_p0_state_seenDays else -1) ∧ (o.2 = if 0 ≤ x1 ∧ x1 ≤ i_p0_state_seenDays then x1 else i_p0_state_seenDays)) := by
  unfold f_X11_forget
  refine wp_ck (z_r32_i.mpr ⟨(by first | omega | grind) /- z_r32.lo x1#1 -/, (by first | omega | grind) /- z_r32.hi x1#1 -/⟩) ?_
  refine wp_if (fun c1 => ?_) (fun c1 => ?_)
  ·
    refine wp_some ?_
    try dsimp only
    all_goals exact ⟨(by split <;> omega) /- post1#1 -/, (by split <;> omega) /- post2#1 -/⟩
  ·
    refine wp_ck (z_r32_i.mpr ⟨(by first | omega | grind) /- z_r32.lo i_p0_state_seenDays#1 -/, (by first | omega | grind) /- z_r32.hi i_p0_state_seenDays#1 -/⟩) ?_
    refine wp_if (fun c2 => ?_) (fun c2 => ?_)
    ·
      refine wp_bnd ?_
      refine wp_bnd ?_
      refine wp_some ?_
      try dsimp only
      all_goals exact ⟨(by split <;> omega) /- post1#2 -/, (by split <;> omega) /- post2#2 -/⟩
    ·
      refine wp_some ?_
      try dsimp only
      all_goals exact ⟨(by split <;> omega) /- post1#3 -/, (by split <;> omega) /- post2#3 -/⟩

set_option maxHeartbeats 1000000 in
theorem s_X11_isImage (x0 : Int) (h1 : -2147483648 ≤ x0) (h2 : x0 < 2147483648) : wp (f_X11_isImage x0) (fun o => (o = if 0 ≤ x0 ∧ x0 < 2 then 1 else 0)) := by
  unfold f_X11_isImage
  refine wp_ck (z_r32_i.mpr ⟨(by first | omega | grind) /- z_r32.lo x0#1 -/, (by first | omega | grind) /- z_r32.hi x0#1 -/⟩) ?_
  refine wp_if (fun c1 => ?_) (fun c1 => ?_)
  ·
    refine wp_some ?_
    try dsimp only
    all_goals exact (by split <;> omega) /- post1#1 -/
  ·
    refine wp_if (fun c2 => ?_) (fun c2 => ?_)
    ·
      refine wp_some ?_
      try dsimp only
      all_goals exact (by split <;> omega) /- post1#2 -/
    ·
      refine wp_some ?_
      try dsimp only
      all_goals exact (by split <;> omega) /- post1#3 -/

set_option maxHeartbeats 1000000 in
theorem s_X11_keep (i_p0_state_seenDays : Int) (i_p0_state_bone : Int) (i_p0_state_king : Int) (i_p0_state_days : Int) (v_p0_state_pieces : (Int → Int)) (v_p0_state_friends : (Int → Int)) (v_p0_state_spoons : (Int → Int)) (v_p0_state_eaten : (Int → Int)) (v_p0_state_seen : (Int → Int)) (i_p0_images_0_seenDays : Int) (i_p0_images_0_bone : Int) (i_p0_images_0_king : Int) (i_p0_images_0_days : Int) (v_p0_images_0_pieces : (Int → Int)) (v_p0_images_0_friends : (Int → Int)) (v_p0_images_0_spoons : (Int → Int)) (v_p0_images_0_eaten : (Int → Int)) (v_p0_images_0_seen : (Int → Int)) (i_p0_images_1_seenDays : Int) (i_p0_images_1_bone : Int) (i_p0_images_1_king : Int) (i_p0_images_1_days : Int) (v_p0_images_1_pieces : (Int → Int)) (v_p0_images_1_friends : (Int → Int)) (v_p0_images_1_spoons : (Int → Int)) (v_p0_images_1_eaten : (Int → Int)) (v_p0_images_1_seen : (Int → Int)) (v_p0_imageHeld : (Int → Int)) (x1 : Int) (h1 : -2147483648 ≤ x1) (h2 : x1 < 2147483648) (h3 : ∀ j, 0 ≤ j → j < 2 → v_p0_imageHeld j = 0 ∨ v_p0_imageHeld j = 1) : wp (f_X11_keep i_p0_state_seenDays i_p0_state_bone i_p0_state_king i_p0_state_days v_p0_state_pieces v_p0_state_friends v_p0_state_spoons v_p0_state_eaten v_p0_state_seen i_p0_images_0_seenDays i_p0_images_0_bone i_p0_images_0_king i_p0_images_0_days v_p0_images_0_pieces v_p0_images_0_friends v_p0_images_0_spoons v_p0_images_0_eaten v_p0_images_0_seen i_p0_images_1_seenDays i_p0_images_1_bone i_p0_images_1_king i_p0_images_1_days v_p0_images_1_pieces v_p0_images_1_friends v_p0_images_1_spoons v_p0_images_1_eaten v_p0_images_1_seen v_p0_imageHeld x1) (fun o => (o.1 = if 0 ≤ x1 ∧ x1 < 2 then v_p0_imageHeld x1 else -1) ∧ (o.2.2.2.2.2.2.2.2.2.2.2.2.2.2.2.2.2.2.2 = if 0 ≤ x1 ∧ x1 < 2 then z_up v_p0_imageHeld x1 1 else v_p0_imageHeld) ∧ (o.2.1 = if x1 = 0 then i_p0_state_seenDays else i_p0_images_0_seenDays) ∧ (o.2.2.1 = if x1 = 0 then i_p0_state_bone else i_p0_images_0_bone) ∧ (o.2.2.2.1 = if x1 = 0 then i_p0_state_king else i_p0_images_0_king) ∧ (o.2.2.2.2.1 = if x1 = 0 then i_p0_state_days else i_p0_images_0_days) ∧ (o.2.2.2.2.2.1 = if x1 = 0 then z_cpy v_p0_state_pieces v_p0_images_0_pieces 0 0 7 else v_p0_images_0_pieces) ∧ (o.2.2.2.2.2.2.1 = if x1 = 0 then z_cpy v_p0_state_friends v_p0_images_0_friends 0 0 7 else v_p0_images_0_friends) ∧ (o.2.2.2.2.2.2.2.1 = if x1 = 0 then z_cpy v_p0_state_spoons v_p0_images_0_spoons 0 0 7 else v_p0_images_0_spoons) ∧ (o.2.2.2.2.2.2.2.2.1 = if x1 = 0 then z_cpy v_p0_state_eaten v_p0_images_0_eaten 0 0 7 else v_p0_images_0_eaten) ∧ (o.2.2.2.2.2.2.2.2.2.1 = if x1 = 0 then z_cpy v_p0_state_seen v_p0_images_0_seen 0 0 6 else v_p0_images_0_seen) ∧ (o.2.2.2.2.2.2.2.2.2.2.1 = if x1 = 1 then i_p0_state_seenDays else i_p0_images_1_seenDays) ∧ (o.2.2.2.2.2.2.2.2.2.2.2.1 = if x1 = 1 then i_p0_state_bone else i_p0_images_1_bone) ∧ (o.2.2.2.2.2.2.2.2.2.2.2.2.1 = if x1 = 1 then i_p0_state_king else i_p0_images_1_king) ∧ (o.2.2.2.2.2.2.2.2.2.2.2.2.2.1 = if x1 = 1 then i_p0_state_days else i_p0_images_1_days) ∧ (o.2.2.2.2.2.2.2.2.2.2.2.2.2.2.1 = if x1 = 1 then z_cpy v_p0_state_pieces v_p0_images_1_pieces 0 0 7 else v_p0_images_1_pieces) ∧ (o.2.2.2.2.2.2.2.2.2.2.2.2.2.2.2.1 = if x1 = 1 then z_cpy v_p0_state_friends v_p0_images_1_friends 0 0 7 else v_p0_images_1_friends) ∧ (o.2.2.2.2.2.2.2.2.2.2.2.2.2.2.2.2.1 = if x1 = 1 then z_cpy v_p0_state_spoons v_p0_images_1_spoons 0 0 7 else v_p0_images_1_spoons) ∧ (o.2.2.2.2.2.2.2.2.2.2.2.2.2.2.2.2.2.1 = if x1 = 1 then z_cpy v_p0_state_eaten v_p0_images_1_eaten 0 0 7 else v_p0_images_1_eaten) ∧ (o.2.2.2.2.2.2.2.2.2.2.2.2.2.2.2.2.2.2.1 = if x1 = 1 then z_cpy v_p0_state_seen v_p0_images_1_seen 0 0 6 else v_p0_images_1_seen)) := by
  unfold f_X11_keep
  refine wp_bd1 (s_X11_isImage _ (by first | rfl | assumption | omega | (rw [if_pos (by omega)] <;> first | rfl | assumption | omega) | (rw [if_neg (by omega)] <;> first | rfl | assumption | omega)) /- pre X11_isImage.1#1 -/ (by first | rfl | assumption | omega | (rw [if_pos (by omega)] <;> first | rfl | assumption | omega) | (rw [if_neg (by omega)] <;> first | rfl | assumption | omega)) /- pre X11_isImage.2#1 -/) (fun z1 q_X11_isImage_1 => ?_)
  try dsimp only at q_X11_isImage_1
  refine wp_ck (z_r32_i.mpr ⟨(by first | omega | grind) /- z_r32.lo z1#1 -/, (by first | omega | grind) /- z_r32.hi z1#1 -/⟩) ?_
  refine wp_if (fun c1 => ?_) (fun c1 => ?_)
  ·
    have hk : ¬ (0 ≤ x1 ∧ x1 < 2) := by split at q_X11_isImage_1 <;> omega
    clear q_X11_isImage_1
    refine wp_some ?_
    try dsimp only
    all_goals exact ⟨(by first | rfl | assumption | omega | (rw [if_pos (by omega)] <;> first | rfl | assumption | omega) | (rw [if_neg (by omega)] <;> first | rfl | assumption | omega)) /- post1#1 -/, (by first | rfl | assumption | omega | (rw [if_pos (by omega)] <;> first | rfl | assumption | omega) | (rw [if_neg (by omega)] <;> first | rfl | assumption | omega)) /- post2#1 -/, (by first | rfl | assumption | omega | (rw [if_pos (by omega)] <;> first | rfl | assumption | omega) | (rw [if_neg (by omega)] <;> first | rfl | assumption | omega)) /- post3#1 -/, (by first | rfl | assumption | omega | (rw [if_pos (by omega)] <;> first | rfl | assumption | omega) | (rw [if_neg (by omega)] <;> first | rfl | assumption | omega)) /- post4#1 -/, (by first | rfl | assumption | omega | (rw [if_pos (by omega)] <;> first | rfl | assumption | omega) | (rw [if_neg (by omega)] <;> first | rfl | assumption | omega)) /- post5#1 -/, (by first | rfl | assumption | omega | (rw [if_pos (by omega)] <;> first | rfl | assumption | omega) | (rw [if_neg (by omega)] <;> first | rfl | assumption | omega)) /- post6#1 -/, (by first | rfl | assumption | omega | (rw [if_pos (by omega)] <;> first | rfl | assumption | omega) | (rw [if_neg (by omega)] <;> first | rfl | assumption | omega)) /- post7#1 -/, (by first | rfl | assumption | omega | (rw [if_pos (by omega)] <;> first | rfl | assumption | omega) | (rw [if_neg (by omega)] <;> first | rfl | assumption | omega)) /- post8#1 -/, (by first | rfl | assumption | omega | (rw [if_pos (by omega)] <;> first | rfl | assumption | omega) | (rw [if_neg (by omega)] <;> first | rfl | assumption | omega)) /- post9#1 -/, (by first | rfl | assumption | omega | (rw [if_pos (by omega)] <;> first | rfl | assumption | omega) | (rw [if_neg (by omega)] <;> first | rfl | assumption | omega)) /- post10#1 -/, (by first | rfl | assumption | omega | (rw [if_pos (by omega)] <;> first | rfl | assumption | omega) | (rw [if_neg (by omega)] <;> first | rfl | assumption | omega)) /- post11#1 -/, (by first | rfl | assumption | omega | (rw [if_pos (by omega)] <;> first | rfl | assumption | omega) | (rw [if_neg (by omega)] <;> first | rfl | assumption | omega)) /- post12#1 -/, (by first | rfl | assumption | omega | (rw [if_pos (by omega)] <;> first | rfl | assumption | omega) | (rw [if_neg (by omega)] <;> first | rfl | assumption | omega)) /- post13#1 -/, (by first | rfl | assumption | omega | (rw [if_pos (by omega)] <;> first | rfl | assumption | omega) | (rw [if_neg (by omega)] <;> first | rfl | assumption | omega)) /- post14#1 -/, (by first | rfl | assumption | omega | (rw [if_pos (by omega)] <;> first | rfl | assumption | omega) | (rw [if_neg (by omega)] <;> first | rfl | assumption | omega)) /- post15#1 -/, (by first | rfl | assumption | omega | (rw [if_pos (by omega)] <;> first | rfl | assumption | omega) | (rw [if_neg (by omega)] <;> first | rfl | assumption | omega)) /- post16#1 -/, (by first | rfl | assumption | omega | (rw [if_pos (by omega)] <;> first | rfl | assumption | omega) | (rw [if_neg (by omega)] <;> first | rfl | assumption | omega)) /- post17#1 -/, (by first | rfl | assumption | omega | (rw [if_pos (by omega)] <;> first | rfl | assumption | omega) | (rw [if_neg (by omega)] <;> first | rfl | assumption | omega)) /- post18#1 -/, (by first | rfl | assumption | omega | (rw [if_pos (by omega)] <;> first | rfl | assumption | omega) | (rw [if_neg (by omega)] <;> first | rfl | assumption | omega)) /- post19#1 -/, (by first | rfl | assumption | omega | (rw [if_pos (by omega)] <;> first | rfl | assumption | omega) | (rw [if_neg (by omega)] <;> first | rfl | assumption | omega)) /- post20#1 -/⟩
  ·
    have hk : 0 ≤ x1 ∧ x1 < 2 := by split at q_X11_isImage_1 <;> omega
    clear q_X11_isImage_1
    have hh := h3 x1 hk.1 hk.2
    refine wp_ck (z_ix_i.mpr ⟨⟨(by first | omega | grind) /- ix.lo x1#1 -/, (by first | omega | grind) /- ix.hi x1#1 -/⟩, (by first | omega | grind) /- ix.big x1#1 -/⟩) ?_
    refine wp_ck (z_r32_i.mpr ⟨(by first | omega | grind) /- z_r32.lo (v_p0_imageHeld x1)#1 -/, (by first | omega | grind) /- z_r32.hi (v_p0_imageHeld x1)#1 -/⟩) ?_
    refine wp_jn ?_
    refine wp_if (fun c2 => ?_) (fun c2 => ?_)
    ·
      refine wp_bnd ?_
      refine wp_ck (z_ix_i.mpr ⟨⟨(by first | omega | grind) /- ix.lo x1#2 -/, (by first | omega | grind) /- ix.hi x1#2 -/⟩, (by first | omega | grind) /- ix.big x1#2 -/⟩) ?_
      refine wp_if (fun c3 => ?_) (fun c3 => ?_)
      ·
        refine wp_bd9 (s_X8_copy _ _ _ _ _ _ _ _ _ _ _ _ _ _) (fun z7 z8 z9 z10 w11 w12 w13 w14 w15 q_X8_copy_1 => ?_)
        try dsimp only at q_X8_copy_1
        obtain ⟨q_X8_copy_1_1, q_X8_copy_1_2, q_X8_copy_1_3, q_X8_copy_1_4, q_X8_copy_1_5, q_X8_copy_1_6, q_X8_copy_1_7, q_X8_copy_1_8, q_X8_copy_1_9⟩ := q_X8_copy_1
        refine wp_ck (z_ix_i.mpr ⟨⟨(by first | omega | grind) /- ix.lo x1#3 -/, (by first | omega | grind) /- ix.hi x1#3 -/⟩, (by first | omega | grind) /- ix.big x1#3 -/⟩) ?_
        refine wp_ck (z_bB_i.mpr (by first | omega | grind) /- bB (1 : Int)#1 -/) ?_
        refine wp_bnd ?_
        refine wp_some ?_
        try dsimp only
        all_goals exact ⟨(by first | rfl | assumption | omega | (rw [if_pos (by omega)] <;> first | rfl | assumption | omega) | (rw [if_neg (by omega)] <;> first | rfl | assumption | omega)) /- post1#2 -/, (by first | rfl | assumption | omega | (rw [if_pos (by omega)] <;> first | rfl | assumption | omega) | (rw [if_neg (by omega)] <;> first | rfl | assumption | omega)) /- post2#2 -/, (by first | rfl | assumption | omega | (rw [if_pos (by omega)] <;> first | rfl | assumption | omega) | (rw [if_neg (by omega)] <;> first | rfl | assumption | omega)) /- post3#2 -/, (by first | rfl | assumption | omega | (rw [if_pos (by omega)] <;> first | rfl | assumption | omega) | (rw [if_neg (by omega)] <;> first | rfl | assumption | omega)) /- post4#2 -/, (by first | rfl | assumption | omega | (rw [if_pos (by omega)] <;> first | rfl | assumption | omega) | (rw [if_neg (by omega)] <;> first | rfl | assumption | omega)) /- post5#2 -/, (by first | rfl | assumption | omega | (rw [if_pos (by omega)] <;> first | rfl | assumption | omega) | (rw [if_neg (by omega)] <;> first | rfl | assumption | omega)) /- post6#2 -/, (by first | rfl | assumption | omega | (rw [if_pos (by omega)] <;> first | rfl | assumption | omega) | (rw [if_neg (by omega)] <;> first | rfl | assumption | omega)) /- post7#2 -/, (by first | rfl | assumption | omega | (rw [if_pos (by omega)] <;> first | rfl | assumption | omega) | (rw [if_neg (by omega)] <;> first | rfl | assumption | omega)) /- post8#2 -/, (by first | rfl | assumption | omega | (rw [if_pos (by omega)] <;> first | rfl | assumption | omega) | (rw [if_neg (by omega)] <;> first | rfl | assumption | omega)) /- post9#2 -/, (by first | rfl | assumption | omega | (rw [if_pos (by omega)] <;> first | rfl | assumption | omega) | (rw [if_neg (by omega)] <;> first | rfl | assumption | omega)) /- post10#2 -/, (by first | rfl | assumption | omega | (rw [if_pos (by omega)] <;> first | rfl | assumption | omega) | (rw [if_neg (by omega)] <;> first | rfl | assumption | omega)) /- post11#2 -/, (by first | rfl | assumption | omega | (rw [if_pos (by omega)] <;> first | rfl | assumption | omega) | (rw [if_neg (by omega)] <;> first | rfl | assumption | omega)) /- post12#2 -/, (by first | rfl | assumption | omega | (rw [if_pos (by omega)] <;> first | rfl | assumption | omega) | (rw [if_neg (by omega)] <;> first | rfl | assumption | omega)) /- post13#2 -/, (by first | rfl | assumption | omega | (rw [if_pos (by omega)] <;> first | rfl | assumption | omega) | (rw [if_neg (by omega)] <;> first | rfl | assumption | omega)) /- post14#2 -/, (by first | rfl | assumption | omega | (rw [if_pos (by omega)] <;> first | rfl | assumption | omega) | (rw [if_neg (by omega)] <;> first | rfl | assumption | omega)) /- post15#2 -/, (by first | rfl | assumption | omega | (rw [if_pos (by omega)] <;> first | rfl | assumption | omega) | (rw [if_neg (by omega)] <;> first | rfl | assumption | omega)) /- post16#2 -/, (by first | rfl | assumption | omega | (rw [if_pos (by omega)] <;> first | rfl | assumption | omega) | (rw [if_neg (by omega)] <;> first | rfl | assumption | omega)) /- post17#2 -/, (by first | rfl | assumption | omega | (rw [if_pos (by omega)] <;> first | rfl | assumption | omega) | (rw [if_neg (by omega)] <;> first | rfl | assumption | omega)) /- post18#2 -/, (by first | rfl | assumption | omega | (rw [if_pos (by omega)] <;> first | rfl | assumption | omega) | (rw [if_neg (by omega)] <;> first | rfl | assumption | omega)) /- post19#2 -/, (by first | rfl | assumption | omega | (rw [if_pos (by omega)] <;> first | rfl | assumption | omega) | (rw [if_neg (by omega)] <;> first | rfl | assumption | omega)) /- post20#2 -/⟩
      ·
        refine wp_if (fun c4 => ?_) (fun c4 => ?_)
        ·
          refine wp_bd9 (s_X8_copy _ _ _ _ _ _ _ _ _ _ _ _ _ _) (fun z17 z18 z19 z20 w21 w22 w23 w24 w25 q_X8_copy_2 => ?_)
          try dsimp only at q_X8_copy_2
          obtain ⟨q_X8_copy_2_1, q_X8_copy_2_2, q_X8_copy_2_3, q_X8_copy_2_4, q_X8_copy_2_5, q_X8_copy_2_6, q_X8_copy_2_7, q_X8_copy_2_8, q_X8_copy_2_9⟩ := q_X8_copy_2
          refine wp_ck (z_ix_i.mpr ⟨⟨(by first | omega | grind) /- ix.lo x1#4 -/, (by first | omega | grind) /- ix.hi x1#4 -/⟩, (by first | omega | grind) /- ix.big x1#4 -/⟩) ?_
          refine wp_ck (z_bB_i.mpr (by first | omega | grind) /- bB (1 : Int)#2 -/) ?_
          refine wp_bnd ?_
          refine wp_some ?_
          try dsimp only
          all_goals exact ⟨(by first | rfl | assumption | omega | (rw [if_pos (by omega)] <;> first | rfl | assumption | omega) | (rw [if_neg (by omega)] <;> first | rfl | assumption | omega)) /- post1#3 -/, (by first | rfl | assumption | omega | (rw [if_pos (by omega)] <;> first | rfl | assumption | omega) | (rw [if_neg (by omega)] <;> first | rfl | assumption | omega)) /- post2#3 -/, (by first | rfl | assumption | omega | (rw [if_pos (by omega)] <;> first | rfl | assumption | omega) | (rw [if_neg (by omega)] <;> first | rfl | assumption | omega)) /- post3#3 -/, (by first | rfl | assumption | omega | (rw [if_pos (by omega)] <;> first | rfl | assumption | omega) | (rw [if_neg (by omega)] <;> first | rfl | assumption | omega)) /- post4#3 -/, (by first | rfl | assumption | omega | (rw [if_pos (by omega)] <;> first | rfl | assumption | omega) | (rw [if_neg (by omega)] <;> first | rfl | assumption | omega)) /- post5#3 -/, (by first | rfl | assumption | omega | (rw [if_pos (by omega)] <;> first | rfl | assumption | omega) | (rw [if_neg (by omega)] <;> first | rfl | assumption | omega)) /- post6#3 -/, (by first | rfl | assumption | omega | (rw [if_pos (by omega)] <;> first | rfl | assumption | omega) | (rw [if_neg (by omega)] <;> first | rfl | assumption | omega)) /- post7#3 -/, (by first | rfl | assumption | omega | (rw [if_pos (by omega)] <;> first | rfl | assumption | omega) | (rw [if_neg (by omega)] <;> first | rfl | assumption | omega)) /- post8#3 -/, (by first | rfl | assumption | omega | (rw [if_pos (by omega)] <;> first | rfl | assumption | omega) | (rw [if_neg (by omega)] <;> first | rfl | assumption | omega)) /- post9#3 -/, (by first | rfl | assumption | omega | (rw [if_pos (by omega)] <;> first | rfl | assumption | omega) | (rw [if_neg (by omega)] <;> first | rfl | assumption | omega)) /- post10#3 -/, (by first | rfl | assumption | omega | (rw [if_pos (by omega)] <;> first | rfl | assumption | omega) | (rw [if_neg (by omega)] <;> first | rfl | assumption | omega)) /- post11#3 -/, (by first | rfl | assumption | omega | (rw [if_pos (by omega)] <;> first | rfl | assumption | omega) | (rw [if_neg (by omega)] <;> first | rfl | assumption | omega)) /- post12#3 -/, (by first | rfl | assumption | omega | (rw [if_pos (by omega)] <;> first | rfl | assumption | omega) | (rw [if_neg (by omega)] <;> first | rfl | assumption | omega)) /- post13#3 -/, (by first | rfl | assumption | omega | (rw [if_pos (by omega)] <;> first | rfl | assumption | omega) | (rw [if_neg (by omega)] <;> first | rfl | assumption | omega)) /- post14#3 -/, (by first | rfl | assumption | omega | (rw [if_pos (by omega)] <;> first | rfl | assumption | omega) | (rw [if_neg (by omega)] <;> first | rfl | assumption | omega)) /- post15#3 -/, (by first | rfl | assumption | omega | (rw [if_pos (by omega)] <;> first | rfl | assumption | omega) | (rw [if_neg (by omega)] <;> first | rfl | assumption | omega)) /- post16#3 -/, (by first | rfl | assumption | omega | (rw [if_pos (by omega)] <;> first | rfl | assumption | omega) | (rw [if_neg (by omega)] <;> first | rfl | assumption | omega)) /- post17#3 -/, (by first | rfl | assumption | omega | (rw [if_pos (by omega)] <;> first | rfl | assumption | omega) | (rw [if_neg (by omega)] <;> first | rfl | assumption | omega)) /- post18#3 -/, (by first | rfl | assumption | omega | (rw [if_pos (by omega)] <;> first | rfl | assumption | omega) | (rw [if_neg (by omega)] <;> first | rfl | assumption | omega)) /- post19#3 -/, (by first | rfl | assumption | omega | (rw [if_pos (by omega)] <;> first | rfl | assumption | omega) | (rw [if_neg (by omega)] <;> first | rfl | assumption | omega)) /- post20#3 -/⟩
        ·
          exfalso
          exact (by first | rfl | assumption | omega | (rw [if_pos (by omega)] <;> first | rfl | assumption | omega) | (rw [if_neg (by omega)] <;> first | rfl | assumption | omega)) /- none#1 -/
    ·
      refine wp_bnd ?_
      refine wp_ck (z_ix_i.mpr ⟨⟨(by first | omega | grind) /- ix.lo x1#5 -/, (by first | omega | grind) /- ix.hi x1#5 -/⟩, (by first | omega | grind) /- ix.big x1#5 -/⟩) ?_
      refine wp_if (fun c5 => ?_) (fun c5 => ?_)
      ·
        refine wp_bd9 (s_X8_copy _ _ _ _ _ _ _ _ _ _ _ _ _ _) (fun z7 z8 z9 z10 w11 w12 w13 w14 w15 q_X8_copy_3 => ?_)
        try dsimp only at q_X8_copy_3
        obtain ⟨q_X8_copy_3_1, q_X8_copy_3_2, q_X8_copy_3_3, q_X8_copy_3_4, q_X8_copy_3_5, q_X8_copy_3_6, q_X8_copy_3_7, q_X8_copy_3_8, q_X8_copy_3_9⟩ := q_X8_copy_3
        refine wp_ck (z_ix_i.mpr ⟨⟨(by first | omega | grind) /- ix.lo x1#6 -/, (by first | omega | grind) /- ix.hi x1#6 -/⟩, (by first | omega | grind) /- ix.big x1#6 -/⟩) ?_
        refine wp_ck (z_bB_i.mpr (by first | omega | grind) /- bB (1 : Int)#3 -/) ?_
        refine wp_bnd ?_
        refine wp_some ?_
        try dsimp only
        all_goals exact ⟨(by first | rfl | assumption | omega | (rw [if_pos (by omega)] <;> first | rfl | assumption | omega) | (rw [if_neg (by omega)] <;> first | rfl | assumption | omega)) /- post1#4 -/, (by first | rfl | assumption | omega | (rw [if_pos (by omega)] <;> first | rfl | assumption | omega) | (rw [if_neg (by omega)] <;> first | rfl | assumption | omega)) /- post2#4 -/, (by first | rfl | assumption | omega | (rw [if_pos (by omega)] <;> first | rfl | assumption | omega) | (rw [if_neg (by omega)] <;> first | rfl | assumption | omega)) /- post3#4 -/, (by first | rfl | assumption | omega | (rw [if_pos (by omega)] <;> first | rfl | assumption | omega) | (rw [if_neg (by omega)] <;> first | rfl | assumption | omega)) /- post4#4 -/, (by first | rfl | assumption | omega | (rw [if_pos (by omega)] <;> first | rfl | assumption | omega) | (rw [if_neg (by omega)] <;> first | rfl | assumption | omega)) /- post5#4 -/, (by first | rfl | assumption | omega | (rw [if_pos (by omega)] <;> first | rfl | assumption | omega) | (rw [if_neg (by omega)] <;> first | rfl | assumption | omega)) /- post6#4 -/, (by first | rfl | assumption | omega | (rw [if_pos (by omega)] <;> first | rfl | assumption | omega) | (rw [if_neg (by omega)] <;> first | rfl | assumption | omega)) /- post7#4 -/, (by first | rfl | assumption | omega | (rw [if_pos (by omega)] <;> first | rfl | assumption | omega) | (rw [if_neg (by omega)] <;> first | rfl | assumption | omega)) /- post8#4 -/, (by first | rfl | assumption | omega | (rw [if_pos (by omega)] <;> first | rfl | assumption | omega) | (rw [if_neg (by omega)] <;> first | rfl | assumption | omega)) /- post9#4 -/, (by first | rfl | assumption | omega | (rw [if_pos (by omega)] <;> first | rfl | assumption | omega) | (rw [if_neg (by omega)] <;> first | rfl | assumption | omega)) /- post10#4 -/, (by first | rfl | assumption | omega | (rw [if_pos (by omega)] <;> first | rfl | assumption | omega) | (rw [if_neg (by omega)] <;> first | rfl | assumption | omega)) /- post11#4 -/, (by first | rfl | assumption | omega | (rw [if_pos (by omega)] <;> first | rfl | assumption | omega) | (rw [if_neg (by omega)] <;> first | rfl | assumption | omega)) /- post12#4 -/, (by first | rfl | assumption | omega | (rw [if_pos (by omega)] <;> first | rfl | assumption | omega) | (rw [if_neg (by omega)] <;> first | rfl | assumption | omega)) /- post13#4 -/, (by first | rfl | assumption | omega | (rw [if_pos (by omega)] <;> first | rfl | assumption | omega) | (rw [if_neg (by omega)] <;> first | rfl | assumption | omega)) /- post14#4 -/, (by first | rfl | assumption | omega | (rw [if_pos (by omega)] <;> first | rfl | assumption | omega) | (rw [if_neg (by omega)] <;> first | rfl | assumption | omega)) /- post15#4 -/, (by first | rfl | assumption | omega | (rw [if_pos (by omega)] <;> first | rfl | assumption | omega) | (rw [if_neg (by omega)] <;> first | rfl | assumption | omega)) /- post16#4 -/, (by first | rfl | assumption | omega | (rw [if_pos (by omega)] <;> first | rfl | assumption | omega) | (rw [if_neg (by omega)] <;> first | rfl | assumption | omega)) /- post17#4 -/, (by first | rfl | assumption | omega | (rw [if_pos (by omega)] <;> first | rfl | assumption | omega) | (rw [if_neg (by omega)] <;> first | rfl | assumption | omega)) /- post18#4 -/, (by first | rfl | assumption | omega | (rw [if_pos (by omega)] <;> first | rfl | assumption | omega) | (rw [if_neg (by omega)] <;> first | rfl | assumption | omega)) /- post19#4 -/, (by first | rfl | assumption | omega | (rw [if_pos (by omega)] <;> first | rfl | assumption | omega) | (rw [if_neg (by omega)] <;> first | rfl | assumption | omega)) /- post20#4 -/⟩
      ·
        refine wp_if (fun c6 => ?_) (fun c6 => ?_)
        ·
          refine wp_bd9 (s_X8_copy _ _ _ _ _ _ _ _ _ _ _ _ _ _) (fun z17 z18 z19 z20 w21 w22 w23 w24 w25 q_X8_copy_4 => ?_)
          try dsimp only at q_X8_copy_4
          obtain ⟨q_X8_copy_4_1, q_X8_copy_4_2, q_X8_copy_4_3, q_X8_copy_4_4, q_X8_copy_4_5, q_X8_copy_4_6, q_X8_copy_4_7, q_X8_copy_4_8, q_X8_copy_4_9⟩ := q_X8_copy_4
          refine wp_ck (z_ix_i.mpr ⟨⟨(by first | omega | grind) /- ix.lo x1#7 -/, (by first | omega | grind) /- ix.hi x1#7 -/⟩, (by first | omega | grind) /- ix.big x1#7 -/⟩) ?_
          refine wp_ck (z_bB_i.mpr (by first | omega | grind) /- bB (1 : Int)#4 -/) ?_
          refine wp_bnd ?_
          refine wp_some ?_
          try dsimp only
          all_goals exact ⟨(by first | rfl | assumption | omega | (rw [if_pos (by omega)] <;> first | rfl | assumption | omega) | (rw [if_neg (by omega)] <;> first | rfl | assumption | omega)) /- post1#5 -/, (by first | rfl | assumption | omega | (rw [if_pos (by omega)] <;> first | rfl | assumption | omega) | (rw [if_neg (by omega)] <;> first | rfl | assumption | omega)) /- post2#5 -/, (by first | rfl | assumption | omega | (rw [if_pos (by omega)] <;> first | rfl | assumption | omega) | (rw [if_neg (by omega)] <;> first | rfl | assumption | omega)) /- post3#5 -/, (by first | rfl | assumption | omega | (rw [if_pos (by omega)] <;> first | rfl | assumption | omega) | (rw [if_neg (by omega)] <;> first | rfl | assumption | omega)) /- post4#5 -/, (by first | rfl | assumption | omega | (rw [if_pos (by omega)] <;> first | rfl | assumption | omega) | (rw [if_neg (by omega)] <;> first | rfl | assumption | omega)) /- post5#5 -/, (by first | rfl | assumption | omega | (rw [if_pos (by omega)] <;> first | rfl | assumption | omega) | (rw [if_neg (by omega)] <;> first | rfl | assumption | omega)) /- post6#5 -/, (by first | rfl | assumption | omega | (rw [if_pos (by omega)] <;> first | rfl | assumption | omega) | (rw [if_neg (by omega)] <;> first | rfl | assumption | omega)) /- post7#5 -/, (by first | rfl | assumption | omega | (rw [if_pos (by omega)] <;> first | rfl | assumption | omega) | (rw [if_neg (by omega)] <;> first | rfl | assumption | omega)) /- post8#5 -/, (by first | rfl | assumption | omega | (rw [if_pos (by omega)] <;> first | rfl | assumption | omega) | (rw [if_neg (by omega)] <;> first | rfl | assumption | omega)) /- post9#5 -/, (by first | rfl | assumption | omega | (rw [if_pos (by omega)] <;> first | rfl | assumption | omega) | (rw [if_neg (by omega)] <;> first | rfl | assumption | omega)) /- post10#5 -/, (by first | rfl | assumption | omega | (rw [if_pos (by omega)] <;> first | rfl | assumption | omega) | (rw [if_neg (by omega)] <;> first | rfl | assumption | omega)) /- post11#5 -/, (by first | rfl | assumption | omega | (rw [if_pos (by omega)] <;> first | rfl | assumption | omega) | (rw [if_neg (by omega)] <;> first | rfl | assumption | omega)) /- post12#5 -/, (by first | rfl | assumption | omega | (rw [if_pos (by omega)] <;> first | rfl | assumption | omega) | (rw [if_neg (by omega)] <;> first | rfl | assumption | omega)) /- post13#5 -/, (by first | rfl | assumption | omega | (rw [if_pos (by omega)] <;> first | rfl | assumption | omega) | (rw [if_neg (by omega)] <;> first | rfl | assumption | omega)) /- post14#5 -/, (by first | rfl | assumption | omega | (rw [if_pos (by omega)] <;> first | rfl | assumption | omega) | (rw [if_neg (by omega)] <;> first | rfl | assumption | omega)) /- post15#5 -/, (by first | rfl | assumption | omega | (rw [if_pos (by omega)] <;> first | rfl | assumption | omega) | (rw [if_neg (by omega)] <;> first | rfl | assumption | omega)) /- post16#5 -/, (by first | rfl | assumption | omega | (rw [if_pos (by omega)] <;> first | rfl | assumption | omega) | (rw [if_neg (by omega)] <;> first | rfl | assumption | omega)) /- post17#5 -/, (by first | rfl | assumption | omega | (rw [if_pos (by omega)] <;> first | rfl | assumption | omega) | (rw [if_neg (by omega)] <;> first | rfl | assumption | omega)) /- post18#5 -/, (by first | rfl | assumption | omega | (rw [if_pos (by omega)] <;> first | rfl | assumption | omega) | (rw [if_neg (by omega)] <;> first | rfl | assumption | omega)) /- post19#5 -/, (by first | rfl | assumption | omega | (rw [if_pos (by omega)] <;> first | rfl | assumption | omega) | (rw [if_neg (by omega)] <;> first | rfl | assumption | omega)) /- post20#5 -/⟩
        ·
          exfalso
          exact (by first | rfl | assumption | omega | (rw [if_pos (by omega)] <;> first | rfl | assumption | omega) | (rw [if_neg (by omega)] <;> first | rfl | assumption | omega)) /- none#2 -/

set_option maxHeartbeats 1000000 in
theorem s_X11_back (i_p0_state_seenDays : Int) (i_p0_state_bone : Int) (i_p0_state_king : Int) (i_p0_state_days : Int) (v_p0_state_pieces : (Int → Int)) (v_p0_state_friends : (Int → Int)) (v_p0_state_spoons : (Int → Int)) (v_p0_state_eaten : (Int → Int)) (v_p0_state_seen : (Int → Int)) (i_p0_images_0_seenDays : Int) (i_p0_images_0_bone : Int) (i_p0_images_0_king : Int) (i_p0_images_0_days : Int) (v_p0_images_0_pieces : (Int → Int)) (v_p0_images_0_friends : (Int → Int)) (v_p0_images_0_spoons : (Int → Int)) (v_p0_images_0_eaten : (Int → Int)) (v_p0_images_0_seen : (Int → Int)) (i_p0_images_1_seenDays : Int) (i_p0_images_1_bone : Int) (i_p0_images_1_king : Int) (i_p0_images_1_days : Int) (v_p0_images_1_pieces : (Int → Int)) (v_p0_images_1_friends : (Int → Int)) (v_p0_images_1_spoons : (Int → Int)) (v_p0_images_1_eaten : (Int → Int)) (v_p0_images_1_seen : (Int → Int)) (v_p0_imageHeld : (Int → Int)) (x1 : Int) (h1 : -2147483648 ≤ x1) (h2 : x1 < 2147483648) (h3 : ∀ j, 0 ≤ j → j < 2 → v_p0_imageHeld j = 0 ∨ v_p0_imageHeld j = 1) : wp (f_X11_back i_p0_state_seenDays i_p0_state_bone i_p0_state_king i_p0_state_days v_p0_state_pieces v_p0_state_friends v_p0_state_spoons v_p0_state_eaten v_p0_state_seen i_p0_images_0_seenDays i_p0_images_0_bone i_p0_images_0_king i_p0_images_0_days v_p0_images_0_pieces v_p0_images_0_friends v_p0_images_0_spoons v_p0_images_0_eaten v_p0_images_0_seen i_p0_images_1_seenDays i_p0_images_1_bone i_p0_images_1_king i_p0_images_1_days v_p0_images_1_pieces v_p0_images_1_friends v_p0_images_1_spoons v_p0_images_1_eaten v_p0_images_1_seen v_p0_imageHeld x1) (fun o => (o.1 = if 0 ≤ x1 ∧ x1 < 2 then (if v_p0_imageHeld x1 = 0 then -2 else if x1 = 0 then i_p0_images_0_king else i_p0_images_1_king) else -1) ∧ (o.2.1 = if ((0 ≤ x1 ∧ x1 < 2) ∧ ¬ v_p0_imageHeld x1 = 0) then (if x1 = 0 then i_p0_images_0_seenDays else i_p0_images_1_seenDays) else i_p0_state_seenDays) ∧ (o.2.2.1 = if ((0 ≤ x1 ∧ x1 < 2) ∧ ¬ v_p0_imageHeld x1 = 0) then (if x1 = 0 then i_p0_images_0_bone else i_p0_images_1_bone) else i_p0_state_bone) ∧ (o.2.2.2.1 = if ((0 ≤ x1 ∧ x1 < 2) ∧ ¬ v_p0_imageHeld x1 = 0) then (if x1 = 0 then i_p0_images_0_king else i_p0_images_1_king) else i_p0_state_king) ∧ (o.2.2.2.2.1 = if ((0 ≤ x1 ∧ x1 < 2) ∧ ¬ v_p0_imageHeld x1 = 0) then (if x1 = 0 then i_p0_images_0_days else i_p0_images_1_days) else i_p0_state_days) ∧ (o.2.2.2.2.2.1 = if ((0 ≤ x1 ∧ x1 < 2) ∧ ¬ v_p0_imageHeld x1 = 0) then (if x1 = 0 then z_cpy v_p0_images_0_pieces v_p0_state_pieces 0 0 7 else z_cpy v_p0_images_1_pieces v_p0_state_pieces 0 0 7) else v_p0_state_pieces) ∧ (o.2.2.2.2.2.2.1 = if ((0 ≤ x1 ∧ x1 < 2) ∧ ¬ v_p0_imageHeld x1 = 0) then (if x1 = 0 then z_cpy v_p0_images_0_friends v_p0_state_friends 0 0 7 else z_cpy v_p0_images_1_friends v_p0_state_friends 0 0 7) else v_p0_state_friends) ∧ (o.2.2.2.2.2.2.2.1 = if ((0 ≤ x1 ∧ x1 < 2) ∧ ¬ v_p0_imageHeld x1 = 0) then (if x1 = 0 then z_cpy v_p0_images_0_spoons v_p0_state_spoons 0 0 7 else z_cpy v_p0_images_1_spoons v_p0_state_spoons 0 0 7) else v_p0_state_spoons) ∧ (o.2.2.2.2.2.2.2.2.1 = if ((0 ≤ x1 ∧ x1 < 2) ∧ ¬ v_p0_imageHeld x1 = 0) then (if x1 = 0 then z_cpy v_p0_images_0_eaten v_p0_state_eaten 0 0 7 else z_cpy v_p0_images_1_eaten v_p0_state_eaten 0 0 7) else v_p0_state_eaten) ∧ (o.2.2.2.2.2.2.2.2.2 = if ((0 ≤ x1 ∧ x1 < 2) ∧ ¬ v_p0_imageHeld x1 = 0) then (if x1 = 0 then z_cpy v_p0_images_0_seen v_p0_state_seen 0 0 6 else z_cpy v_p0_images_1_seen v_p0_state_seen 0 0 6) else v_p0_state_seen)) := by
  unfold f_X11_back
  refine wp_bd1 (s_X11_isImage _ (by first | omega | (rw [if_pos (by omega), if_pos (by omega)] <;> first | rfl | assumption | omega) | (rw [if_pos (by omega), if_neg (by omega)] <;> first | rfl | assumption | omega) | (rw [if_neg (by omega)]) | (rw [if_pos (by omega), if_neg (by omega), if_pos (by omega)] <;> first | rfl | assumption | omega) | (rw [if_pos (by omega), if_neg (by omega), if_neg (by omega)] <;> first | rfl | assumption | omega)) /- pre X11_isImage.1#1 -/ (by first | omega | (rw [if_pos (by omega), if_pos (by omega)] <;> first | rfl | assumption | omega) | (rw [if_pos (by omega), if_neg (by omega)] <;> first | rfl | assumption | omega) | (rw [if_neg (by omega)]) | (rw [if_pos (by omega), if_neg (by omega), if_pos (by omega)] <;> first | rfl | assumption | omega) | (rw [if_pos (by omega), if_neg (by omega), if_neg (by omega)] <;> first | rfl | assumption | omega)) /- pre X11_isImage.2#1 -/) (fun z1 q_X11_isImage_1 => ?_)
  try dsimp only at q_X11_isImage_1
  refine wp_ck (z_r32_i.mpr ⟨(by first | omega | grind) /- z_r32.lo z1#1 -/, (by first | omega | grind) /- z_r32.hi z1#1 -/⟩) ?_
  refine wp_if (fun c1 => ?_) (fun c1 => ?_)
  ·
    have hk : ¬ (0 ≤ x1 ∧ x1 < 2) := by split at q_X11_isImage_1 <;> omega
    clear q_X11_isImage_1
    refine wp_some ?_
    try dsimp only
    all_goals exact ⟨(by first | omega | (rw [if_pos (by omega), if_pos (by omega)] <;> first | rfl | assumption | omega) | (rw [if_pos (by omega), if_neg (by omega)] <;> first | rfl | assumption | omega) | (rw [if_neg (by omega)]) | (rw [if_pos (by omega), if_neg (by omega), if_pos (by omega)] <;> first | rfl | assumption | omega) | (rw [if_pos (by omega), if_neg (by omega), if_neg (by omega)] <;> first | rfl | assumption | omega)) /- post1#1 -/, (by first | omega | (rw [if_pos (by omega), if_pos (by omega)] <;> first | rfl | assumption | omega) | (rw [if_pos (by omega), if_neg (by omega)] <;> first | rfl | assumption | omega) | (rw [if_neg (by omega)]) | (rw [if_pos (by omega), if_neg (by omega), if_pos (by omega)] <;> first | rfl | assumption | omega) | (rw [if_pos (by omega), if_neg (by omega), if_neg (by omega)] <;> first | rfl | assumption | omega)) /- post2#1 -/, (by first | omega | (rw [if_pos (by omega), if_pos (by omega)] <;> first | rfl | assumption | omega) | (rw [if_pos (by omega), if_neg (by omega)] <;> first | rfl | assumption | omega) | (rw [if_neg (by omega)]) | (rw [if_pos (by omega), if_neg (by omega), if_pos (by omega)] <;> first | rfl | assumption | omega) | (rw [if_pos (by omega), if_neg (by omega), if_neg (by omega)] <;> first | rfl | assumption | omega)) /- post3#1 -/, (by first | omega | (rw [if_pos (by omega), if_pos (by omega)] <;> first | rfl | assumption | omega) | (rw [if_pos (by omega), if_neg (by omega)] <;> first | rfl | assumption | omega) | (rw [if_neg (by omega)]) | (rw [if_pos (by omega), if_neg (by omega), if_pos (by omega)] <;> first | rfl | assumption | omega) | (rw [if_pos (by omega), if_neg (by omega), if_neg (by omega)] <;> first | rfl | assumption | omega)) /- post4#1 -/, (by first | omega | (rw [if_pos (by omega), if_pos (by omega)] <;> first | rfl | assumption | omega) | (rw [if_pos (by omega), if_neg (by omega)] <;> first | rfl | assumption | omega) | (rw [if_neg (by omega)]) | (rw [if_pos (by omega), if_neg (by omega), if_pos (by omega)] <;> first | rfl | assumption | omega) | (rw [if_pos (by omega), if_neg (by omega), if_neg (by omega)] <;> first | rfl | assumption | omega)) /- post5#1 -/, (by first | omega | (rw [if_pos (by omega), if_pos (by omega)] <;> first | rfl | assumption | omega) | (rw [if_pos (by omega), if_neg (by omega)] <;> first | rfl | assumption | omega) | (rw [if_neg (by omega)]) | (rw [if_pos (by omega), if_neg (by omega), if_pos (by omega)] <;> first | rfl | assumption | omega) | (rw [if_pos (by omega), if_neg (by omega), if_neg (by omega)] <;> first | rfl | assumption | omega)) /- post6#1 -/, (by first | omega | (rw [if_pos (by omega), if_pos (by omega)] <;> first | rfl | assumption | omega) | (rw [if_pos (by omega), if_neg (by omega)] <;> first | rfl | assumption | omega) | (rw [if_neg (by omega)]) | (rw [if_pos (by omega), if_neg (by omega), if_pos (by omega)] <;> first | rfl | assumption | omega) | (rw [if_pos (by omega), if_neg (by omega), if_neg (by omega)] <;> first | rfl | assumption | omega)) /- post7#1 -/, (by first | omega | (rw [if_pos (by omega), if_pos (by omega)] <;> first | rfl | assumption | omega) | (rw [if_pos (by omega), if_neg (by omega)] <;> first | rfl | assumption | omega) | (rw [if_neg (by omega)]) | (rw [if_pos (by omega), if_neg (by omega), if_pos (by omega)] <;> first | rfl | assumption | omega) | (rw [if_pos (by omega), if_neg (by omega), if_neg (by omega)] <;> first | rfl | assumption | omega)) /- post8#1 -/, (by first | omega | (rw [if_pos (by omega), if_pos (by omega)] <;> first | rfl | assumption | omega) | (rw [if_pos (by omega), if_neg (by omega)] <;> first | rfl | assumption | omega) | (rw [if_neg (by omega)]) | (rw [if_pos (by omega), if_neg (by omega), if_pos (by omega)] <;> first | rfl | assumption | omega) | (rw [if_pos (by omega), if_neg (by omega), if_neg (by omega)] <;> first | rfl | assumption | omega)) /- post9#1 -/, (by first | omega | (rw [if_pos (by omega), if_pos (by omega)] <;> first | rfl | assumption | omega) | (rw [if_pos (by omega), if_neg (by omega)] <;> first | rfl | assumption | omega) | (rw [if_neg (by omega)]) | (rw [if_pos (by omega), if_neg (by omega), if_pos (by omega)] <;> first | rfl | assumption | omega) | (rw [if_pos (by omega), if_neg (by omega), if_neg (by omega)] <;> first | rfl | assumption | omega)) /- post10#1 -/⟩
  ·
    have hk : 0 ≤ x1 ∧ x1 < 2 := by split at q_X11_isImage_1 <;> omega
    clear q_X11_isImage_1
    have hh := h3 x1 hk.1 hk.2
    refine wp_ck (z_ix_i.mpr ⟨⟨(by first | omega | grind) /- ix.lo x1#1 -/, (by first | omega | grind) /- ix.hi x1#1 -/⟩, (by first | omega | grind) /- ix.big x1#1 -/⟩) ?_
    refine wp_ck (z_r32_i.mpr ⟨(by first | omega | grind) /- z_r32.lo (v_p0_imageHeld x1)#1 -/, (by first | omega | grind) /- z_r32.hi (v_p0_imageHeld x1)#1 -/⟩) ?_
    refine wp_if (fun c2 => ?_) (fun c2 => ?_)
    ·
      refine wp_some ?_
      try dsimp only
      all_goals exact ⟨(by first | omega | (rw [if_pos (by omega), if_pos (by omega)] <;> first | rfl | assumption | omega) | (rw [if_pos (by omega), if_neg (by omega)] <;> first | rfl | assumption | omega) | (rw [if_neg (by omega)]) | (rw [if_pos (by omega), if_neg (by omega), if_pos (by omega)] <;> first | rfl | assumption | omega) | (rw [if_pos (by omega), if_neg (by omega), if_neg (by omega)] <;> first | rfl | assumption | omega)) /- post1#2 -/, (by first | omega | (rw [if_pos (by omega), if_pos (by omega)] <;> first | rfl | assumption | omega) | (rw [if_pos (by omega), if_neg (by omega)] <;> first | rfl | assumption | omega) | (rw [if_neg (by omega)]) | (rw [if_pos (by omega), if_neg (by omega), if_pos (by omega)] <;> first | rfl | assumption | omega) | (rw [if_pos (by omega), if_neg (by omega), if_neg (by omega)] <;> first | rfl | assumption | omega)) /- post2#2 -/, (by first | omega | (rw [if_pos (by omega), if_pos (by omega)] <;> first | rfl | assumption | omega) | (rw [if_pos (by omega), if_neg (by omega)] <;> first | rfl | assumption | omega) | (rw [if_neg (by omega)]) | (rw [if_pos (by omega), if_neg (by omega), if_pos (by omega)] <;> first | rfl | assumption | omega) | (rw [if_pos (by omega), if_neg (by omega), if_neg (by omega)] <;> first | rfl | assumption | omega)) /- post3#2 -/, (by first | omega | (rw [if_pos (by omega), if_pos (by omega)] <;> first | rfl | assumption | omega) | (rw [if_pos (by omega), if_neg (by omega)] <;> first | rfl | assumption | omega) | (rw [if_neg (by omega)]) | (rw [if_pos (by omega), if_neg (by omega), if_pos (by omega)] <;> first | rfl | assumption | omega) | (rw [if_pos (by omega), if_neg (by omega), if_neg (by omega)] <;> first | rfl | assumption | omega)) /- post4#2 -/, (by first | omega | (rw [if_pos (by omega), if_pos (by omega)] <;> first | rfl | assumption | omega) | (rw [if_pos (by omega), if_neg (by omega)] <;> first | rfl | assumption | omega) | (rw [if_neg (by omega)]) | (rw [if_pos (by omega), if_neg (by omega), if_pos (by omega)] <;> first | rfl | assumption | omega) | (rw [if_pos (by omega), if_neg (by omega), if_neg (by omega)] <;> first | rfl | assumption | omega)) /- post5#2 -/, (by first | omega | (rw [if_pos (by omega), if_pos (by omega)] <;> first | rfl | assumption | omega) | (rw [if_pos (by omega), if_neg (by omega)] <;> first | rfl | assumption | omega) | (rw [if_neg (by omega)]) | (rw [if_pos (by omega), if_neg (by omega), if_pos (by omega)] <;> first | rfl | assumption | omega) | (rw [if_pos (by omega), if_neg (by omega), if_neg (by omega)] <;> first | rfl | assumption | omega)) /- post6#2 -/, (by first | omega | (rw [if_pos (by omega), if_pos (by omega)] <;> first | rfl | assumption | omega) | (rw [if_pos (by omega), if_neg (by omega)] <;> first | rfl | assumption | omega) | (rw [if_neg (by omega)]) | (rw [if_pos (by omega), if_neg (by omega), if_pos (by omega)] <;> first | rfl | assumption | omega) | (rw [if_pos (by omega), if_neg (by omega), if_neg (by omega)] <;> first | rfl | assumption | omega)) /- post7#2 -/, (by first | omega | (rw [if_pos (by omega), if_pos (by omega)] <;> first | rfl | assumption | omega) | (rw [if_pos (by omega), if_neg (by omega)] <;> first | rfl | assumption | omega) | (rw [if_neg (by omega)]) | (rw [if_pos (by omega), if_neg (by omega), if_pos (by omega)] <;> first | rfl | assumption | omega) | (rw [if_pos (by omega), if_neg (by omega), if_neg (by omega)] <;> first | rfl | assumption | omega)) /- post8#2 -/, (by first | omega | (rw [if_pos (by omega), if_pos (by omega)] <;> first | rfl | assumption | omega) | (rw [if_pos (by omega), if_neg (by omega)] <;> first | rfl | assumption | omega) | (rw [if_neg (by omega)]) | (rw [if_pos (by omega), if_neg (by omega), if_pos (by omega)] <;> first | rfl | assumption | omega) | (rw [if_pos (by omega), if_neg (by omega), if_neg (by omega)] <;> first | rfl | assumption | omega)) /- post9#2 -/, (by first | omega | (rw [if_pos (by omega), if_pos (by omega)] <;> first | rfl | assumption | omega) | (rw [if_pos (by omega), if_neg (by omega)] <;> first | rfl | assumption | omega) | (rw [if_neg (by omega)]) | (rw [if_pos (by omega), if_neg (by omega), if_pos (by omega)] <;> first | rfl | assumption | omega) | (rw [if_pos (by omega), if_neg (by omega), if_neg (by omega)] <;> first | rfl | assumption | omega)) /- post10#2 -/⟩
    ·
      refine wp_ck (z_ix_i.mpr ⟨⟨(by first | omega | grind) /- ix.lo x1#2 -/, (by first | omega | grind) /- ix.hi x1#2 -/⟩, (by first | omega | grind) /- ix.big x1#2 -/⟩) ?_
      refine wp_if (fun c3 => ?_) (fun c3 => ?_)
      ·
        refine wp_bd9 (s_X8_copy _ _ _ _ _ _ _ _ _ _ _ _ _ _) (fun z4 z5 z6 z7 w8 w9 w10 w11 w12 q_X8_copy_1 => ?_)
        try dsimp only at q_X8_copy_1
        obtain ⟨q_X8_copy_1_1, q_X8_copy_1_2, q_X8_copy_1_3, q_X8_copy_1_4, q_X8_copy_1_5, q_X8_copy_1_6, q_X8_copy_1_7, q_X8_copy_1_8, q_X8_copy_1_9⟩ := q_X8_copy_1
        refine wp_some ?_
        try dsimp only
        all_goals exact ⟨(by first | omega | (rw [if_pos (by omega), if_pos (by omega)] <;> first | rfl | assumption | omega) | (rw [if_pos (by omega), if_neg (by omega)] <;> first | rfl | assumption | omega) | (rw [if_neg (by omega)]) | (rw [if_pos (by omega), if_neg (by omega), if_pos (by omega)] <;> first | rfl | assumption | omega) | (rw [if_pos (by omega), if_neg (by omega), if_neg (by omega)] <;> first | rfl | assumption | omega)) /- post1#3 -/, (by first | omega | (rw [if_pos (by omega), if_pos (by omega)] <;> first | rfl | assumption | omega) | (rw [if_pos (by omega), if_neg (by omega)] <;> first | rfl | assumption | omega) | (rw [if_neg (by omega)]) | (rw [if_pos (by omega), if_neg (by omega), if_pos (by omega)] <;> first | rfl | assumption | omega) | (rw [if_pos (by omega), if_neg (by omega), if_neg (by omega)] <;> first | rfl | assumption | omega)) /- post2#3 -/, (by first | omega | (rw [if_pos (by omega), if_pos (by omega)] <;> first | rfl | assumption | omega) | (rw [if_pos (by omega), if_neg (by omega)] <;> first | rfl | assumption | omega) | (rw [if_neg (by omega)]) | (rw [if_pos (by omega), if_neg (by omega), if_pos (by omega)] <;> first | rfl | assumption | omega) | (rw [if_pos (by omega), if_neg (by omega), if_neg (by omega)] <;> first | rfl | assumption | omega)) /- post3#3 -/, (by first | omega | (rw [if_pos (by omega), if_pos (by omega)] <;> first | rfl | assumption | omega) | (rw [if_pos (by omega), if_neg (by omega)] <;> first | rfl | assumption | omega) | (rw [if_neg (by omega)]) | (rw [if_pos (by omega), if_neg (by omega), if_pos (by omega)] <;> first | rfl | assumption | omega) | (rw [if_pos (by omega), if_neg (by omega), if_neg (by omega)] <;> first | rfl | assumption | omega)) /- post4#3 -/, (by first | omega | (rw [if_pos (by omega), if_pos (by omega)] <;> first | rfl | assumption | omega) | (rw [if_pos (by omega), if_neg (by omega)] <;> first | rfl | assumption | omega) | (rw [if_neg (by omega)]) | (rw [if_pos (by omega), if_neg (by omega), if_pos (by omega)] <;> first | rfl | assumption | omega) | (rw [if_pos (by omega), if_neg (by omega), if_neg (by omega)] <;> first | rfl | assumption | omega)) /- post5#3 -/, (by first | omega | (rw [if_pos (by omega), if_pos (by omega)] <;> first | rfl | assumption | omega) | (rw [if_pos (by omega), if_neg (by omega)] <;> first | rfl | assumption | omega) | (rw [if_neg (by omega)]) | (rw [if_pos (by omega), if_neg (by omega), if_pos (by omega)] <;> first | rfl | assumption | omega) | (rw [if_pos (by omega), if_neg (by omega), if_neg (by omega)] <;> first | rfl | assumption | omega)) /- post6#3 -/, (by first | omega | (rw [if_pos (by omega), if_pos (by omega)] <;> first | rfl | assumption | omega) | (rw [if_pos (by omega), if_neg (by omega)] <;> first | rfl | assumption | omega) | (rw [if_neg (by omega)]) | (rw [if_pos (by omega), if_neg (by omega), if_pos (by omega)] <;> first | rfl | assumption | omega) | (rw [if_pos (by omega), if_neg (by omega), if_neg (by omega)] <;> first | rfl | assumption | omega)) /- post7#3 -/, (by first | omega | (rw [if_pos (by omega), if_pos (by omega)] <;> first | rfl | assumption | omega) | (rw [if_pos (by omega), if_neg (by omega)] <;> first | rfl | assumption | omega) | (rw [if_neg (by omega)]) | (rw [if_pos (by omega), if_neg (by omega), if_pos (by omega)] <;> first | rfl | assumption | omega) | (rw [if_pos (by omega), if_neg (by omega), if_neg (by omega)] <;> first | rfl | assumption | omega)) /- post8#3 -/, (by first | omega | (rw [if_pos (by omega), if_pos (by omega)] <;> first | rfl | assumption | omega) | (rw [if_pos (by omega), if_neg (by omega)] <;> first | rfl | assumption | omega) | (rw [if_neg (by omega)]) | (rw [if_pos (by omega), if_neg (by omega), if_pos (by omega)] <;> first | rfl | assumption | omega) | (rw [if_pos (by omega), if_neg (by omega), if_neg (by omega)] <;> first | rfl | assumption | omega)) /- post9#3 -/, (by first | omega | (rw [if_pos (by omega), if_pos (by omega)] <;> first | rfl | assumption | omega) | (rw [if_pos (by omega), if_neg (by omega)] <;> first | rfl | assumption | omega) | (rw [if_neg (by omega)]) | (rw [if_pos (by omega), if_neg (by omega), if_pos (by omega)] <;> first | rfl | assumption | omega) | (rw [if_pos (by omega), if_neg (by omega), if_neg (by omega)] <;> first | rfl | assumption | omega)) /- post10#3 -/⟩
      ·
        refine wp_if (fun c4 => ?_) (fun c4 => ?_)
        ·
          refine wp_bd9 (s_X8_copy _ _ _ _ _ _ _ _ _ _ _ _ _ _) (fun z13 z14 z15 z16 w17 w18 w19 w20 w21 q_X8_copy_2 => ?_)
          try dsimp only at q_X8_copy_2
          obtain ⟨q_X8_copy_2_1, q_X8_copy_2_2, q_X8_copy_2_3, q_X8_copy_2_4, q_X8_copy_2_5, q_X8_copy_2_6, q_X8_copy_2_7, q_X8_copy_2_8, q_X8_copy_2_9⟩ := q_X8_copy_2
          refine wp_some ?_
          try dsimp only
          all_goals exact ⟨(by first | omega | (rw [if_pos (by omega), if_pos (by omega)] <;> first | rfl | assumption | omega) | (rw [if_pos (by omega), if_neg (by omega)] <;> first | rfl | assumption | omega) | (rw [if_neg (by omega)]) | (rw [if_pos (by omega), if_neg (by omega), if_pos (by omega)] <;> first | rfl | assumption | omega) | (rw [if_pos (by omega), if_neg (by omega), if_neg (by omega)] <;> first | rfl | assumption | omega)) /- post1#4 -/, (by first | omega | (rw [if_pos (by omega), if_pos (by omega)] <;> first | rfl | assumption | omega) | (rw [if_pos (by omega), if_neg (by omega)] <;> first | rfl | assumption | omega) | (rw [if_neg (by omega)]) | (rw [if_pos (by omega), if_neg (by omega), if_pos (by omega)] <;> first | rfl | assumption | omega) | (rw [if_pos (by omega), if_neg (by omega), if_neg (by omega)] <;> first | rfl | assumption | omega)) /- post2#4 -/, (by first | omega | (rw [if_pos (by omega), if_pos (by omega)] <;> first | rfl | assumption | omega) | (rw [if_pos (by omega), if_neg (by omega)] <;> first | rfl | assumption | omega) | (rw [if_neg (by omega)]) | (rw [if_pos (by omega), if_neg (by omega), if_pos (by omega)] <;> first | rfl | assumption | omega) | (rw [if_pos (by omega), if_neg (by omega), if_neg (by omega)] <;> first | rfl | assumption | omega)) /- post3#4 -/, (by first | omega | (rw [if_pos (by omega), if_pos (by omega)] <;> first | rfl | assumption | omega) | (rw [if_pos (by omega), if_neg (by omega)] <;> first | rfl | assumption | omega) | (rw [if_neg (by omega)]) | (rw [if_pos (by omega), if_neg (by omega), if_pos (by omega)] <;> first | rfl | assumption | omega) | (rw [if_pos (by omega), if_neg (by omega), if_neg (by omega)] <;> first | rfl | assumption | omega)) /- post4#4 -/, (by first | omega | (rw [if_pos (by omega), if_pos (by omega)] <;> first | rfl | assumption | omega) | (rw [if_pos (by omega), if_neg (by omega)] <;> first | rfl | assumption | omega) | (rw [if_neg (by omega)]) | (rw [if_pos (by omega), if_neg (by omega), if_pos (by omega)] <;> first | rfl | assumption | omega) | (rw [if_pos (by omega), if_neg (by omega), if_neg (by omega)] <;> first | rfl | assumption | omega)) /- post5#4 -/, (by first | omega | (rw [if_pos (by omega), if_pos (by omega)] <;> first | rfl | assumption | omega) | (rw [if_pos (by omega), if_neg (by omega)] <;> first | rfl | assumption | omega) | (rw [if_neg (by omega)]) | (rw [if_pos (by omega), if_neg (by omega), if_pos (by omega)] <;> first | rfl | assumption | omega) | (rw [if_pos (by omega), if_neg (by omega), if_neg (by omega)] <;> first | rfl | assumption | omega)) /- post6#4 -/, (by first | omega | (rw [if_pos (by omega), if_pos (by omega)] <;> first | rfl | assumption | omega) | (rw [if_pos (by omega), if_neg (by omega)] <;> first | rfl | assumption | omega) | (rw [if_neg (by omega)]) | (rw [if_pos (by omega), if_neg (by omega), if_pos (by omega)] <;> first | rfl | assumption | omega) | (rw [if_pos (by omega), if_neg (by omega), if_neg (by omega)] <;> first | rfl | assumption | omega)) /- post7#4 -/, (by first | omega | (rw [if_pos (by omega), if_pos (by omega)] <;> first | rfl | assumption | omega) | (rw [if_pos (by omega), if_neg (by omega)] <;> first | rfl | assumption | omega) | (rw [if_neg (by omega)]) | (rw [if_pos (by omega), if_neg (by omega), if_pos (by omega)] <;> first | rfl | assumption | omega) | (rw [if_pos (by omega), if_neg (by omega), if_neg (by omega)] <;> first | rfl | assumption | omega)) /- post8#4 -/, (by first | omega | (rw [if_pos (by omega), if_pos (by omega)] <;> first | rfl | assumption | omega) | (rw [if_pos (by omega), if_neg (by omega)] <;> first | rfl | assumption | omega) | (rw [if_neg (by omega)]) | (rw [if_pos (by omega), if_neg (by omega), if_pos (by omega)] <;> first | rfl | assumption | omega) | (rw [if_pos (by omega), if_neg (by omega), if_neg (by omega)] <;> first | rfl | assumption | omega)) /- post9#4 -/, (by first | omega | (rw [if_pos (by omega), if_pos (by omega)] <;> first | rfl | assumption | omega) | (rw [if_pos (by omega), if_neg (by omega)] <;> first | rfl | assumption | omega) | (rw [if_neg (by omega)]) | (rw [if_pos (by omega), if_neg (by omega), if_pos (by omega)] <;> first | rfl | assumption | omega) | (rw [if_pos (by omega), if_neg (by omega), if_neg (by omega)] <;> first | rfl | assumption | omega)) /- post10#4 -/⟩
        ·
          exfalso
          exact (by first | omega | (rw [if_pos (by omega), if_pos (by omega)] <;> first | rfl | assumption | omega) | (rw [if_pos (by omega), if_neg (by omega)] <;> first | rfl | assumption | omega) | (rw [if_neg (by omega)]) | (rw [if_pos (by omega), if_neg (by omega), if_pos (by omega)] <;> first | rfl | assumption | omega) | (rw [if_pos (by omega), if_neg (by omega), if_neg (by omega)] <;> first | rfl | assumption | omega)) /- none#1 -/

set_option maxHeartbeats 1000000 in
theorem s_X11_isSheet (x0 : Int) (h1 : -2147483648 ≤ x0) (h2 : x0 < 2147483648) : wp (f_X11_isSheet x0) (fun o => (o = if 0 ≤ x0 ∧ x0 < 4 then 1 else 0)) := by
  unfold f_X11_isSheet
  refine wp_ck (z_r32_i.mpr ⟨(by first | omega | grind) /- z_r32.lo x0#1 -/, (by first | omega | grind) /- z_r32.hi x0#1 -/⟩) ?_
  refine wp_if (fun c1 => ?_) (fun c1 => ?_)
  ·
    refine wp_some ?_
    try dsimp only
    all_goals exact (by split <;> omega) /- post1#1 -/
  ·
    refine wp_if (fun c2 => ?_) (fun c2 => ?_)
    ·
      refine wp_some ?_
      try dsimp only
      all_goals exact (by split <;> omega) /- post1#2 -/
    ·
      refine wp_some ?_
      try dsimp only
      all_goals exact (by split <;> omega) /- post1#3 -/

set_option maxHeartbeats 1000000 in
theorem s_X11_isLane (x0 : Int) (h1 : -2147483648 ≤ x0) (h2 : x0 < 2147483648) : wp (f_X11_isLane x0) (fun o => (o = if 0 ≤ x0 ∧ x0 < 3 then 1 else 0)) := by
  unfold f_X11_isLane
  refine wp_ck (z_r32_i.mpr ⟨(by first | omega | grind) /- z_r32.lo x0#1 -/, (by first | omega | grind) /- z_r32.hi x0#1 -/⟩) ?_
  refine wp_if (fun c1 => ?_) (fun c1 => ?_)
  ·
    refine wp_some ?_
    try dsimp only
    all_goals exact (by split <;> omega) /- post1#1 -/
  ·
    refine wp_if (fun c2 => ?_) (fun c2 => ?_)
    ·
      refine wp_some ?_
      try dsimp only
      all_goals exact (by split <;> omega) /- post1#2 -/
    ·
      refine wp_some ?_
      try dsimp only
      all_goals exact (by split <;> omega) /- post1#3 -/

set_option maxHeartbeats 1000000 in
theorem s_X11_sheet (i_p0_sheets_0_lane : Int) (i_p0_sheets_0_size : Int) (v_p0_sheets_0_cells : (Int → Int)) (i_p0_sheets_1_lane : Int) (i_p0_sheets_1_size : Int) (v_p0_sheets_1_cells : (Int → Int)) (i_p0_sheets_2_lane : Int) (i_p0_sheets_2_size : Int) (v_p0_sheets_2_cells : (Int → Int)) (i_p0_sheets_3_lane : Int) (i_p0_sheets_3_size : Int) (v_p0_sheets_3_cells : (Int → Int)) (x1 : Int) (x2 : Int) (x3 : Int) (h1 : -2147483648 ≤ x1) (h2 : x1 < 2147483648) (h3 : -2147483648 ≤ x2) (h4 : x2 < 2147483648) (h5 : -2147483648 ≤ x3) (h6 : x3 < 2147483648) : wp (f_X11_sheet i_p0_sheets_0_lane i_p0_sheets_0_size v_p0_sheets_0_cells i_p0_sheets_1_lane i_p0_sheets_1_size v_p0_sheets_1_cells i_p0_sheets_2_lane i_p0_sheets_2_size v_p0_sheets_2_cells i_p0_sheets_3_lane i_p0_sheets_3_size v_p0_sheets_3_cells x1 x2 x3) (fun o => (o.1 = if (0 ≤ x1 ∧ x1 < 4) ∧ (0 ≤ x2 ∧ x2 < 3) ∧ x3 ≤ 40 then (if x3 < 0 then -14 else 1) else -1) ∧ (o.2.1 = if ((0 ≤ x1 ∧ x1 < 4) ∧ (0 ≤ x2 ∧ x2 < 3) ∧ 0 ≤ x3 ∧ x3 ≤ 40) ∧ x1 = 0 then x2 else i_p0_sheets_0_lane) ∧ (o.2.2.1 = if ((0 ≤ x1 ∧ x1 < 4) ∧ (0 ≤ x2 ∧ x2 < 3) ∧ 0 ≤ x3 ∧ x3 ≤ 40) ∧ x1 = 0 then x3 else i_p0_sheets_0_size) ∧ (o.2.2.2.1 = if ((0 ≤ x1 ∧ x1 < 4) ∧ (0 ≤ x2 ∧ x2 < 3) ∧ 0 ≤ x3 ∧ x3 ≤ 40) ∧ x1 = 0 then z_fill v_p0_sheets_0_cells 40 0 else v_p0_sheets_0_cells) ∧ (o.2.2.2.2.1 = if ((0 ≤ x1 ∧ x1 < 4) ∧ (0 ≤ x2 ∧ x2 < 3) ∧ 0 ≤ x3 ∧ x3 ≤ 40) ∧ x1 = 1 then x2 else i_p0_sheets_1_lane) ∧ (o.2.2.2.2.2.1 = if ((0 ≤ x1 ∧ x1 < 4) ∧ (0 ≤ x2 ∧ x2 < 3) ∧ 0 ≤ x3 ∧ x3 ≤ 40) ∧ x1 = 1 then x3 else i_p0_sheets_1_size) ∧ (o.2.2.2.2.2.2.1 = if ((0 ≤ x1 ∧ x1 < 4) ∧ (0 ≤ x2 ∧ x2 < 3) ∧ 0 ≤ x3 ∧ x3 ≤ 40) ∧ x1 = 1 then z_fill v_p0_sheets_1_cells 40 0 else v_p0_sheets_1_cells) ∧ (o.2.2.2.2.2.2.2.1 = if ((0 ≤ x1 ∧ x1 < 4) ∧ (0 ≤ x2 ∧ x2 < 3) ∧ 0 ≤ x3 ∧ x3 ≤ 40) ∧ x1 = 2 then x2 else i_p0_sheets_2_lane) ∧ (o.2.2.2.2.2.2.2.2.1 = if ((0 ≤ x1 ∧ x1 < 4) ∧ (0 ≤ x2 ∧ x2 < 3) ∧ 0 ≤ x3 ∧ x3 ≤ 40) ∧ x1 = 2 then x3 else i_p0_sheets_2_size) ∧ (o.2.2.2.2.2.2.2.2.2.1 = if ((0 ≤ x1 ∧ x1 < 4) ∧ (0 ≤ x2 ∧ x2 < 3) ∧ 0 ≤ x3 ∧ x3 ≤ 40) ∧ x1 = 2 then z_fill v_p0_sheets_2_cells 40 0 else v_p0_sheets_2_cells) ∧ (o.2.2.2.2.2.2.2.2.2.2.1 = if ((0 ≤ x1 ∧ x1 < 4) ∧ (0 ≤ x2 ∧ x2 < 3) ∧ 0 ≤ x3 ∧ x3 ≤ 40) ∧ x1 = 3 then x2 else i_p0_sheets_3_lane) ∧ (o.2.2.2.2.2.2.2.2.2.2.2.1 = if ((0 ≤ x1 ∧ x1 < 4) ∧ (0 ≤ x2 ∧ x2 < 3) ∧ 0 ≤ x3 ∧ x3 ≤ 40) ∧ x1 = 3 then x3 else i_p0_sheets_3_size) ∧ (o.2.2.2.2.2.2.2.2.2.2.2.2 = if ((0 ≤ x1 ∧ x1 < 4) ∧ (0 ≤ x2 ∧ x2 < 3) ∧ 0 ≤ x3 ∧ x3 ≤ 40) ∧ x1 = 3 then z_fill v_p0_sheets_3_cells 40 0 else v_p0_sheets_3_cells)) := by
  unfold f_X11_sheet
  refine wp_bd1 (s_X11_isSheet _ (by first | omega | (rw [if_pos (by omega)] <;> first | rfl | assumption | omega) | (rw [if_neg (by omega)] <;> first | rfl | omega) | (rw [if_pos (by omega), if_pos (by omega)]) | (rw [if_pos (by omega), if_neg (by omega)])) /- pre X11_isSheet.1#1 -/ (by first | omega | (rw [if_pos (by omega)] <;> first | rfl | assumption | omega) | (rw [if_neg (by omega)] <;> first | rfl | omega) | (rw [if_pos (by omega), if_pos (by omega)]) | (rw [if_pos (by omega), if_neg (by omega)])) /- pre X11_isSheet.2#1 -/) (fun z1 q_X11_isSheet_1 => ?_)
  try dsimp only at q_X11_isSheet_1
  refine wp_ck (z_r32_i.mpr ⟨(by omega) /- z_r32.lo z1#1 -/, (by omega) /- z_r32.hi z1#1 -/⟩) ?_
  refine wp_if (fun c1 => ?_) (fun c1 => ?_)
  ·
    refine wp_some ?_
    try dsimp only
    all_goals exact ⟨(by first | omega | (rw [if_pos (by omega)] <;> first | rfl | assumption | omega) | (rw [if_neg (by omega)] <;> first | rfl | omega) | (rw [if_pos (by omega), if_pos (by omega)]) | (rw [if_pos (by omega), if_neg (by omega)])) /- post1#1 -/, (by first | omega | (rw [if_pos (by omega)] <;> first | rfl | assumption | omega) | (rw [if_neg (by omega)] <;> first | rfl | omega) | (rw [if_pos (by omega), if_pos (by omega)]) | (rw [if_pos (by omega), if_neg (by omega)])) /- post2#1 -/, (by first | omega | (rw [if_pos (by omega)] <;> first | rfl | assumption | omega) | (rw [if_neg (by omega)] <;> first | rfl | omega) | (rw [if_pos (by omega), if_pos (by omega)]) | (rw [if_pos (by omega), if_neg (by omega)])) /- post3#1 -/, (by first | omega | (rw [if_pos (by omega)] <;> first | rfl | assumption | omega) | (rw [if_neg (by omega)] <;> first | rfl | omega) | (rw [if_pos (by omega), if_pos (by omega)]) | (rw [if_pos (by omega), if_neg (by omega)])) /- post4#1 -/, (by first | omega | (rw [if_pos (by omega)] <;> first | rfl | assumption | omega) | (rw [if_neg (by omega)] <;> first | rfl | omega) | (rw [if_pos (by omega), if_pos (by omega)]) | (rw [if_pos (by omega), if_neg (by omega)])) /- post5#1 -/, (by first | omega | (rw [if_pos (by omega)] <;> first | rfl | assumption | omega) | (rw [if_neg (by omega)] <;> first | rfl | omega) | (rw [if_pos (by omega), if_pos (by omega)]) | (rw [if_pos (by omega), if_neg (by omega)])) /- post6#1 -/, (by first | omega | (rw [if_pos (by omega)] <;> first | rfl | assumption | omega) | (rw [if_neg (by omega)] <;> first | rfl | omega) | (rw [if_pos (by omega), if_pos (by omega)]) | (rw [if_pos (by omega), if_neg (by omega)])) /- post7#1 -/, (by first | omega | (rw [if_pos (by omega)] <;> first | rfl | assumption | omega) | (rw [if_neg (by omega)] <;> first | rfl | omega) | (rw [if_pos (by omega), if_pos (by omega)]) | (rw [if_pos (by omega), if_neg (by omega)])) /- post8#1 -/, (by first | omega | (rw [if_pos (by omega)] <;> first | rfl | assumption | omega) | (rw [if_neg (by omega)] <;> first | rfl | omega) | (rw [if_pos (by omega), if_pos (by omega)]) | (rw [if_pos (by omega), if_neg (by omega)])) /- post9#1 -/, (by first | omega | (rw [if_pos (by omega)] <;> first | rfl | assumption | omega) | (rw [if_neg (by omega)] <;> first | rfl | omega) | (rw [if_pos (by omega), if_pos (by omega)]) | (rw [if_pos (by omega), if_neg (by omega)])) /- post10#1 -/, (by first | omega | (rw [if_pos (by omega)] <;> first | rfl | assumption | omega) | (rw [if_neg (by omega)] <;> first | rfl | omega) | (rw [if_pos (by omega), if_pos (by omega)]) | (rw [if_pos (by omega), if_neg (by omega)])) /- post11#1 -/, (by first | omega | (rw [if_pos (by omega)] <;> first | rfl | assumption | omega) | (rw [if_neg (by omega)] <;> first | rfl | omega) | (rw [if_pos (by omega), if_pos (by omega)]) | (rw [if_pos (by omega), if_neg (by omega)])) /- post12#1 -/, (by first | omega | (rw [if_pos (by omega)] <;> first | rfl | assumption | omega) | (rw [if_neg (by omega)] <;> first | rfl | omega) | (rw [if_pos (by omega), if_pos (by omega)]) | (rw [if_pos (by omega), if_neg (by omega)])) /- post13#1 -/⟩
  ·
    refine wp_bd1 (s_X11_isLane _ (by first | omega | (rw [if_pos (by omega)] <;> first | rfl | assumption | omega) | (rw [if_neg (by omega)] <;> first | rfl | omega) | (rw [if_pos (by omega), if_pos (by omega)]) | (rw [if_pos (by omega), if_neg (by omega)])) /- pre X11_isLane.1#1 -/ (by first | omega | (rw [if_pos (by omega)] <;> first | rfl | assumption | omega) | (rw [if_neg (by omega)] <;> first | rfl | omega) | (rw [if_pos (by omega), if_pos (by omega)]) | (rw [if_pos (by omega), if_neg (by omega)])) /- pre X11_isLane.2#1 -/) (fun z3 q_X11_isLane_1 => ?_)
    try dsimp only at q_X11_isLane_1
    refine wp_ck (z_r32_i.mpr ⟨(by omega) /- z_r32.lo z3#1 -/, (by omega) /- z_r32.hi z3#1 -/⟩) ?_
    refine wp_if (fun c2 => ?_) (fun c2 => ?_)
    ·
      refine wp_some ?_
      try dsimp only
      all_goals exact ⟨(by first | omega | (rw [if_pos (by omega)] <;> first | rfl | assumption | omega) | (rw [if_neg (by omega)] <;> first | rfl | omega) | (rw [if_pos (by omega), if_pos (by omega)]) | (rw [if_pos (by omega), if_neg (by omega)])) /- post1#2 -/, (by first | omega | (rw [if_pos (by omega)] <;> first | rfl | assumption | omega) | (rw [if_neg (by omega)] <;> first | rfl | omega) | (rw [if_pos (by omega), if_pos (by omega)]) | (rw [if_pos (by omega), if_neg (by omega)])) /- post2#2 -/, (by first | omega | (rw [if_pos (by omega)] <;> first | rfl | assumption | omega) | (rw [if_neg (by omega)] <;> first | rfl | omega) | (rw [if_pos (by omega), if_pos (by omega)]) | (rw [if_pos (by omega), if_neg (by omega)])) /- post3#2 -/, (by first | omega | (rw [if_pos (by omega)] <;> first | rfl | assumption | omega) | (rw [if_neg (by omega)] <;> first | rfl | omega) | (rw [if_pos (by omega), if_pos (by omega)]) | (rw [if_pos (by omega), if_neg (by omega)])) /- post4#2 -/, (by first | omega | (rw [if_pos (by omega)] <;> first | rfl | assumption | omega) | (rw [if_neg (by omega)] <;> first | rfl | omega) | (rw [if_pos (by omega), if_pos (by omega)]) | (rw [if_pos (by omega), if_neg (by omega)])) /- post5#2 -/, (by first | omega | (rw [if_pos (by omega)] <;> first | rfl | assumption | omega) | (rw [if_neg (by omega)] <;> first | rfl | omega) | (rw [if_pos (by omega), if_pos (by omega)]) | (rw [if_pos (by omega), if_neg (by omega)])) /- post6#2 -/, (by first | omega | (rw [if_pos (by omega)] <;> first | rfl | assumption | omega) | (rw [if_neg (by omega)] <;> first | rfl | omega) | (rw [if_pos (by omega), if_pos (by omega)]) | (rw [if_pos (by omega), if_neg (by omega)])) /- post7#2 -/, (by first | omega | (rw [if_pos (by omega)] <;> first | rfl | assumption | omega) | (rw [if_neg (by omega)] <;> first | rfl | omega) | (rw [if_pos (by omega), if_pos (by omega)]) | (rw [if_pos (by omega), if_neg (by omega)])) /- post8#2 -/, (by first | omega | (rw [if_pos (by omega)] <;> first | rfl | assumption | omega) | (rw [if_neg (by omega)] <;> first | rfl | omega) | (rw [if_pos (by omega), if_pos (by omega)]) | (rw [if_pos (by omega), if_neg (by omega)])) /- post9#2 -/, (by first | omega | (rw [if_pos (by omega)] <;> first | rfl | assumption | omega) | (rw [if_neg (by omega)] <;> first | rfl | omega) | (rw [if_pos (by omega), if_pos (by omega)]) | (rw [if_pos (by omega), if_neg (by omega)])) /- post10#2 -/, (by first | omega | (rw [if_pos (by omega)] <;> first | rfl | assumption | omega) | (rw [if_neg (by omega)] <;> first | rfl | omega) | (rw [if_pos (by omega), if_pos (by omega)]) | (rw [if_pos (by omega), if_neg (by omega)])) /- post11#2 -/, (by first | omega | (rw [if_pos (by omega)] <;> first | rfl | assumption | omega) | (rw [if_neg (by omega)] <;> first | rfl | omega) | (rw [if_pos (by omega), if_pos (by omega)]) | (rw [if_pos (by omega), if_neg (by omega)])) /- post12#2 -/, (by first | omega | (rw [if_pos (by omega)] <;> first | rfl | assumption | omega) | (rw [if_neg (by omega)] <;> first | rfl | omega) | (rw [if_pos (by omega), if_pos (by omega)]) | (rw [if_pos (by omega), if_neg (by omega)])) /- post13#2 -/⟩
    ·
      refine wp_ck (z_r32_i.mpr ⟨(by omega) /- z_r32.lo x3#1 -/, (by omega) /- z_r32.hi x3#1 -/⟩) ?_
      refine wp_if (fun c3 => ?_) (fun c3 => ?_)
      ·
        refine wp_if (fun c4 => ?_) (fun c4 => ?_)
        ·
          refine wp_ck (z_ix_i.mpr ⟨⟨(by omega) /- ix.lo x1#1 -/, (by omega) /- ix.hi x1#1 -/⟩, (by omega) /- ix.big x1#1 -/⟩) ?_
          refine wp_if (fun c5 => ?_) (fun c5 => ?_)
          ·
            refine wp_bd3 (s_X7_renew _ _ _) (fun z6 z7 w8 q_X7_renew_1 => ?_)
            try dsimp only at q_X7_renew_1
            obtain ⟨q_X7_renew_1_1, q_X7_renew_1_2, q_X7_renew_1_3⟩ := q_X7_renew_1
            refine wp_some ?_
            try dsimp only
            all_goals exact ⟨(by first | omega | (rw [if_pos (by omega)] <;> first | rfl | assumption | omega) | (rw [if_neg (by omega)] <;> first | rfl | omega) | (rw [if_pos (by omega), if_pos (by omega)]) | (rw [if_pos (by omega), if_neg (by omega)])) /- post1#3 -/, (by first | omega | (rw [if_pos (by omega)] <;> first | rfl | assumption | omega) | (rw [if_neg (by omega)] <;> first | rfl | omega) | (rw [if_pos (by omega), if_pos (by omega)]) | (rw [if_pos (by omega), if_neg (by omega)])) /- post2#3 -/, (by first | omega | (rw [if_pos (by omega)] <;> first | rfl | assumption | omega) | (rw [if_neg (by omega)] <;> first | rfl | omega) | (rw [if_pos (by omega), if_pos (by omega)]) | (rw [if_pos (by omega), if_neg (by omega)])) /- post3#3 -/, (by first | omega | (rw [if_pos (by omega)] <;> first | rfl | assumption | omega) | (rw [if_neg (by omega)] <;> first | rfl | omega) | (rw [if_pos (by omega), if_pos (by omega)]) | (rw [if_pos (by omega), if_neg (by omega)])) /- post4#3 -/, (by first | omega | (rw [if_pos (by omega)] <;> first | rfl | assumption | omega) | (rw [if_neg (by omega)] <;> first | rfl | omega) | (rw [if_pos (by omega), if_pos (by omega)]) | (rw [if_pos (by omega), if_neg (by omega)])) /- post5#3 -/, (by first | omega | (rw [if_pos (by omega)] <;> first | rfl | assumption | omega) | (rw [if_neg (by omega)] <;> first | rfl | omega) | (rw [if_pos (by omega), if_pos (by omega)]) | (rw [if_pos (by omega), if_neg (by omega)])) /- post6#3 -/, (by first | omega | (rw [if_pos (by omega)] <;> first | rfl | assumption | omega) | (rw [if_neg (by omega)] <;> first | rfl | omega) | (rw [if_pos (by omega), if_pos (by omega)]) | (rw [if_pos (by omega), if_neg (by omega)])) /- post7#3 -/, (by first | omega | (rw [if_pos (by omega)] <;> first | rfl | assumption | omega) | (rw [if_neg (by omega)] <;> first | rfl | omega) | (rw [if_pos (by omega), if_pos (by omega)]) | (rw [if_pos (by omega), if_neg (by omega)])) /- post8#3 -/, (by first | omega | (rw [if_pos (by omega)] <;> first | rfl | assumption | omega) | (rw [if_neg (by omega)] <;> first | rfl | omega) | (rw [if_pos (by omega), if_pos (by omega)]) | (rw [if_pos (by omega), if_neg (by omega)])) /- post9#3 -/, (by first | omega | (rw [if_pos (by omega)] <;> first | rfl | assumption | omega) | (rw [if_neg (by omega)] <;> first | rfl | omega) | (rw [if_pos (by omega), if_pos (by omega)]) | (rw [if_pos (by omega), if_neg (by omega)])) /- post10#3 -/, (by first | omega | (rw [if_pos (by omega)] <;> first | rfl | assumption | omega) | (rw [if_neg (by omega)] <;> first | rfl | omega) | (rw [if_pos (by omega), if_pos (by omega)]) | (rw [if_pos (by omega), if_neg (by omega)])) /- post11#3 -/, (by first | omega | (rw [if_pos (by omega)] <;> first | rfl | assumption | omega) | (rw [if_neg (by omega)] <;> first | rfl | omega) | (rw [if_pos (by omega), if_pos (by omega)]) | (rw [if_pos (by omega), if_neg (by omega)])) /- post12#3 -/, (by first | omega | (rw [if_pos (by omega)] <;> first | rfl | assumption | omega) | (rw [if_neg (by omega)] <;> first | rfl | omega) | (rw [if_pos (by omega), if_pos (by omega)]) | (rw [if_pos (by omega), if_neg (by omega)])) /- post13#3 -/⟩
          ·
            refine wp_if (fun c6 => ?_) (fun c6 => ?_)
            ·
              refine wp_bd3 (s_X7_renew _ _ _) (fun z9 z10 w11 q_X7_renew_2 => ?_)
              try dsimp only at q_X7_renew_2
              obtain ⟨q_X7_renew_2_1, q_X7_renew_2_2, q_X7_renew_2_3⟩ := q_X7_renew_2
              refine wp_some ?_
              try dsimp only
              all_goals exact ⟨(by first | omega | (rw [if_pos (by omega)] <;> first | rfl | assumption | omega) | (rw [if_neg (by omega)] <;> first | rfl | omega) | (rw [if_pos (by omega), if_pos (by omega)]) | (rw [if_pos (by omega), if_neg (by omega)])) /- post1#4 -/, (by first | omega | (rw [if_pos (by omega)] <;> first | rfl | assumption | omega) | (rw [if_neg (by omega)] <;> first | rfl | omega) | (rw [if_pos (by omega), if_pos (by omega)]) | (rw [if_pos (by omega), if_neg (by omega)])) /- post2#4 -/, (by first | omega | (rw [if_pos (by omega)] <;> first | rfl | assumption | omega) | (rw [if_neg (by omega)] <;> first | rfl | omega) | (rw [if_pos (by omega), if_pos (by omega)]) | (rw [if_pos (by omega), if_neg (by omega)])) /- post3#4 -/, (by first | omega | (rw [if_pos (by omega)] <;> first | rfl | assumption | omega) | (rw [if_neg (by omega)] <;> first | rfl | omega) | (rw [if_pos (by omega), if_pos (by omega)]) | (rw [if_pos (by omega), if_neg (by omega)])) /- post4#4 -/, (by first | omega | (rw [if_pos (by omega)] <;> first | rfl | assumption | omega) | (rw [if_neg (by omega)] <;> first | rfl | omega) | (rw [if_pos (by omega), if_pos (by omega)]) | (rw [if_pos (by omega), if_neg (by omega)])) /- post5#4 -/, (by first | omega | (rw [if_pos (by omega)] <;> first | rfl | assumption | omega) | (rw [if_neg (by omega)] <;> first | rfl | omega) | (rw [if_pos (by omega), if_pos (by omega)]) | (rw [if_pos (by omega), if_neg (by omega)])) /- post6#4 -/, (by first | omega | (rw [if_pos (by omega)] <;> first | rfl | assumption | omega) | (rw [if_neg (by omega)] <;> first | rfl | omega) | (rw [if_pos (by omega), if_pos (by omega)]) | (rw [if_pos (by omega), if_neg (by omega)])) /- post7#4 -/, (by first | omega | (rw [if_pos (by omega)] <;> first | rfl | assumption | omega) | (rw [if_neg (by omega)] <;> first | rfl | omega) | (rw [if_pos (by omega), if_pos (by omega)]) | (rw [if_pos (by omega), if_neg (by omega)])) /- post8#4 -/, (by first | omega | (rw [if_pos (by omega)] <;> first | rfl | assumption | omega) | (rw [if_neg (by omega)] <;> first | rfl | omega) | (rw [if_pos (by omega), if_pos (by omega)]) | (rw [if_pos (by omega), if_neg (by omega)])) /- post9#4 -/, (by first | omega | (rw [if_pos (by omega)] <;> first | rfl | assumption | omega) | (rw [if_neg (by omega)] <;> first | rfl | omega) | (rw [if_pos (by omega), if_pos (by omega)]) | (rw [if_pos (by omega), if_neg (by omega)])) /- post10#4 -/, (by first | omega | (rw [if_pos (by omega)] <;> first | rfl | assumption | omega) | (rw [if_neg (by omega)] <;> first | rfl | omega) | (rw [if_pos (by omega), if_pos (by omega)]) | (rw [if_pos (by omega), if_neg (by omega)])) /- post11#4 -/, (by first | omega | (rw [if_pos (by omega)] <;> first | rfl | assumption | omega) | (rw [if_neg (by omega)] <;> first | rfl | omega) | (rw [if_pos (by omega), if_pos (by omega)]) | (rw [if_pos (by omega), if_neg (by omega)])) /- post12#4 -/, (by first | omega | (rw [if_pos (by omega)] <;> first | rfl | assumption | omega) | (rw [if_neg (by omega)] <;> first | rfl | omega) | (rw [if_pos (by omega), if_pos (by omega)]) | (rw [if_pos (by omega), if_neg (by omega)])) /- post13#4 -/⟩
            ·
              refine wp_if (fun c7 => ?_) (fun c7 => ?_)
              ·
                refine wp_bd3 (s_X7_renew _ _ _) (fun z12 z13 w14 q_X7_renew_3 => ?_)
                try dsimp only at q_X7_renew_3
                obtain ⟨q_X7_renew_3_1, q_X7_renew_3_2, q_X7_renew_3_3⟩ := q_X7_renew_3
                refine wp_some ?_
                try dsimp only
                all_goals exact ⟨(by first | omega | (rw [if_pos (by omega)] <;> first | rfl | assumption | omega) | (rw [if_neg (by omega)] <;> first | rfl | omega) | (rw [if_pos (by omega), if_pos (by omega)]) | (rw [if_pos (by omega), if_neg (by omega)])) /- post1#5 -/, (by first | omega | (rw [if_pos (by omega)] <;> first | rfl | assumption | omega) | (rw [if_neg (by omega)] <;> first | rfl | omega) | (rw [if_pos (by omega), if_pos (by omega)]) | (rw [if_pos (by omega), if_neg (by omega)])) /- post2#5 -/, (by first | omega | (rw [if_pos (by omega)] <;> first | rfl | assumption | omega) | (rw [if_neg (by omega)] <;> first | rfl | omega) | (rw [if_pos (by omega), if_pos (by omega)]) | (rw [if_pos (by omega), if_neg (by omega)])) /- post3#5 -/, (by first | omega | (rw [if_pos (by omega)] <;> first | rfl | assumption | omega) | (rw [if_neg (by omega)] <;> first | rfl | omega) | (rw [if_pos (by omega), if_pos (by omega)]) | (rw [if_pos (by omega), if_neg (by omega)])) /- post4#5 -/, (by first | omega | (rw [if_pos (by omega)] <;> first | rfl | assumption | omega) | (rw [if_neg (by omega)] <;> first | rfl | omega) | (rw [if_pos (by omega), if_pos (by omega)]) | (rw [if_pos (by omega), if_neg (by omega)])) /- post5#5 -/, (by first | omega | (rw [if_pos (by omega)] <;> first | rfl | assumption | omega) | (rw [if_neg (by omega)] <;> first | rfl | omega) | (rw [if_pos (by omega), if_pos (by omega)]) | (rw [if_pos (by omega), if_neg (by omega)])) /- post6#5 -/, (by first | omega | (rw [if_pos (by omega)] <;> first | rfl | assumption | omega) | (rw [if_neg (by omega)] <;> first | rfl | omega) | (rw [if_pos (by omega), if_pos (by omega)]) | (rw [if_pos (by omega), if_neg (by omega)])) /- post7#5 -/, (by first | omega | (rw [if_pos (by omega)] <;> first | rfl | assumption | omega) | (rw [if_neg (by omega)] <;> first | rfl | omega) | (rw [if_pos (by omega), if_pos (by omega)]) | (rw [if_pos (by omega), if_neg (by omega)])) /- post8#5 -/, (by first | omega | (rw [if_pos (by omega)] <;> first | rfl | assumption | omega) | (rw [if_neg (by omega)] <;> first | rfl | omega) | (rw [if_pos (by omega), if_pos (by omega)]) | (rw [if_pos (by omega), if_neg (by omega)])) /- post9#5 -/, (by first | omega | (rw [if_pos (by omega)] <;> first | rfl | assumption | omega) | (rw [if_neg (by omega)] <;> first | rfl | omega) | (rw [if_pos (by omega), if_pos (by omega)]) | (rw [if_pos (by omega), if_neg (by omega)])) /- post10#5 -/, (by first | omega | (rw [if_pos (by omega)] <;> first | rfl | assumption | omega) | (rw [if_neg (by omega)] <;> first | rfl | omega) | (rw [if_pos (by omega), if_pos (by omega)]) | (rw [if_pos (by omega), if_neg (by omega)])) /- post11#5 -/, (by first | omega | (rw [if_pos (by omega)] <;> first | rfl | assumption | omega) | (rw [if_neg (by omega)] <;> first | rfl | omega) | (rw [if_pos (by omega), if_pos (by omega)]) | (rw [if_pos (by omega), if_neg (by omega)])) /- post12#5 -/, (by first | omega | (rw [if_pos (by omega)] <;> first | rfl | assumption | omega) | (rw [if_neg (by omega)] <;> first | rfl | omega) | (rw [if_pos (by omega), if_pos (by omega)]) | (rw [if_pos (by omega), if_neg (by omega)])) /- post13#5 -/⟩
              ·
                refine wp_if (fun c8 => ?_) (fun c8 => ?_)
                ·
                  refine wp_bd3 (s_X7_renew _ _ _) (fun z15 z16 w17 q_X7_renew_4 => ?_)
                  try dsimp only at q_X7_renew_4
                  obtain ⟨q_X7_renew_4_1, q_X7_renew_4_2, q_X7_renew_4_3⟩ := q_X7_renew_4
                  refine wp_some ?_
                  try dsimp only
                  all_goals exact ⟨(by first | omega | (rw [if_pos (by omega)] <;> first | rfl | assumption | omega) | (rw [if_neg (by omega)] <;> first | rfl | omega) | (rw [if_pos (by omega), if_pos (by omega)]) | (rw [if_pos (by omega), if_neg (by omega)])) /- post1#6 -/, (by first | omega | (rw [if_pos (by omega)] <;> first | rfl | assumption | omega) | (rw [if_neg (by omega)] <;> first | rfl | omega) | (rw [if_pos (by omega), if_pos (by omega)]) | (rw [if_pos (by omega), if_neg (by omega)])) /- post2#6 -/, (by first | omega | (rw [if_pos (by omega)] <;> first | rfl | assumption | omega) | (rw [if_neg (by omega)] <;> first | rfl | omega) | (rw [if_pos (by omega), if_pos (by omega)]) | (rw [if_pos (by omega), if_neg (by omega)])) /- post3#6 -/, (by first | omega | (rw [if_pos (by omega)] <;> first | rfl | assumption | omega) | (rw [if_neg (by omega)] <;> first | rfl | omega) | (rw [if_pos (by omega), if_pos (by omega)]) | (rw [if_pos (by omega), if_neg (by omega)])) /- post4#6 -/, (by first | omega | (rw [if_pos (by omega)] <;> first | rfl | assumption | omega) | (rw [if_neg (by omega)] <;> first | rfl | omega) | (rw [if_pos (by omega), if_pos (by omega)]) | (rw [if_pos (by omega), if_neg (by omega)])) /- post5#6 -/, (by first | omega | (rw [if_pos (by omega)] <;> first | rfl | assumption | omega) | (rw [if_neg (by omega)] <;> first | rfl | omega) | (rw [if_pos (by omega), if_pos (by omega)]) | (rw [if_pos (by omega), if_neg (by omega)])) /- post6#6 -/, (by first | omega | (rw [if_pos (by omega)] <;> first | rfl | assumption | omega) | (rw [if_neg (by omega)] <;> first | rfl | omega) | (rw [if_pos (by omega), if_pos (by omega)]) | (rw [if_pos (by omega), if_neg (by omega)])) /- post7#6 -/, (by first | omega | (rw [if_pos (by omega)] <;> first | rfl | assumption | omega) | (rw [if_neg (by omega)] <;> first | rfl | omega) | (rw [if_pos (by omega), if_pos (by omega)]) | (rw [if_pos (by omega), if_neg (by omega)])) /- post8#6 -/, (by first | omega | (rw [if_pos (by omega)] <;> first | rfl | assumption | omega) | (rw [if_neg (by omega)] <;> first | rfl | omega) | (rw [if_pos (by omega), if_pos (by omega)]) | (rw [if_pos (by omega), if_neg (by omega)])) /- post9#6 -/, (by first | omega | (rw [if_pos (by omega)] <;> first | rfl | assumption | omega) | (rw [if_neg (by omega)] <;> first | rfl | omega) | (rw [if_pos (by omega), if_pos (by omega)]) | (rw [if_pos (by omega), if_neg (by omega)])) /- post10#6 -/, (by first | omega | (rw [if_pos (by omega)] <;> first | rfl | assumption | omega) | (rw [if_neg (by omega)] <;> first | rfl | omega) | (rw [if_pos (by omega), if_pos (by omega)]) | (rw [if_pos (by omega), if_neg (by omega)])) /- post11#6 -/, (by first | omega | (rw [if_pos (by omega)] <;> first | rfl | assumption | omega) | (rw [if_neg (by omega)] <;> first | rfl | omega) | (rw [if_pos (by omega), if_pos (by omega)]) | (rw [if_pos (by omega), if_neg (by omega)])) /- post12#6 -/, (by first | omega | (rw [if_pos (by omega)] <;> first | rfl | assumption | omega) | (rw [if_neg (by omega)] <;> first | rfl | omega) | (rw [if_pos (by omega), if_pos (by omega)]) | (rw [if_pos (by omega), if_neg (by omega)])) /- post13#6 -/⟩
                ·
                  exfalso
                  exact (by first | omega | (rw [if_pos (by omega)] <;> first | rfl | assumption | omega) | (rw [if_neg (by omega)] <;> first | rfl | omega) | (rw [if_pos (by omega), if_pos (by omega)]) | (rw [if_pos (by omega), if_neg (by omega)])) /- none#1 -/
        ·
          refine wp_some ?_
          try dsimp only
          all_goals exact ⟨(by first | omega | (rw [if_pos (by omega)] <;> first | rfl | assumption | omega) | (rw [if_neg (by omega)] <;> first | rfl | omega) | (rw [if_pos (by omega), if_pos (by omega)]) | (rw [if_pos (by omega), if_neg (by omega)])) /- post1#7 -/, (by first | omega | (rw [if_pos (by omega)] <;> first | rfl | assumption | omega) | (rw [if_neg (by omega)] <;> first | rfl | omega) | (rw [if_pos (by omega), if_pos (by omega)]) | (rw [if_pos (by omega), if_neg (by omega)])) /- post2#7 -/, (by first | omega | (rw [if_pos (by omega)] <;> first | rfl | assumption | omega) | (rw [if_neg (by omega)] <;> first | rfl | omega) | (rw [if_pos (by omega), if_pos (by omega)]) | (rw [if_pos (by omega), if_neg (by omega)])) /- post3#7 -/, (by first | omega | (rw [if_pos (by omega)] <;> first | rfl | assumption | omega) | (rw [if_neg (by omega)] <;> first | rfl | omega) | (rw [if_pos (by omega), if_pos (by omega)]) | (rw [if_pos (by omega), if_neg (by omega)])) /- post4#7 -/, (by first | omega | (rw [if_pos (by omega)] <;> first | rfl | assumption | omega) | (rw [if_neg (by omega)] <;> first | rfl | omega) | (rw [if_pos (by omega), if_pos (by omega)]) | (rw [if_pos (by omega), if_neg (by omega)])) /- post5#7 -/, (by first | omega | (rw [if_pos (by omega)] <;> first | rfl | assumption | omega) | (rw [if_neg (by omega)] <;> first | rfl | omega) | (rw [if_pos (by omega), if_pos (by omega)]) | (rw [if_pos (by omega), if_neg (by omega)])) /- post6#7 -/, (by first | omega | (rw [if_pos (by omega)] <;> first | rfl | assumption | omega) | (rw [if_neg (by omega)] <;> first | rfl | omega) | (rw [if_pos (by omega), if_pos (by omega)]) | (rw [if_pos (by omega), if_neg (by omega)])) /- post7#7 -/, (by first | omega | (rw [if_pos (by omega)] <;> first | rfl | assumption | omega) | (rw [if_neg (by omega)] <;> first | rfl | omega) | (rw [if_pos (by omega), if_pos (by omega)]) | (rw [if_pos (by omega), if_neg (by omega)])) /- post8#7 -/, (by first | omega | (rw [if_pos (by omega)] <;> first | rfl | assumption | omega) | (rw [if_neg (by omega)] <;> first | rfl | omega) | (rw [if_pos (by omega), if_pos (by omega)]) | (rw [if_pos (by omega), if_neg (by omega)])) /- post9#7 -/, (by first | omega | (rw [if_pos (by omega)] <;> first | rfl | assumption | omega) | (rw [if_neg (by omega)] <;> first | rfl | omega) | (rw [if_pos (by omega), if_pos (by omega)]) | (rw [if_pos (by omega), if_neg (by omega)])) /- post10#7 -/, (by first | omega | (rw [if_pos (by omega)] <;> first | rfl | assumption | omega) | (rw [if_neg (by omega)] <;> first | rfl | omega) | (rw [if_pos (by omega), if_pos (by omega)]) | (rw [if_pos (by omega), if_neg (by omega)])) /- post11#7 -/, (by first | omega | (rw [if_pos (by omega)] <;> first | rfl | assumption | omega) | (rw [if_neg (by omega)] <;> first | rfl | omega) | (rw [if_pos (by omega), if_pos (by omega)]) | (rw [if_pos (by omega), if_neg (by omega)])) /- post12#7 -/, (by first | omega | (rw [if_pos (by omega)] <;> first | rfl | assumption | omega) | (rw [if_neg (by omega)] <;> first | rfl | omega) | (rw [if_pos (by omega), if_pos (by omega)]) | (rw [if_pos (by omega), if_neg (by omega)])) /- post13#7 -/⟩
      ·
        refine wp_some ?_
        try dsimp only
        all_goals exact ⟨(by first | omega | (rw [if_pos (by omega)] <;> first | rfl | assumption | omega) | (rw [if_neg (by omega)] <;> first | rfl | omega) | (rw [if_pos (by omega), if_pos (by omega)]) | (rw [if_pos (by omega), if_neg (by omega)])) /- post1#8 -/, (by first | omega | (rw [if_pos (by omega)] <;> first | rfl | assumption | omega) | (rw [if_neg (by omega)] <;> first | rfl | omega) | (rw [if_pos (by omega), if_pos (by omega)]) | (rw [if_pos (by omega), if_neg (by omega)])) /- post2#8 -/, (by first | omega | (rw [if_pos (by omega)] <;> first | rfl | assumption | omega) | (rw [if_neg (by omega)] <;> first | rfl | omega) | (rw [if_pos (by omega), if_pos (by omega)]) | (rw [if_pos (by omega), if_neg (by omega)])) /- post3#8 -/, (by first | omega | (rw [if_pos (by omega)] <;> first | rfl | assumption | omega) | (rw [if_neg (by omega)] <;> first | rfl | omega) | (rw [if_pos (by omega), if_pos (by omega)]) | (rw [if_pos (by omega), if_neg (by omega)])) /- post4#8 -/, (by first | omega | (rw [if_pos (by omega)] <;> first | rfl | assumption | omega) | (rw [if_neg (by omega)] <;> first | rfl | omega) | (rw [if_pos (by omega), if_pos (by omega)]) | (rw [if_pos (by omega), if_neg (by omega)])) /- post5#8 -/, (by first | omega | (rw [if_pos (by omega)] <;> first | rfl | assumption | omega) | (rw [if_neg (by omega)] <;> first | rfl | omega) | (rw [if_pos (by omega), if_pos (by omega)]) | (rw [if_pos (by omega), if_neg (by omega)])) /- post6#8 -/, (by first | omega | (rw [if_pos (by omega)] <;> first | rfl | assumption | omega) | (rw [if_neg (by omega)] <;> first | rfl | omega) | (rw [if_pos (by omega), if_pos (by omega)]) | (rw [if_pos (by omega), if_neg (by omega)])) /- post7#8 -/, (by first | omega | (rw [if_pos (by omega)] <;> first | rfl | assumption | omega) | (rw [if_neg (by omega)] <;> first | rfl | omega) | (rw [if_pos (by omega), if_pos (by omega)]) | (rw [if_pos (by omega), if_neg (by omega)])) /- post8#8 -/, (by first | omega | (rw [if_pos (by omega)] <;> first | rfl | assumption | omega) | (rw [if_neg (by omega)] <;> first | rfl | omega) | (rw [if_pos (by omega), if_pos (by omega)]) | (rw [if_pos (by omega), if_neg (by omega)])) /- post9#8 -/, (by first | omega | (rw [if_pos (by omega)] <;> first | rfl | assumption | omega) | (rw [if_neg (by omega)] <;> first | rfl | omega) | (rw [if_pos (by omega), if_pos (by omega)]) | (rw [if_pos (by omega), if_neg (by omega)])) /- post10#8 -/, (by first | omega | (rw [if_pos (by omega)] <;> first | rfl | assumption | omega) | (rw [if_neg (by omega)] <;> first | rfl | omega) | (rw [if_pos (by omega), if_pos (by omega)]) | (rw [if_pos (by omega), if_neg (by omega)])) /- post11#8 -/, (by first | omega | (rw [if_pos (by omega)] <;> first | rfl | assumption | omega) | (rw [if_neg (by omega)] <;> first | rfl | omega) | (rw [if_pos (by omega), if_pos (by omega)]) | (rw [if_pos (by omega), if_neg (by omega)])) /- post12#8 -/, (by first | omega | (rw [if_pos (by omega)] <;> first | rfl | assumption | omega) | (rw [if_neg (by omega)] <;> first | rfl | omega) | (rw [if_pos (by omega), if_pos (by omega)]) | (rw [if_pos (by omega), if_neg (by omega)])) /- post13#8 -/⟩

set_option maxHeartbeats 4000000 in
theorem s_X11_lay (i_p0_sheets_0_lane : Int) (i_p0_sheets_0_size : Int) (v_p0_sheets_0_cells : (Int → Int)) (i_p0_sheets_1_lane : Int) (i_p0_sheets_1_size : Int) (v_p0_sheets_1_cells : (Int → Int)) (i_p0_sheets_2_lane : Int) (i_p0_sheets_2_size : Int) (v_p0_sheets_2_cells : (Int → Int)) (i_p0_sheets_3_lane : Int) (i_p0_sheets_3_size : Int) (v_p0_sheets_3_cells : (Int → Int)) (x1 : Int) (x2 : Int) (x3 : Int) (h1 : -2147483648 ≤ x1) (h2 : x1 < 2147483648) (h3 : -2147483648 ≤ x2) (h4 : x2 < 2147483648) (h5 : -2147483648 ≤ x3) (h6 : x3 < 2147483648) (h7 : -4 ≤ i_p0_sheets_0_lane) (h8 : i_p0_sheets_0_lane ≤ 2) (h9 : 0 ≤ i_p0_sheets_0_size) (h10 : i_p0_sheets_0_size ≤ 40) (h11 : -4 ≤ i_p0_sheets_1_lane) (h12 : i_p0_sheets_1_lane ≤ 2) (h13 : 0 ≤ i_p0_sheets_1_size) (h14 : i_p0_sheets_1_size ≤ 40) (h15 : -4 ≤ i_p0_sheets_2_lane) (h16 : i_p0_sheets_2_lane ≤ 2) (h17 : 0 ≤ i_p0_sheets_2_size) (h18 : i_p0_sheets_2_size ≤ 40) (h19 : -4 ≤ i_p0_sheets_3_lane) (h20 : i_p0_sheets_3_lane ≤ 2) (h21 : 0 ≤ i_p0_sheets_3_size) (h22 : i_p0_sheets_3_size ≤ 40) : wp (f_X11_lay i_p0_sheets_0_lane i_p0_sheets_0_size v_p0_sheets_0_cells i_p0_sheets_1_lane i_p0_sheets_1_size v_p0_sheets_1_cells i_p0_sheets_2_lane i_p0_sheets_2_size v_p0_sheets_2_cells i_p0_sheets_3_lane i_p0_sheets_3_size v_p0_sheets_3_cells x1 x2 x3) (fun o => (x1 = 0 → o.1 = (if i_p0_sheets_0_lane = -4 then -11 else if 0 ≤ x2 ∧ x2 < i_p0_sheets_0_size then 1 else -12)) ∧ (o.2.1 = if x1 = 0 ∧ ¬ i_p0_sheets_0_lane = -4 ∧ 0 ≤ x2 ∧ x2 < i_p0_sheets_0_size then z_up v_p0_sheets_0_cells x2 (if i_p0_sheets_0_lane = 0 then z_i2b x3 else if i_p0_sheets_0_lane = 1 then z_i2s x3 else x3) else v_p0_sheets_0_cells) ∧ (x1 = 1 → o.1 = (if i_p0_sheets_1_lane = -4 then -11 else if 0 ≤ x2 ∧ x2 < i_p0_sheets_1_size then 1 else -12)) ∧ (o.2.2.1 = if x1 = 1 ∧ ¬ i_p0_sheets_1_lane = -4 ∧ 0 ≤ x2 ∧ x2 < i_p0_sheets_1_size then z_up v_p0_sheets_1_cells x2 (if i_p0_sheets_1_lane = 0 then z_i2b x3 else if i_p0_sheets_1_lane = 1 then z_i2s x3 else x3) else v_p0_sheets_1_cells) ∧ (x1 = 2 → o.1 = (if i_p0_sheets_2_lane = -4 then -11 else if 0 ≤ x2 ∧ x2 < i_p0_sheets_2_size then 1 else -12)) ∧ (o.2.2.2.1 = if x1 = 2 ∧ ¬ i_p0_sheets_2_lane = -4 ∧ 0 ≤ x2 ∧ x2 < i_p0_sheets_2_size then z_up v_p0_sheets_2_cells x2 (if i_p0_sheets_2_lane = 0 then z_i2b x3 else if i_p0_sheets_2_lane = 1 then z_i2s x3 else x3) else v_p0_sheets_2_cells) ∧ (x1 = 3 → o.1 = (if i_p0_sheets_3_lane = -4 then -11 else if 0 ≤ x2 ∧ x2 < i_p0_sheets_3_size then 1 else -12)) ∧ (o.2.2.2.2 = if x1 = 3 ∧ ¬ i_p0_sheets_3_lane = -4 ∧ 0 ≤ x2 ∧ x2 < i_p0_sheets_3_size then z_up v_p0_sheets_3_cells x2 (if i_p0_sheets_3_lane = 0 then z_i2b x3 else if i_p0_sheets_3_lane = 1 then z_i2s x3 else x3) else v_p0_sheets_3_cells) ∧ (¬ (0 ≤ x1 ∧ x1 < 4) → o.1 = -1)) := by
  unfold f_X11_lay
  refine wp_bd1 (s_X11_isSheet _ (by first | omega | grind) /- pre X11_isSheet.1#1 -/ (by first | omega | grind) /- pre X11_isSheet.2#1 -/) (fun z1 q_X11_isSheet_1 => ?_)
  try dsimp only at q_X11_isSheet_1
  refine wp_ck (z_r32_i.mpr ⟨(by first | omega | grind) /- z_r32.lo z1#1 -/, (by first | omega | grind) /- z_r32.hi z1#1 -/⟩) ?_
  refine wp_if (fun c1 => ?_) (fun c1 => ?_)
  ·
    have hk : ¬ (0 ≤ x1 ∧ x1 < 4) := by split at q_X11_isSheet_1 <;> omega
    clear q_X11_isSheet_1
    refine wp_some ?_
    try dsimp only
    all_goals exact ⟨(by first | omega | grind) /- post1#1 -/, (by first | omega | grind) /- post2#1 -/, (by first | omega | grind) /- post3#1 -/, (by first | omega | grind) /- post4#1 -/, (by first | omega | grind) /- post5#1 -/, (by first | omega | grind) /- post6#1 -/, (by first | omega | grind) /- post7#1 -/, (by first | omega | grind) /- post8#1 -/, (by first | omega | grind) /- post9#1 -/⟩
  ·
    have hk : 0 ≤ x1 ∧ x1 < 4 := by split at q_X11_isSheet_1 <;> omega
    clear q_X11_isSheet_1
    refine wp_ck (z_ix_i.mpr ⟨⟨(by first | omega | grind) /- ix.lo x1#1 -/, (by first | omega | grind) /- ix.hi x1#1 -/⟩, (by first | omega | grind) /- ix.big x1#1 -/⟩) ?_
    refine wp_if (fun c2 => ?_) (fun c2 => ?_)
    ·
      refine wp_bd1 (s_X7_faultAt _ _ _ _ (by first | omega | grind) /- pre X7_faultAt.1#1 -/ (by first | omega | grind) /- pre X7_faultAt.2#1 -/ (by first | omega | grind) /- pre X7_faultAt.3#1 -/ (by first | omega | grind) /- pre X7_faultAt.4#1 -/ (by first | omega | grind) /- pre X7_faultAt.5#1 -/ (by first | omega | grind) /- pre X7_faultAt.6#1 -/ (by first | omega | grind) /- pre X7_faultAt.7#1 -/ (by first | omega | grind) /- pre X7_faultAt.8#1 -/) (fun z3 q_X7_faultAt_1 => ?_)
      try dsimp only at q_X7_faultAt_1
      have hfa : 0 ≤ z3 ∧ z3 ≤ 3 := by rw [q_X7_faultAt_1]; split; omega; split; split <;> omega; omega
      refine wp_bnd ?_
      refine wp_ck (z_r32_i.mpr ⟨(by first | omega | grind) /- z_r32.lo z4#1 -/, (by first | omega | grind) /- z_r32.hi z4#1 -/⟩) ?_
      refine wp_if (fun c3 => ?_) (fun c3 => ?_)
      ·
        refine wp_bd1 (s_X7_put _ _ _ _ (by first | omega | grind) /- pre X7_put.1#1 -/ (by first | omega | grind) /- pre X7_put.2#1 -/ (by first | omega | grind) /- pre X7_put.3#1 -/ (by first | omega | grind) /- pre X7_put.4#1 -/) (fun w6 q_X7_put_1 => ?_)
        try dsimp only at q_X7_put_1
        refine wp_some ?_
        try dsimp only
        all_goals exact ⟨(by first | omega | grind) /- post1#2 -/, (by first | omega | grind) /- post2#2 -/, (by first | omega | grind) /- post3#2 -/, (by first | omega | grind) /- post4#2 -/, (by first | omega | grind) /- post5#2 -/, (by first | omega | grind) /- post6#2 -/, (by first | omega | grind) /- post7#2 -/, (by first | omega | grind) /- post8#2 -/, (by first | omega | grind) /- post9#2 -/⟩
      ·
        refine wp_some ?_
        try dsimp only
        all_goals exact ⟨(by first | omega | grind) /- post1#3 -/, (by first | omega | grind) /- post2#3 -/, (by first | omega | grind) /- post3#3 -/, (by first | omega | grind) /- post4#3 -/, (by first | omega | grind) /- post5#3 -/, (by first | omega | grind) /- post6#3 -/, (by first | omega | grind) /- post7#3 -/, (by first | omega | grind) /- post8#3 -/, (by first | omega | grind) /- post9#3 -/⟩
    ·
      refine wp_if (fun c4 => ?_) (fun c4 => ?_)
      ·
        refine wp_bd1 (s_X7_faultAt _ _ _ _ (by first | omega | grind) /- pre X7_faultAt.1#2 -/ (by first | omega | grind) /- pre X7_faultAt.2#2 -/ (by first | omega | grind) /- pre X7_faultAt.3#2 -/ (by first | omega | grind) /- pre X7_faultAt.4#2 -/ (by first | omega | grind) /- pre X7_faultAt.5#2 -/ (by first | omega | grind) /- pre X7_faultAt.6#2 -/ (by first | omega | grind) /- pre X7_faultAt.7#2 -/ (by first | omega | grind) /- pre X7_faultAt.8#2 -/) (fun z7 q_X7_faultAt_2 => ?_)
        try dsimp only at q_X7_faultAt_2
        have hfa : 0 ≤ z7 ∧ z7 ≤ 3 := by rw [q_X7_faultAt_2]; split; omega; split; split <;> omega; omega
        refine wp_bnd ?_
        refine wp_ck (z_r32_i.mpr ⟨(by first | omega | grind) /- z_r32.lo z8#1 -/, (by first | omega | grind) /- z_r32.hi z8#1 -/⟩) ?_
        refine wp_if (fun c5 => ?_) (fun c5 => ?_)
        ·
          refine wp_bd1 (s_X7_put _ _ _ _ (by first | omega | grind) /- pre X7_put.1#2 -/ (by first | omega | grind) /- pre X7_put.2#2 -/ (by first | omega | grind) /- pre X7_put.3#2 -/ (by first | omega | grind) /- pre X7_put.4#2 -/) (fun w10 q_X7_put_2 => ?_)
          try dsimp only at q_X7_put_2
          refine wp_some ?_
          try dsimp only
          all_goals exact ⟨(by first | omega | grind) /- post1#4 -/, (by first | omega | grind) /- post2#4 -/, (by first | omega | grind) /- post3#4 -/, (by first | omega | grind) /- post4#4 -/, (by first | omega | grind) /- post5#4 -/, (by first | omega | grind) /- post6#4 -/, (by first | omega | grind) /- post7#4 -/, (by first | omega | grind) /- post8#4 -/, (by first | omega | grind) /- post9#4 -/⟩
        ·
          refine wp_some ?_
          try dsimp only
          all_goals exact ⟨(by first | omega | grind) /- post1#5 -/, (by first | omega | grind) /- post2#5 -/, (by first | omega | grind) /- post3#5 -/, (by first | omega | grind) /- post4#5 -/, (by first | omega | grind) /- post5#5 -/, (by first | omega | grind) /- post6#5 -/, (by first | omega | grind) /- post7#5 -/, (by first | omega | grind) /- post8#5 -/, (by first | omega | grind) /- post9#5 -/⟩
      ·
        refine wp_if (fun c6 => ?_) (fun c6 => ?_)
        ·
          refine wp_bd1 (s_X7_faultAt _ _ _ _ (by first | omega | grind) /- pre X7_faultAt.1#3 -/ (by first | omega | grind) /- pre X7_faultAt.2#3 -/ (by first | omega | grind) /- pre X7_faultAt.3#3 -/ (by first | omega | grind) /- pre X7_faultAt.4#3 -/ (by first | omega | grind) /- pre X7_faultAt.5#3 -/ (by first | omega | grind) /- pre X7_faultAt.6#3 -/ (by first | omega | grind) /- pre X7_faultAt.7#3 -/ (by first | omega | grind) /- pre X7_faultAt.8#3 -/) (fun z11 q_X7_faultAt_3 => ?_)
          try dsimp only at q_X7_faultAt_3
          have hfa : 0 ≤ z11 ∧ z11 ≤ 3 := by rw [q_X7_faultAt_3]; split; omega; split; split <;> omega; omega
          refine wp_bnd ?_
          refine wp_ck (z_r32_i.mpr ⟨(by first | omega | grind) /- z_r32.lo z12#1 -/, (by first | omega | grind) /- z_r32.hi z12#1 -/⟩) ?_
          refine wp_if (fun c7 => ?_) (fun c7 => ?_)
          ·
            refine wp_bd1 (s_X7_put _ _ _ _ (by first | omega | grind) /- pre X7_put.1#3 -/ (by first | omega | grind) /- pre X7_put.2#3 -/ (by first | omega | grind) /- pre X7_put.3#3 -/ (by first | omega | grind) /- pre X7_put.4#3 -/) (fun w14 q_X7_put_3 => ?_)
            try dsimp only at q_X7_put_3
            refine wp_some ?_
            try dsimp only
            all_goals exact ⟨(by first | omega | grind) /- post1#6 -/, (by first | omega | grind) /- post2#6 -/, (by first | omega | grind) /- post3#6 -/, (by first | omega | grind) /- post4#6 -/, (by first | omega | grind) /- post5#6 -/, (by first | omega | grind) /- post6#6 -/, (by first | omega | grind) /- post7#6 -/, (by first | omega | grind) /- post8#6 -/, (by first | omega | grind) /- post9#6 -/⟩
          ·
            refine wp_some ?_
            try dsimp only
            all_goals exact ⟨(by first | omega | grind) /- post1#7 -/, (by first | omega | grind) /- post2#7 -/, (by first | omega | grind) /- post3#7 -/, (by first | omega | grind) /- post4#7 -/, (by first | omega | grind) /- post5#7 -/, (by first | omega | grind) /- post6#7 -/, (by first | omega | grind) /- post7#7 -/, (by first | omega | grind) /- post8#7 -/, (by first | omega | grind) /- post9#7 -/⟩
        ·
          refine wp_if (fun c8 => ?_) (fun c8 => ?_)
          ·
            refine wp_bd1 (s_X7_faultAt _ _ _ _ (by first | omega | grind) /- pre X7_faultAt.1#4 -/ (by first | omega | grind) /- pre X7_faultAt.2#4 -/ (by first | omega | grind) /- pre X7_faultAt.3#4 -/ (by first | omega | grind) /- pre X7_faultAt.4#4 -/ (by first | omega | grind) /- pre X7_faultAt.5#4 -/ (by first | omega | grind) /- pre X7_faultAt.6#4 -/ (by first | omega | grind) /- pre X7_faultAt.7#4 -/ (by first | omega | grind) /- pre X7_faultAt.8#4 -/) (fun z15 q_X7_faultAt_4 => ?_)
            try dsimp only at q_X7_faultAt_4
            have hfa : 0 ≤ z15 ∧ z15 ≤ 3 := by rw [q_X7_faultAt_4]; split; omega; split; split <;> omega; omega
            refine wp_bnd ?_
            refine wp_ck (z_r32_i.mpr ⟨(by first | omega | grind) /- z_r32.lo z16#1 -/, (by first | omega | grind) /- z_r32.hi z16#1 -/⟩) ?_
            refine wp_if (fun c9 => ?_) (fun c9 => ?_)
            ·
              refine wp_bd1 (s_X7_put _ _ _ _ (by first | omega | grind) /- pre X7_put.1#4 -/ (by first | omega | grind) /- pre X7_put.2#4 -/ (by first | omega | grind) /- pre X7_put.3#4 -/ (by first | omega | grind) /- pre X7_put.4#4 -/) (fun w18 q_X7_put_4 => ?_)
              try dsimp only at q_X7_put_4
              refine wp_some ?_
              try dsimp only
              all_goals exact ⟨(by first | omega | grind) /- post1#8 -/, (by first | omega | grind) /- post2#8 -/, (by first | omega | grind) /- post3#8 -/, (by first | omega | grind) /- post4#8 -/, (by first | omega | grind) /- post5#8 -/, (by first | omega | grind) /- post6#8 -/, (by first | omega | grind) /- post7#8 -/, (by first | omega | grind) /- post8#8 -/, (by first | omega | grind) /- post9#8 -/⟩
            ·
              refine wp_some ?_
              try dsimp only
              all_goals exact ⟨(by first | omega | grind) /- post1#9 -/, (by first | omega | grind) /- post2#9 -/, (by first | omega | grind) /- post3#9 -/, (by first | omega | grind) /- post4#9 -/, (by first | omega | grind) /- post5#9 -/, (by first | omega | grind) /- post6#9 -/, (by first | omega | grind) /- post7#9 -/, (by first | omega | grind) /- post8#9 -/, (by first | omega | grind) /- post9#9 -/⟩
          ·
            exfalso
            exact (by first | omega | grind) /- none#1 -/

set_option maxHeartbeats 1000000 in
theorem s_X11_canPass (i_p0_rules_stirs : Int) (i_p0_state_days : Int) (x1 : Int) (x2 : Int) (h1 : -2147483648 ≤ x1) (h2 : x1 < 2147483648) (h3 : 0 ≤ i_p0_rules_stirs) (h4 : i_p0_rules_stirs ≤ 5) (h5 : 0 ≤ i_p0_state_days) (h6 : i_p0_state_days ≤ 999) (h7 : 0 ≤ x2) (h8 : x2 ≤ 20) : wp (f_X11_canPass i_p0_rules_stirs i_p0_state_days x1 x2) (fun o => (o = if (0 ≤ x1 ∧ x1 < i_p0_rules_stirs) ∧ i_p0_state_days + x2 < 999 then 1 else 0)) := by
  unfold f_X11_canPass
  refine wp_bd1 (s_X6_hasStir _ _ (by first | omega | grind) /- pre X6_hasStir.1#1 -/ (by first | omega | grind) /- pre X6_hasStir.2#1 -/ (by first | omega | grind) /- pre X6_hasStir.3#1 -/ (by first | omega | grind) /- pre X6_hasStir.4#1 -/) (fun z1 q_X6_hasStir_1 => ?_)
  try dsimp only at q_X6_hasStir_1
  refine wp_ck (z_r32_i.mpr ⟨(by first | omega | grind) /- z_r32.lo z1#1 -/, (by first | omega | grind) /- z_r32.hi z1#1 -/⟩) ?_
  refine wp_if (fun c1 => ?_) (fun c1 => ?_)
  ·
    refine wp_some ?_
    try dsimp only
    all_goals exact (by first | omega | grind) /- post1#1 -/
  ·
    refine wp_ck (z_r32_i.mpr ⟨(by first | omega | grind) /- z_r32.lo (i_p0_state_days + x2)#1 -/, (by first | omega | grind) /- z_r32.hi (i_p0_state_days + x2)#1 -/⟩) ?_
    refine wp_if (fun c2 => ?_) (fun c2 => ?_)
    ·
      refine wp_some ?_
      try dsimp only
      all_goals exact (by first | omega | grind) /- post1#2 -/
    ·
      refine wp_some ?_
      try dsimp only
      all_goals exact (by first | omega | grind) /- post1#3 -/

set_option maxHeartbeats 8000000 in
theorem s_X11_read (i_p0_latestTear : Int) (i_p0_rules_seats : Int) (i_p0_rules_stirs : Int) (v_p0_rules_after : (Int → Int)) (i_p0_state_bone : Int) (i_p0_state_king : Int) (i_p0_state_days : Int) (v_p0_state_pieces : (Int → Int)) (v_p0_state_friends : (Int → Int)) (v_p0_state_eaten : (Int → Int)) (v_p0_kitchen_places : (Int → Int)) (v_p0_kitchen_holders : (Int → Int)) (v_p0_kitchen_stirred : (Int → Int)) (i_p0_sheets_0_lane : Int) (i_p0_sheets_0_size : Int) (v_p0_sheets_0_cells : (Int → Int)) (i_p0_sheets_1_lane : Int) (i_p0_sheets_1_size : Int) (v_p0_sheets_1_cells : (Int → Int)) (i_p0_sheets_2_lane : Int) (i_p0_sheets_2_size : Int) (v_p0_sheets_2_cells : (Int → Int)) (i_p0_sheets_3_lane : Int) (i_p0_sheets_3_size : Int) (v_p0_sheets_3_cells : (Int → Int)) (x1 : Int) (x2 : Int) (x3 : Int) (x4 : Int) (h1 : -2147483648 ≤ x1) (h2 : x1 < 2147483648) (h3 : -2147483648 ≤ x2) (h4 : x2 < 2147483648) (h5 : -2147483648 ≤ x3) (h6 : x3 < 2147483648) (h7 : -2147483648 ≤ x4) (h8 : x4 < 2147483648) (h9 : 2 ≤ i_p0_rules_seats) (h10 : i_p0_rules_seats ≤ 7) (h11 : 0 ≤ i_p0_rules_stirs) (h12 : i_p0_rules_stirs ≤ 5) (h13 : -4 ≤ i_p0_sheets_0_lane) (h14 : i_p0_sheets_0_lane ≤ 2) (h15 : 0 ≤ i_p0_sheets_0_size) (h16 : i_p0_sheets_0_size ≤ 40) (h17 : -4 ≤ i_p0_sheets_1_lane) (h18 : i_p0_sheets_1_lane ≤ 2) (h19 : 0 ≤ i_p0_sheets_1_size) (h20 : i_p0_sheets_1_size ≤ 40) (h21 : -4 ≤ i_p0_sheets_2_lane) (h22 : i_p0_sheets_2_lane ≤ 2) (h23 : 0 ≤ i_p0_sheets_2_size) (h24 : i_p0_sheets_2_size ≤ 40) (h25 : -4 ≤ i_p0_sheets_3_lane) (h26 : i_p0_sheets_3_lane ≤ 2) (h27 : 0 ≤ i_p0_sheets_3_size) (h28 : i_p0_sheets_3_size ≤ 40) (h29 : rows i_p0_rules_seats i_p0_rules_stirs v_p0_rules_after) (h30 : okD i_p0_rules_seats i_p0_state_bone i_p0_state_king i_p0_state_days v_p0_state_pieces v_p0_state_eaten) (h31 : 0 ≤ i_p0_latestTear) (h32 : i_p0_latestTear ≤ 3) (h33 : ∀ j, 0 ≤ j → j < 40 → -2147483648 ≤ v_p0_sheets_0_cells j ∧ v_p0_sheets_0_cells j < 2147483648) (h34 : ∀ j, 0 ≤ j → j < 40 → -2147483648 ≤ v_p0_sheets_1_cells j ∧ v_p0_sheets_1_cells j < 2147483648) (h35 : ∀ j, 0 ≤ j → j < 40 → -2147483648 ≤ v_p0_sheets_2_cells j ∧ v_p0_sheets_2_cells j < 2147483648) (h36 : ∀ j, 0 ≤ j → j < 40 → -2147483648 ≤ v_p0_sheets_3_cells j ∧ v_p0_sheets_3_cells j < 2147483648) : wp (f_X11_read i_p0_latestTear i_p0_rules_seats i_p0_rules_stirs v_p0_rules_after i_p0_state_bone i_p0_state_king i_p0_state_days v_p0_state_pieces v_p0_state_friends v_p0_state_eaten v_p0_kitchen_places v_p0_kitchen_holders v_p0_kitchen_stirred i_p0_sheets_0_lane i_p0_sheets_0_size v_p0_sheets_0_cells i_p0_sheets_1_lane i_p0_sheets_1_size v_p0_sheets_1_cells i_p0_sheets_2_lane i_p0_sheets_2_size v_p0_sheets_2_cells i_p0_sheets_3_lane i_p0_sheets_3_size v_p0_sheets_3_cells x1 x2 x3 x4) (fun o => (¬ ((0 ≤ x1 ∧ x1 < 4) ∧ (0 ≤ x2 ∧ x2 < 3) ∧ 0 ≤ x4 ∧ x4 ≤ 20) → o.1 = -1 ∧ o.2.1 = i_p0_latestTear ∧ o.2.2.1 = i_p0_state_bone ∧ o.2.2.2.1 = i_p0_state_king ∧ o.2.2.2.2.1 = i_p0_state_days ∧ o.2.2.2.2.2.1 = v_p0_state_pieces ∧ o.2.2.2.2.2.2.1 = v_p0_state_eaten) ∧ (((0 ≤ x2 ∧ x2 < 3) ∧ 0 ≤ x4 ∧ x4 ≤ 20) → x1 = 0 → readP i_p0_rules_seats i_p0_rules_stirs v_p0_rules_after v_p0_state_friends i_p0_sheets_0_lane i_p0_sheets_0_size v_p0_sheets_0_cells x2 x3 x4 i_p0_latestTear i_p0_state_bone i_p0_state_king i_p0_state_days v_p0_state_pieces v_p0_state_eaten o.1 o.2.1 o.2.2.1 o.2.2.2.1 o.2.2.2.2.1 o.2.2.2.2.2.1 o.2.2.2.2.2.2.1) ∧ (((0 ≤ x2 ∧ x2 < 3) ∧ 0 ≤ x4 ∧ x4 ≤ 20) → x1 = 1 → readP i_p0_rules_seats i_p0_rules_stirs v_p0_rules_after v_p0_state_friends i_p0_sheets_1_lane i_p0_sheets_1_size v_p0_sheets_1_cells x2 x3 x4 i_p0_latestTear i_p0_state_bone i_p0_state_king i_p0_state_days v_p0_state_pieces v_p0_state_eaten o.1 o.2.1 o.2.2.1 o.2.2.2.1 o.2.2.2.2.1 o.2.2.2.2.2.1 o.2.2.2.2.2.2.1) ∧ (((0 ≤ x2 ∧ x2 < 3) ∧ 0 ≤ x4 ∧ x4 ≤ 20) → x1 = 2 → readP i_p0_rules_seats i_p0_rules_stirs v_p0_rules_after v_p0_state_friends i_p0_sheets_2_lane i_p0_sheets_2_size v_p0_sheets_2_cells x2 x3 x4 i_p0_latestTear i_p0_state_bone i_p0_state_king i_p0_state_days v_p0_state_pieces v_p0_state_eaten o.1 o.2.1 o.2.2.1 o.2.2.2.1 o.2.2.2.2.1 o.2.2.2.2.2.1 o.2.2.2.2.2.2.1) ∧ (((0 ≤ x2 ∧ x2 < 3) ∧ 0 ≤ x4 ∧ x4 ≤ 20) → x1 = 3 → readP i_p0_rules_seats i_p0_rules_stirs v_p0_rules_after v_p0_state_friends i_p0_sheets_3_lane i_p0_sheets_3_size v_p0_sheets_3_cells x2 x3 x4 i_p0_latestTear i_p0_state_bone i_p0_state_king i_p0_state_days v_p0_state_pieces v_p0_state_eaten o.1 o.2.1 o.2.2.1 o.2.2.2.1 o.2.2.2.2.1 o.2.2.2.2.2.1 o.2.2.2.2.2.2.1) ∧ (okD i_p0_rules_seats o.2.2.1 o.2.2.2.1 o.2.2.2.2.1 o.2.2.2.2.2.1 o.2.2.2.2.2.2.1) ∧ (0 ≤ o.2.1 ∧ o.2.1 ≤ 3) ∧ (-40 ≤ o.1 ∧ o.1 ≤ 20)) := by
  unfold f_X11_read
  have hd3 := h30.2.2.1
  refine wp_bd1 (s_X11_isSheet _ (by omega) /- pre X11_isSheet.1#1 -/ (by omega) /- pre X11_isSheet.2#1 -/) (fun z1 q_X11_isSheet_1 => ?_)
  try dsimp only at q_X11_isSheet_1
  refine wp_ck (z_r32_i.mpr ⟨(by omega) /- z_r32.lo z1#1 -/, (by omega) /- z_r32.hi z1#1 -/⟩) ?_
  refine wp_if (fun c1 => ?_) (fun c1 => ?_)
  ·
    have hv : ¬ (0 ≤ x1 ∧ x1 < 4) := by split at q_X11_isSheet_1 <;> omega
    clear q_X11_isSheet_1
    refine wp_some ?_
    try dsimp only
    all_goals exact ⟨(by intro _; exact ⟨rfl, rfl, rfl, rfl, rfl, rfl, rfl⟩) /- post1#1 -/, (by intro h1 h2; exfalso; omega) /- post2#1 -/, (by intro h1 h2; exfalso; omega) /- post3#1 -/, (by intro h1 h2; exfalso; omega) /- post4#1 -/, (by intro h1 h2; exfalso; omega) /- post5#1 -/, (by exact h30) /- post6#1 -/, (by omega) /- post7#1 -/, (by omega) /- post8#1 -/⟩
  ·
    have hv : (0 ≤ x1 ∧ x1 < 4) := by split at q_X11_isSheet_1 <;> omega
    clear q_X11_isSheet_1
    refine wp_bd1 (s_X11_isLane _ (by omega) /- pre X11_isLane.1#1 -/ (by omega) /- pre X11_isLane.2#1 -/) (fun z3 q_X11_isLane_1 => ?_)
    try dsimp only at q_X11_isLane_1
    refine wp_ck (z_r32_i.mpr ⟨(by omega) /- z_r32.lo z3#1 -/, (by omega) /- z_r32.hi z3#1 -/⟩) ?_
    refine wp_if (fun c2 => ?_) (fun c2 => ?_)
    ·
      have hv2 : ¬ (0 ≤ x2 ∧ x2 < 3) := by split at q_X11_isLane_1 <;> omega
      clear q_X11_isLane_1
      refine wp_some ?_
      try dsimp only
      all_goals exact ⟨(by intro _; exact ⟨rfl, rfl, rfl, rfl, rfl, rfl, rfl⟩) /- post1#2 -/, (by intro h1 h2; exfalso; omega) /- post2#2 -/, (by intro h1 h2; exfalso; omega) /- post3#2 -/, (by intro h1 h2; exfalso; omega) /- post4#2 -/, (by intro h1 h2; exfalso; omega) /- post5#2 -/, (by exact h30) /- post6#2 -/, (by omega) /- post7#2 -/, (by omega) /- post8#2 -/⟩
    ·
      have hv2 : (0 ≤ x2 ∧ x2 < 3) := by split at q_X11_isLane_1 <;> omega
      clear q_X11_isLane_1
      refine wp_ck (z_r32_i.mpr ⟨(by omega) /- z_r32.lo x4#1 -/, (by omega) /- z_r32.hi x4#1 -/⟩) ?_
      refine wp_if (fun c3 => ?_) (fun c3 => ?_)
      ·
        refine wp_some ?_
        try dsimp only
        all_goals exact ⟨(by intro _; exact ⟨rfl, rfl, rfl, rfl, rfl, rfl, rfl⟩) /- post1#3 -/, (by intro h1 h2; exfalso; omega) /- post2#3 -/, (by intro h1 h2; exfalso; omega) /- post3#3 -/, (by intro h1 h2; exfalso; omega) /- post4#3 -/, (by intro h1 h2; exfalso; omega) /- post5#3 -/, (by exact h30) /- post6#3 -/, (by omega) /- post7#3 -/, (by omega) /- post8#3 -/⟩
      ·
        refine wp_if (fun c4 => ?_) (fun c4 => ?_)
        ·
          refine wp_ck (z_ix_i.mpr ⟨⟨(by omega) /- ix.lo x1#1 -/, (by omega) /- ix.hi x1#1 -/⟩, (by omega) /- ix.big x1#1 -/⟩) ?_
          refine wp_if (fun c5 => ?_) (fun c5 => ?_)
          ·
            refine wp_bnd ?_
            refine wp_bnd ?_
            refine wp_bnd ?_
            refine wp_jn ?_
            refine wp_jn ?_
            refine wp_lq3 (fun (z46 : Int) (z47 : Int) (z48 : Int) => (0 ≤ z47) ∧ (z47 ≤ z46) ∧ (z46 ≤ x4) ∧ (∀ j, 0 ≤ j → j < z47 → fa i_p0_sheets_0_lane i_p0_sheets_0_size x2 (x3 + j) = 0 ∧ (0 ≤ v_p0_sheets_0_cells (x3 + j) ∧ v_p0_sheets_0_cells (x3 + j) < i_p0_rules_stirs) ∧ i_p0_state_days + j < 999) ∧ ((z48 = 0 ∧ z47 = z46) ∨ (¬ z48 = 0 ∧ z46 = z47 + 1 ∧ z48 = fa i_p0_sheets_0_lane i_p0_sheets_0_size x2 (x3 + z47))) ∧ (z48 = 0 → z46 = 0 ∨ x3 + z46 ≤ 40)) (fun (z46 : Int) (z47 : Int) (z48 : Int) => (x4 - z46).toNat) (fun again45 z46 z47 z48 hI ih_B_X11_read_45 => ?_) 1000 _ _ _ ⟨(by omega) /- B_X11_read_45.init1#1 -/, (by omega) /- B_X11_read_45.init2#1 -/, (by omega) /- B_X11_read_45.init3#1 -/, (by intro j; omega) /- B_X11_read_45.init4#1 -/, (by omega) /- B_X11_read_45.init5#1 -/, (by omega) /- B_X11_read_45.init6#1 -/⟩ (by omega) /- B_X11_read_45.fuel#1 -/
            obtain ⟨i_B_X11_read_45_1, i_B_X11_read_45_2, i_B_X11_read_45_3, i_B_X11_read_45_4, i_B_X11_read_45_5, i_B_X11_read_45_6⟩ := hI
            unfold B_X11_read_45
            have hfr := fa_r i_p0_sheets_0_lane i_p0_sheets_0_size x2 (x3 + z47)
            refine wp_ck (z_r32_i.mpr ⟨(by omega) /- z_r32.lo z46#1 -/, (by omega) /- z_r32.hi z46#1 -/⟩) ?_
            refine wp_if (fun c6 => ?_) (fun c6 => ?_)
            ·
              refine wp_bnd ?_
              refine wp_jn ?_
              refine wp_lq9 (fun (z23 : Int) (z24 : Int) (z25 : Int) (z26 : Int) (w27 : (Int → Int)) (w28 : (Int → Int)) (w29 : (Int → Int)) (w30 : (Int → Int)) (w31 : (Int → Int)) => (0 ≤ z23) ∧ (z23 ≤ z47) ∧ (okD i_p0_rules_seats z24 z25 z26 w27 w28) ∧ (daysP i_p0_rules_seats v_p0_rules_after v_p0_state_friends v_p0_sheets_0_cells x3 z23.toNat i_p0_state_bone i_p0_state_king i_p0_state_days v_p0_state_pieces v_p0_state_eaten z24 z25 z26 w27 w28)) (fun (z23 : Int) (z24 : Int) (z25 : Int) (z26 : Int) (w27 : (Int → Int)) (w28 : (Int → Int)) (w29 : (Int → Int)) (w30 : (Int → Int)) (w31 : (Int → Int)) => (z47 - z23).toNat) (fun again114 z23 z24 z25 z26 w27 w28 w29 w30 w31 hI ih_B_X11_read_114 => ?_) 1000 _ _ _ _ _ _ _ _ _ ⟨(by omega) /- B_X11_read_114.init1#1 -/, (by omega) /- B_X11_read_114.init2#1 -/, (by exact h30) /- B_X11_read_114.init3#1 -/, (by exact ⟨rfl, rfl, rfl, rfl, rfl⟩) /- B_X11_read_114.init4#1 -/⟩ (by omega) /- B_X11_read_114.fuel#1 -/
              obtain ⟨i_B_X11_read_114_1, i_B_X11_read_114_2, i_B_X11_read_114_3, i_B_X11_read_114_4⟩ := hI
              unfold B_X11_read_114
              have hdd := daysP_d _ i_B_X11_read_114_4
              have hg := fun (hlt : z23 < z47) => i_B_X11_read_45_4 z23 i_B_X11_read_114_1 hlt
              have hod := i_B_X11_read_114_3
              refine wp_ck (z_r32_i.mpr ⟨(by omega) /- z_r32.lo z23#1 -/, (by omega) /- z_r32.hi z23#1 -/⟩) ?_
              refine wp_ck (z_r32_i.mpr ⟨(by omega) /- z_r32.lo z10#1 -/, (by omega) /- z_r32.hi z10#1 -/⟩) ?_
              refine wp_if (fun c7 => ?_) (fun c7 => ?_)
              ·
                refine wp_bnd ?_
                refine wp_some ?_
                try dsimp only
                all_goals exact ⟨(by intro h; exfalso; omega) /- post1#4 -/, (by 
                                        intro _ _
                                        have e : z23.toNat = z47.toNat := by omega
                                        rw [e] at i_B_X11_read_114_4
                                        refine ⟨z47, by omega, i_B_X11_read_45_4, Or.inr ⟨?_, rfl, i_B_X11_read_114_4⟩⟩
                                        rcases i_B_X11_read_45_5 with hq | hq
                                        · right; omega
                                        · left; exact ⟨by omega, by rw [← hq.2.2]; exact hq.1, hq.2.2⟩) /- post2#4 -/, (by intro h1 h2; exfalso; omega) /- post3#4 -/, (by intro h1 h2; exfalso; omega) /- post4#4 -/, (by intro h1 h2; exfalso; omega) /- post5#4 -/, (by exact i_B_X11_read_114_3) /- post6#4 -/, (by omega) /- post7#4 -/, (by omega) /- post8#4 -/⟩
              ·
                refine wp_ck (z_ix_i.mpr ⟨⟨(by have hg1 := hg (by omega); have hgb := fa_0 hg1.1; omega) /- ix.lo (x3 + z23)#1 -/, (by have hg1 := hg (by omega); have hgb := fa_0 hg1.1; omega) /- ix.hi (x3 + z23)#1 -/⟩, (by have hg1 := hg (by omega); have hgb := fa_0 hg1.1; omega) /- ix.big (x3 + z23)#1 -/⟩) ?_
                have hg1 := hg (by omega)
                have hgb := fa_0 hg1.1
                have hrow := h29 (v_p0_sheets_0_cells (x3 + z23)) hg1.2.1.1 hg1.2.1.2
                have hb1 := hod.1
                have hb2 := hod.2.1
                have hb3 := hod.2.2.1
                refine wp_bd8 (s_X2_passDay _ _ _ _ _ _ _ _ _ _ _ _ (by omega) /- pre X2_passDay.1#1 -/ (by omega) /- pre X2_passDay.2#1 -/ (by omega) /- pre X2_passDay.3#1 -/ (by omega) /- pre X2_passDay.4#1 -/ (by exact hrow) /- pre X2_passDay.5#1 -/ (by omega) /- pre X2_passDay.6#1 -/ (by omega) /- pre X2_passDay.7#1 -/ (by omega) /- pre X2_passDay.8#1 -/ (by omega) /- pre X2_passDay.9#1 -/) (fun z35 z36 z37 w38 w39 w40 w41 w42 q_X2_passDay_1 => ?_)
                try dsimp only at q_X2_passDay_1
                obtain ⟨q_X2_passDay_1_1, q_X2_passDay_1_2, q_X2_passDay_1_3, q_X2_passDay_1_4, q_X2_passDay_1_5, q_X2_passDay_1_6, q_X2_passDay_1_7⟩ := q_X2_passDay_1
                have hdp : dayP i_p0_rules_seats (fun i => v_p0_rules_after (v_p0_sheets_0_cells (x3 + z23) * 7 + i)) v_p0_state_friends z24 z25 z26 w27 w28 z35 z36 z37 w38 w39 := ⟨q_X2_passDay_1_1, q_X2_passDay_1_2, q_X2_passDay_1_3, q_X2_passDay_1_4, q_X2_passDay_1_5, q_X2_passDay_1_6, q_X2_passDay_1_7⟩
                refine wp_bndE (fun z43 hz43 => ?_)
                exact ih_B_X11_read_114 _ _ _ _ _ _ _ _ _ ⟨(by omega) /- B_X11_read_114.inv1#1 -/, (by omega) /- B_X11_read_114.inv2#1 -/, (by exact okD_day ⟨h9, h10⟩ hrow hod (by omega) hdp) /- B_X11_read_114.inv3#1 -/, (by rw [hz43, show (z23 + 1).toNat = z23.toNat + 1 from by omega]; exact ⟨_, _, _, _, _, i_B_X11_read_114_4, by rw [show ((z23.toNat : Nat) : Int) = z23 from by omega]; exact hdp⟩) /- B_X11_read_114.inv4#1 -/⟩ (by omega) /- B_X11_read_114.dec#1 -/
            ·
              refine wp_ck (z_r32_i.mpr ⟨(by omega) /- z_r32.lo z48#1 -/, (by omega) /- z_r32.hi z48#1 -/⟩) ?_
              refine wp_if (fun c8 => ?_) (fun c8 => ?_)
              ·
                refine wp_bd1 (s_X7_faultAt _ _ _ _ (by omega) /- pre X7_faultAt.1#1 -/ (by omega) /- pre X7_faultAt.2#1 -/ (by omega) /- pre X7_faultAt.3#1 -/ (by omega) /- pre X7_faultAt.4#1 -/ (by omega) /- pre X7_faultAt.5#1 -/ (by omega) /- pre X7_faultAt.6#1 -/ (by omega) /- pre X7_faultAt.7#1 -/ (by omega) /- pre X7_faultAt.8#1 -/) (fun z52 q_X7_faultAt_1 => ?_)
                try dsimp only at q_X7_faultAt_1
                have hfa : z52 = fa i_p0_sheets_0_lane i_p0_sheets_0_size x2 (x3 + z46) := q_X7_faultAt_1
                clear q_X7_faultAt_1
                have hfr2 := fa_r i_p0_sheets_0_lane i_p0_sheets_0_size x2 (x3 + z46)
                rw [← hfa] at hfr2
                refine wp_bnd ?_
                refine wp_ck (z_r32_i.mpr ⟨(by omega) /- z_r32.lo z53#1 -/, (by omega) /- z_r32.hi z53#1 -/⟩) ?_
                refine wp_if (fun c9 => ?_) (fun c9 => ?_)
                ·
                  refine wp_ck (z_ix_i.mpr ⟨⟨(by have hfb := fa_0 (hfa.symm.trans (by assumption)); omega) /- ix.lo (x3 + z46)#1 -/, (by have hfb := fa_0 (hfa.symm.trans (by assumption)); omega) /- ix.hi (x3 + z46)#1 -/⟩, (by have hfb := fa_0 (hfa.symm.trans (by assumption)); omega) /- ix.big (x3 + z46)#1 -/⟩) ?_
                  have hfb := fa_0 (hfa.symm.trans (by assumption))
                  have hcl := h33 (x3 + z46) (by omega) (by omega)
                  refine wp_bd1 (s_X11_canPass _ _ _ _ (by omega) /- pre X11_canPass.1#1 -/ (by omega) /- pre X11_canPass.2#1 -/ (by omega) /- pre X11_canPass.3#1 -/ (by omega) /- pre X11_canPass.4#1 -/ (by omega) /- pre X11_canPass.5#1 -/ (by omega) /- pre X11_canPass.6#1 -/ (by omega) /- pre X11_canPass.7#1 -/ (by omega) /- pre X11_canPass.8#1 -/) (fun z56 q_X11_canPass_1 => ?_)
                  try dsimp only at q_X11_canPass_1
                  have hcp : (z56 = 1 ∧ (0 ≤ v_p0_sheets_0_cells (x3 + z46) ∧ v_p0_sheets_0_cells (x3 + z46) < i_p0_rules_stirs) ∧ i_p0_state_days + z46 < 999) ∨ (z56 = 0 ∧ ¬ ((0 ≤ v_p0_sheets_0_cells (x3 + z46) ∧ v_p0_sheets_0_cells (x3 + z46) < i_p0_rules_stirs) ∧ i_p0_state_days + z46 < 999)) := by split at q_X11_canPass_1 <;> first | (left; exact ⟨by assumption, by assumption⟩) | (right; exact ⟨by assumption, by assumption⟩)
                  clear q_X11_canPass_1
                  refine wp_ck (z_r32_i.mpr ⟨(by omega) /- z_r32.lo z56#1 -/, (by omega) /- z_r32.hi z56#1 -/⟩) ?_
                  refine wp_if (fun c10 => ?_) (fun c10 => ?_)
                  ·
                    refine wp_some ?_
                    try dsimp only
                    all_goals exact ⟨(by intro h; exfalso; omega) /- post1#5 -/, (by intro _ _; rcases hcp with hq | hq; omega; exact ⟨z46, by omega, fun j a b => i_B_X11_read_45_4 j a (by omega), Or.inl ⟨by omega, hfa.symm.trans (by assumption), hq.2, rfl, rfl, rfl, rfl, rfl, rfl, rfl⟩⟩) /- post2#5 -/, (by intro h1 h2; exfalso; omega) /- post3#5 -/, (by intro h1 h2; exfalso; omega) /- post4#5 -/, (by intro h1 h2; exfalso; omega) /- post5#5 -/, (by exact h30) /- post6#5 -/, (by omega) /- post7#5 -/, (by omega) /- post8#5 -/⟩
                  ·
                    refine wp_bndE (fun z58 hz58 => ?_)
                    refine wp_bndE (fun z59 hz59 => ?_)
                    exact ih_B_X11_read_45 _ _ _ ⟨(by omega) /- B_X11_read_45.inv1#1 -/, (by omega) /- B_X11_read_45.inv2#1 -/, (by omega) /- B_X11_read_45.inv3#1 -/, (by 
                                        intro j a b
                                        by_cases e : j = z46
                                        · rw [e]; exact ⟨hfa.symm.trans (by assumption), by rcases hcp with hq | hq; exact hq.2; omega⟩
                                        · exact i_B_X11_read_45_4 j a (by omega)) /- B_X11_read_45.inv4#1 -/, (by left; omega) /- B_X11_read_45.inv5#1 -/, (by omega) /- B_X11_read_45.inv6#1 -/⟩ (by omega) /- B_X11_read_45.dec#1 -/
                ·
                  refine wp_bndE (fun z55 hz55 => ?_)
                  exact ih_B_X11_read_45 _ _ _ ⟨(by omega) /- B_X11_read_45.inv1#2 -/, (by omega) /- B_X11_read_45.inv2#2 -/, (by omega) /- B_X11_read_45.inv3#2 -/, (by intro j a b; exact i_B_X11_read_45_4 j a (by omega)) /- B_X11_read_45.inv4#2 -/, (by right; refine ⟨by assumption, by omega, ?_⟩; rw [hfa]; congr 2; omega) /- B_X11_read_45.inv5#2 -/, (by omega) /- B_X11_read_45.inv6#2 -/⟩ (by omega) /- B_X11_read_45.dec#2 -/
              ·
                refine wp_bnd ?_
                refine wp_jn ?_
                refine wp_lq9 (fun (z23 : Int) (z24 : Int) (z25 : Int) (z26 : Int) (w27 : (Int → Int)) (w28 : (Int → Int)) (w29 : (Int → Int)) (w30 : (Int → Int)) (w31 : (Int → Int)) => (0 ≤ z23) ∧ (z23 ≤ z47) ∧ (okD i_p0_rules_seats z24 z25 z26 w27 w28) ∧ (daysP i_p0_rules_seats v_p0_rules_after v_p0_state_friends v_p0_sheets_0_cells x3 z23.toNat i_p0_state_bone i_p0_state_king i_p0_state_days v_p0_state_pieces v_p0_state_eaten z24 z25 z26 w27 w28)) (fun (z23 : Int) (z24 : Int) (z25 : Int) (z26 : Int) (w27 : (Int → Int)) (w28 : (Int → Int)) (w29 : (Int → Int)) (w30 : (Int → Int)) (w31 : (Int → Int)) => (z47 - z23).toNat) (fun again114 z23 z24 z25 z26 w27 w28 w29 w30 w31 hI ih_B_X11_read_114 => ?_) 1000 _ _ _ _ _ _ _ _ _ ⟨(by omega) /- B_X11_read_114.init1#2 -/, (by omega) /- B_X11_read_114.init2#2 -/, (by exact h30) /- B_X11_read_114.init3#2 -/, (by exact ⟨rfl, rfl, rfl, rfl, rfl⟩) /- B_X11_read_114.init4#2 -/⟩ (by omega) /- B_X11_read_114.fuel#2 -/
                obtain ⟨i_B_X11_read_114_1, i_B_X11_read_114_2, i_B_X11_read_114_3, i_B_X11_read_114_4⟩ := hI
                unfold B_X11_read_114
                have hdd := daysP_d _ i_B_X11_read_114_4
                have hg := fun (hlt : z23 < z47) => i_B_X11_read_45_4 z23 i_B_X11_read_114_1 hlt
                have hod := i_B_X11_read_114_3
                refine wp_ck (z_r32_i.mpr ⟨(by omega) /- z_r32.lo z23#2 -/, (by omega) /- z_r32.hi z23#2 -/⟩) ?_
                refine wp_ck (z_r32_i.mpr ⟨(by omega) /- z_r32.lo z10#2 -/, (by omega) /- z_r32.hi z10#2 -/⟩) ?_
                refine wp_if (fun c11 => ?_) (fun c11 => ?_)
                ·
                  refine wp_bnd ?_
                  refine wp_some ?_
                  try dsimp only
                  all_goals exact ⟨(by intro h; exfalso; omega) /- post1#6 -/, (by 
                                        intro _ _
                                        have e : z23.toNat = z47.toNat := by omega
                                        rw [e] at i_B_X11_read_114_4
                                        refine ⟨z47, by omega, i_B_X11_read_45_4, Or.inr ⟨?_, rfl, i_B_X11_read_114_4⟩⟩
                                        rcases i_B_X11_read_45_5 with hq | hq
                                        · right; omega
                                        · left; exact ⟨by omega, by rw [← hq.2.2]; exact hq.1, hq.2.2⟩) /- post2#6 -/, (by intro h1 h2; exfalso; omega) /- post3#6 -/, (by intro h1 h2; exfalso; omega) /- post4#6 -/, (by intro h1 h2; exfalso; omega) /- post5#6 -/, (by exact i_B_X11_read_114_3) /- post6#6 -/, (by omega) /- post7#6 -/, (by omega) /- post8#6 -/⟩
                ·
                  refine wp_ck (z_ix_i.mpr ⟨⟨(by have hg1 := hg (by omega); have hgb := fa_0 hg1.1; omega) /- ix.lo (x3 + z23)#2 -/, (by have hg1 := hg (by omega); have hgb := fa_0 hg1.1; omega) /- ix.hi (x3 + z23)#2 -/⟩, (by have hg1 := hg (by omega); have hgb := fa_0 hg1.1; omega) /- ix.big (x3 + z23)#2 -/⟩) ?_
                  have hg1 := hg (by omega)
                  have hgb := fa_0 hg1.1
                  have hrow := h29 (v_p0_sheets_0_cells (x3 + z23)) hg1.2.1.1 hg1.2.1.2
                  have hb1 := hod.1
                  have hb2 := hod.2.1
                  have hb3 := hod.2.2.1
                  refine wp_bd8 (s_X2_passDay _ _ _ _ _ _ _ _ _ _ _ _ (by omega) /- pre X2_passDay.1#2 -/ (by omega) /- pre X2_passDay.2#2 -/ (by omega) /- pre X2_passDay.3#2 -/ (by omega) /- pre X2_passDay.4#2 -/ (by exact hrow) /- pre X2_passDay.5#2 -/ (by omega) /- pre X2_passDay.6#2 -/ (by omega) /- pre X2_passDay.7#2 -/ (by omega) /- pre X2_passDay.8#2 -/ (by omega) /- pre X2_passDay.9#2 -/) (fun z35 z36 z37 w38 w39 w40 w41 w42 q_X2_passDay_2 => ?_)
                  try dsimp only at q_X2_passDay_2
                  obtain ⟨q_X2_passDay_2_1, q_X2_passDay_2_2, q_X2_passDay_2_3, q_X2_passDay_2_4, q_X2_passDay_2_5, q_X2_passDay_2_6, q_X2_passDay_2_7⟩ := q_X2_passDay_2
                  have hdp : dayP i_p0_rules_seats (fun i => v_p0_rules_after (v_p0_sheets_0_cells (x3 + z23) * 7 + i)) v_p0_state_friends z24 z25 z26 w27 w28 z35 z36 z37 w38 w39 := ⟨q_X2_passDay_2_1, q_X2_passDay_2_2, q_X2_passDay_2_3, q_X2_passDay_2_4, q_X2_passDay_2_5, q_X2_passDay_2_6, q_X2_passDay_2_7⟩
                  refine wp_bndE (fun z43 hz43 => ?_)
                  exact ih_B_X11_read_114 _ _ _ _ _ _ _ _ _ ⟨(by omega) /- B_X11_read_114.inv1#2 -/, (by omega) /- B_X11_read_114.inv2#2 -/, (by exact okD_day ⟨h9, h10⟩ hrow hod (by omega) hdp) /- B_X11_read_114.inv3#2 -/, (by rw [hz43, show (z23 + 1).toNat = z23.toNat + 1 from by omega]; exact ⟨_, _, _, _, _, i_B_X11_read_114_4, by rw [show ((z23.toNat : Nat) : Int) = z23 from by omega]; exact hdp⟩) /- B_X11_read_114.inv4#2 -/⟩ (by omega) /- B_X11_read_114.dec#2 -/
          ·
            refine wp_if (fun c12 => ?_) (fun c12 => ?_)
            ·
              refine wp_bnd ?_
              refine wp_bnd ?_
              refine wp_bnd ?_
              refine wp_jn ?_
              refine wp_jn ?_
              refine wp_lq3 (fun (z100 : Int) (z101 : Int) (z102 : Int) => (0 ≤ z101) ∧ (z101 ≤ z100) ∧ (z100 ≤ x4) ∧ (∀ j, 0 ≤ j → j < z101 → fa i_p0_sheets_1_lane i_p0_sheets_1_size x2 (x3 + j) = 0 ∧ (0 ≤ v_p0_sheets_1_cells (x3 + j) ∧ v_p0_sheets_1_cells (x3 + j) < i_p0_rules_stirs) ∧ i_p0_state_days + j < 999) ∧ ((z102 = 0 ∧ z101 = z100) ∨ (¬ z102 = 0 ∧ z100 = z101 + 1 ∧ z102 = fa i_p0_sheets_1_lane i_p0_sheets_1_size x2 (x3 + z101))) ∧ (z102 = 0 → z100 = 0 ∨ x3 + z100 ≤ 40)) (fun (z100 : Int) (z101 : Int) (z102 : Int) => (x4 - z100).toNat) (fun again45 z100 z101 z102 hI ih_B_X11_read_45_2 => ?_) 1000 _ _ _ ⟨(by omega) /- B_X11_read_45_2.init1#1 -/, (by omega) /- B_X11_read_45_2.init2#1 -/, (by omega) /- B_X11_read_45_2.init3#1 -/, (by intro j; omega) /- B_X11_read_45_2.init4#1 -/, (by omega) /- B_X11_read_45_2.init5#1 -/, (by omega) /- B_X11_read_45_2.init6#1 -/⟩ (by omega) /- B_X11_read_45_2.fuel#1 -/
              obtain ⟨i_B_X11_read_45_2_1, i_B_X11_read_45_2_2, i_B_X11_read_45_2_3, i_B_X11_read_45_2_4, i_B_X11_read_45_2_5, i_B_X11_read_45_2_6⟩ := hI
              unfold B_X11_read_45_2
              have hfr := fa_r i_p0_sheets_1_lane i_p0_sheets_1_size x2 (x3 + z101)
              refine wp_ck (z_r32_i.mpr ⟨(by omega) /- z_r32.lo z100#1 -/, (by omega) /- z_r32.hi z100#1 -/⟩) ?_
              refine wp_if (fun c13 => ?_) (fun c13 => ?_)
              ·
                refine wp_bnd ?_
                refine wp_jn ?_
                refine wp_lq9 (fun (z77 : Int) (z78 : Int) (z79 : Int) (z80 : Int) (w81 : (Int → Int)) (w82 : (Int → Int)) (w83 : (Int → Int)) (w84 : (Int → Int)) (w85 : (Int → Int)) => (0 ≤ z77) ∧ (z77 ≤ z101) ∧ (okD i_p0_rules_seats z78 z79 z80 w81 w82) ∧ (daysP i_p0_rules_seats v_p0_rules_after v_p0_state_friends v_p0_sheets_1_cells x3 z77.toNat i_p0_state_bone i_p0_state_king i_p0_state_days v_p0_state_pieces v_p0_state_eaten z78 z79 z80 w81 w82)) (fun (z77 : Int) (z78 : Int) (z79 : Int) (z80 : Int) (w81 : (Int → Int)) (w82 : (Int → Int)) (w83 : (Int → Int)) (w84 : (Int → Int)) (w85 : (Int → Int)) => (z101 - z77).toNat) (fun again114 z77 z78 z79 z80 w81 w82 w83 w84 w85 hI ih_B_X11_read_114_2 => ?_) 1000 _ _ _ _ _ _ _ _ _ ⟨(by omega) /- B_X11_read_114_2.init1#1 -/, (by omega) /- B_X11_read_114_2.init2#1 -/, (by exact h30) /- B_X11_read_114_2.init3#1 -/, (by exact ⟨rfl, rfl, rfl, rfl, rfl⟩) /- B_X11_read_114_2.init4#1 -/⟩ (by omega) /- B_X11_read_114_2.fuel#1 -/
                obtain ⟨i_B_X11_read_114_2_1, i_B_X11_read_114_2_2, i_B_X11_read_114_2_3, i_B_X11_read_114_2_4⟩ := hI
                unfold B_X11_read_114_2
                have hdd := daysP_d _ i_B_X11_read_114_2_4
                have hg := fun (hlt : z77 < z101) => i_B_X11_read_45_2_4 z77 i_B_X11_read_114_2_1 hlt
                have hod := i_B_X11_read_114_2_3
                refine wp_ck (z_r32_i.mpr ⟨(by omega) /- z_r32.lo z77#1 -/, (by omega) /- z_r32.hi z77#1 -/⟩) ?_
                refine wp_ck (z_r32_i.mpr ⟨(by omega) /- z_r32.lo z64#1 -/, (by omega) /- z_r32.hi z64#1 -/⟩) ?_
                refine wp_if (fun c14 => ?_) (fun c14 => ?_)
                ·
                  refine wp_bnd ?_
                  refine wp_some ?_
                  try dsimp only
                  all_goals exact ⟨(by intro h; exfalso; omega) /- post1#7 -/, (by intro h1 h2; exfalso; omega) /- post2#7 -/, (by 
                                        intro _ _
                                        have e : z77.toNat = z101.toNat := by omega
                                        rw [e] at i_B_X11_read_114_2_4
                                        refine ⟨z101, by omega, i_B_X11_read_45_2_4, Or.inr ⟨?_, rfl, i_B_X11_read_114_2_4⟩⟩
                                        rcases i_B_X11_read_45_2_5 with hq | hq
                                        · right; omega
                                        · left; exact ⟨by omega, by rw [← hq.2.2]; exact hq.1, hq.2.2⟩) /- post3#7 -/, (by intro h1 h2; exfalso; omega) /- post4#7 -/, (by intro h1 h2; exfalso; omega) /- post5#7 -/, (by exact i_B_X11_read_114_2_3) /- post6#7 -/, (by omega) /- post7#7 -/, (by omega) /- post8#7 -/⟩
                ·
                  refine wp_ck (z_ix_i.mpr ⟨⟨(by have hg1 := hg (by omega); have hgb := fa_0 hg1.1; omega) /- ix.lo (x3 + z77)#1 -/, (by have hg1 := hg (by omega); have hgb := fa_0 hg1.1; omega) /- ix.hi (x3 + z77)#1 -/⟩, (by have hg1 := hg (by omega); have hgb := fa_0 hg1.1; omega) /- ix.big (x3 + z77)#1 -/⟩) ?_
                  have hg1 := hg (by omega)
                  have hgb := fa_0 hg1.1
                  have hrow := h29 (v_p0_sheets_1_cells (x3 + z77)) hg1.2.1.1 hg1.2.1.2
                  have hb1 := hod.1
                  have hb2 := hod.2.1
                  have hb3 := hod.2.2.1
                  refine wp_bd8 (s_X2_passDay _ _ _ _ _ _ _ _ _ _ _ _ (by omega) /- pre X2_passDay.1#3 -/ (by omega) /- pre X2_passDay.2#3 -/ (by omega) /- pre X2_passDay.3#3 -/ (by omega) /- pre X2_passDay.4#3 -/ (by exact hrow) /- pre X2_passDay.5#3 -/ (by omega) /- pre X2_passDay.6#3 -/ (by omega) /- pre X2_passDay.7#3 -/ (by omega) /- pre X2_passDay.8#3 -/ (by omega) /- pre X2_passDay.9#3 -/) (fun z89 z90 z91 w92 w93 w94 w95 w96 q_X2_passDay_3 => ?_)
                  try dsimp only at q_X2_passDay_3
                  obtain ⟨q_X2_passDay_3_1, q_X2_passDay_3_2, q_X2_passDay_3_3, q_X2_passDay_3_4, q_X2_passDay_3_5, q_X2_passDay_3_6, q_X2_passDay_3_7⟩ := q_X2_passDay_3
                  have hdp : dayP i_p0_rules_seats (fun i => v_p0_rules_after (v_p0_sheets_1_cells (x3 + z77) * 7 + i)) v_p0_state_friends z78 z79 z80 w81 w82 z89 z90 z91 w92 w93 := ⟨q_X2_passDay_3_1, q_X2_passDay_3_2, q_X2_passDay_3_3, q_X2_passDay_3_4, q_X2_passDay_3_5, q_X2_passDay_3_6, q_X2_passDay_3_7⟩
                  refine wp_bndE (fun z97 hz97 => ?_)
                  exact ih_B_X11_read_114_2 _ _ _ _ _ _ _ _ _ ⟨(by omega) /- B_X11_read_114_2.inv1#1 -/, (by omega) /- B_X11_read_114_2.inv2#1 -/, (by exact okD_day ⟨h9, h10⟩ hrow hod (by omega) hdp) /- B_X11_read_114_2.inv3#1 -/, (by rw [hz97, show (z77 + 1).toNat = z77.toNat + 1 from by omega]; exact ⟨_, _, _, _, _, i_B_X11_read_114_2_4, by rw [show ((z77.toNat : Nat) : Int) = z77 from by omega]; exact hdp⟩) /- B_X11_read_114_2.inv4#1 -/⟩ (by omega) /- B_X11_read_114_2.dec#1 -/
              ·
                refine wp_ck (z_r32_i.mpr ⟨(by omega) /- z_r32.lo z102#1 -/, (by omega) /- z_r32.hi z102#1 -/⟩) ?_
                refine wp_if (fun c15 => ?_) (fun c15 => ?_)
                ·
                  refine wp_bd1 (s_X7_faultAt _ _ _ _ (by omega) /- pre X7_faultAt.1#2 -/ (by omega) /- pre X7_faultAt.2#2 -/ (by omega) /- pre X7_faultAt.3#2 -/ (by omega) /- pre X7_faultAt.4#2 -/ (by omega) /- pre X7_faultAt.5#2 -/ (by omega) /- pre X7_faultAt.6#2 -/ (by omega) /- pre X7_faultAt.7#2 -/ (by omega) /- pre X7_faultAt.8#2 -/) (fun z106 q_X7_faultAt_2 => ?_)
                  try dsimp only at q_X7_faultAt_2
                  have hfa : z106 = fa i_p0_sheets_1_lane i_p0_sheets_1_size x2 (x3 + z100) := q_X7_faultAt_2
                  clear q_X7_faultAt_2
                  have hfr2 := fa_r i_p0_sheets_1_lane i_p0_sheets_1_size x2 (x3 + z100)
                  rw [← hfa] at hfr2
                  refine wp_bnd ?_
                  refine wp_ck (z_r32_i.mpr ⟨(by omega) /- z_r32.lo z107#1 -/, (by omega) /- z_r32.hi z107#1 -/⟩) ?_
                  refine wp_if (fun c16 => ?_) (fun c16 => ?_)
                  ·
                    refine wp_ck (z_ix_i.mpr ⟨⟨(by have hfb := fa_0 (hfa.symm.trans (by assumption)); omega) /- ix.lo (x3 + z100)#1 -/, (by have hfb := fa_0 (hfa.symm.trans (by assumption)); omega) /- ix.hi (x3 + z100)#1 -/⟩, (by have hfb := fa_0 (hfa.symm.trans (by assumption)); omega) /- ix.big (x3 + z100)#1 -/⟩) ?_
                    have hfb := fa_0 (hfa.symm.trans (by assumption))
                    have hcl := h34 (x3 + z100) (by omega) (by omega)
                    refine wp_bd1 (s_X11_canPass _ _ _ _ (by omega) /- pre X11_canPass.1#2 -/ (by omega) /- pre X11_canPass.2#2 -/ (by omega) /- pre X11_canPass.3#2 -/ (by omega) /- pre X11_canPass.4#2 -/ (by omega) /- pre X11_canPass.5#2 -/ (by omega) /- pre X11_canPass.6#2 -/ (by omega) /- pre X11_canPass.7#2 -/ (by omega) /- pre X11_canPass.8#2 -/) (fun z110 q_X11_canPass_2 => ?_)
                    try dsimp only at q_X11_canPass_2
                    have hcp : (z110 = 1 ∧ (0 ≤ v_p0_sheets_1_cells (x3 + z100) ∧ v_p0_sheets_1_cells (x3 + z100) < i_p0_rules_stirs) ∧ i_p0_state_days + z100 < 999) ∨ (z110 = 0 ∧ ¬ ((0 ≤ v_p0_sheets_1_cells (x3 + z100) ∧ v_p0_sheets_1_cells (x3 + z100) < i_p0_rules_stirs) ∧ i_p0_state_days + z100 < 999)) := by split at q_X11_canPass_2 <;> first | (left; exact ⟨by assumption, by assumption⟩) | (right; exact ⟨by assumption, by assumption⟩)
                    clear q_X11_canPass_2
                    refine wp_ck (z_r32_i.mpr ⟨(by omega) /- z_r32.lo z110#1 -/, (by omega) /- z_r32.hi z110#1 -/⟩) ?_
                    refine wp_if (fun c17 => ?_) (fun c17 => ?_)
                    ·
                      refine wp_some ?_
                      try dsimp only
                      all_goals exact ⟨(by intro h; exfalso; omega) /- post1#8 -/, (by intro h1 h2; exfalso; omega) /- post2#8 -/, (by intro _ _; rcases hcp with hq | hq; omega; exact ⟨z100, by omega, fun j a b => i_B_X11_read_45_2_4 j a (by omega), Or.inl ⟨by omega, hfa.symm.trans (by assumption), hq.2, rfl, rfl, rfl, rfl, rfl, rfl, rfl⟩⟩) /- post3#8 -/, (by intro h1 h2; exfalso; omega) /- post4#8 -/, (by intro h1 h2; exfalso; omega) /- post5#8 -/, (by exact h30) /- post6#8 -/, (by omega) /- post7#8 -/, (by omega) /- post8#8 -/⟩
                    ·
                      refine wp_bndE (fun z112 hz112 => ?_)
                      refine wp_bndE (fun z113 hz113 => ?_)
                      exact ih_B_X11_read_45_2 _ _ _ ⟨(by omega) /- B_X11_read_45_2.inv1#1 -/, (by omega) /- B_X11_read_45_2.inv2#1 -/, (by omega) /- B_X11_read_45_2.inv3#1 -/, (by 
                                        intro j a b
                                        by_cases e : j = z100
                                        · rw [e]; exact ⟨hfa.symm.trans (by assumption), by rcases hcp with hq | hq; exact hq.2; omega⟩
                                        · exact i_B_X11_read_45_2_4 j a (by omega)) /- B_X11_read_45_2.inv4#1 -/, (by left; omega) /- B_X11_read_45_2.inv5#1 -/, (by omega) /- B_X11_read_45_2.inv6#1 -/⟩ (by omega) /- B_X11_read_45_2.dec#1 -/
                  ·
                    refine wp_bndE (fun z109 hz109 => ?_)
                    exact ih_B_X11_read_45_2 _ _ _ ⟨(by omega) /- B_X11_read_45_2.inv1#2 -/, (by omega) /- B_X11_read_45_2.inv2#2 -/, (by omega) /- B_X11_read_45_2.inv3#2 -/, (by intro j a b; exact i_B_X11_read_45_2_4 j a (by omega)) /- B_X11_read_45_2.inv4#2 -/, (by right; refine ⟨by assumption, by omega, ?_⟩; rw [hfa]; congr 2; omega) /- B_X11_read_45_2.inv5#2 -/, (by omega) /- B_X11_read_45_2.inv6#2 -/⟩ (by omega) /- B_X11_read_45_2.dec#2 -/
                ·
                  refine wp_bnd ?_
                  refine wp_jn ?_
                  refine wp_lq9 (fun (z77 : Int) (z78 : Int) (z79 : Int) (z80 : Int) (w81 : (Int → Int)) (w82 : (Int → Int)) (w83 : (Int → Int)) (w84 : (Int → Int)) (w85 : (Int → Int)) => (0 ≤ z77) ∧ (z77 ≤ z101) ∧ (okD i_p0_rules_seats z78 z79 z80 w81 w82) ∧ (daysP i_p0_rules_seats v_p0_rules_after v_p0_state_friends v_p0_sheets_1_cells x3 z77.toNat i_p0_state_bone i_p0_state_king i_p0_state_days v_p0_state_pieces v_p0_state_eaten z78 z79 z80 w81 w82)) (fun (z77 : Int) (z78 : Int) (z79 : Int) (z80 : Int) (w81 : (Int → Int)) (w82 : (Int → Int)) (w83 : (Int → Int)) (w84 : (Int → Int)) (w85 : (Int → Int)) => (z101 - z77).toNat) (fun again114 z77 z78 z79 z80 w81 w82 w83 w84 w85 hI ih_B_X11_read_114_2 => ?_) 1000 _ _ _ _ _ _ _ _ _ ⟨(by omega) /- B_X11_read_114_2.init1#2 -/, (by omega) /- B_X11_read_114_2.init2#2 -/, (by exact h30) /- B_X11_read_114_2.init3#2 -/, (by exact ⟨rfl, rfl, rfl, rfl, rfl⟩) /- B_X11_read_114_2.init4#2 -/⟩ (by omega) /- B_X11_read_114_2.fuel#2 -/
                  obtain ⟨i_B_X11_read_114_2_1, i_B_X11_read_114_2_2, i_B_X11_read_114_2_3, i_B_X11_read_114_2_4⟩ := hI
                  unfold B_X11_read_114_2
                  have hdd := daysP_d _ i_B_X11_read_114_2_4
                  have hg := fun (hlt : z77 < z101) => i_B_X11_read_45_2_4 z77 i_B_X11_read_114_2_1 hlt
                  have hod := i_B_X11_read_114_2_3
                  refine wp_ck (z_r32_i.mpr ⟨(by omega) /- z_r32.lo z77#2 -/, (by omega) /- z_r32.hi z77#2 -/⟩) ?_
                  refine wp_ck (z_r32_i.mpr ⟨(by omega) /- z_r32.lo z64#2 -/, (by omega) /- z_r32.hi z64#2 -/⟩) ?_
                  refine wp_if (fun c18 => ?_) (fun c18 => ?_)
                  ·
                    refine wp_bnd ?_
                    refine wp_some ?_
                    try dsimp only
                    all_goals exact ⟨(by intro h; exfalso; omega) /- post1#9 -/, (by intro h1 h2; exfalso; omega) /- post2#9 -/, (by 
                                        intro _ _
                                        have e : z77.toNat = z101.toNat := by omega
                                        rw [e] at i_B_X11_read_114_2_4
                                        refine ⟨z101, by omega, i_B_X11_read_45_2_4, Or.inr ⟨?_, rfl, i_B_X11_read_114_2_4⟩⟩
                                        rcases i_B_X11_read_45_2_5 with hq | hq
                                        · right; omega
                                        · left; exact ⟨by omega, by rw [← hq.2.2]; exact hq.1, hq.2.2⟩) /- post3#9 -/, (by intro h1 h2; exfalso; omega) /- post4#9 -/, (by intro h1 h2; exfalso; omega) /- post5#9 -/, (by exact i_B_X11_read_114_2_3) /- post6#9 -/, (by omega) /- post7#9 -/, (by omega) /- post8#9 -/⟩
                  ·
                    refine wp_ck (z_ix_i.mpr ⟨⟨(by have hg1 := hg (by omega); have hgb := fa_0 hg1.1; omega) /- ix.lo (x3 + z77)#2 -/, (by have hg1 := hg (by omega); have hgb := fa_0 hg1.1; omega) /- ix.hi (x3 + z77)#2 -/⟩, (by have hg1 := hg (by omega); have hgb := fa_0 hg1.1; omega) /- ix.big (x3 + z77)#2 -/⟩) ?_
                    have hg1 := hg (by omega)
                    have hgb := fa_0 hg1.1
                    have hrow := h29 (v_p0_sheets_1_cells (x3 + z77)) hg1.2.1.1 hg1.2.1.2
                    have hb1 := hod.1
                    have hb2 := hod.2.1
                    have hb3 := hod.2.2.1
                    refine wp_bd8 (s_X2_passDay _ _ _ _ _ _ _ _ _ _ _ _ (by omega) /- pre X2_passDay.1#4 -/ (by omega) /- pre X2_passDay.2#4 -/ (by omega) /- pre X2_passDay.3#4 -/ (by omega) /- pre X2_passDay.4#4 -/ (by exact hrow) /- pre X2_passDay.5#4 -/ (by omega) /- pre X2_passDay.6#4 -/ (by omega) /- pre X2_passDay.7#4 -/ (by omega) /- pre X2_passDay.8#4 -/ (by omega) /- pre X2_passDay.9#4 -/) (fun z89 z90 z91 w92 w93 w94 w95 w96 q_X2_passDay_4 => ?_)
                    try dsimp only at q_X2_passDay_4
                    obtain ⟨q_X2_passDay_4_1, q_X2_passDay_4_2, q_X2_passDay_4_3, q_X2_passDay_4_4, q_X2_passDay_4_5, q_X2_passDay_4_6, q_X2_passDay_4_7⟩ := q_X2_passDay_4
                    have hdp : dayP i_p0_rules_seats (fun i => v_p0_rules_after (v_p0_sheets_1_cells (x3 + z77) * 7 + i)) v_p0_state_friends z78 z79 z80 w81 w82 z89 z90 z91 w92 w93 := ⟨q_X2_passDay_4_1, q_X2_passDay_4_2, q_X2_passDay_4_3, q_X2_passDay_4_4, q_X2_passDay_4_5, q_X2_passDay_4_6, q_X2_passDay_4_7⟩
                    refine wp_bndE (fun z97 hz97 => ?_)
                    exact ih_B_X11_read_114_2 _ _ _ _ _ _ _ _ _ ⟨(by omega) /- B_X11_read_114_2.inv1#2 -/, (by omega) /- B_X11_read_114_2.inv2#2 -/, (by exact okD_day ⟨h9, h10⟩ hrow hod (by omega) hdp) /- B_X11_read_114_2.inv3#2 -/, (by rw [hz97, show (z77 + 1).toNat = z77.toNat + 1 from by omega]; exact ⟨_, _, _, _, _, i_B_X11_read_114_2_4, by rw [show ((z77.toNat : Nat) : Int) = z77 from by omega]; exact hdp⟩) /- B_X11_read_114_2.inv4#2 -/⟩ (by omega) /- B_X11_read_114_2.dec#2 -/
            ·
              refine wp_if (fun c19 => ?_) (fun c19 => ?_)
              ·
                refine wp_bnd ?_
                refine wp_bnd ?_
                refine wp_bnd ?_
                refine wp_jn ?_
                refine wp_jn ?_
                refine wp_lq3 (fun (z154 : Int) (z155 : Int) (z156 : Int) => (0 ≤ z155) ∧ (z155 ≤ z154) ∧ (z154 ≤ x4) ∧ (∀ j, 0 ≤ j → j < z155 → fa i_p0_sheets_2_lane i_p0_sheets_2_size x2 (x3 + j) = 0 ∧ (0 ≤ v_p0_sheets_2_cells (x3 + j) ∧ v_p0_sheets_2_cells (x3 + j) < i_p0_rules_stirs) ∧ i_p0_state_days + j < 999) ∧ ((z156 = 0 ∧ z155 = z154) ∨ (¬ z156 = 0 ∧ z154 = z155 + 1 ∧ z156 = fa i_p0_sheets_2_lane i_p0_sheets_2_size x2 (x3 + z155))) ∧ (z156 = 0 → z154 = 0 ∨ x3 + z154 ≤ 40)) (fun (z154 : Int) (z155 : Int) (z156 : Int) => (x4 - z154).toNat) (fun again45 z154 z155 z156 hI ih_B_X11_read_45_3 => ?_) 1000 _ _ _ ⟨(by omega) /- B_X11_read_45_3.init1#1 -/, (by omega) /- B_X11_read_45_3.init2#1 -/, (by omega) /- B_X11_read_45_3.init3#1 -/, (by intro j; omega) /- B_X11_read_45_3.init4#1 -/, (by omega) /- B_X11_read_45_3.init5#1 -/, (by omega) /- B_X11_read_45_3.init6#1 -/⟩ (by omega) /- B_X11_read_45_3.fuel#1 -/
                obtain ⟨i_B_X11_read_45_3_1, i_B_X11_read_45_3_2, i_B_X11_read_45_3_3, i_B_X11_read_45_3_4, i_B_X11_read_45_3_5, i_B_X11_read_45_3_6⟩ := hI
                unfold B_X11_read_45_3
                have hfr := fa_r i_p0_sheets_2_lane i_p0_sheets_2_size x2 (x3 + z155)
                refine wp_ck (z_r32_i.mpr ⟨(by omega) /- z_r32.lo z154#1 -/, (by omega) /- z_r32.hi z154#1 -/⟩) ?_
                refine wp_if (fun c20 => ?_) (fun c20 => ?_)
                ·
                  refine wp_bnd ?_
                  refine wp_jn ?_
                  refine wp_lq9 (fun (z131 : Int) (z132 : Int) (z133 : Int) (z134 : Int) (w135 : (Int → Int)) (w136 : (Int → Int)) (w137 : (Int → Int)) (w138 : (Int → Int)) (w139 : (Int → Int)) => (0 ≤ z131) ∧ (z131 ≤ z155) ∧ (okD i_p0_rules_seats z132 z133 z134 w135 w136) ∧ (daysP i_p0_rules_seats v_p0_rules_after v_p0_state_friends v_p0_sheets_2_cells x3 z131.toNat i_p0_state_bone i_p0_state_king i_p0_state_days v_p0_state_pieces v_p0_state_eaten z132 z133 z134 w135 w136)) (fun (z131 : Int) (z132 : Int) (z133 : Int) (z134 : Int) (w135 : (Int → Int)) (w136 : (Int → Int)) (w137 : (Int → Int)) (w138 : (Int → Int)) (w139 : (Int → Int)) => (z155 - z131).toNat) (fun again114 z131 z132 z133 z134 w135 w136 w137 w138 w139 hI ih_B_X11_read_114_3 => ?_) 1000 _ _ _ _ _ _ _ _ _ ⟨(by omega) /- B_X11_read_114_3.init1#1 -/, (by omega) /- B_X11_read_114_3.init2#1 -/, (by exact h30) /- B_X11_read_114_3.init3#1 -/, (by exact ⟨rfl, rfl, rfl, rfl, rfl⟩) /- B_X11_read_114_3.init4#1 -/⟩ (by omega) /- B_X11_read_114_3.fuel#1 -/
                  obtain ⟨i_B_X11_read_114_3_1, i_B_X11_read_114_3_2, i_B_X11_read_114_3_3, i_B_X11_read_114_3_4⟩ := hI
                  unfold B_X11_read_114_3
                  have hdd := daysP_d _ i_B_X11_read_114_3_4
                  have hg := fun (hlt : z131 < z155) => i_B_X11_read_45_3_4 z131 i_B_X11_read_114_3_1 hlt
                  have hod := i_B_X11_read_114_3_3
                  refine wp_ck (z_r32_i.mpr ⟨(by omega) /- z_r32.lo z131#1 -/, (by omega) /- z_r32.hi z131#1 -/⟩) ?_
                  refine wp_ck (z_r32_i.mpr ⟨(by omega) /- z_r32.lo z118#1 -/, (by omega) /- z_r32.hi z118#1 -/⟩) ?_
                  refine wp_if (fun c21 => ?_) (fun c21 => ?_)
                  ·
                    refine wp_bnd ?_
                    refine wp_some ?_
                    try dsimp only
                    all_goals exact ⟨(by intro h; exfalso; omega) /- post1#10 -/, (by intro h1 h2; exfalso; omega) /- post2#10 -/, (by intro h1 h2; exfalso; omega) /- post3#10 -/, (by 
                                        intro _ _
                                        have e : z131.toNat = z155.toNat := by omega
                                        rw [e] at i_B_X11_read_114_3_4
                                        refine ⟨z155, by omega, i_B_X11_read_45_3_4, Or.inr ⟨?_, rfl, i_B_X11_read_114_3_4⟩⟩
                                        rcases i_B_X11_read_45_3_5 with hq | hq
                                        · right; omega
                                        · left; exact ⟨by omega, by rw [← hq.2.2]; exact hq.1, hq.2.2⟩) /- post4#10 -/, (by intro h1 h2; exfalso; omega) /- post5#10 -/, (by exact i_B_X11_read_114_3_3) /- post6#10 -/, (by omega) /- post7#10 -/, (by omega) /- post8#10 -/⟩
                  ·
                    refine wp_ck (z_ix_i.mpr ⟨⟨(by have hg1 := hg (by omega); have hgb := fa_0 hg1.1; omega) /- ix.lo (x3 + z131)#1 -/, (by have hg1 := hg (by omega); have hgb := fa_0 hg1.1; omega) /- ix.hi (x3 + z131)#1 -/⟩, (by have hg1 := hg (by omega); have hgb := fa_0 hg1.1; omega) /- ix.big (x3 + z131)#1 -/⟩) ?_
                    have hg1 := hg (by omega)
                    have hgb := fa_0 hg1.1
                    have hrow := h29 (v_p0_sheets_2_cells (x3 + z131)) hg1.2.1.1 hg1.2.1.2
                    have hb1 := hod.1
                    have hb2 := hod.2.1
                    have hb3 := hod.2.2.1
                    refine wp_bd8 (s_X2_passDay _ _ _ _ _ _ _ _ _ _ _ _ (by omega) /- pre X2_passDay.1#5 -/ (by omega) /- pre X2_passDay.2#5 -/ (by omega) /- pre X2_passDay.3#5 -/ (by omega) /- pre X2_passDay.4#5 -/ (by exact hrow) /- pre X2_passDay.5#5 -/ (by omega) /- pre X2_passDay.6#5 -/ (by omega) /- pre X2_passDay.7#5 -/ (by omega) /- pre X2_passDay.8#5 -/ (by omega) /- pre X2_passDay.9#5 -/) (fun z143 z144 z145 w146 w147 w148 w149 w150 q_X2_passDay_5 => ?_)
                    try dsimp only at q_X2_passDay_5
                    obtain ⟨q_X2_passDay_5_1, q_X2_passDay_5_2, q_X2_passDay_5_3, q_X2_passDay_5_4, q_X2_passDay_5_5, q_X2_passDay_5_6, q_X2_passDay_5_7⟩ := q_X2_passDay_5
                    have hdp : dayP i_p0_rules_seats (fun i => v_p0_rules_after (v_p0_sheets_2_cells (x3 + z131) * 7 + i)) v_p0_state_friends z132 z133 z134 w135 w136 z143 z144 z145 w146 w147 := ⟨q_X2_passDay_5_1, q_X2_passDay_5_2, q_X2_passDay_5_3, q_X2_passDay_5_4, q_X2_passDay_5_5, q_X2_passDay_5_6, q_X2_passDay_5_7⟩
                    refine wp_bndE (fun z151 hz151 => ?_)
                    exact ih_B_X11_read_114_3 _ _ _ _ _ _ _ _ _ ⟨(by omega) /- B_X11_read_114_3.inv1#1 -/, (by omega) /- B_X11_read_114_3.inv2#1 -/, (by exact okD_day ⟨h9, h10⟩ hrow hod (by omega) hdp) /- B_X11_read_114_3.inv3#1 -/, (by rw [hz151, show (z131 + 1).toNat = z131.toNat + 1 from by omega]; exact ⟨_, _, _, _, _, i_B_X11_read_114_3_4, by rw [show ((z131.toNat : Nat) : Int) = z131 from by omega]; exact hdp⟩) /- B_X11_read_114_3.inv4#1 -/⟩ (by omega) /- B_X11_read_114_3.dec#1 -/
                ·
                  refine wp_ck (z_r32_i.mpr ⟨(by omega) /- z_r32.lo z156#1 -/, (by omega) /- z_r32.hi z156#1 -/⟩) ?_
                  refine wp_if (fun c22 => ?_) (fun c22 => ?_)
                  ·
                    refine wp_bd1 (s_X7_faultAt _ _ _ _ (by omega) /- pre X7_faultAt.1#3 -/ (by omega) /- pre X7_faultAt.2#3 -/ (by omega) /- pre X7_faultAt.3#3 -/ (by omega) /- pre X7_faultAt.4#3 -/ (by omega) /- pre X7_faultAt.5#3 -/ (by omega) /- pre X7_faultAt.6#3 -/ (by omega) /- pre X7_faultAt.7#3 -/ (by omega) /- pre X7_faultAt.8#3 -/) (fun z160 q_X7_faultAt_3 => ?_)
                    try dsimp only at q_X7_faultAt_3
                    have hfa : z160 = fa i_p0_sheets_2_lane i_p0_sheets_2_size x2 (x3 + z154) := q_X7_faultAt_3
                    clear q_X7_faultAt_3
                    have hfr2 := fa_r i_p0_sheets_2_lane i_p0_sheets_2_size x2 (x3 + z154)
                    rw [← hfa] at hfr2
                    refine wp_bnd ?_
                    refine wp_ck (z_r32_i.mpr ⟨(by omega) /- z_r32.lo z161#1 -/, (by omega) /- z_r32.hi z161#1 -/⟩) ?_
                    refine wp_if (fun c23 => ?_) (fun c23 => ?_)
                    ·
                      refine wp_ck (z_ix_i.mpr ⟨⟨(by have hfb := fa_0 (hfa.symm.trans (by assumption)); omega) /- ix.lo (x3 + z154)#1 -/, (by have hfb := fa_0 (hfa.symm.trans (by assumption)); omega) /- ix.hi (x3 + z154)#1 -/⟩, (by have hfb := fa_0 (hfa.symm.trans (by assumption)); omega) /- ix.big (x3 + z154)#1 -/⟩) ?_
                      have hfb := fa_0 (hfa.symm.trans (by assumption))
                      have hcl := h35 (x3 + z154) (by omega) (by omega)
                      refine wp_bd1 (s_X11_canPass _ _ _ _ (by omega) /- pre X11_canPass.1#3 -/ (by omega) /- pre X11_canPass.2#3 -/ (by omega) /- pre X11_canPass.3#3 -/ (by omega) /- pre X11_canPass.4#3 -/ (by omega) /- pre X11_canPass.5#3 -/ (by omega) /- pre X11_canPass.6#3 -/ (by omega) /- pre X11_canPass.7#3 -/ (by omega) /- pre X11_canPass.8#3 -/) (fun z164 q_X11_canPass_3 => ?_)
                      try dsimp only at q_X11_canPass_3
                      have hcp : (z164 = 1 ∧ (0 ≤ v_p0_sheets_2_cells (x3 + z154) ∧ v_p0_sheets_2_cells (x3 + z154) < i_p0_rules_stirs) ∧ i_p0_state_days + z154 < 999) ∨ (z164 = 0 ∧ ¬ ((0 ≤ v_p0_sheets_2_cells (x3 + z154) ∧ v_p0_sheets_2_cells (x3 + z154) < i_p0_rules_stirs) ∧ i_p0_state_days + z154 < 999)) := by split at q_X11_canPass_3 <;> first | (left; exact ⟨by assumption, by assumption⟩) | (right; exact ⟨by assumption, by assumption⟩)
                      clear q_X11_canPass_3
                      refine wp_ck (z_r32_i.mpr ⟨(by omega) /- z_r32.lo z164#1 -/, (by omega) /- z_r32.hi z164#1 -/⟩) ?_
                      refine wp_if (fun c24 => ?_) (fun c24 => ?_)
                      ·
                        refine wp_some ?_
                        try dsimp only
                        all_goals exact ⟨(by intro h; exfalso; omega) /- post1#11 -/, (by intro h1 h2; exfalso; omega) /- post2#11 -/, (by intro h1 h2; exfalso; omega) /- post3#11 -/, (by intro _ _; rcases hcp with hq | hq; omega; exact ⟨z154, by omega, fun j a b => i_B_X11_read_45_3_4 j a (by omega), Or.inl ⟨by omega, hfa.symm.trans (by assumption), hq.2, rfl, rfl, rfl, rfl, rfl, rfl, rfl⟩⟩) /- post4#11 -/, (by intro h1 h2; exfalso; omega) /- post5#11 -/, (by exact h30) /- post6#11 -/, (by omega) /- post7#11 -/, (by omega) /- post8#11 -/⟩
                      ·
                        refine wp_bndE (fun z166 hz166 => ?_)
                        refine wp_bndE (fun z167 hz167 => ?_)
                        exact ih_B_X11_read_45_3 _ _ _ ⟨(by omega) /- B_X11_read_45_3.inv1#1 -/, (by omega) /- B_X11_read_45_3.inv2#1 -/, (by omega) /- B_X11_read_45_3.inv3#1 -/, (by 
                                        intro j a b
                                        by_cases e : j = z154
                                        · rw [e]; exact ⟨hfa.symm.trans (by assumption), by rcases hcp with hq | hq; exact hq.2; omega⟩
                                        · exact i_B_X11_read_45_3_4 j a (by omega)) /- B_X11_read_45_3.inv4#1 -/, (by left; omega) /- B_X11_read_45_3.inv5#1 -/, (by omega) /- B_X11_read_45_3.inv6#1 -/⟩ (by omega) /- B_X11_read_45_3.dec#1 -/
                    ·
                      refine wp_bndE (fun z163 hz163 => ?_)
                      exact ih_B_X11_read_45_3 _ _ _ ⟨(by omega) /- B_X11_read_45_3.inv1#2 -/, (by omega) /- B_X11_read_45_3.inv2#2 -/, (by omega) /- B_X11_read_45_3.inv3#2 -/, (by intro j a b; exact i_B_X11_read_45_3_4 j a (by omega)) /- B_X11_read_45_3.inv4#2 -/, (by right; refine ⟨by assumption, by omega, ?_⟩; rw [hfa]; congr 2; omega) /- B_X11_read_45_3.inv5#2 -/, (by omega) /- B_X11_read_45_3.inv6#2 -/⟩ (by omega) /- B_X11_read_45_3.dec#2 -/
                  ·
                    refine wp_bnd ?_
                    refine wp_jn ?_
                    refine wp_lq9 (fun (z131 : Int) (z132 : Int) (z133 : Int) (z134 : Int) (w135 : (Int → Int)) (w136 : (Int → Int)) (w137 : (Int → Int)) (w138 : (Int → Int)) (w139 : (Int → Int)) => (0 ≤ z131) ∧ (z131 ≤ z155) ∧ (okD i_p0_rules_seats z132 z133 z134 w135 w136) ∧ (daysP i_p0_rules_seats v_p0_rules_after v_p0_state_friends v_p0_sheets_2_cells x3 z131.toNat i_p0_state_bone i_p0_state_king i_p0_state_days v_p0_state_pieces v_p0_state_eaten z132 z133 z134 w135 w136)) (fun (z131 : Int) (z132 : Int) (z133 : Int) (z134 : Int) (w135 : (Int → Int)) (w136 : (Int → Int)) (w137 : (Int → Int)) (w138 : (Int → Int)) (w139 : (Int → Int)) => (z155 - z131).toNat) (fun again114 z131 z132 z133 z134 w135 w136 w137 w138 w139 hI ih_B_X11_read_114_3 => ?_) 1000 _ _ _ _ _ _ _ _ _ ⟨(by omega) /- B_X11_read_114_3.init1#2 -/, (by omega) /- B_X11_read_114_3.init2#2 -/, (by exact h30) /- B_X11_read_114_3.init3#2 -/, (by exact ⟨rfl, rfl, rfl, rfl, rfl⟩) /- B_X11_read_114_3.init4#2 -/⟩ (by omega) /- B_X11_read_114_3.fuel#2 -/
                    obtain ⟨i_B_X11_read_114_3_1, i_B_X11_read_114_3_2, i_B_X11_read_114_3_3, i_B_X11_read_114_3_4⟩ := hI
                    unfold B_X11_read_114_3
                    have hdd := daysP_d _ i_B_X11_read_114_3_4
                    have hg := fun (hlt : z131 < z155) => i_B_X11_read_45_3_4 z131 i_B_X11_read_114_3_1 hlt
                    have hod := i_B_X11_read_114_3_3
                    refine wp_ck (z_r32_i.mpr ⟨(by omega) /- z_r32.lo z131#2 -/, (by omega) /- z_r32.hi z131#2 -/⟩) ?_
                    refine wp_ck (z_r32_i.mpr ⟨(by omega) /- z_r32.lo z118#2 -/, (by omega) /- z_r32.hi z118#2 -/⟩) ?_
                    refine wp_if (fun c25 => ?_) (fun c25 => ?_)
                    ·
                      refine wp_bnd ?_
                      refine wp_some ?_
                      try dsimp only
                      all_goals exact ⟨(by intro h; exfalso; omega) /- post1#12 -/, (by intro h1 h2; exfalso; omega) /- post2#12 -/, (by intro h1 h2; exfalso; omega) /- post3#12 -/, (by 
                                        intro _ _
                                        have e : z131.toNat = z155.toNat := by omega
                                        rw [e] at i_B_X11_read_114_3_4
                                        refine ⟨z155, by omega, i_B_X11_read_45_3_4, Or.inr ⟨?_, rfl, i_B_X11_read_114_3_4⟩⟩
                                        rcases i_B_X11_read_45_3_5 with hq | hq
                                        · right; omega
                                        · left; exact ⟨by omega, by rw [← hq.2.2]; exact hq.1, hq.2.2⟩) /- post4#12 -/, (by intro h1 h2; exfalso; omega) /- post5#12 -/, (by exact i_B_X11_read_114_3_3) /- post6#12 -/, (by omega) /- post7#12 -/, (by omega) /- post8#12 -/⟩
                    ·
                      refine wp_ck (z_ix_i.mpr ⟨⟨(by have hg1 := hg (by omega); have hgb := fa_0 hg1.1; omega) /- ix.lo (x3 + z131)#2 -/, (by have hg1 := hg (by omega); have hgb := fa_0 hg1.1; omega) /- ix.hi (x3 + z131)#2 -/⟩, (by have hg1 := hg (by omega); have hgb := fa_0 hg1.1; omega) /- ix.big (x3 + z131)#2 -/⟩) ?_
                      have hg1 := hg (by omega)
                      have hgb := fa_0 hg1.1
                      have hrow := h29 (v_p0_sheets_2_cells (x3 + z131)) hg1.2.1.1 hg1.2.1.2
                      have hb1 := hod.1
                      have hb2 := hod.2.1
                      have hb3 := hod.2.2.1
                      refine wp_bd8 (s_X2_passDay _ _ _ _ _ _ _ _ _ _ _ _ (by omega) /- pre X2_passDay.1#6 -/ (by omega) /- pre X2_passDay.2#6 -/ (by omega) /- pre X2_passDay.3#6 -/ (by omega) /- pre X2_passDay.4#6 -/ (by exact hrow) /- pre X2_passDay.5#6 -/ (by omega) /- pre X2_passDay.6#6 -/ (by omega) /- pre X2_passDay.7#6 -/ (by omega) /- pre X2_passDay.8#6 -/ (by omega) /- pre X2_passDay.9#6 -/) (fun z143 z144 z145 w146 w147 w148 w149 w150 q_X2_passDay_6 => ?_)
                      try dsimp only at q_X2_passDay_6
                      obtain ⟨q_X2_passDay_6_1, q_X2_passDay_6_2, q_X2_passDay_6_3, q_X2_passDay_6_4, q_X2_passDay_6_5, q_X2_passDay_6_6, q_X2_passDay_6_7⟩ := q_X2_passDay_6
                      have hdp : dayP i_p0_rules_seats (fun i => v_p0_rules_after (v_p0_sheets_2_cells (x3 + z131) * 7 + i)) v_p0_state_friends z132 z133 z134 w135 w136 z143 z144 z145 w146 w147 := ⟨q_X2_passDay_6_1, q_X2_passDay_6_2, q_X2_passDay_6_3, q_X2_passDay_6_4, q_X2_passDay_6_5, q_X2_passDay_6_6, q_X2_passDay_6_7⟩
                      refine wp_bndE (fun z151 hz151 => ?_)
                      exact ih_B_X11_read_114_3 _ _ _ _ _ _ _ _ _ ⟨(by omega) /- B_X11_read_114_3.inv1#2 -/, (by omega) /- B_X11_read_114_3.inv2#2 -/, (by exact okD_day ⟨h9, h10⟩ hrow hod (by omega) hdp) /- B_X11_read_114_3.inv3#2 -/, (by rw [hz151, show (z131 + 1).toNat = z131.toNat + 1 from by omega]; exact ⟨_, _, _, _, _, i_B_X11_read_114_3_4, by rw [show ((z131.toNat : Nat) : Int) = z131 from by omega]; exact hdp⟩) /- B_X11_read_114_3.inv4#2 -/⟩ (by omega) /- B_X11_read_114_3.dec#2 -/
              ·
                refine wp_if (fun c26 => ?_) (fun c26 => ?_)
                ·
                  refine wp_bnd ?_
                  refine wp_bnd ?_
                  refine wp_bnd ?_
                  refine wp_jn ?_
                  refine wp_jn ?_
                  refine wp_lq3 (fun (z208 : Int) (z209 : Int) (z210 : Int) => (0 ≤ z209) ∧ (z209 ≤ z208) ∧ (z208 ≤ x4) ∧ (∀ j, 0 ≤ j → j < z209 → fa i_p0_sheets_3_lane i_p0_sheets_3_size x2 (x3 + j) = 0 ∧ (0 ≤ v_p0_sheets_3_cells (x3 + j) ∧ v_p0_sheets_3_cells (x3 + j) < i_p0_rules_stirs) ∧ i_p0_state_days + j < 999) ∧ ((z210 = 0 ∧ z209 = z208) ∨ (¬ z210 = 0 ∧ z208 = z209 + 1 ∧ z210 = fa i_p0_sheets_3_lane i_p0_sheets_3_size x2 (x3 + z209))) ∧ (z210 = 0 → z208 = 0 ∨ x3 + z208 ≤ 40)) (fun (z208 : Int) (z209 : Int) (z210 : Int) => (x4 - z208).toNat) (fun again45 z208 z209 z210 hI ih_B_X11_read_45_4 => ?_) 1000 _ _ _ ⟨(by omega) /- B_X11_read_45_4.init1#1 -/, (by omega) /- B_X11_read_45_4.init2#1 -/, (by omega) /- B_X11_read_45_4.init3#1 -/, (by intro j; omega) /- B_X11_read_45_4.init4#1 -/, (by omega) /- B_X11_read_45_4.init5#1 -/, (by omega) /- B_X11_read_45_4.init6#1 -/⟩ (by omega) /- B_X11_read_45_4.fuel#1 -/
                  obtain ⟨i_B_X11_read_45_4_1, i_B_X11_read_45_4_2, i_B_X11_read_45_4_3, i_B_X11_read_45_4_4, i_B_X11_read_45_4_5, i_B_X11_read_45_4_6⟩ := hI
                  unfold B_X11_read_45_4
                  have hfr := fa_r i_p0_sheets_3_lane i_p0_sheets_3_size x2 (x3 + z209)
                  refine wp_ck (z_r32_i.mpr ⟨(by omega) /- z_r32.lo z208#1 -/, (by omega) /- z_r32.hi z208#1 -/⟩) ?_
                  refine wp_if (fun c27 => ?_) (fun c27 => ?_)
                  ·
                    refine wp_bnd ?_
                    refine wp_jn ?_
                    refine wp_lq9 (fun (z185 : Int) (z186 : Int) (z187 : Int) (z188 : Int) (w189 : (Int → Int)) (w190 : (Int → Int)) (w191 : (Int → Int)) (w192 : (Int → Int)) (w193 : (Int → Int)) => (0 ≤ z185) ∧ (z185 ≤ z209) ∧ (okD i_p0_rules_seats z186 z187 z188 w189 w190) ∧ (daysP i_p0_rules_seats v_p0_rules_after v_p0_state_friends v_p0_sheets_3_cells x3 z185.toNat i_p0_state_bone i_p0_state_king i_p0_state_days v_p0_state_pieces v_p0_state_eaten z186 z187 z188 w189 w190)) (fun (z185 : Int) (z186 : Int) (z187 : Int) (z188 : Int) (w189 : (Int → Int)) (w190 : (Int → Int)) (w191 : (Int → Int)) (w192 : (Int → Int)) (w193 : (Int → Int)) => (z209 - z185).toNat) (fun again114 z185 z186 z187 z188 w189 w190 w191 w192 w193 hI ih_B_X11_read_114_4 => ?_) 1000 _ _ _ _ _ _ _ _ _ ⟨(by omega) /- B_X11_read_114_4.init1#1 -/, (by omega) /- B_X11_read_114_4.init2#1 -/, (by exact h30) /- B_X11_read_114_4.init3#1 -/, (by exact ⟨rfl, rfl, rfl, rfl, rfl⟩) /- B_X11_read_114_4.init4#1 -/⟩ (by omega) /- B_X11_read_114_4.fuel#1 -/
                    obtain ⟨i_B_X11_read_114_4_1, i_B_X11_read_114_4_2, i_B_X11_read_114_4_3, i_B_X11_read_114_4_4⟩ := hI
                    unfold B_X11_read_114_4
                    have hdd := daysP_d _ i_B_X11_read_114_4_4
                    have hg := fun (hlt : z185 < z209) => i_B_X11_read_45_4_4 z185 i_B_X11_read_114_4_1 hlt
                    have hod := i_B_X11_read_114_4_3
                    refine wp_ck (z_r32_i.mpr ⟨(by omega) /- z_r32.lo z185#1 -/, (by omega) /- z_r32.hi z185#1 -/⟩) ?_
                    refine wp_ck (z_r32_i.mpr ⟨(by omega) /- z_r32.lo z172#1 -/, (by omega) /- z_r32.hi z172#1 -/⟩) ?_
                    refine wp_if (fun c28 => ?_) (fun c28 => ?_)
                    ·
                      refine wp_bnd ?_
                      refine wp_some ?_
                      try dsimp only
                      all_goals exact ⟨(by intro h; exfalso; omega) /- post1#13 -/, (by intro h1 h2; exfalso; omega) /- post2#13 -/, (by intro h1 h2; exfalso; omega) /- post3#13 -/, (by intro h1 h2; exfalso; omega) /- post4#13 -/, (by 
                                        intro _ _
                                        have e : z185.toNat = z209.toNat := by omega
                                        rw [e] at i_B_X11_read_114_4_4
                                        refine ⟨z209, by omega, i_B_X11_read_45_4_4, Or.inr ⟨?_, rfl, i_B_X11_read_114_4_4⟩⟩
                                        rcases i_B_X11_read_45_4_5 with hq | hq
                                        · right; omega
                                        · left; exact ⟨by omega, by rw [← hq.2.2]; exact hq.1, hq.2.2⟩) /- post5#13 -/, (by exact i_B_X11_read_114_4_3) /- post6#13 -/, (by omega) /- post7#13 -/, (by omega) /- post8#13 -/⟩
                    ·
                      refine wp_ck (z_ix_i.mpr ⟨⟨(by have hg1 := hg (by omega); have hgb := fa_0 hg1.1; omega) /- ix.lo (x3 + z185)#1 -/, (by have hg1 := hg (by omega); have hgb := fa_0 hg1.1; omega) /- ix.hi (x3 + z185)#1 -/⟩, (by have hg1 := hg (by omega); have hgb := fa_0 hg1.1; omega) /- ix.big (x3 + z185)#1 -/⟩) ?_
                      have hg1 := hg (by omega)
                      have hgb := fa_0 hg1.1
                      have hrow := h29 (v_p0_sheets_3_cells (x3 + z185)) hg1.2.1.1 hg1.2.1.2
                      have hb1 := hod.1
                      have hb2 := hod.2.1
                      have hb3 := hod.2.2.1
                      refine wp_bd8 (s_X2_passDay _ _ _ _ _ _ _ _ _ _ _ _ (by omega) /- pre X2_passDay.1#7 -/ (by omega) /- pre X2_passDay.2#7 -/ (by omega) /- pre X2_passDay.3#7 -/ (by omega) /- pre X2_passDay.4#7 -/ (by exact hrow) /- pre X2_passDay.5#7 -/ (by omega) /- pre X2_passDay.6#7 -/ (by omega) /- pre X2_passDay.7#7 -/ (by omega) /- pre X2_passDay.8#7 -/ (by omega) /- pre X2_passDay.9#7 -/) (fun z197 z198 z199 w200 w201 w202 w203 w204 q_X2_passDay_7 => ?_)
                      try dsimp only at q_X2_passDay_7
                      obtain ⟨q_X2_passDay_7_1, q_X2_passDay_7_2, q_X2_passDay_7_3, q_X2_passDay_7_4, q_X2_passDay_7_5, q_X2_passDay_7_6, q_X2_passDay_7_7⟩ := q_X2_passDay_7
                      have hdp : dayP i_p0_rules_seats (fun i => v_p0_rules_after (v_p0_sheets_3_cells (x3 + z185) * 7 + i)) v_p0_state_friends z186 z187 z188 w189 w190 z197 z198 z199 w200 w201 := ⟨q_X2_passDay_7_1, q_X2_passDay_7_2, q_X2_passDay_7_3, q_X2_passDay_7_4, q_X2_passDay_7_5, q_X2_passDay_7_6, q_X2_passDay_7_7⟩
                      refine wp_bndE (fun z205 hz205 => ?_)
                      exact ih_B_X11_read_114_4 _ _ _ _ _ _ _ _ _ ⟨(by omega) /- B_X11_read_114_4.inv1#1 -/, (by omega) /- B_X11_read_114_4.inv2#1 -/, (by exact okD_day ⟨h9, h10⟩ hrow hod (by omega) hdp) /- B_X11_read_114_4.inv3#1 -/, (by rw [hz205, show (z185 + 1).toNat = z185.toNat + 1 from by omega]; exact ⟨_, _, _, _, _, i_B_X11_read_114_4_4, by rw [show ((z185.toNat : Nat) : Int) = z185 from by omega]; exact hdp⟩) /- B_X11_read_114_4.inv4#1 -/⟩ (by omega) /- B_X11_read_114_4.dec#1 -/
                  ·
                    refine wp_ck (z_r32_i.mpr ⟨(by omega) /- z_r32.lo z210#1 -/, (by omega) /- z_r32.hi z210#1 -/⟩) ?_
                    refine wp_if (fun c29 => ?_) (fun c29 => ?_)
                    ·
                      refine wp_bd1 (s_X7_faultAt _ _ _ _ (by omega) /- pre X7_faultAt.1#4 -/ (by omega) /- pre X7_faultAt.2#4 -/ (by omega) /- pre X7_faultAt.3#4 -/ (by omega) /- pre X7_faultAt.4#4 -/ (by omega) /- pre X7_faultAt.5#4 -/ (by omega) /- pre X7_faultAt.6#4 -/ (by omega) /- pre X7_faultAt.7#4 -/ (by omega) /- pre X7_faultAt.8#4 -/) (fun z214 q_X7_faultAt_4 => ?_)
                      try dsimp only at q_X7_faultAt_4
                      have hfa : z214 = fa i_p0_sheets_3_lane i_p0_sheets_3_size x2 (x3 + z208) := q_X7_faultAt_4
                      clear q_X7_faultAt_4
                      have hfr2 := fa_r i_p0_sheets_3_lane i_p0_sheets_3_size x2 (x3 + z208)
                      rw [← hfa] at hfr2
                      refine wp_bnd ?_
                      refine wp_ck (z_r32_i.mpr ⟨(by omega) /- z_r32.lo z215#1 -/, (by omega) /- z_r32.hi z215#1 -/⟩) ?_
                      refine wp_if (fun c30 => ?_) (fun c30 => ?_)
                      ·
                        refine wp_ck (z_ix_i.mpr ⟨⟨(by have hfb := fa_0 (hfa.symm.trans (by assumption)); omega) /- ix.lo (x3 + z208)#1 -/, (by have hfb := fa_0 (hfa.symm.trans (by assumption)); omega) /- ix.hi (x3 + z208)#1 -/⟩, (by have hfb := fa_0 (hfa.symm.trans (by assumption)); omega) /- ix.big (x3 + z208)#1 -/⟩) ?_
                        have hfb := fa_0 (hfa.symm.trans (by assumption))
                        have hcl := h36 (x3 + z208) (by omega) (by omega)
                        refine wp_bd1 (s_X11_canPass _ _ _ _ (by omega) /- pre X11_canPass.1#4 -/ (by omega) /- pre X11_canPass.2#4 -/ (by omega) /- pre X11_canPass.3#4 -/ (by omega) /- pre X11_canPass.4#4 -/ (by omega) /- pre X11_canPass.5#4 -/ (by omega) /- pre X11_canPass.6#4 -/ (by omega) /- pre X11_canPass.7#4 -/ (by omega) /- pre X11_canPass.8#4 -/) (fun z218 q_X11_canPass_4 => ?_)
                        try dsimp only at q_X11_canPass_4
                        have hcp : (z218 = 1 ∧ (0 ≤ v_p0_sheets_3_cells (x3 + z208) ∧ v_p0_sheets_3_cells (x3 + z208) < i_p0_rules_stirs) ∧ i_p0_state_days + z208 < 999) ∨ (z218 = 0 ∧ ¬ ((0 ≤ v_p0_sheets_3_cells (x3 + z208) ∧ v_p0_sheets_3_cells (x3 + z208) < i_p0_rules_stirs) ∧ i_p0_state_days + z208 < 999)) := by split at q_X11_canPass_4 <;> first | (left; exact ⟨by assumption, by assumption⟩) | (right; exact ⟨by assumption, by assumption⟩)
                        clear q_X11_canPass_4
                        refine wp_ck (z_r32_i.mpr ⟨(by omega) /- z_r32.lo z218#1 -/, (by omega) /- z_r32.hi z218#1 -/⟩) ?_
                        refine wp_if (fun c31 => ?_) (fun c31 => ?_)
                        ·
                          refine wp_some ?_
                          try dsimp only
                          all_goals exact ⟨(by intro h; exfalso; omega) /- post1#14 -/, (by intro h1 h2; exfalso; omega) /- post2#14 -/, (by intro h1 h2; exfalso; omega) /- post3#14 -/, (by intro h1 h2; exfalso; omega) /- post4#14 -/, (by intro _ _; rcases hcp with hq | hq; omega; exact ⟨z208, by omega, fun j a b => i_B_X11_read_45_4_4 j a (by omega), Or.inl ⟨by omega, hfa.symm.trans (by assumption), hq.2, rfl, rfl, rfl, rfl, rfl, rfl, rfl⟩⟩) /- post5#14 -/, (by exact h30) /- post6#14 -/, (by omega) /- post7#14 -/, (by omega) /- post8#14 -/⟩
                        ·
                          refine wp_bndE (fun z220 hz220 => ?_)
                          refine wp_bndE (fun z221 hz221 => ?_)
                          exact ih_B_X11_read_45_4 _ _ _ ⟨(by omega) /- B_X11_read_45_4.inv1#1 -/, (by omega) /- B_X11_read_45_4.inv2#1 -/, (by omega) /- B_X11_read_45_4.inv3#1 -/, (by 
                                        intro j a b
                                        by_cases e : j = z208
                                        · rw [e]; exact ⟨hfa.symm.trans (by assumption), by rcases hcp with hq | hq; exact hq.2; omega⟩
                                        · exact i_B_X11_read_45_4_4 j a (by omega)) /- B_X11_read_45_4.inv4#1 -/, (by left; omega) /- B_X11_read_45_4.inv5#1 -/, (by omega) /- B_X11_read_45_4.inv6#1 -/⟩ (by omega) /- B_X11_read_45_4.dec#1 -/
                      ·
                        refine wp_bndE (fun z217 hz217 => ?_)
                        exact ih_B_X11_read_45_4 _ _ _ ⟨(by omega) /- B_X11_read_45_4.inv1#2 -/, (by omega) /- B_X11_read_45_4.inv2#2 -/, (by omega) /- B_X11_read_45_4.inv3#2 -/, (by intro j a b; exact i_B_X11_read_45_4_4 j a (by omega)) /- B_X11_read_45_4.inv4#2 -/, (by right; refine ⟨by assumption, by omega, ?_⟩; rw [hfa]; congr 2; omega) /- B_X11_read_45_4.inv5#2 -/, (by omega) /- B_X11_read_45_4.inv6#2 -/⟩ (by omega) /- B_X11_read_45_4.dec#2 -/
                    ·
                      refine wp_bnd ?_
                      refine wp_jn ?_
                      refine wp_lq9 (fun (z185 : Int) (z186 : Int) (z187 : Int) (z188 : Int) (w189 : (Int → Int)) (w190 : (Int → Int)) (w191 : (Int → Int)) (w192 : (Int → Int)) (w193 : (Int → Int)) => (0 ≤ z185) ∧ (z185 ≤ z209) ∧ (okD i_p0_rules_seats z186 z187 z188 w189 w190) ∧ (daysP i_p0_rules_seats v_p0_rules_after v_p0_state_friends v_p0_sheets_3_cells x3 z185.toNat i_p0_state_bone i_p0_state_king i_p0_state_days v_p0_state_pieces v_p0_state_eaten z186 z187 z188 w189 w190)) (fun (z185 : Int) (z186 : Int) (z187 : Int) (z188 : Int) (w189 : (Int → Int)) (w190 : (Int → Int)) (w191 : (Int → Int)) (w192 : (Int → Int)) (w193 : (Int → Int)) => (z209 - z185).toNat) (fun again114 z185 z186 z187 z188 w189 w190 w191 w192 w193 hI ih_B_X11_read_114_4 => ?_) 1000 _ _ _ _ _ _ _ _ _ ⟨(by omega) /- B_X11_read_114_4.init1#2 -/, (by omega) /- B_X11_read_114_4.init2#2 -/, (by exact h30) /- B_X11_read_114_4.init3#2 -/, (by exact ⟨rfl, rfl, rfl, rfl, rfl⟩) /- B_X11_read_114_4.init4#2 -/⟩ (by omega) /- B_X11_read_114_4.fuel#2 -/
                      obtain ⟨i_B_X11_read_114_4_1, i_B_X11_read_114_4_2, i_B_X11_read_114_4_3, i_B_X11_read_114_4_4⟩ := hI
                      unfold B_X11_read_114_4
                      have hdd := daysP_d _ i_B_X11_read_114_4_4
                      have hg := fun (hlt : z185 < z209) => i_B_X11_read_45_4_4 z185 i_B_X11_read_114_4_1 hlt
                      have hod := i_B_X11_read_114_4_3
                      refine wp_ck (z_r32_i.mpr ⟨(by omega) /- z_r32.lo z185#2 -/, (by omega) /- z_r32.hi z185#2 -/⟩) ?_
                      refine wp_ck (z_r32_i.mpr ⟨(by omega) /- z_r32.lo z172#2 -/, (by omega) /- z_r32.hi z172#2 -/⟩) ?_
                      refine wp_if (fun c32 => ?_) (fun c32 => ?_)
                      ·
                        refine wp_bnd ?_
                        refine wp_some ?_
                        try dsimp only
                        all_goals exact ⟨(by intro h; exfalso; omega) /- post1#15 -/, (by intro h1 h2; exfalso; omega) /- post2#15 -/, (by intro h1 h2; exfalso; omega) /- post3#15 -/, (by intro h1 h2; exfalso; omega) /- post4#15 -/, (by 
                                        intro _ _
                                        have e : z185.toNat = z209.toNat := by omega
                                        rw [e] at i_B_X11_read_114_4_4
                                        refine ⟨z209, by omega, i_B_X11_read_45_4_4, Or.inr ⟨?_, rfl, i_B_X11_read_114_4_4⟩⟩
                                        rcases i_B_X11_read_45_4_5 with hq | hq
                                        · right; omega
                                        · left; exact ⟨by omega, by rw [← hq.2.2]; exact hq.1, hq.2.2⟩) /- post5#15 -/, (by exact i_B_X11_read_114_4_3) /- post6#15 -/, (by omega) /- post7#15 -/, (by omega) /- post8#15 -/⟩
                      ·
                        refine wp_ck (z_ix_i.mpr ⟨⟨(by have hg1 := hg (by omega); have hgb := fa_0 hg1.1; omega) /- ix.lo (x3 + z185)#2 -/, (by have hg1 := hg (by omega); have hgb := fa_0 hg1.1; omega) /- ix.hi (x3 + z185)#2 -/⟩, (by have hg1 := hg (by omega); have hgb := fa_0 hg1.1; omega) /- ix.big (x3 + z185)#2 -/⟩) ?_
                        have hg1 := hg (by omega)
                        have hgb := fa_0 hg1.1
                        have hrow := h29 (v_p0_sheets_3_cells (x3 + z185)) hg1.2.1.1 hg1.2.1.2
                        have hb1 := hod.1
                        have hb2 := hod.2.1
                        have hb3 := hod.2.2.1
                        refine wp_bd8 (s_X2_passDay _ _ _ _ _ _ _ _ _ _ _ _ (by omega) /- pre X2_passDay.1#8 -/ (by omega) /- pre X2_passDay.2#8 -/ (by omega) /- pre X2_passDay.3#8 -/ (by omega) /- pre X2_passDay.4#8 -/ (by exact hrow) /- pre X2_passDay.5#8 -/ (by omega) /- pre X2_passDay.6#8 -/ (by omega) /- pre X2_passDay.7#8 -/ (by omega) /- pre X2_passDay.8#8 -/ (by omega) /- pre X2_passDay.9#8 -/) (fun z197 z198 z199 w200 w201 w202 w203 w204 q_X2_passDay_8 => ?_)
                        try dsimp only at q_X2_passDay_8
                        obtain ⟨q_X2_passDay_8_1, q_X2_passDay_8_2, q_X2_passDay_8_3, q_X2_passDay_8_4, q_X2_passDay_8_5, q_X2_passDay_8_6, q_X2_passDay_8_7⟩ := q_X2_passDay_8
                        have hdp : dayP i_p0_rules_seats (fun i => v_p0_rules_after (v_p0_sheets_3_cells (x3 + z185) * 7 + i)) v_p0_state_friends z186 z187 z188 w189 w190 z197 z198 z199 w200 w201 := ⟨q_X2_passDay_8_1, q_X2_passDay_8_2, q_X2_passDay_8_3, q_X2_passDay_8_4, q_X2_passDay_8_5, q_X2_passDay_8_6, q_X2_passDay_8_7⟩
                        refine wp_bndE (fun z205 hz205 => ?_)
                        exact ih_B_X11_read_114_4 _ _ _ _ _ _ _ _ _ ⟨(by omega) /- B_X11_read_114_4.inv1#2 -/, (by omega) /- B_X11_read_114_4.inv2#2 -/, (by exact okD_day ⟨h9, h10⟩ hrow hod (by omega) hdp) /- B_X11_read_114_4.inv3#2 -/, (by rw [hz205, show (z185 + 1).toNat = z185.toNat + 1 from by omega]; exact ⟨_, _, _, _, _, i_B_X11_read_114_4_4, by rw [show ((z185.toNat : Nat) : Int) = z185 from by omega]; exact hdp⟩) /- B_X11_read_114_4.inv4#2 -/⟩ (by omega) /- B_X11_read_114_4.dec#2 -/
                ·
                  exfalso
                  exact (by omega) /- none#1 -/
        ·
          refine wp_some ?_
          try dsimp only
          all_goals exact ⟨(by intro _; exact ⟨rfl, rfl, rfl, rfl, rfl, rfl, rfl⟩) /- post1#16 -/, (by intro h1 h2; exfalso; omega) /- post2#16 -/, (by intro h1 h2; exfalso; omega) /- post3#16 -/, (by intro h1 h2; exfalso; omega) /- post4#16 -/, (by intro h1 h2; exfalso; omega) /- post5#16 -/, (by exact h30) /- post6#16 -/, (by omega) /- post7#16 -/, (by omega) /- post8#16 -/⟩

set_option maxHeartbeats 1000000 in
theorem s_X11_piecesInPot (i_p0_rules_seats : Int) (v_p0_state_pieces : (Int → Int)) (h1 : 2 ≤ i_p0_rules_seats) (h2 : i_p0_rules_seats ≤ 7) (h3 : ∀ j, 0 ≤ j → j < 7 → 0 ≤ v_p0_state_pieces j ∧ v_p0_state_pieces j ≤ 9) : wp (f_X11_piecesInPot i_p0_rules_seats v_p0_state_pieces) (fun o => (o = sumTo v_p0_state_pieces i_p0_rules_seats.toNat)) := by
  unfold f_X11_piecesInPot
  refine wp_bnd ?_
  refine wp_bnd ?_
  refine wp_lq2 (fun (z3 : Int) (z4 : Int) => (0 ≤ z3) ∧ (z3 ≤ i_p0_rules_seats) ∧ (z4 = sumTo v_p0_state_pieces z3.toNat)) (fun (z3 : Int) (z4 : Int) => (i_p0_rules_seats - z3).toNat) (fun again4 z3 z4 hI ih_B_X11_piecesInPot_4 => ?_) 1000 _ _ ⟨(by omega) /- B_X11_piecesInPot_4.init1#1 -/, (by omega) /- B_X11_piecesInPot_4.init2#1 -/, (by rfl) /- B_X11_piecesInPot_4.init3#1 -/⟩ (by omega) /- B_X11_piecesInPot_4.fuel#1 -/
  obtain ⟨i_B_X11_piecesInPot_4_1, i_B_X11_piecesInPot_4_2, i_B_X11_piecesInPot_4_3⟩ := hI
  unfold B_X11_piecesInPot_4
  refine wp_ck (z_r32_i.mpr ⟨(by omega) /- z_r32.lo z3#1 -/, (by omega) /- z_r32.hi z3#1 -/⟩) ?_
  refine wp_ck (z_r32_i.mpr ⟨(by omega) /- z_r32.lo i_p0_rules_seats#1 -/, (by omega) /- z_r32.hi i_p0_rules_seats#1 -/⟩) ?_
  refine wp_if (fun c1 => ?_) (fun c1 => ?_)
  ·
    refine wp_some ?_
    try dsimp only
    all_goals exact (by rw [i_B_X11_piecesInPot_4_3]; congr 1; omega) /- post1#1 -/
  ·
    refine wp_ck (z_ix_i.mpr ⟨⟨(by omega) /- ix.lo z3#1 -/, (by omega) /- ix.hi z3#1 -/⟩, (by omega) /- ix.big z3#1 -/⟩) ?_
    refine wp_bndE (fun z8 hz8 => ?_)
    refine wp_bndE (fun z9 hz9 => ?_)
    exact ih_B_X11_piecesInPot_4 _ _ ⟨(by omega) /- B_X11_piecesInPot_4.inv1#1 -/, (by omega) /- B_X11_piecesInPot_4.inv2#1 -/, (by rw [hz8, hz9, sum_s i_B_X11_piecesInPot_4_1, ← i_B_X11_piecesInPot_4_3]) /- B_X11_piecesInPot_4.inv3#1 -/⟩ (by omega) /- B_X11_piecesInPot_4.dec#1 -/

set_option maxHeartbeats 1000000 in
theorem s_X11_count (i_p0_rules_seats : Int) (i_p0_state_seenDays : Int) (v_p0_state_pieces : (Int → Int)) (i_p0_tape_length : Int) (v_p0_imageHeld : (Int → Int)) (i_p0_sheets_0_lane : Int) (i_p0_sheets_0_size : Int) (x1 : Int) (h1 : -2147483648 ≤ x1) (h2 : x1 < 2147483648) (h3 : 2 ≤ i_p0_rules_seats) (h4 : i_p0_rules_seats ≤ 7) (h5 : ∀ j, 0 ≤ j → j < 2 → v_p0_imageHeld j = 0 ∨ v_p0_imageHeld j = 1) (h6 : ∀ j, 0 ≤ j → j < 7 → 0 ≤ v_p0_state_pieces j ∧ v_p0_state_pieces j ≤ 9) (h7 : -4 ≤ i_p0_sheets_0_lane) (h8 : i_p0_sheets_0_lane ≤ 2) : wp (f_X11_count i_p0_rules_seats i_p0_state_seenDays v_p0_state_pieces i_p0_tape_length v_p0_imageHeld i_p0_sheets_0_lane i_p0_sheets_0_size x1) (fun o => (o = if x1 = 0 then i_p0_state_seenDays else if x1 = 1 then v_p0_imageHeld 0 + v_p0_imageHeld 1 else if x1 = 2 then i_p0_tape_length else if x1 = 3 then (if i_p0_sheets_0_lane = -4 then -4 else i_p0_sheets_0_size) else if x1 = 4 then sumTo v_p0_state_pieces i_p0_rules_seats.toNat else -1)) := by
  unfold f_X11_count
  have hh0 := h5 0 (by omega) (by omega)
  have hh1 := h5 1 (by omega) (by omega)
  refine wp_ck (z_r32_i.mpr ⟨(by first | omega | grind) /- z_r32.lo x1#1 -/, (by first | omega | grind) /- z_r32.hi x1#1 -/⟩) ?_
  refine wp_if (fun c1 => ?_) (fun c1 => ?_)
  ·
    refine wp_some ?_
    try dsimp only
    all_goals exact (by first | assumption | omega | grind) /- post1#1 -/
  ·
    refine wp_if (fun c2 => ?_) (fun c2 => ?_)
    ·
      refine wp_ck (z_ix_i.mpr ⟨⟨(by first | omega | grind) /- ix.lo (0 : Int)#1 -/, (by first | omega | grind) /- ix.hi (0 : Int)#1 -/⟩, (by first | omega | grind) /- ix.big (0 : Int)#1 -/⟩) ?_
      refine wp_ck (z_r32_i.mpr ⟨(by first | omega | grind) /- z_r32.lo (v_p0_imageHeld (0 : Int))#1 -/, (by first | omega | grind) /- z_r32.hi (v_p0_imageHeld (0 : Int))#1 -/⟩) ?_
      refine wp_jn ?_
      refine wp_if (fun c3 => ?_) (fun c3 => ?_)
      ·
        refine wp_ck (z_ix_i.mpr ⟨⟨(by first | omega | grind) /- ix.lo (1 : Int)#1 -/, (by first | omega | grind) /- ix.hi (1 : Int)#1 -/⟩, (by first | omega | grind) /- ix.big (1 : Int)#1 -/⟩) ?_
        refine wp_ck (z_r32_i.mpr ⟨(by first | omega | grind) /- z_r32.lo (v_p0_imageHeld (1 : Int))#1 -/, (by first | omega | grind) /- z_r32.hi (v_p0_imageHeld (1 : Int))#1 -/⟩) ?_
        refine wp_if (fun c4 => ?_) (fun c4 => ?_)
        ·
          refine wp_some ?_
          try dsimp only
          all_goals exact (by first | assumption | omega | grind) /- post1#2 -/
        ·
          refine wp_some ?_
          try dsimp only
          all_goals exact (by first | assumption | omega | grind) /- post1#3 -/
      ·
        refine wp_ck (z_ix_i.mpr ⟨⟨(by first | omega | grind) /- ix.lo (1 : Int)#2 -/, (by first | omega | grind) /- ix.hi (1 : Int)#2 -/⟩, (by first | omega | grind) /- ix.big (1 : Int)#2 -/⟩) ?_
        refine wp_ck (z_r32_i.mpr ⟨(by first | omega | grind) /- z_r32.lo (v_p0_imageHeld (1 : Int))#2 -/, (by first | omega | grind) /- z_r32.hi (v_p0_imageHeld (1 : Int))#2 -/⟩) ?_
        refine wp_if (fun c5 => ?_) (fun c5 => ?_)
        ·
          refine wp_some ?_
          try dsimp only
          all_goals exact (by first | assumption | omega | grind) /- post1#4 -/
        ·
          refine wp_some ?_
          try dsimp only
          all_goals exact (by first | assumption | omega | grind) /- post1#5 -/
    ·
      refine wp_if (fun c6 => ?_) (fun c6 => ?_)
      ·
        refine wp_some ?_
        try dsimp only
        all_goals exact (by first | assumption | omega | grind) /- post1#6 -/
      ·
        refine wp_if (fun c7 => ?_) (fun c7 => ?_)
        ·
          refine wp_ck (z_ix_i.mpr ⟨⟨(by first | omega | grind) /- ix.lo (0 : Int)#2 -/, (by first | omega | grind) /- ix.hi (0 : Int)#2 -/⟩, (by first | omega | grind) /- ix.big (0 : Int)#2 -/⟩) ?_
          refine wp_bd1 (s_X7_isNothing _ (by first | assumption | omega | grind) /- pre X7_isNothing.1#1 -/ (by first | assumption | omega | grind) /- pre X7_isNothing.2#1 -/) (fun z10 q_X7_isNothing_1 => ?_)
          try dsimp only at q_X7_isNothing_1
          refine wp_ck (z_r32_i.mpr ⟨(by first | omega | grind) /- z_r32.lo z10#1 -/, (by first | omega | grind) /- z_r32.hi z10#1 -/⟩) ?_
          refine wp_if (fun c8 => ?_) (fun c8 => ?_)
          ·
            refine wp_ck (z_ix_i.mpr ⟨⟨(by first | omega | grind) /- ix.lo (0 : Int)#3 -/, (by first | omega | grind) /- ix.hi (0 : Int)#3 -/⟩, (by first | omega | grind) /- ix.big (0 : Int)#3 -/⟩) ?_
            refine wp_some ?_
            try dsimp only
            all_goals exact (by first | assumption | omega | grind) /- post1#7 -/
          ·
            refine wp_some ?_
            try dsimp only
            all_goals exact (by first | assumption | omega | grind) /- post1#8 -/
        ·
          refine wp_if (fun c9 => ?_) (fun c9 => ?_)
          ·
            refine wp_bd1 (s_X11_piecesInPot _ _ (by first | assumption | omega | grind) /- pre X11_piecesInPot.1#1 -/ (by first | assumption | omega | grind) /- pre X11_piecesInPot.2#1 -/ (by first | assumption | omega | grind) /- pre X11_piecesInPot.3#1 -/) (fun z13 q_X11_piecesInPot_1 => ?_)
            try dsimp only at q_X11_piecesInPot_1
            refine wp_some ?_
            try dsimp only
            all_goals exact (by first | assumption | omega | grind) /- post1#9 -/
          ·
            refine wp_some ?_
            try dsimp only
            all_goals exact (by first | assumption | omega | grind) /- post1#10 -/
