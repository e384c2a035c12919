/-- a day by a stir (a row of places): what becomes of bone, king, days, pieces, what was eaten -/
def dayP (n : Int) (row f : Int → Int) (bone king days : Int) (p e : Int → Int) (bone2 king2 days2 : Int) (p2 e2 : Int → Int) : Prop :=
  bone2 = row bone ∧ (0 ≤ king2 ∧ king2 < n ∧ plc n king (f king) king2 = bone2) ∧ days2 = days + 1 ∧ (∀ i, 0 ≤ i → i < n → p2 (row i) = p i) ∧ (∀ q, (q < 0 ∨ n ≤ q) → p2 q = p q) ∧ (∀ x, 0 ≤ x → x < n → e2 x = e x + p2 (plc n king (f king) x)) ∧ (∀ q, (q < 0 ∨ n ≤ q) → e2 q = e q)
theorem okS_day {n sd bone king days bone2 king2 days2 : Int} {row p f s e se p2 e2 : Int → Int} (hn : 2 ≤ n ∧ n ≤ 7) (hr : perm n row) (h : okS n sd bone king days p f s e se) (hd : days < 999) (d : dayP n row f bone king days p e bone2 king2 days2 p2 e2) : okS n sd bone2 king2 days2 p2 f s e2 se := by
  obtain ⟨h1, h2, h3, h4, h5, h6, h7, h8, h9⟩ := h
  obtain ⟨d1, d2, d3, d4, d5, d6, d7⟩ := d
  have hp : ∀ j, 0 ≤ j → j < 7 → 0 ≤ p2 j ∧ p2 j ≤ 9 := by
    intro j a b
    by_cases c : j < n
    · obtain ⟨i, hi, e⟩ := perm_sur hr a c
      rw [← e, d4 i hi.1 hi.2]
      exact h5 i hi.1 (by omega)
    · rw [d5 j (by omega)]; exact h5 j a b
  refine ⟨by rw [d1]; exact hr.1 bone h1.1 h1.2, ⟨d2.1, d2.2.1⟩, by omega, h4, hp, h6, h7, fun j a b => ?_, h9⟩
  have q := h8 j a b
  by_cases c : j < n
  · rw [d6 j a c]
    have r := plc_rng (n := n) (k := king) (f := f king) (p := j) (by omega)
    have r2 := hp _ r.1 (by omega)
    omega
  · rw [d7 j (by omega)]; omega
/-- bits 0 to m less 1 by what holds -/
noncomputable def bitsOf (P : Int → Prop) : Nat → Int
  | 0 => 0
  | j + 1 => if Classical.propDecidable (P (j : Int)) |>.decide then z_or (bitsOf P j) (z_shl 1 (j : Int)) else bitsOf P j
theorem bits_t {P : Int → Prop} {j : Nat} (h : P (j : Int)) : bitsOf P (j + 1) = z_or (bitsOf P j) (z_shl 1 (j : Int)) := by
  show (if _ then _ else _) = _
  rw [if_pos (by simp [h])]
theorem bits_f {P : Int → Prop} {j : Nat} (h : ¬ P (j : Int)) : bitsOf P (j + 1) = bitsOf P j := by
  show (if _ then _ else _) = _
  rw [if_neg (by simp [h])]
theorem bits_tz {P : Int → Prop} {z : Int} (h0 : 0 ≤ z) (h : P z) : bitsOf P (z + 1).toNat = z_or (bitsOf P z.toNat) (z_shl 1 z) := by
  have e : (z + 1).toNat = z.toNat + 1 := by omega
  have e2 : ((z.toNat : Nat) : Int) = z := by omega
  rw [e, bits_t (by rw [e2]; exact h), e2]
theorem bits_fz {P : Int → Prop} {z : Int} (h0 : 0 ≤ z) (h : ¬ P z) : bitsOf P (z + 1).toNat = bitsOf P z.toNat := by
  have e : (z + 1).toNat = z.toNat + 1 := by omega
  have e2 : ((z.toNat : Nat) : Int) = z := by omega
  rw [e, bits_f (by rw [e2]; exact h)]
/-- the sum of f over 0 to m less 1 -/
def sumTo (f : Int → Int) : Nat → Int
  | 0 => 0
  | j + 1 => sumTo f j + f (j : Int)
theorem sum_s {f : Int → Int} {z : Int} (h : 0 ≤ z) : sumTo f (z + 1).toNat = sumTo f z.toNat + f z := by
  have e : (z + 1).toNat = z.toNat + 1 := by omega
  have e2 : ((z.toNat : Nat) : Int) = z := by omega
  rw [e]
  show sumTo f z.toNat + f ((z.toNat : Nat) : Int) = _
  rw [e2]
theorem sum_rng {f : Int → Int} {b : Int} (hb : 0 ≤ b) : ∀ m : Nat, (∀ j, 0 ≤ j → j < (m : Int) → 0 ≤ f j ∧ f j ≤ b) → 0 ≤ sumTo f m ∧ sumTo f m ≤ b * m := by
  intro m
  induction m with
  | zero => intro _; exact ⟨Int.le_refl _, by simp [sumTo]⟩
  | succ m ih =>
    intro h
    have a := ih (fun j h0 h1 => h j h0 (by omega))
    have c := h (m : Int) (by omega) (by omega)
    show 0 ≤ sumTo f m + f (m : Int) ∧ sumTo f m + f (m : Int) ≤ b * ((m + 1 : Nat) : Int)
    have e : b * ((m + 1 : Nat) : Int) = b * (m : Int) + b := by rw [Int.natCast_add, Int.mul_add]; simp
    omega
set_option maxHeartbeats 1000000 in
theorem s_X11_feed (i_p0_tape_length : Int) (v_p0_tape_bytes : (Int → Int)) (x1 : Int) (h1 : 0 ≤ i_p0_tape_length) (h2 : i_p0_tape_length ≤ 320) : wp (f_X11_feed i_p0_tape_length v_p0_tape_bytes x1) (fun o => (o.1 = if i_p0_tape_length + 8 ≤ 320 then i_p0_tape_length + 8 else -3) ∧ (o.2.1 = if i_p0_tape_length + 8 ≤ 320 then i_p0_tape_length + 8 else i_p0_tape_length) ∧ (i_p0_tape_length + 8 ≤ 320 → ∀ j, 0 ≤ j → j < 8 → o.2.2 (i_p0_tape_length + j) = z_i2b (z_i2b (w_shr x1 (56 - 8 * j)))) ∧ (∀ q, (¬ i_p0_tape_length + 8 ≤ 320 ∨ q < i_p0_tape_length ∨ i_p0_tape_length + 8 ≤ q) → o.2.2 q = v_p0_tape_bytes q)) := by
  unfold f_X11_feed
  refine wp_bd3 (s_X9_append _ _ _ (by first | omega | assumption | grind) /- pre X9_append.1#1 -/ (by first | omega | assumption | grind) /- pre X9_append.2#1 -/) (fun z1 z2 w3 q_X9_append_1 => ?_)
  try dsimp only at q_X9_append_1
  obtain ⟨q_X9_append_1_1, q_X9_append_1_2, q_X9_append_1_3, q_X9_append_1_4⟩ := q_X9_append_1
  refine wp_ck (z_r32_i.mpr ⟨(by first | omega | grind) /- z_r32.lo z1#1 -/, (by first | omega | grind) /- z_r32.hi z1#1 -/⟩) ?_
  refine wp_if (fun c1 => ?_) (fun c1 => ?_)
  ·
    refine wp_some ?_
    try dsimp only
    all_goals exact ⟨(by first | omega | assumption | grind) /- post1#1 -/, (by first | omega | assumption | grind) /- post2#1 -/, (by first | omega | assumption | grind) /- post3#1 -/, (by first | omega | assumption | grind) /- post4#1 -/⟩
  ·
    refine wp_some ?_
    try dsimp only
    all_goals exact ⟨(by first | omega | assumption | grind) /- post1#2 -/, (by first | omega | assumption | grind) /- post2#2 -/, (by first | omega | assumption | grind) /- post3#2 -/, (by first | omega | assumption | grind) /- post4#2 -/⟩

set_option maxHeartbeats 1000000 in
theorem s_X11_end (i_p0_tape_length : Int) (x1 : Int) (h1 : 0 ≤ i_p0_tape_length) (h2 : i_p0_tape_length ≤ 320) (h3 : -2147483648 ≤ x1) (h4 : x1 < 2147483648) : wp (f_X11_end i_p0_tape_length x1) (fun o => (o.1 = if 0 ≤ x1 ∧ x1 ≤ i_p0_tape_length then i_p0_tape_length else -1) ∧ (o.2 = if 0 ≤ x1 ∧ x1 ≤ i_p0_tape_length then x1 else i_p0_tape_length)) := by
  unfold f_X11_end
  refine wp_ck (z_r32_i.mpr ⟨(by first | omega | grind) /- z_r32.lo x1#1 -/, (by first | omega | grind) /- z_r32.hi x1#1 -/⟩) ?_
  refine wp_if (fun c1 => ?_) (fun c1 => ?_)
  ·
    refine wp_some ?_
    try dsimp only
    all_goals exact ⟨(by split <;> omega) /- post1#1 -/, (by split <;> omega) /- post2#1 -/⟩
  ·
    refine wp_ck (z_r32_i.mpr ⟨(by first | omega | grind) /- z_r32.lo i_p0_tape_length#1 -/, (by first | omega | grind) /- z_r32.hi i_p0_tape_length#1 -/⟩) ?_
    refine wp_if (fun c2 => ?_) (fun c2 => ?_)
    ·
      refine wp_bnd ?_
      refine wp_bnd ?_
      refine wp_some ?_
      try dsimp only
      all_goals exact ⟨(by split <;> omega) /- post1#2 -/, (by split <;> omega) /- post2#2 -/⟩
    ·
      refine wp_some ?_
      try dsimp only
      all_goals exact ⟨(by split <;> omega) /- post1#3 -/, (by split <;> omega) /- post2#3 -/⟩

set_option maxHeartbeats 1000000 in
theorem s_X11_fault (i_p0_latestFault : Int) : wp (f_X11_fault i_p0_latestFault) (fun o => (o = i_p0_latestFault)) := by
  unfold f_X11_fault
  refine wp_some ?_
  try dsimp only
  all_goals exact (by rfl) /- post1#1 -/

set_option maxHeartbeats 1000000 in
theorem s_X11_rule (i_p0_rules_seats : Int) (i_p0_rules_stirs : Int) (i_p0_state_bone : Int) (i_p0_state_king : Int) (i_p0_state_days : Int) (x1 : Int) (h1 : -2147483648 ≤ x1) (h2 : x1 < 2147483648) : wp (f_X11_rule i_p0_rules_seats i_p0_rules_stirs i_p0_state_bone i_p0_state_king i_p0_state_days x1) (fun o => (o = if x1 = 0 then i_p0_rules_seats else if x1 = 1 then i_p0_rules_stirs else if x1 = 2 then i_p0_state_king else if x1 = 3 then i_p0_state_days else if x1 = 4 then i_p0_state_bone else -1)) := by
  unfold f_X11_rule
  refine wp_ck (z_r32_i.mpr ⟨(by first | omega | grind) /- z_r32.lo x1#1 -/, (by first | omega | grind) /- z_r32.hi x1#1 -/⟩) ?_
  refine wp_if (fun c1 => ?_) (fun c1 => ?_)
  ·
    refine wp_some ?_
    try dsimp only
    all_goals exact (by simp [*]) /- post1#1 -/
  ·
    refine wp_if (fun c2 => ?_) (fun c2 => ?_)
    ·
      refine wp_some ?_
      try dsimp only
      all_goals exact (by simp [*]) /- post1#2 -/
    ·
      refine wp_if (fun c3 => ?_) (fun c3 => ?_)
      ·
        refine wp_some ?_
        try dsimp only
        all_goals exact (by simp [*]) /- post1#3 -/
      ·
        refine wp_if (fun c4 => ?_) (fun c4 => ?_)
        ·
          refine wp_some ?_
          try dsimp only
          all_goals exact (by simp [*]) /- post1#4 -/
        ·
          refine wp_if (fun c5 => ?_) (fun c5 => ?_)
          ·
            refine wp_some ?_
            try dsimp only
            all_goals exact (by simp [*]) /- post1#5 -/
          ·
            refine wp_some ?_
            try dsimp only
            all_goals exact (by simp [*]) /- post1#6 -/

set_option maxHeartbeats 1000000 in
theorem s_X11_pot (i_p0_rules_seats : Int) (v_p0_state_pieces : (Int → Int)) (x1 : Int) (h1 : -2147483648 ≤ x1) (h2 : x1 < 2147483648) (h3 : 2 ≤ i_p0_rules_seats) (h4 : i_p0_rules_seats ≤ 7) : wp (f_X11_pot i_p0_rules_seats v_p0_state_pieces x1) (fun o => (o = if 0 ≤ x1 ∧ x1 < i_p0_rules_seats then v_p0_state_pieces x1 else -1)) := by
  unfold f_X11_pot
  refine wp_bd1 (s_X6_hasSeat _ _ (by first | omega | assumption | grind) /- pre X6_hasSeat.1#1 -/ (by first | omega | assumption | grind) /- pre X6_hasSeat.2#1 -/ (by first | omega | assumption | grind) /- pre X6_hasSeat.3#1 -/ (by first | omega | assumption | grind) /- pre X6_hasSeat.4#1 -/) (fun z1 q_X6_hasSeat_1 => ?_)
  try dsimp only at q_X6_hasSeat_1
  refine wp_ck (z_r32_i.mpr ⟨(by first | omega | grind) /- z_r32.lo z1#1 -/, (by first | omega | grind) /- z_r32.hi z1#1 -/⟩) ?_
  refine wp_if (fun c1 => ?_) (fun c1 => ?_)
  ·
    refine wp_some ?_
    try dsimp only
    all_goals exact (by first | omega | assumption | grind) /- post1#1 -/
  ·
    refine wp_ck (z_ix_i.mpr ⟨⟨(by first | omega | grind) /- ix.lo x1#1 -/, (by first | omega | grind) /- ix.hi x1#1 -/⟩, (by first | omega | grind) /- ix.big x1#1 -/⟩) ?_
    refine wp_some ?_
    try dsimp only
    all_goals exact (by first | omega | assumption | grind) /- post1#2 -/

set_option maxHeartbeats 1000000 in
theorem s_X11_one (i_p0_rules_seats : Int) (v_p0_rules_need : (Int → Int)) (v_p0_state_friends : (Int → Int)) (v_p0_state_spoons : (Int → Int)) (v_p0_state_eaten : (Int → Int)) (x1 : Int) (x2 : Int) (h1 : -2147483648 ≤ x1) (h2 : x1 < 2147483648) (h3 : -2147483648 ≤ x2) (h4 : x2 < 2147483648) (h5 : 2 ≤ i_p0_rules_seats) (h6 : i_p0_rules_seats ≤ 7) : wp (f_X11_one i_p0_rules_seats v_p0_rules_need v_p0_state_friends v_p0_state_spoons v_p0_state_eaten x1 x2) (fun o => (o = if 0 ≤ x1 ∧ x1 < i_p0_rules_seats then (if x2 = 0 then v_p0_state_friends x1 else if x2 = 1 then v_p0_state_spoons x1 else if x2 = 2 then v_p0_rules_need x1 else if x2 = 3 then v_p0_state_eaten x1 else -1) else -1)) := by
  unfold f_X11_one
  refine wp_bd1 (s_X6_hasSeat _ _ (by first | omega | assumption | grind) /- pre X6_hasSeat.1#1 -/ (by first | omega | assumption | grind) /- pre X6_hasSeat.2#1 -/ (by first | omega | assumption | grind) /- pre X6_hasSeat.3#1 -/ (by first | omega | assumption | grind) /- pre X6_hasSeat.4#1 -/) (fun z1 q_X6_hasSeat_1 => ?_)
  try dsimp only at q_X6_hasSeat_1
  refine wp_ck (z_r32_i.mpr ⟨(by first | omega | grind) /- z_r32.lo z1#1 -/, (by first | omega | grind) /- z_r32.hi z1#1 -/⟩) ?_
  refine wp_if (fun c1 => ?_) (fun c1 => ?_)
  ·
    refine wp_some ?_
    try dsimp only
    all_goals exact (by first | omega | assumption | grind) /- post1#1 -/
  ·
    refine wp_ck (z_r32_i.mpr ⟨(by first | omega | grind) /- z_r32.lo x2#1 -/, (by first | omega | grind) /- z_r32.hi x2#1 -/⟩) ?_
    refine wp_if (fun c2 => ?_) (fun c2 => ?_)
    ·
      refine wp_ck (z_ix_i.mpr ⟨⟨(by first | omega | grind) /- ix.lo x1#1 -/, (by first | omega | grind) /- ix.hi x1#1 -/⟩, (by first | omega | grind) /- ix.big x1#1 -/⟩) ?_
      refine wp_some ?_
      try dsimp only
      all_goals exact (by first | omega | assumption | grind) /- post1#2 -/
    ·
      refine wp_if (fun c3 => ?_) (fun c3 => ?_)
      ·
        refine wp_ck (z_ix_i.mpr ⟨⟨(by first | omega | grind) /- ix.lo x1#2 -/, (by first | omega | grind) /- ix.hi x1#2 -/⟩, (by first | omega | grind) /- ix.big x1#2 -/⟩) ?_
        refine wp_some ?_
        try dsimp only
        all_goals exact (by first | omega | assumption | grind) /- post1#3 -/
      ·
        refine wp_if (fun c4 => ?_) (fun c4 => ?_)
        ·
          refine wp_ck (z_ix_i.mpr ⟨⟨(by first | omega | grind) /- ix.lo x1#3 -/, (by first | omega | grind) /- ix.hi x1#3 -/⟩, (by first | omega | grind) /- ix.big x1#3 -/⟩) ?_
          refine wp_some ?_
          try dsimp only
          all_goals exact (by first | omega | assumption | grind) /- post1#4 -/
        ·
          refine wp_if (fun c5 => ?_) (fun c5 => ?_)
          ·
            refine wp_ck (z_ix_i.mpr ⟨⟨(by first | omega | grind) /- ix.lo x1#4 -/, (by first | omega | grind) /- ix.hi x1#4 -/⟩, (by first | omega | grind) /- ix.big x1#4 -/⟩) ?_
            refine wp_some ?_
            try dsimp only
            all_goals exact (by first | omega | assumption | grind) /- post1#5 -/
          ·
            refine wp_some ?_
            try dsimp only
            all_goals exact (by first | omega | assumption | grind) /- post1#6 -/

set_option maxHeartbeats 1000000 in
theorem s_X11_stir (i_p0_rules_seats : Int) (i_p0_rules_stirs : Int) (v_p0_rules_after : (Int → Int)) (x1 : Int) (x2 : Int) (h1 : -2147483648 ≤ x1) (h2 : x1 < 2147483648) (h3 : -2147483648 ≤ x2) (h4 : x2 < 2147483648) (h5 : 2 ≤ i_p0_rules_seats) (h6 : i_p0_rules_seats ≤ 7) (h7 : 0 ≤ i_p0_rules_stirs) (h8 : i_p0_rules_stirs ≤ 5) : wp (f_X11_stir i_p0_rules_seats i_p0_rules_stirs v_p0_rules_after x1 x2) (fun o => (o = if (0 ≤ x1 ∧ x1 < i_p0_rules_stirs) ∧ 0 ≤ x2 ∧ x2 < i_p0_rules_seats then v_p0_rules_after (x1 * 7 + x2) else -1)) := by
  unfold f_X11_stir
  refine wp_bd1 (s_X6_hasStir _ _ (by first | omega | assumption | grind) /- pre X6_hasStir.1#1 -/ (by first | omega | assumption | grind) /- pre X6_hasStir.2#1 -/ (by first | omega | assumption | grind) /- pre X6_hasStir.3#1 -/ (by first | omega | assumption | grind) /- pre X6_hasStir.4#1 -/) (fun z1 q_X6_hasStir_1 => ?_)
  try dsimp only at q_X6_hasStir_1
  refine wp_ck (z_r32_i.mpr ⟨(by first | omega | grind) /- z_r32.lo z1#1 -/, (by first | omega | grind) /- z_r32.hi z1#1 -/⟩) ?_
  refine wp_if (fun c1 => ?_) (fun c1 => ?_)
  ·
    refine wp_some ?_
    try dsimp only
    all_goals exact (by first | omega | assumption | grind) /- post1#1 -/
  ·
    refine wp_bd1 (s_X6_hasSeat _ _ (by first | omega | assumption | grind) /- pre X6_hasSeat.1#1 -/ (by first | omega | assumption | grind) /- pre X6_hasSeat.2#1 -/ (by first | omega | assumption | grind) /- pre X6_hasSeat.3#1 -/ (by first | omega | assumption | grind) /- pre X6_hasSeat.4#1 -/) (fun z3 q_X6_hasSeat_1 => ?_)
    try dsimp only at q_X6_hasSeat_1
    refine wp_ck (z_r32_i.mpr ⟨(by first | omega | grind) /- z_r32.lo z3#1 -/, (by first | omega | grind) /- z_r32.hi z3#1 -/⟩) ?_
    refine wp_if (fun c2 => ?_) (fun c2 => ?_)
    ·
      refine wp_some ?_
      try dsimp only
      all_goals exact (by first | omega | assumption | grind) /- post1#2 -/
    ·
      refine wp_bd1 (s_X6_placeAfter _ _ _ (by first | omega | assumption | grind) /- pre X6_placeAfter.1#1 -/ (by first | omega | assumption | grind) /- pre X6_placeAfter.2#1 -/ (by first | omega | assumption | grind) /- pre X6_placeAfter.3#1 -/ (by first | omega | assumption | grind) /- pre X6_placeAfter.4#1 -/) (fun z5 q_X6_placeAfter_1 => ?_)
      try dsimp only at q_X6_placeAfter_1
      refine wp_some ?_
      try dsimp only
      all_goals exact (by first | omega | assumption | grind) /- post1#3 -/

set_option maxHeartbeats 1000000 in
theorem s_X11_befriend (i_p0_rules_seats : Int) (v_p0_state_friends : (Int → Int)) (x1 : Int) (x2 : Int) (x3 : Int) (h1 : -2147483648 ≤ x1) (h2 : x1 < 2147483648) (h3 : -2147483648 ≤ x2) (h4 : x2 < 2147483648) (h5 : -2147483648 ≤ x3) (h6 : x3 < 2147483648) (h7 : 2 ≤ i_p0_rules_seats) (h8 : i_p0_rules_seats ≤ 7) : wp (f_X11_befriend i_p0_rules_seats v_p0_state_friends x1 x2 x3) (fun o => (o.1 = if (0 ≤ x1 ∧ x1 < i_p0_rules_seats) ∧ (0 ≤ x2 ∧ x2 < i_p0_rules_seats) ∧ ¬ x1 = x2 then (if bt (v_p0_state_friends x1) x2 = 0 then 0 else 1) else -1) ∧ (o.2 = if (0 ≤ x1 ∧ x1 < i_p0_rules_seats) ∧ (0 ≤ x2 ∧ x2 < i_p0_rules_seats) ∧ ¬ x1 = x2 then z_up v_p0_state_friends x1 (if x3 = 0 then z_and (v_p0_state_friends x1) (z_xor (z_shl 1 x2) (-1)) else z_or (v_p0_state_friends x1) (z_shl 1 x2)) else v_p0_state_friends)) := by
  unfold f_X11_befriend
  refine wp_bd1 (s_X6_hasSeat _ _ (by first | omega | assumption | grind) /- pre X6_hasSeat.1#1 -/ (by first | omega | assumption | grind) /- pre X6_hasSeat.2#1 -/ (by first | omega | assumption | grind) /- pre X6_hasSeat.3#1 -/ (by first | omega | assumption | grind) /- pre X6_hasSeat.4#1 -/) (fun z1 q_X6_hasSeat_1 => ?_)
  try dsimp only at q_X6_hasSeat_1
  refine wp_ck (z_r32_i.mpr ⟨(by first | omega | grind) /- z_r32.lo z1#1 -/, (by first | omega | grind) /- z_r32.hi z1#1 -/⟩) ?_
  refine wp_if (fun c1 => ?_) (fun c1 => ?_)
  ·
    refine wp_some ?_
    try dsimp only
    all_goals exact ⟨(by first | omega | assumption | grind) /- post1#1 -/, (by first | omega | assumption | grind) /- post2#1 -/⟩
  ·
    refine wp_bd1 (s_X6_hasSeat _ _ (by first | omega | assumption | grind) /- pre X6_hasSeat.1#2 -/ (by first | omega | assumption | grind) /- pre X6_hasSeat.2#2 -/ (by first | omega | assumption | grind) /- pre X6_hasSeat.3#2 -/ (by first | omega | assumption | grind) /- pre X6_hasSeat.4#2 -/) (fun z3 q_X6_hasSeat_2 => ?_)
    try dsimp only at q_X6_hasSeat_2
    refine wp_ck (z_r32_i.mpr ⟨(by first | omega | grind) /- z_r32.lo z3#1 -/, (by first | omega | grind) /- z_r32.hi z3#1 -/⟩) ?_
    refine wp_if (fun c2 => ?_) (fun c2 => ?_)
    ·
      refine wp_some ?_
      try dsimp only
      all_goals exact ⟨(by first | omega | assumption | grind) /- post1#2 -/, (by first | omega | assumption | grind) /- post2#2 -/⟩
    ·
      refine wp_ck (z_r32_i.mpr ⟨(by first | omega | grind) /- z_r32.lo x1#1 -/, (by first | omega | grind) /- z_r32.hi x1#1 -/⟩) ?_
      refine wp_ck (z_r32_i.mpr ⟨(by first | omega | grind) /- z_r32.lo x2#1 -/, (by first | omega | grind) /- z_r32.hi x2#1 -/⟩) ?_
      refine wp_if (fun c3 => ?_) (fun c3 => ?_)
      ·
        refine wp_some ?_
        try dsimp only
        all_goals exact ⟨(by first | omega | assumption | grind) /- post1#3 -/, (by first | omega | assumption | grind) /- post2#3 -/⟩
      ·
        refine wp_bd1 (s_X8_isFriend _ _ _ (by first | omega | assumption | grind) /- pre X8_isFriend.1#1 -/ (by first | omega | assumption | grind) /- pre X8_isFriend.2#1 -/) (fun z7 q_X8_isFriend_1 => ?_)
        try dsimp only at q_X8_isFriend_1
        refine wp_ck (z_r32_i.mpr ⟨(by first | omega | grind) /- z_r32.lo z7#1 -/, (by first | omega | grind) /- z_r32.hi z7#1 -/⟩) ?_
        refine wp_jn ?_
        refine wp_if (fun c4 => ?_) (fun c4 => ?_)
        ·
          refine wp_bnd ?_
          refine wp_bd1 (s_X8_setFriend _ _ _ _ (by first | omega | assumption | grind) /- pre X8_setFriend.1#1 -/ (by first | omega | assumption | grind) /- pre X8_setFriend.2#1 -/ (by first | omega | assumption | grind) /- pre X8_setFriend.3#1 -/ (by first | omega | assumption | grind) /- pre X8_setFriend.4#1 -/) (fun w12 q_X8_setFriend_1 => ?_)
          try dsimp only at q_X8_setFriend_1
          refine wp_some ?_
          try dsimp only
          all_goals exact ⟨(by first | omega | assumption | grind) /- post1#4 -/, (by first | omega | assumption | grind) /- post2#4 -/⟩
        ·
          refine wp_bnd ?_
          refine wp_bd1 (s_X8_setFriend _ _ _ _ (by first | omega | assumption | grind) /- pre X8_setFriend.1#2 -/ (by first | omega | assumption | grind) /- pre X8_setFriend.2#2 -/ (by first | omega | assumption | grind) /- pre X8_setFriend.3#2 -/ (by first | omega | assumption | grind) /- pre X8_setFriend.4#2 -/) (fun w12 q_X8_setFriend_2 => ?_)
          try dsimp only at q_X8_setFriend_2
          refine wp_some ?_
          try dsimp only
          all_goals exact ⟨(by first | omega | assumption | grind) /- post1#5 -/, (by first | omega | assumption | grind) /- post2#5 -/⟩

set_option maxHeartbeats 1000000 in
theorem s_X11_spoon (i_p0_rules_seats : Int) (v_p0_state_spoons : (Int → Int)) (x1 : Int) (x2 : Int) (h1 : -2147483648 ≤ x1) (h2 : x1 < 2147483648) (h3 : -2147483648 ≤ x2) (h4 : x2 < 2147483648) (h5 : 2 ≤ i_p0_rules_seats) (h6 : i_p0_rules_seats ≤ 7) : wp (f_X11_spoon i_p0_rules_seats v_p0_state_spoons x1 x2) (fun o => (o.1 = if (0 ≤ x1 ∧ x1 < i_p0_rules_seats) ∧ 1 ≤ x2 ∧ x2 ≤ 9 then v_p0_state_spoons x1 else -1) ∧ (o.2 = if (0 ≤ x1 ∧ x1 < i_p0_rules_seats) ∧ 1 ≤ x2 ∧ x2 ≤ 9 then z_up v_p0_state_spoons x1 x2 else v_p0_state_spoons)) := by
  unfold f_X11_spoon
  refine wp_bd1 (s_X6_hasSeat _ _ (by first | omega | assumption | grind) /- pre X6_hasSeat.1#1 -/ (by first | omega | assumption | grind) /- pre X6_hasSeat.2#1 -/ (by first | omega | assumption | grind) /- pre X6_hasSeat.3#1 -/ (by first | omega | assumption | grind) /- pre X6_hasSeat.4#1 -/) (fun z1 q_X6_hasSeat_1 => ?_)
  try dsimp only at q_X6_hasSeat_1
  refine wp_ck (z_r32_i.mpr ⟨(by first | omega | grind) /- z_r32.lo z1#1 -/, (by first | omega | grind) /- z_r32.hi z1#1 -/⟩) ?_
  refine wp_if (fun c1 => ?_) (fun c1 => ?_)
  ·
    refine wp_some ?_
    try dsimp only
    all_goals exact ⟨(by first | omega | assumption | grind) /- post1#1 -/, (by first | omega | assumption | grind) /- post2#1 -/⟩
  ·
    refine wp_ck (z_r32_i.mpr ⟨(by first | omega | grind) /- z_r32.lo x2#1 -/, (by first | omega | grind) /- z_r32.hi x2#1 -/⟩) ?_
    refine wp_if (fun c2 => ?_) (fun c2 => ?_)
    ·
      refine wp_some ?_
      try dsimp only
      all_goals exact ⟨(by first | omega | assumption | grind) /- post1#2 -/, (by first | omega | assumption | grind) /- post2#2 -/⟩
    ·
      refine wp_if (fun c3 => ?_) (fun c3 => ?_)
      ·
        refine wp_ck (z_ix_i.mpr ⟨⟨(by first | omega | grind) /- ix.lo x1#1 -/, (by first | omega | grind) /- ix.hi x1#1 -/⟩, (by first | omega | grind) /- ix.big x1#1 -/⟩) ?_
        refine wp_bndE (fun z4 hz4 => ?_)
        refine wp_ck (z_ix_i.mpr ⟨⟨(by first | omega | grind) /- ix.lo x1#2 -/, (by first | omega | grind) /- ix.hi x1#2 -/⟩, (by first | omega | grind) /- ix.big x1#2 -/⟩) ?_
        refine wp_bnd ?_
        refine wp_some ?_
        try dsimp only
        all_goals exact ⟨(by first | omega | assumption | grind) /- post1#3 -/, (by first | omega | assumption | grind) /- post2#3 -/⟩
      ·
        refine wp_some ?_
        try dsimp only
        all_goals exact ⟨(by first | omega | assumption | grind) /- post1#4 -/, (by first | omega | assumption | grind) /- post2#4 -/⟩

set_option maxHeartbeats 1000000 in
theorem s_X11_crown (i_p0_rules_seats : Int) (i_p0_state_king : Int) (x1 : Int) (h1 : -2147483648 ≤ x1) (h2 : x1 < 2147483648) (h3 : 2 ≤ i_p0_rules_seats) (h4 : i_p0_rules_seats ≤ 7) : wp (f_X11_crown i_p0_rules_seats i_p0_state_king x1) (fun o => (o.1 = if 0 ≤ x1 ∧ x1 < i_p0_rules_seats then i_p0_state_king else -1) ∧ (o.2 = if 0 ≤ x1 ∧ x1 < i_p0_rules_seats then x1 else i_p0_state_king)) := by
  unfold f_X11_crown
  refine wp_bd1 (s_X6_hasSeat _ _ (by first | omega | assumption | grind) /- pre X6_hasSeat.1#1 -/ (by first | omega | assumption | grind) /- pre X6_hasSeat.2#1 -/ (by first | omega | assumption | grind) /- pre X6_hasSeat.3#1 -/ (by first | omega | assumption | grind) /- pre X6_hasSeat.4#1 -/) (fun z1 q_X6_hasSeat_1 => ?_)
  try dsimp only at q_X6_hasSeat_1
  refine wp_ck (z_r32_i.mpr ⟨(by first | omega | grind) /- z_r32.lo z1#1 -/, (by first | omega | grind) /- z_r32.hi z1#1 -/⟩) ?_
  refine wp_if (fun c1 => ?_) (fun c1 => ?_)
  ·
    refine wp_some ?_
    try dsimp only
    all_goals exact ⟨(by first | omega | assumption | grind) /- post1#1 -/, (by first | omega | assumption | grind) /- post2#1 -/⟩
  ·
    refine wp_bnd ?_
    refine wp_bnd ?_
    refine wp_some ?_
    try dsimp only
    all_goals exact ⟨(by first | omega | assumption | grind) /- post1#2 -/, (by first | omega | assumption | grind) /- post2#2 -/⟩

set_option maxHeartbeats 1000000 in
theorem s_X11_fill (i_p0_rules_seats : Int) (v_p0_state_pieces : (Int → Int)) (x1 : Int) (x2 : Int) (h1 : -2147483648 ≤ x1) (h2 : x1 < 2147483648) (h3 : -2147483648 ≤ x2) (h4 : x2 < 2147483648) (h5 : 2 ≤ i_p0_rules_seats) (h6 : i_p0_rules_seats ≤ 7) : wp (f_X11_fill i_p0_rules_seats v_p0_state_pieces x1 x2) (fun o => (o.1 = if (0 ≤ x1 ∧ x1 < i_p0_rules_seats) ∧ 0 ≤ x2 ∧ x2 ≤ 9 then v_p0_state_pieces x1 else -1) ∧ (o.2 = if (0 ≤ x1 ∧ x1 < i_p0_rules_seats) ∧ 0 ≤ x2 ∧ x2 ≤ 9 then z_up v_p0_state_pieces x1 x2 else v_p0_state_pieces)) := by
  unfold f_X11_fill
  refine wp_bd1 (s_X6_hasSeat _ _ (by first | omega | assumption | grind) /- pre X6_hasSeat.1#1 -/ (by first | omega | assumption | grind) /- pre X6_hasSeat.2#1 -/ (by first | omega | assumption | grind) /- pre X6_hasSeat.3#1 -/ (by first | omega | assumption | grind) /- pre X6_hasSeat.4#1 -/) (fun z1 q_X6_hasSeat_1 => ?_)
  try dsimp only at q_X6_hasSeat_1
  refine wp_ck (z_r32_i.mpr ⟨(by first | omega | grind) /- z_r32.lo z1#1 -/, (by first | omega | grind) /- z_r32.hi z1#1 -/⟩) ?_
  refine wp_if (fun c1 => ?_) (fun c1 => ?_)
  ·
    refine wp_some ?_
    try dsimp only
    all_goals exact ⟨(by first | omega | assumption | grind) /- post1#1 -/, (by first | omega | assumption | grind) /- post2#1 -/⟩
  ·
    refine wp_ck (z_r32_i.mpr ⟨(by first | omega | grind) /- z_r32.lo x2#1 -/, (by first | omega | grind) /- z_r32.hi x2#1 -/⟩) ?_
    refine wp_if (fun c2 => ?_) (fun c2 => ?_)
    ·
      refine wp_some ?_
      try dsimp only
      all_goals exact ⟨(by first | omega | assumption | grind) /- post1#2 -/, (by first | omega | assumption | grind) /- post2#2 -/⟩
    ·
      refine wp_if (fun c3 => ?_) (fun c3 => ?_)
      ·
        refine wp_ck (z_ix_i.mpr ⟨⟨(by first | omega | grind) /- ix.lo x1#1 -/, (by first | omega | grind) /- ix.hi x1#1 -/⟩, (by first | omega | grind) /- ix.big x1#1 -/⟩) ?_
        refine wp_bndE (fun z4 hz4 => ?_)
        refine wp_ck (z_ix_i.mpr ⟨⟨(by first | omega | grind) /- ix.lo x1#2 -/, (by first | omega | grind) /- ix.hi x1#2 -/⟩, (by first | omega | grind) /- ix.big x1#2 -/⟩) ?_
        refine wp_bnd ?_
        refine wp_some ?_
        try dsimp only
        all_goals exact ⟨(by first | omega | assumption | grind) /- post1#3 -/, (by first | omega | assumption | grind) /- post2#3 -/⟩
      ·
        refine wp_some ?_
        try dsimp only
        all_goals exact ⟨(by first | omega | assumption | grind) /- post1#4 -/, (by first | omega | assumption | grind) /- post2#4 -/⟩

set_option maxHeartbeats 1000000 in
theorem s_X11_bowl (i_p0_rules_seats : Int) (i_p0_rules_stirs : Int) (v_p0_rules_after : (Int → Int)) (v_p0_state_pieces : (Int → Int)) (v_p0_state_friends : (Int → Int)) (v_p0_kitchen_places : (Int → Int)) (v_p0_kitchen_holders : (Int → Int)) (v_p0_kitchen_stirred : (Int → Int)) (x1 : Int) (x2 : Int) (x3 : Int) (h1 : -2147483648 ≤ x1) (h2 : x1 < 2147483648) (h3 : -2147483648 ≤ x2) (h4 : x2 < 2147483648) (h5 : -2147483648 ≤ x3) (h6 : x3 < 2147483648) (h7 : 2 ≤ i_p0_rules_seats) (h8 : i_p0_rules_seats ≤ 7) (h9 : 0 ≤ i_p0_rules_stirs) (h10 : i_p0_rules_stirs ≤ 5) (h11 : rows i_p0_rules_seats i_p0_rules_stirs v_p0_rules_after) : wp (f_X11_bowl i_p0_rules_seats i_p0_rules_stirs v_p0_rules_after v_p0_state_pieces v_p0_state_friends v_p0_kitchen_places v_p0_kitchen_holders v_p0_kitchen_stirred x1 x2 x3) (fun o => (¬ ((0 ≤ x1 ∧ x1 < i_p0_rules_seats) ∧ (0 ≤ x2 ∧ x2 < i_p0_rules_seats) ∧ (0 ≤ x3 ∧ x3 < i_p0_rules_stirs)) → o.1 = -1) ∧ (((0 ≤ x1 ∧ x1 < i_p0_rules_seats) ∧ (0 ≤ x2 ∧ x2 < i_p0_rules_seats) ∧ (0 ≤ x3 ∧ x3 < i_p0_rules_stirs)) → ∃ i, (0 ≤ i ∧ i < i_p0_rules_seats) ∧ v_p0_rules_after (x3 * 7 + i) = plc i_p0_rules_seats x1 (v_p0_state_friends x1) x2 ∧ o.1 = v_p0_state_pieces i)) := by
  unfold f_X11_bowl
  refine wp_bd1 (s_X6_hasSeat _ _ (by first | omega | assumption | grind) /- pre X6_hasSeat.1#1 -/ (by first | omega | assumption | grind) /- pre X6_hasSeat.2#1 -/ (by first | omega | assumption | grind) /- pre X6_hasSeat.3#1 -/ (by first | omega | assumption | grind) /- pre X6_hasSeat.4#1 -/) (fun z1 q_X6_hasSeat_1 => ?_)
  try dsimp only at q_X6_hasSeat_1
  refine wp_ck (z_r32_i.mpr ⟨(by first | omega | grind) /- z_r32.lo z1#1 -/, (by first | omega | grind) /- z_r32.hi z1#1 -/⟩) ?_
  refine wp_if (fun c1 => ?_) (fun c1 => ?_)
  ·
    refine wp_some ?_
    try dsimp only
    all_goals exact ⟨(by first | omega | assumption | grind) /- post1#1 -/, (by first | omega | assumption | grind) /- post2#1 -/⟩
  ·
    refine wp_bd1 (s_X6_hasSeat _ _ (by first | omega | assumption | grind) /- pre X6_hasSeat.1#2 -/ (by first | omega | assumption | grind) /- pre X6_hasSeat.2#2 -/ (by first | omega | assumption | grind) /- pre X6_hasSeat.3#2 -/ (by first | omega | assumption | grind) /- pre X6_hasSeat.4#2 -/) (fun z3 q_X6_hasSeat_2 => ?_)
    try dsimp only at q_X6_hasSeat_2
    refine wp_ck (z_r32_i.mpr ⟨(by first | omega | grind) /- z_r32.lo z3#1 -/, (by first | omega | grind) /- z_r32.hi z3#1 -/⟩) ?_
    refine wp_if (fun c2 => ?_) (fun c2 => ?_)
    ·
      refine wp_some ?_
      try dsimp only
      all_goals exact ⟨(by first | omega | assumption | grind) /- post1#2 -/, (by first | omega | assumption | grind) /- post2#2 -/⟩
    ·
      refine wp_bd1 (s_X6_hasStir _ _ (by first | omega | assumption | grind) /- pre X6_hasStir.1#1 -/ (by first | omega | assumption | grind) /- pre X6_hasStir.2#1 -/ (by first | omega | assumption | grind) /- pre X6_hasStir.3#1 -/ (by first | omega | assumption | grind) /- pre X6_hasStir.4#1 -/) (fun z5 q_X6_hasStir_1 => ?_)
      try dsimp only at q_X6_hasStir_1
      refine wp_ck (z_r32_i.mpr ⟨(by first | omega | grind) /- z_r32.lo z5#1 -/, (by first | omega | grind) /- z_r32.hi z5#1 -/⟩) ?_
      refine wp_if (fun c3 => ?_) (fun c3 => ?_)
      ·
        refine wp_some ?_
        try dsimp only
        all_goals exact ⟨(by first | omega | assumption | grind) /- post1#3 -/, (by first | omega | assumption | grind) /- post2#3 -/⟩
      ·
        have hs1 : 0 ≤ x1 ∧ x1 < i_p0_rules_seats := by grind
        have hs2 : 0 ≤ x2 ∧ x2 < i_p0_rules_seats := by grind
        have hs3 : 0 ≤ x3 ∧ x3 < i_p0_rules_stirs := by grind
        clear q_X6_hasSeat_1 q_X6_hasSeat_2 q_X6_hasStir_1
        refine wp_bd2 (s_X2_serve _ _ _ _ _ (by first | omega | assumption | grind) /- pre X2_serve.1#1 -/ (by first | omega | assumption | grind) /- pre X2_serve.2#1 -/ (by first | omega | assumption | grind) /- pre X2_serve.3#1 -/ (by first | omega | assumption | grind) /- pre X2_serve.4#1 -/) (fun w7 w8 q_X2_serve_1 => ?_)
        try dsimp only at q_X2_serve_1
        obtain ⟨q_X2_serve_1_1, q_X2_serve_1_2, q_X2_serve_1_3, q_X2_serve_1_4⟩ := q_X2_serve_1
        have hpl := q_X2_serve_1_1 x2 hs2.1 hs2.2
        have hpr := plc_rng (n := i_p0_rules_seats) (k := x1) (f := v_p0_state_friends x1) (p := x2) (by omega)
        refine wp_bd1 (s_X2_stirPot _ _ _ _ _ (by first | omega | assumption | grind) /- pre X2_stirPot.1#1 -/ (by first | omega | assumption | grind) /- pre X2_stirPot.2#1 -/ (by first | omega | assumption | grind) /- pre X2_stirPot.3#1 -/ (by first | omega | assumption | grind) /- pre X2_stirPot.4#1 -/ (by exact h11 x3 hs3.1 hs3.2) /- pre X2_stirPot.5#1 -/) (fun w9 q_X2_stirPot_1 => ?_)
        try dsimp only at q_X2_stirPot_1
        obtain ⟨q_X2_stirPot_1_1, q_X2_stirPot_1_2⟩ := q_X2_stirPot_1
        refine wp_bd1 (s_X2_bowlOf _ _ _ _ (by first | omega | assumption | grind) /- pre X2_bowlOf.1#1 -/ (by first | omega | assumption | grind) /- pre X2_bowlOf.2#1 -/ (by first | omega | assumption | grind) /- pre X2_bowlOf.3#1 -/ (by first | omega | assumption | grind) /- pre X2_bowlOf.4#1 -/ (by rw [hpl]; omega) /- pre X2_bowlOf.5#1 -/ (by rw [hpl]; omega) /- pre X2_bowlOf.6#1 -/) (fun z10 q_X2_bowlOf_1 => ?_)
        try dsimp only at q_X2_bowlOf_1
        refine wp_some ?_
        try dsimp only
        all_goals exact ⟨(by intro h; exact absurd ⟨hs1, hs2, hs3⟩ h) /- post1#4 -/, (by intro _; obtain ⟨i, hi, e⟩ := perm_sur (h11 x3 hs3.1 hs3.2) hpr.1 hpr.2; exact ⟨i, hi, e, by rw [q_X2_bowlOf_1, hpl, ← e]; exact q_X2_stirPot_1_1 i hi.1 hi.2⟩) /- post2#4 -/⟩

set_option maxHeartbeats 1000000 in
theorem s_X11_ladle (i_p0_rules_seats : Int) (i_p0_rules_stirs : Int) (v_p0_state_friends : (Int → Int)) (v_p0_kitchen_places : (Int → Int)) (v_p0_kitchen_holders : (Int → Int)) (x1 : Int) (x2 : Int) (x3 : Int) (h1 : -2147483648 ≤ x1) (h2 : x1 < 2147483648) (h3 : -2147483648 ≤ x2) (h4 : x2 < 2147483648) (h5 : -2147483648 ≤ x3) (h6 : x3 < 2147483648) (h7 : 2 ≤ i_p0_rules_seats) (h8 : i_p0_rules_seats ≤ 7) (h9 : 0 ≤ i_p0_rules_stirs) (h10 : i_p0_rules_stirs ≤ 5) : wp (f_X11_ladle i_p0_rules_seats i_p0_rules_stirs v_p0_state_friends v_p0_kitchen_places v_p0_kitchen_holders x1 x2 x3) (fun o => (o.1 = if ((0 ≤ x1 ∧ x1 < i_p0_rules_seats) ∧ (0 ≤ x2 ∧ x2 < i_p0_rules_seats) ∧ (0 ≤ x3 ∧ x3 < i_p0_rules_stirs)) then plc i_p0_rules_seats x1 (v_p0_state_friends x1) x2 else -1)) := by
  unfold f_X11_ladle
  refine wp_bd1 (s_X6_hasSeat _ _ (by first | omega | assumption | grind) /- pre X6_hasSeat.1#1 -/ (by first | omega | assumption | grind) /- pre X6_hasSeat.2#1 -/ (by first | omega | assumption | grind) /- pre X6_hasSeat.3#1 -/ (by first | omega | assumption | grind) /- pre X6_hasSeat.4#1 -/) (fun z1 q_X6_hasSeat_1 => ?_)
  try dsimp only at q_X6_hasSeat_1
  refine wp_ck (z_r32_i.mpr ⟨(by first | omega | grind) /- z_r32.lo z1#1 -/, (by first | omega | grind) /- z_r32.hi z1#1 -/⟩) ?_
  refine wp_if (fun c1 => ?_) (fun c1 => ?_)
  ·
    refine wp_some ?_
    try dsimp only
    all_goals exact (by first | omega | assumption | grind) /- post1#1 -/
  ·
    refine wp_bd1 (s_X6_hasSeat _ _ (by first | omega | assumption | grind) /- pre X6_hasSeat.1#2 -/ (by first | omega | assumption | grind) /- pre X6_hasSeat.2#2 -/ (by first | omega | assumption | grind) /- pre X6_hasSeat.3#2 -/ (by first | omega | assumption | grind) /- pre X6_hasSeat.4#2 -/) (fun z3 q_X6_hasSeat_2 => ?_)
    try dsimp only at q_X6_hasSeat_2
    refine wp_ck (z_r32_i.mpr ⟨(by first | omega | grind) /- z_r32.lo z3#1 -/, (by first | omega | grind) /- z_r32.hi z3#1 -/⟩) ?_
    refine wp_if (fun c2 => ?_) (fun c2 => ?_)
    ·
      refine wp_some ?_
      try dsimp only
      all_goals exact (by first | omega | assumption | grind) /- post1#2 -/
    ·
      refine wp_bd1 (s_X6_hasStir _ _ (by first | omega | assumption | grind) /- pre X6_hasStir.1#1 -/ (by first | omega | assumption | grind) /- pre X6_hasStir.2#1 -/ (by first | omega | assumption | grind) /- pre X6_hasStir.3#1 -/ (by first | omega | assumption | grind) /- pre X6_hasStir.4#1 -/) (fun z5 q_X6_hasStir_1 => ?_)
      try dsimp only at q_X6_hasStir_1
      refine wp_ck (z_r32_i.mpr ⟨(by first | omega | grind) /- z_r32.lo z5#1 -/, (by first | omega | grind) /- z_r32.hi z5#1 -/⟩) ?_
      refine wp_if (fun c3 => ?_) (fun c3 => ?_)
      ·
        refine wp_some ?_
        try dsimp only
        all_goals exact (by first | omega | assumption | grind) /- post1#3 -/
      ·
        have hs1 : 0 ≤ x1 ∧ x1 < i_p0_rules_seats := by grind
        have hs2 : 0 ≤ x2 ∧ x2 < i_p0_rules_seats := by grind
        have hs3 : 0 ≤ x3 ∧ x3 < i_p0_rules_stirs := by grind
        clear q_X6_hasSeat_1 q_X6_hasSeat_2 q_X6_hasStir_1
        refine wp_bd2 (s_X2_serve _ _ _ _ _ (by first | omega | assumption | grind) /- pre X2_serve.1#1 -/ (by first | omega | assumption | grind) /- pre X2_serve.2#1 -/ (by first | omega | assumption | grind) /- pre X2_serve.3#1 -/ (by first | omega | assumption | grind) /- pre X2_serve.4#1 -/) (fun w7 w8 q_X2_serve_1 => ?_)
        try dsimp only at q_X2_serve_1
        obtain ⟨q_X2_serve_1_1, q_X2_serve_1_2, q_X2_serve_1_3, q_X2_serve_1_4⟩ := q_X2_serve_1
        refine wp_bd1 (s_X2_placeOf _ _ _ (by first | omega | assumption | grind) /- pre X2_placeOf.1#1 -/ (by first | omega | assumption | grind) /- pre X2_placeOf.2#1 -/ (by first | omega | assumption | grind) /- pre X2_placeOf.3#1 -/ (by first | omega | assumption | grind) /- pre X2_placeOf.4#1 -/) (fun z9 q_X2_placeOf_1 => ?_)
        try dsimp only at q_X2_placeOf_1
        refine wp_some ?_
        try dsimp only
        all_goals exact (by rw [if_pos ⟨hs1, hs2, hs3⟩, q_X2_placeOf_1]; exact q_X2_serve_1_1 x2 hs2.1 hs2.2) /- post1#4 -/

set_option maxHeartbeats 1000000 in
theorem s_X11_next (i_p0_rules_seats : Int) (i_p0_rules_stirs : Int) (v_p0_rules_after : (Int → Int)) (i_p0_state_bone : Int) (v_p0_state_friends : (Int → Int)) (v_p0_kitchen_places : (Int → Int)) (v_p0_kitchen_holders : (Int → Int)) (x1 : Int) (x2 : Int) (h1 : -2147483648 ≤ x1) (h2 : x1 < 2147483648) (h3 : -2147483648 ≤ x2) (h4 : x2 < 2147483648) (h5 : 2 ≤ i_p0_rules_seats) (h6 : i_p0_rules_seats ≤ 7) (h7 : 0 ≤ i_p0_rules_stirs) (h8 : i_p0_rules_stirs ≤ 5) (h9 : rows i_p0_rules_seats i_p0_rules_stirs v_p0_rules_after) (h10 : 0 ≤ i_p0_state_bone) (h11 : i_p0_state_bone < i_p0_rules_seats) : wp (f_X11_next i_p0_rules_seats i_p0_rules_stirs v_p0_rules_after i_p0_state_bone v_p0_state_friends v_p0_kitchen_places v_p0_kitchen_holders x1 x2) (fun o => (¬ ((0 ≤ x1 ∧ x1 < i_p0_rules_seats) ∧ (0 ≤ x2 ∧ x2 < i_p0_rules_stirs)) → o.1 = -1) ∧ (((0 ≤ x1 ∧ x1 < i_p0_rules_seats) ∧ (0 ≤ x2 ∧ x2 < i_p0_rules_stirs)) → (0 ≤ o.1 ∧ o.1 < i_p0_rules_seats) ∧ plc i_p0_rules_seats x1 (v_p0_state_friends x1) o.1 = v_p0_rules_after (x2 * 7 + i_p0_state_bone))) := by
  unfold f_X11_next
  refine wp_bd1 (s_X6_hasSeat _ _ (by first | omega | assumption | grind) /- pre X6_hasSeat.1#1 -/ (by first | omega | assumption | grind) /- pre X6_hasSeat.2#1 -/ (by first | omega | assumption | grind) /- pre X6_hasSeat.3#1 -/ (by first | omega | assumption | grind) /- pre X6_hasSeat.4#1 -/) (fun z1 q_X6_hasSeat_1 => ?_)
  try dsimp only at q_X6_hasSeat_1
  refine wp_ck (z_r32_i.mpr ⟨(by first | omega | grind) /- z_r32.lo z1#1 -/, (by first | omega | grind) /- z_r32.hi z1#1 -/⟩) ?_
  refine wp_if (fun c1 => ?_) (fun c1 => ?_)
  ·
    refine wp_some ?_
    try dsimp only
    all_goals exact ⟨(by first | omega | assumption | grind) /- post1#1 -/, (by first | omega | assumption | grind) /- post2#1 -/⟩
  ·
    refine wp_bd1 (s_X6_hasStir _ _ (by first | omega | assumption | grind) /- pre X6_hasStir.1#1 -/ (by first | omega | assumption | grind) /- pre X6_hasStir.2#1 -/ (by first | omega | assumption | grind) /- pre X6_hasStir.3#1 -/ (by first | omega | assumption | grind) /- pre X6_hasStir.4#1 -/) (fun z3 q_X6_hasStir_1 => ?_)
    try dsimp only at q_X6_hasStir_1
    refine wp_ck (z_r32_i.mpr ⟨(by first | omega | grind) /- z_r32.lo z3#1 -/, (by first | omega | grind) /- z_r32.hi z3#1 -/⟩) ?_
    refine wp_if (fun c2 => ?_) (fun c2 => ?_)
    ·
      refine wp_some ?_
      try dsimp only
      all_goals exact ⟨(by first | omega | assumption | grind) /- post1#2 -/, (by first | omega | assumption | grind) /- post2#2 -/⟩
    ·
      have hs1 : 0 ≤ x1 ∧ x1 < i_p0_rules_seats := by grind
      have hs3 : 0 ≤ x2 ∧ x2 < i_p0_rules_stirs := by grind
      clear q_X6_hasSeat_1 q_X6_hasStir_1
      have hpb := (h9 x2 hs3.1 hs3.2).1 i_p0_state_bone (by omega) (by omega)
      dsimp only at hpb
      refine wp_bd2 (s_X2_serve _ _ _ _ _ (by first | omega | assumption | grind) /- pre X2_serve.1#1 -/ (by first | omega | assumption | grind) /- pre X2_serve.2#1 -/ (by first | omega | assumption | grind) /- pre X2_serve.3#1 -/ (by first | omega | assumption | grind) /- pre X2_serve.4#1 -/) (fun w5 w6 q_X2_serve_1 => ?_)
      try dsimp only at q_X2_serve_1
      obtain ⟨q_X2_serve_1_1, q_X2_serve_1_2, q_X2_serve_1_3, q_X2_serve_1_4⟩ := q_X2_serve_1
      refine wp_bd1 (s_X6_placeAfter _ _ _ (by first | omega | assumption | grind) /- pre X6_placeAfter.1#1 -/ (by first | omega | assumption | grind) /- pre X6_placeAfter.2#1 -/ (by first | omega | assumption | grind) /- pre X6_placeAfter.3#1 -/ (by first | omega | assumption | grind) /- pre X6_placeAfter.4#1 -/) (fun z7 q_X6_placeAfter_1 => ?_)
      try dsimp only at q_X6_placeAfter_1
      refine wp_bd1 (s_X2_holderOf _ _ _ (by first | omega | assumption | grind) /- pre X2_holderOf.1#1 -/ (by first | omega | assumption | grind) /- pre X2_holderOf.2#1 -/ (by first | omega | assumption | grind) /- pre X2_holderOf.3#1 -/ (by first | omega | assumption | grind) /- pre X2_holderOf.4#1 -/) (fun z8 q_X2_holderOf_1 => ?_)
      try dsimp only at q_X2_holderOf_1
      obtain ⟨kp, hkp, hke⟩ := plc_sur (n := i_p0_rules_seats) (k := x1) (f := v_p0_state_friends x1) (q := v_p0_rules_after (x2 * 7 + i_p0_state_bone)) (by omega) hpb.1 hpb.2
      have hkh := q_X2_serve_1_2 kp hkp.1 hkp.2
      rw [hke, ← q_X6_placeAfter_1, ← q_X2_holderOf_1] at hkh
      refine wp_some ?_
      try dsimp only
      all_goals exact ⟨(by intro h; exact absurd ⟨hs1, hs3⟩ h) /- post1#3 -/, (by intro _; rw [hkh]; exact ⟨hkp, hke⟩) /- post2#3 -/⟩

set_option maxHeartbeats 1000000 in
theorem s_X11_day (i_p0_rules_seats : Int) (i_p0_rules_stirs : Int) (v_p0_rules_after : (Int → Int)) (i_p0_state_bone : Int) (i_p0_state_king : Int) (i_p0_state_days : Int) (v_p0_state_pieces : (Int → Int)) (v_p0_state_friends : (Int → Int)) (v_p0_state_eaten : (Int → Int)) (v_p0_kitchen_places : (Int → Int)) (v_p0_kitchen_holders : (Int → Int)) (v_p0_kitchen_stirred : (Int → Int)) (x1 : Int) (h1 : -2147483648 ≤ x1) (h2 : x1 < 2147483648) (h3 : 2 ≤ i_p0_rules_seats) (h4 : i_p0_rules_seats ≤ 7) (h5 : 0 ≤ i_p0_rules_stirs) (h6 : i_p0_rules_stirs ≤ 5) (h7 : rows i_p0_rules_seats i_p0_rules_stirs v_p0_rules_after) (h8 : 0 ≤ i_p0_state_bone) (h9 : i_p0_state_bone < i_p0_rules_seats) (h10 : 0 ≤ i_p0_state_king) (h11 : i_p0_state_king < i_p0_rules_seats) (h12 : 0 ≤ i_p0_state_days) (h13 : i_p0_state_days ≤ 999) : wp (f_X11_day i_p0_rules_seats i_p0_rules_stirs v_p0_rules_after i_p0_state_bone i_p0_state_king i_p0_state_days v_p0_state_pieces v_p0_state_friends v_p0_state_eaten v_p0_kitchen_places v_p0_kitchen_holders v_p0_kitchen_stirred x1) (fun o => ((¬ (0 ≤ x1 ∧ x1 < i_p0_rules_stirs) ∧ o.1 = -1 ∧ o.2.1 = i_p0_state_bone ∧ o.2.2.1 = i_p0_state_king ∧ o.2.2.2.1 = i_p0_state_days ∧ o.2.2.2.2.1 = v_p0_state_pieces ∧ o.2.2.2.2.2.1 = v_p0_state_eaten) ∨ ((0 ≤ x1 ∧ x1 < i_p0_rules_stirs) ∧ i_p0_state_days = 999 ∧ o.1 = -3 ∧ o.2.1 = i_p0_state_bone ∧ o.2.2.1 = i_p0_state_king ∧ o.2.2.2.1 = i_p0_state_days ∧ o.2.2.2.2.1 = v_p0_state_pieces ∧ o.2.2.2.2.2.1 = v_p0_state_eaten) ∨ ((0 ≤ x1 ∧ x1 < i_p0_rules_stirs) ∧ i_p0_state_days < 999 ∧ o.1 = o.2.2.1 ∧ dayP i_p0_rules_seats (fun i => v_p0_rules_after (x1 * 7 + i)) v_p0_state_friends i_p0_state_bone i_p0_state_king i_p0_state_days v_p0_state_pieces v_p0_state_eaten o.2.1 o.2.2.1 o.2.2.2.1 o.2.2.2.2.1 o.2.2.2.2.2.1))) := by
  unfold f_X11_day
  refine wp_bd1 (s_X6_hasStir _ _ (by first | omega | assumption | grind) /- pre X6_hasStir.1#1 -/ (by first | omega | assumption | grind) /- pre X6_hasStir.2#1 -/ (by first | omega | assumption | grind) /- pre X6_hasStir.3#1 -/ (by first | omega | assumption | grind) /- pre X6_hasStir.4#1 -/) (fun z1 q_X6_hasStir_1 => ?_)
  try dsimp only at q_X6_hasStir_1
  refine wp_ck (z_r32_i.mpr ⟨(by first | omega | grind) /- z_r32.lo z1#1 -/, (by first | omega | grind) /- z_r32.hi z1#1 -/⟩) ?_
  refine wp_if (fun c1 => ?_) (fun c1 => ?_)
  ·
    refine wp_some ?_
    try dsimp only
    all_goals exact (by exact Or.inl ⟨by grind, rfl, rfl, rfl, rfl, rfl, rfl⟩) /- post1#1 -/
  ·
    refine wp_ck (z_r32_i.mpr ⟨(by first | omega | grind) /- z_r32.lo i_p0_state_days#1 -/, (by first | omega | grind) /- z_r32.hi i_p0_state_days#1 -/⟩) ?_
    refine wp_if (fun c2 => ?_) (fun c2 => ?_)
    ·
      have hs3 : 0 ≤ x1 ∧ x1 < i_p0_rules_stirs := by grind
      clear q_X6_hasStir_1
      refine wp_bd8 (s_X2_passDay _ _ _ _ _ _ _ _ _ _ _ _ (by first | omega | assumption | grind) /- pre X2_passDay.1#1 -/ (by first | omega | assumption | grind) /- pre X2_passDay.2#1 -/ (by first | omega | assumption | grind) /- pre X2_passDay.3#1 -/ (by first | omega | assumption | grind) /- pre X2_passDay.4#1 -/ (by exact h7 x1 hs3.1 hs3.2) /- pre X2_passDay.5#1 -/ (by first | omega | assumption | grind) /- pre X2_passDay.6#1 -/ (by first | omega | assumption | grind) /- pre X2_passDay.7#1 -/ (by first | omega | assumption | grind) /- pre X2_passDay.8#1 -/ (by first | omega | assumption | grind) /- pre X2_passDay.9#1 -/) (fun z4 z5 z6 w7 w8 w9 w10 w11 q_X2_passDay_1 => ?_)
      try dsimp only at q_X2_passDay_1
      obtain ⟨q_X2_passDay_1_1, q_X2_passDay_1_2, q_X2_passDay_1_3, q_X2_passDay_1_4, q_X2_passDay_1_5, q_X2_passDay_1_6, q_X2_passDay_1_7⟩ := q_X2_passDay_1
      refine wp_some ?_
      try dsimp only
      all_goals exact (by exact Or.inr (Or.inr ⟨hs3, by omega, rfl, q_X2_passDay_1_1, q_X2_passDay_1_2, q_X2_passDay_1_3, q_X2_passDay_1_4, q_X2_passDay_1_5, q_X2_passDay_1_6, q_X2_passDay_1_7⟩)) /- post1#2 -/
    ·
      refine wp_some ?_
      try dsimp only
      all_goals exact (by exact Or.inr (Or.inl ⟨by grind, by omega, rfl, rfl, rfl, rfl, rfl, rfl⟩)) /- post1#3 -/

set_option maxHeartbeats 1000000 in
theorem s_X11_hungry (i_p0_rules_seats : Int) (v_p0_rules_need : (Int → Int)) (i_p0_state_days : Int) (v_p0_state_eaten : (Int → Int)) (h1 : 2 ≤ i_p0_rules_seats) (h2 : i_p0_rules_seats ≤ 7) (h3 : 0 ≤ i_p0_state_days) (h4 : i_p0_state_days ≤ 999) (h5 : ∀ j, 0 ≤ j → j < 7 → 0 ≤ v_p0_state_eaten j ∧ v_p0_state_eaten j ≤ 9 * i_p0_state_days) (h6 : ∀ j, 0 ≤ j → j < 7 → 0 ≤ v_p0_rules_need j ∧ v_p0_rules_need j ≤ 9) : wp (f_X11_hungry i_p0_rules_seats v_p0_rules_need i_p0_state_days v_p0_state_eaten) (fun o => (o = bitsOf (fun p => v_p0_state_eaten p < v_p0_rules_need p * i_p0_state_days) i_p0_rules_seats.toNat)) := by
  unfold f_X11_hungry
  refine wp_bnd ?_
  refine wp_bnd ?_
  refine wp_lq2 (fun (z3 : Int) (z4 : Int) => (0 ≤ z3) ∧ (z3 ≤ i_p0_rules_seats) ∧ (z4 = bitsOf (fun p => v_p0_state_eaten p < v_p0_rules_need p * i_p0_state_days) z3.toNat)) (fun (z3 : Int) (z4 : Int) => (i_p0_rules_seats - z3).toNat) (fun again4 z3 z4 hI ih_B_X11_hungry_4 => ?_) 1000 _ _ ⟨(by omega) /- B_X11_hungry_4.init1#1 -/, (by omega) /- B_X11_hungry_4.init2#1 -/, (by rfl) /- B_X11_hungry_4.init3#1 -/⟩ (by omega) /- B_X11_hungry_4.fuel#1 -/
  obtain ⟨i_B_X11_hungry_4_1, i_B_X11_hungry_4_2, i_B_X11_hungry_4_3⟩ := hI
  unfold B_X11_hungry_4
  refine wp_ck (z_r32_i.mpr ⟨(by omega) /- z_r32.lo z3#1 -/, (by omega) /- z_r32.hi z3#1 -/⟩) ?_
  refine wp_ck (z_r32_i.mpr ⟨(by omega) /- z_r32.lo i_p0_rules_seats#1 -/, (by omega) /- z_r32.hi i_p0_rules_seats#1 -/⟩) ?_
  refine wp_if (fun c1 => ?_) (fun c1 => ?_)
  ·
    refine wp_some ?_
    try dsimp only
    all_goals exact (by rw [i_B_X11_hungry_4_3]; congr 1; omega) /- post1#1 -/
  ·
    have he := h5 z3 (by omega) (by omega)
    have hd := h6 z3 (by omega) (by omega)
    have hm0 : 0 ≤ v_p0_rules_need z3 * i_p0_state_days := Int.mul_nonneg hd.1 h3
    have hm1 : v_p0_rules_need z3 * i_p0_state_days ≤ 9 * 999 := Int.mul_le_mul hd.2 h4 h3 (by decide)
    refine wp_ck (z_ix_i.mpr ⟨⟨(by omega) /- ix.lo z3#1 -/, (by omega) /- ix.hi z3#1 -/⟩, (by omega) /- ix.big z3#1 -/⟩) ?_
    refine wp_ck (z_ix_i.mpr ⟨⟨(by omega) /- ix.lo z3#2 -/, (by omega) /- ix.hi z3#2 -/⟩, (by omega) /- ix.big z3#2 -/⟩) ?_
    refine wp_ck (z_r32_i.mpr ⟨(by omega) /- z_r32.lo (v_p0_state_eaten z3)#1 -/, (by omega) /- z_r32.hi (v_p0_state_eaten z3)#1 -/⟩) ?_
    refine wp_ck (z_r32_i.mpr ⟨(by omega) /- z_r32.lo ((v_p0_rules_need z3) * i_p0_state_days)#1 -/, (by omega) /- z_r32.hi ((v_p0_rules_need z3) * i_p0_state_days)#1 -/⟩) ?_
    refine wp_if (fun c2 => ?_) (fun c2 => ?_)
    ·
      refine wp_bndE (fun z10 hz10 => ?_)
      exact ih_B_X11_hungry_4 _ _ ⟨(by omega) /- B_X11_hungry_4.inv1#1 -/, (by omega) /- B_X11_hungry_4.inv2#1 -/, (by rw [hz10, bits_fz i_B_X11_hungry_4_1 (by show ¬ _ < _; omega)]; exact i_B_X11_hungry_4_3) /- B_X11_hungry_4.inv3#1 -/⟩ (by omega) /- B_X11_hungry_4.dec#1 -/
    ·
      refine wp_bndE (fun z11 hz11 => ?_)
      refine wp_bndE (fun z12 hz12 => ?_)
      exact ih_B_X11_hungry_4 _ _ ⟨(by omega) /- B_X11_hungry_4.inv1#2 -/, (by omega) /- B_X11_hungry_4.inv2#2 -/, (by rw [hz12, bits_tz i_B_X11_hungry_4_1 (by show _ < _; omega), ← i_B_X11_hungry_4_3]; omega) /- B_X11_hungry_4.inv3#2 -/⟩ (by omega) /- B_X11_hungry_4.dec#2 -/

set_option maxHeartbeats 1000000 in
theorem s_X11_torn (i_p0_latestTear : Int) : wp (f_X11_torn i_p0_latestTear) (fun o => (o = i_p0_latestTear)) := by
  unfold f_X11_torn
  refine wp_some ?_
  try dsimp only
  all_goals exact (by rfl) /- post1#1 -/
