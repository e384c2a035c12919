def vw (st : Int → Int) (a : Int) : Int → Int := fun j => if 0 ≤ j ∧ j < 7 then st (a + j) else 0
theorem vw_in {st : Int → Int} {a j : Int} (h0 : 0 ≤ j) (h1 : j < 7) : vw st a j = st (a + j) := if_pos ⟨h0, h1⟩
theorem vw_in0 {st : Int → Int} {j : Int} (h0 : 0 ≤ j) (h1 : j < 7) : vw st 0 j = st j := by
  rw [vw_in h0 h1, show (0 : Int) + j = j from by omega]
theorem vw_out {st : Int → Int} {a j : Int} (h : j < 0 ∨ 7 ≤ j) : vw st a j = 0 := if_neg (by omega)
def rowsM (n s : Int) (b : Int → Int) : Prop := ∀ r, 0 ≤ r → r < s → perm n (fun i => b (7 * r + i))
theorem rowM_use {n s r i : Int} {a : Int → Int} (h : rowsM n s a) (h0 : 0 ≤ r) (h1 : r < s) (h2 : 0 ≤ i) (h3 : i < n) : 0 ≤ a (7 * r + i) ∧ a (7 * r + i) < n := (h r h0 h1).1 i h2 h3
theorem rowM_sur {n s r q : Int} {a : Int → Int} (h : rowsM n s a) (h0 : 0 ≤ r) (h1 : r < s) (h2 : 0 ≤ q) (h3 : q < n) : ∃ i, (0 ≤ i ∧ i < n) ∧ a (7 * r + i) = q := perm_sur (h r h0 h1) h2 h3
/-- the reference's state within its bounds -/
def okM (n : Int) (st : Int → Int) : Prop := okS n (st 31) (st 7) (st 8) (st 30) st (fun j => st (9 + j)) (fun j => st (16 + j)) (fun j => st (23 + j)) (fun j => st (32 + j))
def okRM (n s : Int) (need b : Int → Int) : Prop := (2 ≤ n ∧ n ≤ 7) ∧ (0 ≤ s ∧ s ≤ 5) ∧ (∀ j, 0 ≤ j → j < 7 → 0 ≤ need j ∧ need j ≤ 9) ∧ rowsM n s b
theorem okM_1 {n : Int} {st : Int → Int} (h : okM n st) : (0 ≤ st 7 ∧ st 7 < n) ∧ (0 ≤ st 8 ∧ st 8 < n) ∧ (0 ≤ st 30 ∧ st 30 ≤ 999) ∧ (0 ≤ st 31 ∧ st 31 ≤ 6) := ⟨h.1, h.2.1, h.2.2.1, h.2.2.2.1⟩
theorem okM_day {n : Int} {row st st2 : Int → Int} (hn : 2 ≤ n ∧ n ≤ 7) (hr : perm n row) (h : okM n st) (hd : st 30 < 999) (d : dayP n row (fun k => st (9 + k)) (st 7) (st 8) (st 30) (vw st 0) (vw st 23) (st2 7) (st2 8) (st2 30) (vw st2 0) (vw st2 23)) (hk : ∀ j, ((9 ≤ j ∧ j < 23) ∨ 31 ≤ j) → st2 j = st j) : okM n st2 := by
  obtain ⟨h1, h2, h3, h4, h5, h6, h7, h8, h9⟩ := h
  have q : okD n (st2 7) (st2 8) (st2 30) (vw st2 0) (vw st2 23) := by
    refine okD_day hn hr ⟨h1, h2, h3, fun j a b => ?_, fun j a b => ?_⟩ hd d
    · rw [vw_in0 a b]; exact h5 j a b
    · rw [vw_in a b]; exact h8 j a b
  obtain ⟨q1, q2, q3, q4, q5⟩ := q
  refine ⟨q1, q2, q3, by rw [hk 31 (by omega)]; exact h4, fun j a b => ?_, fun j a b => ?_, fun j a b => ?_, fun j a b => ?_, fun j a b => ?_⟩
  · have := q4 j a b; rw [vw_in0 a b] at this; exact this
  · dsimp only; rw [hk _ (by omega)]; exact h6 j a b
  · dsimp only; rw [hk _ (by omega)]; exact h7 j a b
  · have := q5 j a b; rw [vw_in a b] at this; exact this
  · dsimp only; rw [hk _ (by omega)]; rw [hk 31 (by omega)] at b; exact h9 j a b
theorem okM_cp {n c : Int} {st st2 : Int → Int} (h : okM n (fun j => st (c + j))) (e : ∀ j, 0 ≤ j → j < 38 → st2 j = st (c + j)) : okM n st2 := by
  obtain ⟨h1, h2, h3, h4, h5, h6, h7, h8, h9⟩ := h
  refine ⟨by rw [e 7 (by omega) (by omega)]; exact h1, by rw [e 8 (by omega) (by omega)]; exact h2, by rw [e 30 (by omega) (by omega)]; exact h3, by rw [e 31 (by omega) (by omega)]; exact h4, fun j a b => ?_, fun j a b => ?_, fun j a b => ?_, fun j a b => ?_, fun j a b => ?_⟩
  · rw [e j a (by omega)]; exact h5 j a b
  · dsimp only; rw [e _ (by omega) (by omega)]; exact h6 j a b
  · dsimp only; rw [e _ (by omega) (by omega)]; exact h7 j a b
  · dsimp only; rw [e _ (by omega) (by omega), e 30 (by omega) (by omega)]; exact h8 j a b
  · dsimp only; rw [e 31 (by omega) (by omega)] at b; rw [e _ (by omega) (by dsimp only at h4; omega)]; exact h9 j a b
set_option maxHeartbeats 1000000 in
theorem s_X12_fault (i_p0_fault : Int) : wp (f_X12_fault i_p0_fault) (fun o => (o = i_p0_fault)) := by
  unfold f_X12_fault
  refine wp_some ?_
  try dsimp only
  all_goals exact (by rfl) /- post1#1 -/

set_option maxHeartbeats 1000000 in
theorem s_X12_rule (i_p0_seats : Int) (i_p0_stirs : Int) (v_p0_st : (Int → Int)) (x1 : Int) (h1 : -2147483648 ≤ x1) (h2 : x1 < 2147483648) : wp (f_X12_rule i_p0_seats i_p0_stirs v_p0_st x1) (fun o => (o = if x1 = 0 then i_p0_seats else if x1 = 1 then i_p0_stirs else if x1 = 2 then v_p0_st 8 else if x1 = 3 then v_p0_st 30 else if x1 = 4 then v_p0_st 7 else -1)) := by
  unfold f_X12_rule
  refine wp_ck (z_r32_i.mpr ⟨(by first | omega | grind) /- z_r32.lo x1#1 -/, (by first | omega | grind) /- z_r32.hi x1#1 -/⟩) ?_
  refine wp_if (fun c1 => ?_) (fun c1 => ?_)
  ·
    refine wp_some ?_
    try dsimp only
    all_goals exact (by simp [*]) /- post1#1 -/
  ·
    refine wp_if (fun c2 => ?_) (fun c2 => ?_)
    ·
      refine wp_some ?_
      try dsimp only
      all_goals exact (by simp [*]) /- post1#2 -/
    ·
      refine wp_if (fun c3 => ?_) (fun c3 => ?_)
      ·
        refine wp_ck (z_ix_i.mpr ⟨⟨(by first | omega | grind) /- ix.lo (8 : Int)#1 -/, (by first | omega | grind) /- ix.hi (8 : Int)#1 -/⟩, (by first | omega | grind) /- ix.big (8 : Int)#1 -/⟩) ?_
        refine wp_some ?_
        try dsimp only
        all_goals exact (by simp [*]) /- post1#3 -/
      ·
        refine wp_if (fun c4 => ?_) (fun c4 => ?_)
        ·
          refine wp_ck (z_ix_i.mpr ⟨⟨(by first | omega | grind) /- ix.lo (30 : Int)#1 -/, (by first | omega | grind) /- ix.hi (30 : Int)#1 -/⟩, (by first | omega | grind) /- ix.big (30 : Int)#1 -/⟩) ?_
          refine wp_some ?_
          try dsimp only
          all_goals exact (by simp [*]) /- post1#4 -/
        ·
          refine wp_if (fun c5 => ?_) (fun c5 => ?_)
          ·
            refine wp_ck (z_ix_i.mpr ⟨⟨(by first | omega | grind) /- ix.lo (7 : Int)#1 -/, (by first | omega | grind) /- ix.hi (7 : Int)#1 -/⟩, (by first | omega | grind) /- ix.big (7 : Int)#1 -/⟩) ?_
            refine wp_some ?_
            try dsimp only
            all_goals exact (by simp [*]) /- post1#5 -/
          ·
            refine wp_some ?_
            try dsimp only
            all_goals exact (by simp [*]) /- post1#6 -/

set_option maxHeartbeats 1000000 in
theorem s_X12_pot (i_p0_seats : Int) (v_p0_st : (Int → Int)) (x1 : Int) (h1 : -2147483648 ≤ x1) (h2 : x1 < 2147483648) (h3 : 2 ≤ i_p0_seats) (h4 : i_p0_seats ≤ 7) : wp (f_X12_pot i_p0_seats v_p0_st x1) (fun o => (o = if 0 ≤ x1 ∧ x1 < i_p0_seats then v_p0_st x1 else -1)) := by
  unfold f_X12_pot
  refine wp_bd1 (s_X12_isSeat _ _ (by first | omega | assumption | grind) /- pre X12_isSeat.1#1 -/ (by first | omega | assumption | grind) /- pre X12_isSeat.2#1 -/ (by first | omega | assumption | grind) /- pre X12_isSeat.3#1 -/ (by first | omega | assumption | grind) /- pre X12_isSeat.4#1 -/) (fun z1 q_X12_isSeat_1 => ?_)
  try dsimp only at q_X12_isSeat_1
  refine wp_ck (z_r32_i.mpr ⟨(by first | omega | grind) /- z_r32.lo z1#1 -/, (by first | omega | grind) /- z_r32.hi z1#1 -/⟩) ?_
  refine wp_if (fun c1 => ?_) (fun c1 => ?_)
  ·
    refine wp_some ?_
    try dsimp only
    all_goals exact (by first | omega | assumption | grind) /- post1#1 -/
  ·
    refine wp_ck (z_ix_i.mpr ⟨⟨(by first | omega | grind) /- ix.lo x1#1 -/, (by first | omega | grind) /- ix.hi x1#1 -/⟩, (by first | omega | grind) /- ix.big x1#1 -/⟩) ?_
    refine wp_some ?_
    try dsimp only
    all_goals exact (by first | omega | assumption | grind) /- post1#2 -/

set_option maxHeartbeats 1000000 in
theorem s_X12_one (i_p0_seats : Int) (v_p0_st : (Int → Int)) (v_p0_need : (Int → Int)) (x1 : Int) (x2 : Int) (h1 : -2147483648 ≤ x1) (h2 : x1 < 2147483648) (h3 : -2147483648 ≤ x2) (h4 : x2 < 2147483648) (h5 : 2 ≤ i_p0_seats) (h6 : i_p0_seats ≤ 7) : wp (f_X12_one i_p0_seats v_p0_st v_p0_need x1 x2) (fun o => (o = if 0 ≤ x1 ∧ x1 < i_p0_seats then (if x2 = 0 then v_p0_st (9 + x1) else if x2 = 1 then v_p0_st (16 + x1) else if x2 = 2 then v_p0_need x1 else if x2 = 3 then v_p0_st (23 + x1) else -1) else -1)) := by
  unfold f_X12_one
  refine wp_bd1 (s_X12_isSeat _ _ (by first | omega | assumption | grind) /- pre X12_isSeat.1#1 -/ (by first | omega | assumption | grind) /- pre X12_isSeat.2#1 -/ (by first | omega | assumption | grind) /- pre X12_isSeat.3#1 -/ (by first | omega | assumption | grind) /- pre X12_isSeat.4#1 -/) (fun z1 q_X12_isSeat_1 => ?_)
  try dsimp only at q_X12_isSeat_1
  refine wp_ck (z_r32_i.mpr ⟨(by first | omega | grind) /- z_r32.lo z1#1 -/, (by first | omega | grind) /- z_r32.hi z1#1 -/⟩) ?_
  refine wp_if (fun c1 => ?_) (fun c1 => ?_)
  ·
    refine wp_some ?_
    try dsimp only
    all_goals exact (by first | omega | assumption | grind) /- post1#1 -/
  ·
    refine wp_ck (z_r32_i.mpr ⟨(by first | omega | grind) /- z_r32.lo x2#1 -/, (by first | omega | grind) /- z_r32.hi x2#1 -/⟩) ?_
    refine wp_if (fun c2 => ?_) (fun c2 => ?_)
    ·
      refine wp_ck (z_ix_i.mpr ⟨⟨(by first | omega | grind) /- ix.lo ((9 : Int) + x1)#1 -/, (by first | omega | grind) /- ix.hi ((9 : Int) + x1)#1 -/⟩, (by first | omega | grind) /- ix.big ((9 : Int) + x1)#1 -/⟩) ?_
      refine wp_some ?_
      try dsimp only
      all_goals exact (by first | omega | assumption | grind) /- post1#2 -/
    ·
      refine wp_if (fun c3 => ?_) (fun c3 => ?_)
      ·
        refine wp_ck (z_ix_i.mpr ⟨⟨(by first | omega | grind) /- ix.lo ((16 : Int) + x1)#1 -/, (by first | omega | grind) /- ix.hi ((16 : Int) + x1)#1 -/⟩, (by first | omega | grind) /- ix.big ((16 : Int) + x1)#1 -/⟩) ?_
        refine wp_some ?_
        try dsimp only
        all_goals exact (by first | omega | assumption | grind) /- post1#3 -/
      ·
        refine wp_if (fun c4 => ?_) (fun c4 => ?_)
        ·
          refine wp_ck (z_ix_i.mpr ⟨⟨(by first | omega | grind) /- ix.lo x1#1 -/, (by first | omega | grind) /- ix.hi x1#1 -/⟩, (by first | omega | grind) /- ix.big x1#1 -/⟩) ?_
          refine wp_some ?_
          try dsimp only
          all_goals exact (by first | omega | assumption | grind) /- post1#4 -/
        ·
          refine wp_if (fun c5 => ?_) (fun c5 => ?_)
          ·
            refine wp_ck (z_ix_i.mpr ⟨⟨(by first | omega | grind) /- ix.lo ((23 : Int) + x1)#1 -/, (by first | omega | grind) /- ix.hi ((23 : Int) + x1)#1 -/⟩, (by first | omega | grind) /- ix.big ((23 : Int) + x1)#1 -/⟩) ?_
            refine wp_some ?_
            try dsimp only
            all_goals exact (by first | omega | assumption | grind) /- post1#5 -/
          ·
            refine wp_some ?_
            try dsimp only
            all_goals exact (by first | omega | assumption | grind) /- post1#6 -/

set_option maxHeartbeats 1000000 in
theorem s_X12_stir (i_p0_seats : Int) (i_p0_stirs : Int) (v_p0_brings : (Int → Int)) (x1 : Int) (x2 : Int) (h1 : -2147483648 ≤ x1) (h2 : x1 < 2147483648) (h3 : -2147483648 ≤ x2) (h4 : x2 < 2147483648) (h5 : 2 ≤ i_p0_seats) (h6 : i_p0_seats ≤ 7) (h7 : 0 ≤ i_p0_stirs) (h8 : i_p0_stirs ≤ 5) : wp (f_X12_stir i_p0_seats i_p0_stirs v_p0_brings x1 x2) (fun o => (o = if (0 ≤ x1 ∧ x1 < i_p0_stirs) ∧ 0 ≤ x2 ∧ x2 < i_p0_seats then v_p0_brings (7 * x1 + x2) else -1)) := by
  unfold f_X12_stir
  refine wp_bd1 (s_X12_isStir _ _ (by first | omega | assumption | grind) /- pre X12_isStir.1#1 -/ (by first | omega | assumption | grind) /- pre X12_isStir.2#1 -/ (by first | omega | assumption | grind) /- pre X12_isStir.3#1 -/ (by first | omega | assumption | grind) /- pre X12_isStir.4#1 -/) (fun z1 q_X12_isStir_1 => ?_)
  try dsimp only at q_X12_isStir_1
  refine wp_ck (z_r32_i.mpr ⟨(by first | omega | grind) /- z_r32.lo z1#1 -/, (by first | omega | grind) /- z_r32.hi z1#1 -/⟩) ?_
  refine wp_if (fun c1 => ?_) (fun c1 => ?_)
  ·
    refine wp_some ?_
    try dsimp only
    all_goals exact (by first | omega | assumption | grind) /- post1#1 -/
  ·
    refine wp_bd1 (s_X12_isSeat _ _ (by first | omega | assumption | grind) /- pre X12_isSeat.1#1 -/ (by first | omega | assumption | grind) /- pre X12_isSeat.2#1 -/ (by first | omega | assumption | grind) /- pre X12_isSeat.3#1 -/ (by first | omega | assumption | grind) /- pre X12_isSeat.4#1 -/) (fun z3 q_X12_isSeat_1 => ?_)
    try dsimp only at q_X12_isSeat_1
    refine wp_ck (z_r32_i.mpr ⟨(by first | omega | grind) /- z_r32.lo z3#1 -/, (by first | omega | grind) /- z_r32.hi z3#1 -/⟩) ?_
    refine wp_if (fun c2 => ?_) (fun c2 => ?_)
    ·
      refine wp_some ?_
      try dsimp only
      all_goals exact (by first | omega | assumption | grind) /- post1#2 -/
    ·
      refine wp_ck (z_ix_i.mpr ⟨⟨(by first | omega | grind) /- ix.lo (((7 : Int) * x1) + x2)#1 -/, (by first | omega | grind) /- ix.hi (((7 : Int) * x1) + x2)#1 -/⟩, (by first | omega | grind) /- ix.big (((7 : Int) * x1) + x2)#1 -/⟩) ?_
      refine wp_some ?_
      try dsimp only
      all_goals exact (by first | omega | assumption | grind) /- post1#3 -/

set_option maxHeartbeats 1000000 in
theorem s_X12_befriend (i_p0_seats : Int) (v_p0_st : (Int → Int)) (x1 : Int) (x2 : Int) (x3 : Int) (h1 : -2147483648 ≤ x1) (h2 : x1 < 2147483648) (h3 : -2147483648 ≤ x2) (h4 : x2 < 2147483648) (h5 : -2147483648 ≤ x3) (h6 : x3 < 2147483648) (h7 : 2 ≤ i_p0_seats) (h8 : i_p0_seats ≤ 7) : wp (f_X12_befriend i_p0_seats v_p0_st x1 x2 x3) (fun o => (o.1 = if (0 ≤ x1 ∧ x1 < i_p0_seats) ∧ (0 ≤ x2 ∧ x2 < i_p0_seats) ∧ ¬ x1 = x2 then bt (v_p0_st (9 + x1)) x2 else -1) ∧ (o.2 = if (0 ≤ x1 ∧ x1 < i_p0_seats) ∧ (0 ≤ x2 ∧ x2 < i_p0_seats) ∧ ¬ x1 = x2 then z_up v_p0_st (9 + x1) (if x3 = 0 then z_and (v_p0_st (9 + x1)) (z_xor (z_shl 1 x2) (-1)) else z_or (v_p0_st (9 + x1)) (z_shl 1 x2)) else v_p0_st)) := by
  unfold f_X12_befriend
  refine wp_bd1 (s_X12_isSeat _ _ (by first | omega | assumption | grind [bt]) /- pre X12_isSeat.1#1 -/ (by first | omega | assumption | grind [bt]) /- pre X12_isSeat.2#1 -/ (by first | omega | assumption | grind [bt]) /- pre X12_isSeat.3#1 -/ (by first | omega | assumption | grind [bt]) /- pre X12_isSeat.4#1 -/) (fun z1 q_X12_isSeat_1 => ?_)
  try dsimp only at q_X12_isSeat_1
  refine wp_ck (z_r32_i.mpr ⟨(by first | omega | grind) /- z_r32.lo z1#1 -/, (by first | omega | grind) /- z_r32.hi z1#1 -/⟩) ?_
  refine wp_if (fun c1 => ?_) (fun c1 => ?_)
  ·
    refine wp_some ?_
    try dsimp only
    all_goals exact ⟨(by first | omega | assumption | grind [bt]) /- post1#1 -/, (by first | omega | assumption | grind [bt]) /- post2#1 -/⟩
  ·
    refine wp_bd1 (s_X12_isSeat _ _ (by first | omega | assumption | grind [bt]) /- pre X12_isSeat.1#2 -/ (by first | omega | assumption | grind [bt]) /- pre X12_isSeat.2#2 -/ (by first | omega | assumption | grind [bt]) /- pre X12_isSeat.3#2 -/ (by first | omega | assumption | grind [bt]) /- pre X12_isSeat.4#2 -/) (fun z3 q_X12_isSeat_2 => ?_)
    try dsimp only at q_X12_isSeat_2
    refine wp_ck (z_r32_i.mpr ⟨(by first | omega | grind) /- z_r32.lo z3#1 -/, (by first | omega | grind) /- z_r32.hi z3#1 -/⟩) ?_
    refine wp_if (fun c2 => ?_) (fun c2 => ?_)
    ·
      refine wp_some ?_
      try dsimp only
      all_goals exact ⟨(by first | omega | assumption | grind [bt]) /- post1#2 -/, (by first | omega | assumption | grind [bt]) /- post2#2 -/⟩
    ·
      refine wp_ck (z_r32_i.mpr ⟨(by first | omega | grind) /- z_r32.lo x1#1 -/, (by first | omega | grind) /- z_r32.hi x1#1 -/⟩) ?_
      refine wp_ck (z_r32_i.mpr ⟨(by first | omega | grind) /- z_r32.lo x2#1 -/, (by first | omega | grind) /- z_r32.hi x2#1 -/⟩) ?_
      refine wp_if (fun c3 => ?_) (fun c3 => ?_)
      ·
        refine wp_some ?_
        try dsimp only
        all_goals exact ⟨(by first | omega | assumption | grind [bt]) /- post1#3 -/, (by first | omega | assumption | grind [bt]) /- post2#3 -/⟩
      ·
        refine wp_ck (z_ix_i.mpr ⟨⟨(by first | omega | grind) /- ix.lo ((9 : Int) + x1)#1 -/, (by first | omega | grind) /- ix.hi ((9 : Int) + x1)#1 -/⟩, (by first | omega | grind) /- ix.big ((9 : Int) + x1)#1 -/⟩) ?_
        refine wp_bndE (fun z7 hz7 => ?_)
        refine wp_ck (z_r32_i.mpr ⟨(by first | omega | grind) /- z_r32.lo x3#1 -/, (by first | omega | grind) /- z_r32.hi x3#1 -/⟩) ?_
        refine wp_if (fun c4 => ?_) (fun c4 => ?_)
        ·
          refine wp_ck (z_ix_i.mpr ⟨⟨(by first | omega | grind) /- ix.lo ((9 : Int) + x1)#2 -/, (by first | omega | grind) /- ix.hi ((9 : Int) + x1)#2 -/⟩, (by first | omega | grind) /- ix.big ((9 : Int) + x1)#2 -/⟩) ?_
          refine wp_ck (z_ix_i.mpr ⟨⟨(by first | omega | grind) /- ix.lo ((9 : Int) + x1)#3 -/, (by first | omega | grind) /- ix.hi ((9 : Int) + x1)#3 -/⟩, (by first | omega | grind) /- ix.big ((9 : Int) + x1)#3 -/⟩) ?_
          refine wp_bnd ?_
          refine wp_some ?_
          try dsimp only
          all_goals exact ⟨(by first | omega | assumption | grind [bt]) /- post1#4 -/, (by first | omega | assumption | grind [bt]) /- post2#4 -/⟩
        ·
          refine wp_ck (z_ix_i.mpr ⟨⟨(by first | omega | grind) /- ix.lo ((9 : Int) + x1)#4 -/, (by first | omega | grind) /- ix.hi ((9 : Int) + x1)#4 -/⟩, (by first | omega | grind) /- ix.big ((9 : Int) + x1)#4 -/⟩) ?_
          refine wp_ck (z_ix_i.mpr ⟨⟨(by first | omega | grind) /- ix.lo ((9 : Int) + x1)#5 -/, (by first | omega | grind) /- ix.hi ((9 : Int) + x1)#5 -/⟩, (by first | omega | grind) /- ix.big ((9 : Int) + x1)#5 -/⟩) ?_
          refine wp_bnd ?_
          refine wp_some ?_
          try dsimp only
          all_goals exact ⟨(by first | omega | assumption | grind [bt]) /- post1#5 -/, (by first | omega | assumption | grind [bt]) /- post2#5 -/⟩

set_option maxHeartbeats 1000000 in
theorem s_X12_spoon (i_p0_seats : Int) (v_p0_st : (Int → Int)) (x1 : Int) (x2 : Int) (h1 : -2147483648 ≤ x1) (h2 : x1 < 2147483648) (h3 : -2147483648 ≤ x2) (h4 : x2 < 2147483648) (h5 : 2 ≤ i_p0_seats) (h6 : i_p0_seats ≤ 7) : wp (f_X12_spoon i_p0_seats v_p0_st x1 x2) (fun o => (o.1 = if (0 ≤ x1 ∧ x1 < i_p0_seats) ∧ 1 ≤ x2 ∧ x2 ≤ 9 then v_p0_st (16 + x1) else -1) ∧ (o.2 = if (0 ≤ x1 ∧ x1 < i_p0_seats) ∧ 1 ≤ x2 ∧ x2 ≤ 9 then z_up v_p0_st (16 + x1) x2 else v_p0_st)) := by
  unfold f_X12_spoon
  refine wp_bd1 (s_X12_isSeat _ _ (by first | omega | assumption | grind) /- pre X12_isSeat.1#1 -/ (by first | omega | assumption | grind) /- pre X12_isSeat.2#1 -/ (by first | omega | assumption | grind) /- pre X12_isSeat.3#1 -/ (by first | omega | assumption | grind) /- pre X12_isSeat.4#1 -/) (fun z1 q_X12_isSeat_1 => ?_)
  try dsimp only at q_X12_isSeat_1
  refine wp_ck (z_r32_i.mpr ⟨(by first | omega | grind) /- z_r32.lo z1#1 -/, (by first | omega | grind) /- z_r32.hi z1#1 -/⟩) ?_
  refine wp_if (fun c1 => ?_) (fun c1 => ?_)
  ·
    refine wp_some ?_
    try dsimp only
    all_goals exact ⟨(by first | omega | assumption | grind) /- post1#1 -/, (by first | omega | assumption | grind) /- post2#1 -/⟩
  ·
    refine wp_ck (z_r32_i.mpr ⟨(by first | omega | grind) /- z_r32.lo x2#1 -/, (by first | omega | grind) /- z_r32.hi x2#1 -/⟩) ?_
    refine wp_bd1 (s_X12_in _ _ _ (by first | omega | assumption | grind) /- pre X12_in.1#1 -/ (by first | omega | assumption | grind) /- pre X12_in.2#1 -/ (by first | omega | assumption | grind) /- pre X12_in.3#1 -/ (by first | omega | assumption | grind) /- pre X12_in.4#1 -/ (by first | omega | assumption | grind) /- pre X12_in.5#1 -/ (by first | omega | assumption | grind) /- pre X12_in.6#1 -/) (fun z4 q_X12_in_1 => ?_)
    try dsimp only at q_X12_in_1
    refine wp_ck (z_r32_i.mpr ⟨(by first | omega | grind) /- z_r32.lo z4#1 -/, (by first | omega | grind) /- z_r32.hi z4#1 -/⟩) ?_
    refine wp_if (fun c2 => ?_) (fun c2 => ?_)
    ·
      refine wp_some ?_
      try dsimp only
      all_goals exact ⟨(by first | omega | assumption | grind) /- post1#2 -/, (by first | omega | assumption | grind) /- post2#2 -/⟩
    ·
      refine wp_ck (z_ix_i.mpr ⟨⟨(by first | omega | grind) /- ix.lo ((16 : Int) + x1)#1 -/, (by first | omega | grind) /- ix.hi ((16 : Int) + x1)#1 -/⟩, (by first | omega | grind) /- ix.big ((16 : Int) + x1)#1 -/⟩) ?_
      refine wp_bndE (fun z6 hz6 => ?_)
      refine wp_ck (z_ix_i.mpr ⟨⟨(by first | omega | grind) /- ix.lo ((16 : Int) + x1)#2 -/, (by first | omega | grind) /- ix.hi ((16 : Int) + x1)#2 -/⟩, (by first | omega | grind) /- ix.big ((16 : Int) + x1)#2 -/⟩) ?_
      refine wp_bnd ?_
      refine wp_some ?_
      try dsimp only
      all_goals exact ⟨(by first | omega | assumption | grind) /- post1#3 -/, (by first | omega | assumption | grind) /- post2#3 -/⟩

set_option maxHeartbeats 1000000 in
theorem s_X12_crown (i_p0_seats : Int) (v_p0_st : (Int → Int)) (x1 : Int) (h1 : -2147483648 ≤ x1) (h2 : x1 < 2147483648) (h3 : 2 ≤ i_p0_seats) (h4 : i_p0_seats ≤ 7) : wp (f_X12_crown i_p0_seats v_p0_st x1) (fun o => (o.1 = if 0 ≤ x1 ∧ x1 < i_p0_seats then v_p0_st 8 else -1) ∧ (o.2 = if 0 ≤ x1 ∧ x1 < i_p0_seats then z_up v_p0_st 8 x1 else v_p0_st)) := by
  unfold f_X12_crown
  refine wp_bd1 (s_X12_isSeat _ _ (by first | omega | assumption | grind) /- pre X12_isSeat.1#1 -/ (by first | omega | assumption | grind) /- pre X12_isSeat.2#1 -/ (by first | omega | assumption | grind) /- pre X12_isSeat.3#1 -/ (by first | omega | assumption | grind) /- pre X12_isSeat.4#1 -/) (fun z1 q_X12_isSeat_1 => ?_)
  try dsimp only at q_X12_isSeat_1
  refine wp_ck (z_r32_i.mpr ⟨(by first | omega | grind) /- z_r32.lo z1#1 -/, (by first | omega | grind) /- z_r32.hi z1#1 -/⟩) ?_
  refine wp_if (fun c1 => ?_) (fun c1 => ?_)
  ·
    refine wp_some ?_
    try dsimp only
    all_goals exact ⟨(by first | omega | assumption | grind) /- post1#1 -/, (by first | omega | assumption | grind) /- post2#1 -/⟩
  ·
    refine wp_ck (z_ix_i.mpr ⟨⟨(by first | omega | grind) /- ix.lo (8 : Int)#1 -/, (by first | omega | grind) /- ix.hi (8 : Int)#1 -/⟩, (by first | omega | grind) /- ix.big (8 : Int)#1 -/⟩) ?_
    refine wp_bndE (fun z3 hz3 => ?_)
    refine wp_ck (z_ix_i.mpr ⟨⟨(by first | omega | grind) /- ix.lo (8 : Int)#2 -/, (by first | omega | grind) /- ix.hi (8 : Int)#2 -/⟩, (by first | omega | grind) /- ix.big (8 : Int)#2 -/⟩) ?_
    refine wp_bnd ?_
    refine wp_some ?_
    try dsimp only
    all_goals exact ⟨(by first | omega | assumption | grind) /- post1#2 -/, (by first | omega | assumption | grind) /- post2#2 -/⟩

set_option maxHeartbeats 1000000 in
theorem s_X12_fill (i_p0_seats : Int) (v_p0_st : (Int → Int)) (x1 : Int) (x2 : Int) (h1 : -2147483648 ≤ x1) (h2 : x1 < 2147483648) (h3 : -2147483648 ≤ x2) (h4 : x2 < 2147483648) (h5 : 2 ≤ i_p0_seats) (h6 : i_p0_seats ≤ 7) : wp (f_X12_fill i_p0_seats v_p0_st x1 x2) (fun o => (o.1 = if (0 ≤ x1 ∧ x1 < i_p0_seats) ∧ 0 ≤ x2 ∧ x2 ≤ 9 then v_p0_st x1 else -1) ∧ (o.2 = if (0 ≤ x1 ∧ x1 < i_p0_seats) ∧ 0 ≤ x2 ∧ x2 ≤ 9 then z_up v_p0_st x1 x2 else v_p0_st)) := by
  unfold f_X12_fill
  refine wp_bd1 (s_X12_isSeat _ _ (by first | omega | assumption | grind) /- pre X12_isSeat.1#1 -/ (by first | omega | assumption | grind) /- pre X12_isSeat.2#1 -/ (by first | omega | assumption | grind) /- pre X12_isSeat.3#1 -/ (by first | omega | assumption | grind) /- pre X12_isSeat.4#1 -/) (fun z1 q_X12_isSeat_1 => ?_)
  try dsimp only at q_X12_isSeat_1
  refine wp_ck (z_r32_i.mpr ⟨(by first | omega | grind) /- z_r32.lo z1#1 -/, (by first | omega | grind) /- z_r32.hi z1#1 -/⟩) ?_
  refine wp_if (fun c1 => ?_) (fun c1 => ?_)
  ·
    refine wp_some ?_
    try dsimp only
    all_goals exact ⟨(by first | omega | assumption | grind) /- post1#1 -/, (by first | omega | assumption | grind) /- post2#1 -/⟩
  ·
    refine wp_ck (z_r32_i.mpr ⟨(by first | omega | grind) /- z_r32.lo x2#1 -/, (by first | omega | grind) /- z_r32.hi x2#1 -/⟩) ?_
    refine wp_bd1 (s_X12_in _ _ _ (by first | omega | assumption | grind) /- pre X12_in.1#1 -/ (by first | omega | assumption | grind) /- pre X12_in.2#1 -/ (by first | omega | assumption | grind) /- pre X12_in.3#1 -/ (by first | omega | assumption | grind) /- pre X12_in.4#1 -/ (by first | omega | assumption | grind) /- pre X12_in.5#1 -/ (by first | omega | assumption | grind) /- pre X12_in.6#1 -/) (fun z4 q_X12_in_1 => ?_)
    try dsimp only at q_X12_in_1
    refine wp_ck (z_r32_i.mpr ⟨(by first | omega | grind) /- z_r32.lo z4#1 -/, (by first | omega | grind) /- z_r32.hi z4#1 -/⟩) ?_
    refine wp_if (fun c2 => ?_) (fun c2 => ?_)
    ·
      refine wp_some ?_
      try dsimp only
      all_goals exact ⟨(by first | omega | assumption | grind) /- post1#2 -/, (by first | omega | assumption | grind) /- post2#2 -/⟩
    ·
      refine wp_ck (z_ix_i.mpr ⟨⟨(by first | omega | grind) /- ix.lo x1#1 -/, (by first | omega | grind) /- ix.hi x1#1 -/⟩, (by first | omega | grind) /- ix.big x1#1 -/⟩) ?_
      refine wp_bndE (fun z6 hz6 => ?_)
      refine wp_ck (z_ix_i.mpr ⟨⟨(by first | omega | grind) /- ix.lo x1#2 -/, (by first | omega | grind) /- ix.hi x1#2 -/⟩, (by first | omega | grind) /- ix.big x1#2 -/⟩) ?_
      refine wp_bnd ?_
      refine wp_some ?_
      try dsimp only
      all_goals exact ⟨(by first | omega | assumption | grind) /- post1#3 -/, (by first | omega | assumption | grind) /- post2#3 -/⟩

set_option maxHeartbeats 4000000 in
theorem s_X12_findPlaces (i_p0_seats : Int) (v_p0_st : (Int → Int)) (v_p0_places : (Int → Int)) (x1 : Int) (h1 : 2 ≤ i_p0_seats) (h2 : i_p0_seats ≤ 7) (h3 : 0 ≤ x1) (h4 : x1 < i_p0_seats) : wp (f_X12_findPlaces i_p0_seats v_p0_st v_p0_places x1) (fun o => (∀ p, 0 ≤ p → p < i_p0_seats → o p = plc i_p0_seats x1 (v_p0_st (9 + x1)) p)) := by
  unfold f_X12_findPlaces
  refine wp_bnd ?_
  refine wp_bndE (fun z2 hz2 => ?_)
  refine wp_bnd ?_
  refine wp_lq4 (fun (z4 : Int) (z5 : Int) (z6 : Int) (w7 : (Int → Int)) => (0 ≤ z4) ∧ (z4 ≤ i_p0_seats) ∧ (z6 = z4 - cnt i_p0_seats x1 (v_p0_st (9 + x1)) z4.toNat) ∧ (z5 = i_p0_seats - 1 - cnt i_p0_seats x1 (v_p0_st (9 + x1)) z4.toNat) ∧ (∀ j : Nat, (j : Int) < z4 → w7 ((x1 + (j : Int)) % i_p0_seats) = plJ i_p0_seats x1 (v_p0_st (9 + x1)) j)) (fun (z4 : Int) (z5 : Int) (z6 : Int) (w7 : (Int → Int)) => (i_p0_seats - z4).toNat) (fun again12 z4 z5 z6 w7 hI ih_B_X12_findPlaces_12 => ?_) 1000 _ _ _ _ ⟨(by omega) /- B_X12_findPlaces_12.init1#1 -/, (by omega) /- B_X12_findPlaces_12.init2#1 -/, (by show _ = _ - (0 : Int); omega) /- B_X12_findPlaces_12.init3#1 -/, (by show _ = _ - (0 : Int); omega) /- B_X12_findPlaces_12.init4#1 -/, (by intro j; omega) /- B_X12_findPlaces_12.init5#1 -/⟩ (by omega) /- B_X12_findPlaces_12.fuel#1 -/
  obtain ⟨i_B_X12_findPlaces_12_1, i_B_X12_findPlaces_12_2, i_B_X12_findPlaces_12_3, i_B_X12_findPlaces_12_4, i_B_X12_findPlaces_12_5⟩ := hI
  unfold B_X12_findPlaces_12
  refine wp_ck (z_r32_i.mpr ⟨(by omega) /- z_r32.lo z4#1 -/, (by omega) /- z_r32.hi z4#1 -/⟩) ?_
  refine wp_ck (z_r32_i.mpr ⟨(by omega) /- z_r32.lo i_p0_seats#1 -/, (by omega) /- z_r32.hi i_p0_seats#1 -/⟩) ?_
  refine wp_if (fun c1 => ?_) (fun c1 => ?_)
  ·
    refine wp_some ?_
    try dsimp only
    all_goals exact (by 
                                        intro p h0 h1
                                        have e := rg_back (k := x1) (n := i_p0_seats) (by omega) h0 h1
                                        have b : ((((p - x1) % i_p0_seats).toNat : Nat) : Int) < z4 := by
                                          have := rg_lo (n := i_p0_seats) (k := p - x1) (by omega)
                                          have := rg_hi (n := i_p0_seats) (k := p - x1) (by omega)
                                          omega
                                        have q := i_B_X12_findPlaces_12_5 _ b
                                        rw [e] at q
                                        exact q) /- post1#1 -/
  ·
    have hr0 : 0 ≤ (x1 + z4) % i_p0_seats := rg_lo (by omega)
    have hr1 : (x1 + z4) % i_p0_seats < i_p0_seats := rg_hi (by omega)
    have hcn := cnt_rng i_p0_seats x1 (v_p0_st (9 + x1)) z4.toNat
    have hez : ((z4.toNat : Nat) : Int) = z4 := by omega
    have hcs : cnt i_p0_seats x1 (v_p0_st (9 + x1)) (z4.toNat + 1) = cnt i_p0_seats x1 (v_p0_st (9 + x1)) z4.toNat + low1 x1 (v_p0_st (9 + x1)) ((x1 + z4) % i_p0_seats) := by show _ + low1 _ _ ((x1 + ((z4.toNat : Nat) : Int)) % _) = _; rw [hez]
    have hpl : plJ i_p0_seats x1 (v_p0_st (9 + x1)) z4.toNat = if low1 x1 (v_p0_st (9 + x1)) ((x1 + z4) % i_p0_seats) = 1 then i_p0_seats - 1 - cnt i_p0_seats x1 (v_p0_st (9 + x1)) z4.toNat else z4 - cnt i_p0_seats x1 (v_p0_st (9 + x1)) z4.toNat := by unfold plJ; rw [hez]
    have hPr := plJ_rng (n := i_p0_seats) (k := x1) (f := (v_p0_st (9 + x1))) (j := z4.toNat) (by omega)
    have h1n : (z4 + 1).toNat = z4.toNat + 1 := by omega
    refine wp_ck (z_dv_i.mpr ⟨⟨⟨(by omega) /- dv.0 (x1 + z4)#1 -/, (by omega) /- dv.1 (x1 + z4)#1 -/⟩, (by omega) /- dv.2 (x1 + z4)#1 -/⟩, (by omega) /- dv.3 (x1 + z4)#1 -/⟩) ?_
    refine wp_bndE (fun z11 hz11 => ?_)
    refine wp_ck (z_r32_i.mpr ⟨(by omega) /- z_r32.lo z11#1 -/, (by omega) /- z_r32.hi z11#1 -/⟩) ?_
    refine wp_ck (z_r32_i.mpr ⟨(by omega) /- z_r32.lo x1#1 -/, (by omega) /- z_r32.hi x1#1 -/⟩) ?_
    refine wp_jn ?_
    refine wp_jn ?_
    refine wp_if (fun c2 => ?_) (fun c2 => ?_)
    ·
      refine wp_bnd ?_
      refine wp_ck (z_r32_i.mpr ⟨(by omega) /- z_r32.lo z16#1 -/, (by omega) /- z_r32.hi z16#1 -/⟩) ?_
      refine wp_jn ?_
      refine wp_if (fun c3 => ?_) (fun c3 => ?_)
      ·
        refine wp_ck (z_ix_i.mpr ⟨⟨(by omega) /- ix.lo z18#1 -/, (by omega) /- ix.hi z18#1 -/⟩, (by omega) /- ix.big z18#1 -/⟩) ?_
        refine wp_bnd ?_
        refine wp_bd1 (s_X12_flag _ (by omega) /- pre X12_flag.1#1 -/) (fun z22 q_X12_flag_1 => ?_)
        try dsimp only at q_X12_flag_1
        refine wp_bndE (fun z23 hz23 => ?_)
        refine wp_if (fun c4 => ?_) (fun c4 => ?_)
        ·
          refine wp_bd1 (s_X12_flag _ (by omega) /- pre X12_flag.1#2 -/) (fun z27 q_X12_flag_2 => ?_)
          try dsimp only at q_X12_flag_2
          refine wp_bndE (fun z28 hz28 => ?_)
          refine wp_bndE (fun z29 hz29 => ?_)
          exact ih_B_X12_findPlaces_12 _ _ _ _ ⟨(by omega) /- B_X12_findPlaces_12.inv1#1 -/, (by omega) /- B_X12_findPlaces_12.inv2#1 -/, (by 
                                        have hLL : low1 x1 (v_p0_st (9 + x1)) z11 = if z11 = x1 ∨ ¬ bt (v_p0_st (9 + x1)) z11 = 0 then 1 else 0 := rfl
                                        have hb01 := bt01 (v_p0_st (9 + x1)) z11
                                        have hbt : z_and (z_shr (v_p0_st (9 + x1)) z11) 1 = bt (v_p0_st (9 + x1)) z11 := rfl
                                        rw [← hz11] at hcs hpl
                                        first | (rw [if_pos (by omega)] at hLL; rw [hLL] at hcs hpl; rw [if_pos rfl] at hpl; (first | rw [hz26] | rw [hz29]); rw [h1n, hcs]; omega) | (rw [if_neg (by omega)] at hLL; rw [hLL] at hcs hpl; rw [if_neg (by decide)] at hpl; (first | rw [hz26] | rw [hz29]); rw [h1n, hcs]; omega)) /- B_X12_findPlaces_12.inv3#1 -/, (by 
                                        have hLL : low1 x1 (v_p0_st (9 + x1)) z11 = if z11 = x1 ∨ ¬ bt (v_p0_st (9 + x1)) z11 = 0 then 1 else 0 := rfl
                                        have hb01 := bt01 (v_p0_st (9 + x1)) z11
                                        have hbt : z_and (z_shr (v_p0_st (9 + x1)) z11) 1 = bt (v_p0_st (9 + x1)) z11 := rfl
                                        rw [← hz11] at hcs hpl
                                        first | (rw [if_pos (by omega)] at hLL; rw [hLL] at hcs hpl; rw [if_pos rfl] at hpl; (first | rw [hz26] | rw [hz29]); rw [h1n, hcs]; omega) | (rw [if_neg (by omega)] at hLL; rw [hLL] at hcs hpl; rw [if_neg (by decide)] at hpl; (first | rw [hz26] | rw [hz29]); rw [h1n, hcs]; omega)) /- B_X12_findPlaces_12.inv4#1 -/, (by 
                                        have hLL : low1 x1 (v_p0_st (9 + x1)) z11 = if z11 = x1 ∨ ¬ bt (v_p0_st (9 + x1)) z11 = 0 then 1 else 0 := rfl
                                        have hb01 := bt01 (v_p0_st (9 + x1)) z11
                                        have hbt : z_and (z_shr (v_p0_st (9 + x1)) z11) 1 = bt (v_p0_st (9 + x1)) z11 := rfl
                                        rw [← hz11] at hcs hpl
                                        first | (rw [if_pos (by omega)] at hLL; rw [hLL] at hcs hpl; rw [if_pos rfl] at hpl; (intro j hj; by_cases e : (j : Int) = z4; (have e2 : j = z4.toNat := by omega); subst e2; rw [hez, ← hz11, z_up_s]; omega; rw [z_up_n _ _ (fun h => e (rg_inj (n := i_p0_seats) (k := x1) (by omega) (by omega) (by omega) (by omega) (by omega)))]; exact i_B_X12_findPlaces_12_5 j (by omega))) | (rw [if_neg (by omega)] at hLL; rw [hLL] at hcs hpl; rw [if_neg (by decide)] at hpl; (intro j hj; by_cases e : (j : Int) = z4; (have e2 : j = z4.toNat := by omega); subst e2; rw [hez, ← hz11, z_up_s]; omega; rw [z_up_n _ _ (fun h => e (rg_inj (n := i_p0_seats) (k := x1) (by omega) (by omega) (by omega) (by omega) (by omega)))]; exact i_B_X12_findPlaces_12_5 j (by omega)))) /- B_X12_findPlaces_12.inv5#1 -/⟩ (by omega) /- B_X12_findPlaces_12.dec#1 -/
        ·
          refine wp_bd1 (s_X12_flag _ (by omega) /- pre X12_flag.1#3 -/) (fun z24 q_X12_flag_3 => ?_)
          try dsimp only at q_X12_flag_3
          refine wp_bndE (fun z25 hz25 => ?_)
          refine wp_bndE (fun z26 hz26 => ?_)
          exact ih_B_X12_findPlaces_12 _ _ _ _ ⟨(by omega) /- B_X12_findPlaces_12.inv1#2 -/, (by omega) /- B_X12_findPlaces_12.inv2#2 -/, (by 
                                        have hLL : low1 x1 (v_p0_st (9 + x1)) z11 = if z11 = x1 ∨ ¬ bt (v_p0_st (9 + x1)) z11 = 0 then 1 else 0 := rfl
                                        have hb01 := bt01 (v_p0_st (9 + x1)) z11
                                        have hbt : z_and (z_shr (v_p0_st (9 + x1)) z11) 1 = bt (v_p0_st (9 + x1)) z11 := rfl
                                        rw [← hz11] at hcs hpl
                                        first | (rw [if_pos (by omega)] at hLL; rw [hLL] at hcs hpl; rw [if_pos rfl] at hpl; (first | rw [hz26] | rw [hz29]); rw [h1n, hcs]; omega) | (rw [if_neg (by omega)] at hLL; rw [hLL] at hcs hpl; rw [if_neg (by decide)] at hpl; (first | rw [hz26] | rw [hz29]); rw [h1n, hcs]; omega)) /- B_X12_findPlaces_12.inv3#2 -/, (by 
                                        have hLL : low1 x1 (v_p0_st (9 + x1)) z11 = if z11 = x1 ∨ ¬ bt (v_p0_st (9 + x1)) z11 = 0 then 1 else 0 := rfl
                                        have hb01 := bt01 (v_p0_st (9 + x1)) z11
                                        have hbt : z_and (z_shr (v_p0_st (9 + x1)) z11) 1 = bt (v_p0_st (9 + x1)) z11 := rfl
                                        rw [← hz11] at hcs hpl
                                        first | (rw [if_pos (by omega)] at hLL; rw [hLL] at hcs hpl; rw [if_pos rfl] at hpl; (first | rw [hz26] | rw [hz29]); rw [h1n, hcs]; omega) | (rw [if_neg (by omega)] at hLL; rw [hLL] at hcs hpl; rw [if_neg (by decide)] at hpl; (first | rw [hz26] | rw [hz29]); rw [h1n, hcs]; omega)) /- B_X12_findPlaces_12.inv4#2 -/, (by 
                                        have hLL : low1 x1 (v_p0_st (9 + x1)) z11 = if z11 = x1 ∨ ¬ bt (v_p0_st (9 + x1)) z11 = 0 then 1 else 0 := rfl
                                        have hb01 := bt01 (v_p0_st (9 + x1)) z11
                                        have hbt : z_and (z_shr (v_p0_st (9 + x1)) z11) 1 = bt (v_p0_st (9 + x1)) z11 := rfl
                                        rw [← hz11] at hcs hpl
                                        first | (rw [if_pos (by omega)] at hLL; rw [hLL] at hcs hpl; rw [if_pos rfl] at hpl; (intro j hj; by_cases e : (j : Int) = z4; (have e2 : j = z4.toNat := by omega); subst e2; rw [hez, ← hz11, z_up_s]; omega; rw [z_up_n _ _ (fun h => e (rg_inj (n := i_p0_seats) (k := x1) (by omega) (by omega) (by omega) (by omega) (by omega)))]; exact i_B_X12_findPlaces_12_5 j (by omega))) | (rw [if_neg (by omega)] at hLL; rw [hLL] at hcs hpl; rw [if_neg (by decide)] at hpl; (intro j hj; by_cases e : (j : Int) = z4; (have e2 : j = z4.toNat := by omega); subst e2; rw [hez, ← hz11, z_up_s]; omega; rw [z_up_n _ _ (fun h => e (rg_inj (n := i_p0_seats) (k := x1) (by omega) (by omega) (by omega) (by omega) (by omega)))]; exact i_B_X12_findPlaces_12_5 j (by omega)))) /- B_X12_findPlaces_12.inv5#2 -/⟩ (by omega) /- B_X12_findPlaces_12.dec#2 -/
      ·
        refine wp_ck (z_ix_i.mpr ⟨⟨(by omega) /- ix.lo z18#2 -/, (by omega) /- ix.hi z18#2 -/⟩, (by omega) /- ix.big z18#2 -/⟩) ?_
        refine wp_bnd ?_
        refine wp_bd1 (s_X12_flag _ (by omega) /- pre X12_flag.1#4 -/) (fun z22 q_X12_flag_4 => ?_)
        try dsimp only at q_X12_flag_4
        refine wp_bndE (fun z23 hz23 => ?_)
        refine wp_if (fun c5 => ?_) (fun c5 => ?_)
        ·
          refine wp_bd1 (s_X12_flag _ (by omega) /- pre X12_flag.1#5 -/) (fun z27 q_X12_flag_5 => ?_)
          try dsimp only at q_X12_flag_5
          refine wp_bndE (fun z28 hz28 => ?_)
          refine wp_bndE (fun z29 hz29 => ?_)
          exact ih_B_X12_findPlaces_12 _ _ _ _ ⟨(by omega) /- B_X12_findPlaces_12.inv1#3 -/, (by omega) /- B_X12_findPlaces_12.inv2#3 -/, (by 
                                        have hLL : low1 x1 (v_p0_st (9 + x1)) z11 = if z11 = x1 ∨ ¬ bt (v_p0_st (9 + x1)) z11 = 0 then 1 else 0 := rfl
                                        have hb01 := bt01 (v_p0_st (9 + x1)) z11
                                        have hbt : z_and (z_shr (v_p0_st (9 + x1)) z11) 1 = bt (v_p0_st (9 + x1)) z11 := rfl
                                        rw [← hz11] at hcs hpl
                                        first | (rw [if_pos (by omega)] at hLL; rw [hLL] at hcs hpl; rw [if_pos rfl] at hpl; (first | rw [hz26] | rw [hz29]); rw [h1n, hcs]; omega) | (rw [if_neg (by omega)] at hLL; rw [hLL] at hcs hpl; rw [if_neg (by decide)] at hpl; (first | rw [hz26] | rw [hz29]); rw [h1n, hcs]; omega)) /- B_X12_findPlaces_12.inv3#3 -/, (by 
                                        have hLL : low1 x1 (v_p0_st (9 + x1)) z11 = if z11 = x1 ∨ ¬ bt (v_p0_st (9 + x1)) z11 = 0 then 1 else 0 := rfl
                                        have hb01 := bt01 (v_p0_st (9 + x1)) z11
                                        have hbt : z_and (z_shr (v_p0_st (9 + x1)) z11) 1 = bt (v_p0_st (9 + x1)) z11 := rfl
                                        rw [← hz11] at hcs hpl
                                        first | (rw [if_pos (by omega)] at hLL; rw [hLL] at hcs hpl; rw [if_pos rfl] at hpl; (first | rw [hz26] | rw [hz29]); rw [h1n, hcs]; omega) | (rw [if_neg (by omega)] at hLL; rw [hLL] at hcs hpl; rw [if_neg (by decide)] at hpl; (first | rw [hz26] | rw [hz29]); rw [h1n, hcs]; omega)) /- B_X12_findPlaces_12.inv4#3 -/, (by 
                                        have hLL : low1 x1 (v_p0_st (9 + x1)) z11 = if z11 = x1 ∨ ¬ bt (v_p0_st (9 + x1)) z11 = 0 then 1 else 0 := rfl
                                        have hb01 := bt01 (v_p0_st (9 + x1)) z11
                                        have hbt : z_and (z_shr (v_p0_st (9 + x1)) z11) 1 = bt (v_p0_st (9 + x1)) z11 := rfl
                                        rw [← hz11] at hcs hpl
                                        first | (rw [if_pos (by omega)] at hLL; rw [hLL] at hcs hpl; rw [if_pos rfl] at hpl; (intro j hj; by_cases e : (j : Int) = z4; (have e2 : j = z4.toNat := by omega); subst e2; rw [hez, ← hz11, z_up_s]; omega; rw [z_up_n _ _ (fun h => e (rg_inj (n := i_p0_seats) (k := x1) (by omega) (by omega) (by omega) (by omega) (by omega)))]; exact i_B_X12_findPlaces_12_5 j (by omega))) | (rw [if_neg (by omega)] at hLL; rw [hLL] at hcs hpl; rw [if_neg (by decide)] at hpl; (intro j hj; by_cases e : (j : Int) = z4; (have e2 : j = z4.toNat := by omega); subst e2; rw [hez, ← hz11, z_up_s]; omega; rw [z_up_n _ _ (fun h => e (rg_inj (n := i_p0_seats) (k := x1) (by omega) (by omega) (by omega) (by omega) (by omega)))]; exact i_B_X12_findPlaces_12_5 j (by omega)))) /- B_X12_findPlaces_12.inv5#3 -/⟩ (by omega) /- B_X12_findPlaces_12.dec#3 -/
        ·
          refine wp_bd1 (s_X12_flag _ (by omega) /- pre X12_flag.1#6 -/) (fun z24 q_X12_flag_6 => ?_)
          try dsimp only at q_X12_flag_6
          refine wp_bndE (fun z25 hz25 => ?_)
          refine wp_bndE (fun z26 hz26 => ?_)
          exact ih_B_X12_findPlaces_12 _ _ _ _ ⟨(by omega) /- B_X12_findPlaces_12.inv1#4 -/, (by omega) /- B_X12_findPlaces_12.inv2#4 -/, (by 
                                        have hLL : low1 x1 (v_p0_st (9 + x1)) z11 = if z11 = x1 ∨ ¬ bt (v_p0_st (9 + x1)) z11 = 0 then 1 else 0 := rfl
                                        have hb01 := bt01 (v_p0_st (9 + x1)) z11
                                        have hbt : z_and (z_shr (v_p0_st (9 + x1)) z11) 1 = bt (v_p0_st (9 + x1)) z11 := rfl
                                        rw [← hz11] at hcs hpl
                                        first | (rw [if_pos (by omega)] at hLL; rw [hLL] at hcs hpl; rw [if_pos rfl] at hpl; (first | rw [hz26] | rw [hz29]); rw [h1n, hcs]; omega) | (rw [if_neg (by omega)] at hLL; rw [hLL] at hcs hpl; rw [if_neg (by decide)] at hpl; (first | rw [hz26] | rw [hz29]); rw [h1n, hcs]; omega)) /- B_X12_findPlaces_12.inv3#4 -/, (by 
                                        have hLL : low1 x1 (v_p0_st (9 + x1)) z11 = if z11 = x1 ∨ ¬ bt (v_p0_st (9 + x1)) z11 = 0 then 1 else 0 := rfl
                                        have hb01 := bt01 (v_p0_st (9 + x1)) z11
                                        have hbt : z_and (z_shr (v_p0_st (9 + x1)) z11) 1 = bt (v_p0_st (9 + x1)) z11 := rfl
                                        rw [← hz11] at hcs hpl
                                        first | (rw [if_pos (by omega)] at hLL; rw [hLL] at hcs hpl; rw [if_pos rfl] at hpl; (first | rw [hz26] | rw [hz29]); rw [h1n, hcs]; omega) | (rw [if_neg (by omega)] at hLL; rw [hLL] at hcs hpl; rw [if_neg (by decide)] at hpl; (first | rw [hz26] | rw [hz29]); rw [h1n, hcs]; omega)) /- B_X12_findPlaces_12.inv4#4 -/, (by 
                                        have hLL : low1 x1 (v_p0_st (9 + x1)) z11 = if z11 = x1 ∨ ¬ bt (v_p0_st (9 + x1)) z11 = 0 then 1 else 0 := rfl
                                        have hb01 := bt01 (v_p0_st (9 + x1)) z11
                                        have hbt : z_and (z_shr (v_p0_st (9 + x1)) z11) 1 = bt (v_p0_st (9 + x1)) z11 := rfl
                                        rw [← hz11] at hcs hpl
                                        first | (rw [if_pos (by omega)] at hLL; rw [hLL] at hcs hpl; rw [if_pos rfl] at hpl; (intro j hj; by_cases e : (j : Int) = z4; (have e2 : j = z4.toNat := by omega); subst e2; rw [hez, ← hz11, z_up_s]; omega; rw [z_up_n _ _ (fun h => e (rg_inj (n := i_p0_seats) (k := x1) (by omega) (by omega) (by omega) (by omega) (by omega)))]; exact i_B_X12_findPlaces_12_5 j (by omega))) | (rw [if_neg (by omega)] at hLL; rw [hLL] at hcs hpl; rw [if_neg (by decide)] at hpl; (intro j hj; by_cases e : (j : Int) = z4; (have e2 : j = z4.toNat := by omega); subst e2; rw [hez, ← hz11, z_up_s]; omega; rw [z_up_n _ _ (fun h => e (rg_inj (n := i_p0_seats) (k := x1) (by omega) (by omega) (by omega) (by omega) (by omega)))]; exact i_B_X12_findPlaces_12_5 j (by omega)))) /- B_X12_findPlaces_12.inv5#4 -/⟩ (by omega) /- B_X12_findPlaces_12.dec#4 -/
    ·
      refine wp_ck (z_ix_i.mpr ⟨⟨(by omega) /- ix.lo ((9 : Int) + x1)#1 -/, (by omega) /- ix.hi ((9 : Int) + x1)#1 -/⟩, (by omega) /- ix.big ((9 : Int) + x1)#1 -/⟩) ?_
      refine wp_ck (z_r32_t _) ?_
      refine wp_if (fun c6 => ?_) (fun c6 => ?_)
      ·
        refine wp_bnd ?_
        refine wp_ck (z_r32_i.mpr ⟨(by omega) /- z_r32.lo z16#2 -/, (by omega) /- z_r32.hi z16#2 -/⟩) ?_
        refine wp_jn ?_
        refine wp_if (fun c7 => ?_) (fun c7 => ?_)
        ·
          refine wp_ck (z_ix_i.mpr ⟨⟨(by omega) /- ix.lo z18#3 -/, (by omega) /- ix.hi z18#3 -/⟩, (by omega) /- ix.big z18#3 -/⟩) ?_
          refine wp_bnd ?_
          refine wp_bd1 (s_X12_flag _ (by omega) /- pre X12_flag.1#7 -/) (fun z22 q_X12_flag_7 => ?_)
          try dsimp only at q_X12_flag_7
          refine wp_bndE (fun z23 hz23 => ?_)
          refine wp_if (fun c8 => ?_) (fun c8 => ?_)
          ·
            refine wp_bd1 (s_X12_flag _ (by omega) /- pre X12_flag.1#8 -/) (fun z27 q_X12_flag_8 => ?_)
            try dsimp only at q_X12_flag_8
            refine wp_bndE (fun z28 hz28 => ?_)
            refine wp_bndE (fun z29 hz29 => ?_)
            exact ih_B_X12_findPlaces_12 _ _ _ _ ⟨(by omega) /- B_X12_findPlaces_12.inv1#5 -/, (by omega) /- B_X12_findPlaces_12.inv2#5 -/, (by 
                                        have hLL : low1 x1 (v_p0_st (9 + x1)) z11 = if z11 = x1 ∨ ¬ bt (v_p0_st (9 + x1)) z11 = 0 then 1 else 0 := rfl
                                        have hb01 := bt01 (v_p0_st (9 + x1)) z11
                                        have hbt : z_and (z_shr (v_p0_st (9 + x1)) z11) 1 = bt (v_p0_st (9 + x1)) z11 := rfl
                                        rw [← hz11] at hcs hpl
                                        first | (rw [if_pos (by omega)] at hLL; rw [hLL] at hcs hpl; rw [if_pos rfl] at hpl; (first | rw [hz26] | rw [hz29]); rw [h1n, hcs]; omega) | (rw [if_neg (by omega)] at hLL; rw [hLL] at hcs hpl; rw [if_neg (by decide)] at hpl; (first | rw [hz26] | rw [hz29]); rw [h1n, hcs]; omega)) /- B_X12_findPlaces_12.inv3#5 -/, (by 
                                        have hLL : low1 x1 (v_p0_st (9 + x1)) z11 = if z11 = x1 ∨ ¬ bt (v_p0_st (9 + x1)) z11 = 0 then 1 else 0 := rfl
                                        have hb01 := bt01 (v_p0_st (9 + x1)) z11
                                        have hbt : z_and (z_shr (v_p0_st (9 + x1)) z11) 1 = bt (v_p0_st (9 + x1)) z11 := rfl
                                        rw [← hz11] at hcs hpl
                                        first | (rw [if_pos (by omega)] at hLL; rw [hLL] at hcs hpl; rw [if_pos rfl] at hpl; (first | rw [hz26] | rw [hz29]); rw [h1n, hcs]; omega) | (rw [if_neg (by omega)] at hLL; rw [hLL] at hcs hpl; rw [if_neg (by decide)] at hpl; (first | rw [hz26] | rw [hz29]); rw [h1n, hcs]; omega)) /- B_X12_findPlaces_12.inv4#5 -/, (by 
                                        have hLL : low1 x1 (v_p0_st (9 + x1)) z11 = if z11 = x1 ∨ ¬ bt (v_p0_st (9 + x1)) z11 = 0 then 1 else 0 := rfl
                                        have hb01 := bt01 (v_p0_st (9 + x1)) z11
                                        have hbt : z_and (z_shr (v_p0_st (9 + x1)) z11) 1 = bt (v_p0_st (9 + x1)) z11 := rfl
                                        rw [← hz11] at hcs hpl
                                        first | (rw [if_pos (by omega)] at hLL; rw [hLL] at hcs hpl; rw [if_pos rfl] at hpl; (intro j hj; by_cases e : (j : Int) = z4; (have e2 : j = z4.toNat := by omega); subst e2; rw [hez, ← hz11, z_up_s]; omega; rw [z_up_n _ _ (fun h => e (rg_inj (n := i_p0_seats) (k := x1) (by omega) (by omega) (by omega) (by omega) (by omega)))]; exact i_B_X12_findPlaces_12_5 j (by omega))) | (rw [if_neg (by omega)] at hLL; rw [hLL] at hcs hpl; rw [if_neg (by decide)] at hpl; (intro j hj; by_cases e : (j : Int) = z4; (have e2 : j = z4.toNat := by omega); subst e2; rw [hez, ← hz11, z_up_s]; omega; rw [z_up_n _ _ (fun h => e (rg_inj (n := i_p0_seats) (k := x1) (by omega) (by omega) (by omega) (by omega) (by omega)))]; exact i_B_X12_findPlaces_12_5 j (by omega)))) /- B_X12_findPlaces_12.inv5#5 -/⟩ (by omega) /- B_X12_findPlaces_12.dec#5 -/
          ·
            refine wp_bd1 (s_X12_flag _ (by omega) /- pre X12_flag.1#9 -/) (fun z24 q_X12_flag_9 => ?_)
            try dsimp only at q_X12_flag_9
            refine wp_bndE (fun z25 hz25 => ?_)
            refine wp_bndE (fun z26 hz26 => ?_)
            exact ih_B_X12_findPlaces_12 _ _ _ _ ⟨(by omega) /- B_X12_findPlaces_12.inv1#6 -/, (by omega) /- B_X12_findPlaces_12.inv2#6 -/, (by 
                                        have hLL : low1 x1 (v_p0_st (9 + x1)) z11 = if z11 = x1 ∨ ¬ bt (v_p0_st (9 + x1)) z11 = 0 then 1 else 0 := rfl
                                        have hb01 := bt01 (v_p0_st (9 + x1)) z11
                                        have hbt : z_and (z_shr (v_p0_st (9 + x1)) z11) 1 = bt (v_p0_st (9 + x1)) z11 := rfl
                                        rw [← hz11] at hcs hpl
                                        first | (rw [if_pos (by omega)] at hLL; rw [hLL] at hcs hpl; rw [if_pos rfl] at hpl; (first | rw [hz26] | rw [hz29]); rw [h1n, hcs]; omega) | (rw [if_neg (by omega)] at hLL; rw [hLL] at hcs hpl; rw [if_neg (by decide)] at hpl; (first | rw [hz26] | rw [hz29]); rw [h1n, hcs]; omega)) /- B_X12_findPlaces_12.inv3#6 -/, (by 
                                        have hLL : low1 x1 (v_p0_st (9 + x1)) z11 = if z11 = x1 ∨ ¬ bt (v_p0_st (9 + x1)) z11 = 0 then 1 else 0 := rfl
                                        have hb01 := bt01 (v_p0_st (9 + x1)) z11
                                        have hbt : z_and (z_shr (v_p0_st (9 + x1)) z11) 1 = bt (v_p0_st (9 + x1)) z11 := rfl
                                        rw [← hz11] at hcs hpl
                                        first | (rw [if_pos (by omega)] at hLL; rw [hLL] at hcs hpl; rw [if_pos rfl] at hpl; (first | rw [hz26] | rw [hz29]); rw [h1n, hcs]; omega) | (rw [if_neg (by omega)] at hLL; rw [hLL] at hcs hpl; rw [if_neg (by decide)] at hpl; (first | rw [hz26] | rw [hz29]); rw [h1n, hcs]; omega)) /- B_X12_findPlaces_12.inv4#6 -/, (by 
                                        have hLL : low1 x1 (v_p0_st (9 + x1)) z11 = if z11 = x1 ∨ ¬ bt (v_p0_st (9 + x1)) z11 = 0 then 1 else 0 := rfl
                                        have hb01 := bt01 (v_p0_st (9 + x1)) z11
                                        have hbt : z_and (z_shr (v_p0_st (9 + x1)) z11) 1 = bt (v_p0_st (9 + x1)) z11 := rfl
                                        rw [← hz11] at hcs hpl
                                        first | (rw [if_pos (by omega)] at hLL; rw [hLL] at hcs hpl; rw [if_pos rfl] at hpl; (intro j hj; by_cases e : (j : Int) = z4; (have e2 : j = z4.toNat := by omega); subst e2; rw [hez, ← hz11, z_up_s]; omega; rw [z_up_n _ _ (fun h => e (rg_inj (n := i_p0_seats) (k := x1) (by omega) (by omega) (by omega) (by omega) (by omega)))]; exact i_B_X12_findPlaces_12_5 j (by omega))) | (rw [if_neg (by omega)] at hLL; rw [hLL] at hcs hpl; rw [if_neg (by decide)] at hpl; (intro j hj; by_cases e : (j : Int) = z4; (have e2 : j = z4.toNat := by omega); subst e2; rw [hez, ← hz11, z_up_s]; omega; rw [z_up_n _ _ (fun h => e (rg_inj (n := i_p0_seats) (k := x1) (by omega) (by omega) (by omega) (by omega) (by omega)))]; exact i_B_X12_findPlaces_12_5 j (by omega)))) /- B_X12_findPlaces_12.inv5#6 -/⟩ (by omega) /- B_X12_findPlaces_12.dec#6 -/
        ·
          refine wp_ck (z_ix_i.mpr ⟨⟨(by omega) /- ix.lo z18#4 -/, (by omega) /- ix.hi z18#4 -/⟩, (by omega) /- ix.big z18#4 -/⟩) ?_
          refine wp_bnd ?_
          refine wp_bd1 (s_X12_flag _ (by omega) /- pre X12_flag.1#10 -/) (fun z22 q_X12_flag_10 => ?_)
          try dsimp only at q_X12_flag_10
          refine wp_bndE (fun z23 hz23 => ?_)
          refine wp_if (fun c9 => ?_) (fun c9 => ?_)
          ·
            refine wp_bd1 (s_X12_flag _ (by omega) /- pre X12_flag.1#11 -/) (fun z27 q_X12_flag_11 => ?_)
            try dsimp only at q_X12_flag_11
            refine wp_bndE (fun z28 hz28 => ?_)
            refine wp_bndE (fun z29 hz29 => ?_)
            exact ih_B_X12_findPlaces_12 _ _ _ _ ⟨(by omega) /- B_X12_findPlaces_12.inv1#7 -/, (by omega) /- B_X12_findPlaces_12.inv2#7 -/, (by 
                                        have hLL : low1 x1 (v_p0_st (9 + x1)) z11 = if z11 = x1 ∨ ¬ bt (v_p0_st (9 + x1)) z11 = 0 then 1 else 0 := rfl
                                        have hb01 := bt01 (v_p0_st (9 + x1)) z11
                                        have hbt : z_and (z_shr (v_p0_st (9 + x1)) z11) 1 = bt (v_p0_st (9 + x1)) z11 := rfl
                                        rw [← hz11] at hcs hpl
                                        first | (rw [if_pos (by omega)] at hLL; rw [hLL] at hcs hpl; rw [if_pos rfl] at hpl; (first | rw [hz26] | rw [hz29]); rw [h1n, hcs]; omega) | (rw [if_neg (by omega)] at hLL; rw [hLL] at hcs hpl; rw [if_neg (by decide)] at hpl; (first | rw [hz26] | rw [hz29]); rw [h1n, hcs]; omega)) /- B_X12_findPlaces_12.inv3#7 -/, (by 
                                        have hLL : low1 x1 (v_p0_st (9 + x1)) z11 = if z11 = x1 ∨ ¬ bt (v_p0_st (9 + x1)) z11 = 0 then 1 else 0 := rfl
                                        have hb01 := bt01 (v_p0_st (9 + x1)) z11
                                        have hbt : z_and (z_shr (v_p0_st (9 + x1)) z11) 1 = bt (v_p0_st (9 + x1)) z11 := rfl
                                        rw [← hz11] at hcs hpl
                                        first | (rw [if_pos (by omega)] at hLL; rw [hLL] at hcs hpl; rw [if_pos rfl] at hpl; (first | rw [hz26] | rw [hz29]); rw [h1n, hcs]; omega) | (rw [if_neg (by omega)] at hLL; rw [hLL] at hcs hpl; rw [if_neg (by decide)] at hpl; (first | rw [hz26] | rw [hz29]); rw [h1n, hcs]; omega)) /- B_X12_findPlaces_12.inv4#7 -/, (by 
                                        have hLL : low1 x1 (v_p0_st (9 + x1)) z11 = if z11 = x1 ∨ ¬ bt (v_p0_st (9 + x1)) z11 = 0 then 1 else 0 := rfl
                                        have hb01 := bt01 (v_p0_st (9 + x1)) z11
                                        have hbt : z_and (z_shr (v_p0_st (9 + x1)) z11) 1 = bt (v_p0_st (9 + x1)) z11 := rfl
                                        rw [← hz11] at hcs hpl
                                        first | (rw [if_pos (by omega)] at hLL; rw [hLL] at hcs hpl; rw [if_pos rfl] at hpl; (intro j hj; by_cases e : (j : Int) = z4; (have e2 : j = z4.toNat := by omega); subst e2; rw [hez, ← hz11, z_up_s]; omega; rw [z_up_n _ _ (fun h => e (rg_inj (n := i_p0_seats) (k := x1) (by omega) (by omega) (by omega) (by omega) (by omega)))]; exact i_B_X12_findPlaces_12_5 j (by omega))) | (rw [if_neg (by omega)] at hLL; rw [hLL] at hcs hpl; rw [if_neg (by decide)] at hpl; (intro j hj; by_cases e : (j : Int) = z4; (have e2 : j = z4.toNat := by omega); subst e2; rw [hez, ← hz11, z_up_s]; omega; rw [z_up_n _ _ (fun h => e (rg_inj (n := i_p0_seats) (k := x1) (by omega) (by omega) (by omega) (by omega) (by omega)))]; exact i_B_X12_findPlaces_12_5 j (by omega)))) /- B_X12_findPlaces_12.inv5#7 -/⟩ (by omega) /- B_X12_findPlaces_12.dec#7 -/
          ·
            refine wp_bd1 (s_X12_flag _ (by omega) /- pre X12_flag.1#12 -/) (fun z24 q_X12_flag_12 => ?_)
            try dsimp only at q_X12_flag_12
            refine wp_bndE (fun z25 hz25 => ?_)
            refine wp_bndE (fun z26 hz26 => ?_)
            exact ih_B_X12_findPlaces_12 _ _ _ _ ⟨(by omega) /- B_X12_findPlaces_12.inv1#8 -/, (by omega) /- B_X12_findPlaces_12.inv2#8 -/, (by 
                                        have hLL : low1 x1 (v_p0_st (9 + x1)) z11 = if z11 = x1 ∨ ¬ bt (v_p0_st (9 + x1)) z11 = 0 then 1 else 0 := rfl
                                        have hb01 := bt01 (v_p0_st (9 + x1)) z11
                                        have hbt : z_and (z_shr (v_p0_st (9 + x1)) z11) 1 = bt (v_p0_st (9 + x1)) z11 := rfl
                                        rw [← hz11] at hcs hpl
                                        first | (rw [if_pos (by omega)] at hLL; rw [hLL] at hcs hpl; rw [if_pos rfl] at hpl; (first | rw [hz26] | rw [hz29]); rw [h1n, hcs]; omega) | (rw [if_neg (by omega)] at hLL; rw [hLL] at hcs hpl; rw [if_neg (by decide)] at hpl; (first | rw [hz26] | rw [hz29]); rw [h1n, hcs]; omega)) /- B_X12_findPlaces_12.inv3#8 -/, (by 
                                        have hLL : low1 x1 (v_p0_st (9 + x1)) z11 = if z11 = x1 ∨ ¬ bt (v_p0_st (9 + x1)) z11 = 0 then 1 else 0 := rfl
                                        have hb01 := bt01 (v_p0_st (9 + x1)) z11
                                        have hbt : z_and (z_shr (v_p0_st (9 + x1)) z11) 1 = bt (v_p0_st (9 + x1)) z11 := rfl
                                        rw [← hz11] at hcs hpl
                                        first | (rw [if_pos (by omega)] at hLL; rw [hLL] at hcs hpl; rw [if_pos rfl] at hpl; (first | rw [hz26] | rw [hz29]); rw [h1n, hcs]; omega) | (rw [if_neg (by omega)] at hLL; rw [hLL] at hcs hpl; rw [if_neg (by decide)] at hpl; (first | rw [hz26] | rw [hz29]); rw [h1n, hcs]; omega)) /- B_X12_findPlaces_12.inv4#8 -/, (by 
                                        have hLL : low1 x1 (v_p0_st (9 + x1)) z11 = if z11 = x1 ∨ ¬ bt (v_p0_st (9 + x1)) z11 = 0 then 1 else 0 := rfl
                                        have hb01 := bt01 (v_p0_st (9 + x1)) z11
                                        have hbt : z_and (z_shr (v_p0_st (9 + x1)) z11) 1 = bt (v_p0_st (9 + x1)) z11 := rfl
                                        rw [← hz11] at hcs hpl
                                        first | (rw [if_pos (by omega)] at hLL; rw [hLL] at hcs hpl; rw [if_pos rfl] at hpl; (intro j hj; by_cases e : (j : Int) = z4; (have e2 : j = z4.toNat := by omega); subst e2; rw [hez, ← hz11, z_up_s]; omega; rw [z_up_n _ _ (fun h => e (rg_inj (n := i_p0_seats) (k := x1) (by omega) (by omega) (by omega) (by omega) (by omega)))]; exact i_B_X12_findPlaces_12_5 j (by omega))) | (rw [if_neg (by omega)] at hLL; rw [hLL] at hcs hpl; rw [if_neg (by decide)] at hpl; (intro j hj; by_cases e : (j : Int) = z4; (have e2 : j = z4.toNat := by omega); subst e2; rw [hez, ← hz11, z_up_s]; omega; rw [z_up_n _ _ (fun h => e (rg_inj (n := i_p0_seats) (k := x1) (by omega) (by omega) (by omega) (by omega) (by omega)))]; exact i_B_X12_findPlaces_12_5 j (by omega)))) /- B_X12_findPlaces_12.inv5#8 -/⟩ (by omega) /- B_X12_findPlaces_12.dec#8 -/
      ·
        refine wp_bnd ?_
        refine wp_ck (z_r32_i.mpr ⟨(by omega) /- z_r32.lo z16#3 -/, (by omega) /- z_r32.hi z16#3 -/⟩) ?_
        refine wp_jn ?_
        refine wp_if (fun c10 => ?_) (fun c10 => ?_)
        ·
          refine wp_ck (z_ix_i.mpr ⟨⟨(by omega) /- ix.lo z18#5 -/, (by omega) /- ix.hi z18#5 -/⟩, (by omega) /- ix.big z18#5 -/⟩) ?_
          refine wp_bnd ?_
          refine wp_bd1 (s_X12_flag _ (by omega) /- pre X12_flag.1#13 -/) (fun z22 q_X12_flag_13 => ?_)
          try dsimp only at q_X12_flag_13
          refine wp_bndE (fun z23 hz23 => ?_)
          refine wp_if (fun c11 => ?_) (fun c11 => ?_)
          ·
            refine wp_bd1 (s_X12_flag _ (by omega) /- pre X12_flag.1#14 -/) (fun z27 q_X12_flag_14 => ?_)
            try dsimp only at q_X12_flag_14
            refine wp_bndE (fun z28 hz28 => ?_)
            refine wp_bndE (fun z29 hz29 => ?_)
            exact ih_B_X12_findPlaces_12 _ _ _ _ ⟨(by omega) /- B_X12_findPlaces_12.inv1#9 -/, (by omega) /- B_X12_findPlaces_12.inv2#9 -/, (by 
                                        have hLL : low1 x1 (v_p0_st (9 + x1)) z11 = if z11 = x1 ∨ ¬ bt (v_p0_st (9 + x1)) z11 = 0 then 1 else 0 := rfl
                                        have hb01 := bt01 (v_p0_st (9 + x1)) z11
                                        have hbt : z_and (z_shr (v_p0_st (9 + x1)) z11) 1 = bt (v_p0_st (9 + x1)) z11 := rfl
                                        rw [← hz11] at hcs hpl
                                        first | (rw [if_pos (by omega)] at hLL; rw [hLL] at hcs hpl; rw [if_pos rfl] at hpl; (first | rw [hz26] | rw [hz29]); rw [h1n, hcs]; omega) | (rw [if_neg (by omega)] at hLL; rw [hLL] at hcs hpl; rw [if_neg (by decide)] at hpl; (first | rw [hz26] | rw [hz29]); rw [h1n, hcs]; omega)) /- B_X12_findPlaces_12.inv3#9 -/, (by 
                                        have hLL : low1 x1 (v_p0_st (9 + x1)) z11 = if z11 = x1 ∨ ¬ bt (v_p0_st (9 + x1)) z11 = 0 then 1 else 0 := rfl
                                        have hb01 := bt01 (v_p0_st (9 + x1)) z11
                                        have hbt : z_and (z_shr (v_p0_st (9 + x1)) z11) 1 = bt (v_p0_st (9 + x1)) z11 := rfl
                                        rw [← hz11] at hcs hpl
                                        first | (rw [if_pos (by omega)] at hLL; rw [hLL] at hcs hpl; rw [if_pos rfl] at hpl; (first | rw [hz26] | rw [hz29]); rw [h1n, hcs]; omega) | (rw [if_neg (by omega)] at hLL; rw [hLL] at hcs hpl; rw [if_neg (by decide)] at hpl; (first | rw [hz26] | rw [hz29]); rw [h1n, hcs]; omega)) /- B_X12_findPlaces_12.inv4#9 -/, (by 
                                        have hLL : low1 x1 (v_p0_st (9 + x1)) z11 = if z11 = x1 ∨ ¬ bt (v_p0_st (9 + x1)) z11 = 0 then 1 else 0 := rfl
                                        have hb01 := bt01 (v_p0_st (9 + x1)) z11
                                        have hbt : z_and (z_shr (v_p0_st (9 + x1)) z11) 1 = bt (v_p0_st (9 + x1)) z11 := rfl
                                        rw [← hz11] at hcs hpl
                                        first | (rw [if_pos (by omega)] at hLL; rw [hLL] at hcs hpl; rw [if_pos rfl] at hpl; (intro j hj; by_cases e : (j : Int) = z4; (have e2 : j = z4.toNat := by omega); subst e2; rw [hez, ← hz11, z_up_s]; omega; rw [z_up_n _ _ (fun h => e (rg_inj (n := i_p0_seats) (k := x1) (by omega) (by omega) (by omega) (by omega) (by omega)))]; exact i_B_X12_findPlaces_12_5 j (by omega))) | (rw [if_neg (by omega)] at hLL; rw [hLL] at hcs hpl; rw [if_neg (by decide)] at hpl; (intro j hj; by_cases e : (j : Int) = z4; (have e2 : j = z4.toNat := by omega); subst e2; rw [hez, ← hz11, z_up_s]; omega; rw [z_up_n _ _ (fun h => e (rg_inj (n := i_p0_seats) (k := x1) (by omega) (by omega) (by omega) (by omega) (by omega)))]; exact i_B_X12_findPlaces_12_5 j (by omega)))) /- B_X12_findPlaces_12.inv5#9 -/⟩ (by omega) /- B_X12_findPlaces_12.dec#9 -/
          ·
            refine wp_bd1 (s_X12_flag _ (by omega) /- pre X12_flag.1#15 -/) (fun z24 q_X12_flag_15 => ?_)
            try dsimp only at q_X12_flag_15
            refine wp_bndE (fun z25 hz25 => ?_)
            refine wp_bndE (fun z26 hz26 => ?_)
            exact ih_B_X12_findPlaces_12 _ _ _ _ ⟨(by omega) /- B_X12_findPlaces_12.inv1#10 -/, (by omega) /- B_X12_findPlaces_12.inv2#10 -/, (by 
                                        have hLL : low1 x1 (v_p0_st (9 + x1)) z11 = if z11 = x1 ∨ ¬ bt (v_p0_st (9 + x1)) z11 = 0 then 1 else 0 := rfl
                                        have hb01 := bt01 (v_p0_st (9 + x1)) z11
                                        have hbt : z_and (z_shr (v_p0_st (9 + x1)) z11) 1 = bt (v_p0_st (9 + x1)) z11 := rfl
                                        rw [← hz11] at hcs hpl
                                        first | (rw [if_pos (by omega)] at hLL; rw [hLL] at hcs hpl; rw [if_pos rfl] at hpl; (first | rw [hz26] | rw [hz29]); rw [h1n, hcs]; omega) | (rw [if_neg (by omega)] at hLL; rw [hLL] at hcs hpl; rw [if_neg (by decide)] at hpl; (first | rw [hz26] | rw [hz29]); rw [h1n, hcs]; omega)) /- B_X12_findPlaces_12.inv3#10 -/, (by 
                                        have hLL : low1 x1 (v_p0_st (9 + x1)) z11 = if z11 = x1 ∨ ¬ bt (v_p0_st (9 + x1)) z11 = 0 then 1 else 0 := rfl
                                        have hb01 := bt01 (v_p0_st (9 + x1)) z11
                                        have hbt : z_and (z_shr (v_p0_st (9 + x1)) z11) 1 = bt (v_p0_st (9 + x1)) z11 := rfl
                                        rw [← hz11] at hcs hpl
                                        first | (rw [if_pos (by omega)] at hLL; rw [hLL] at hcs hpl; rw [if_pos rfl] at hpl; (first | rw [hz26] | rw [hz29]); rw [h1n, hcs]; omega) | (rw [if_neg (by omega)] at hLL; rw [hLL] at hcs hpl; rw [if_neg (by decide)] at hpl; (first | rw [hz26] | rw [hz29]); rw [h1n, hcs]; omega)) /- B_X12_findPlaces_12.inv4#10 -/, (by 
                                        have hLL : low1 x1 (v_p0_st (9 + x1)) z11 = if z11 = x1 ∨ ¬ bt (v_p0_st (9 + x1)) z11 = 0 then 1 else 0 := rfl
                                        have hb01 := bt01 (v_p0_st (9 + x1)) z11
                                        have hbt : z_and (z_shr (v_p0_st (9 + x1)) z11) 1 = bt (v_p0_st (9 + x1)) z11 := rfl
                                        rw [← hz11] at hcs hpl
                                        first | (rw [if_pos (by omega)] at hLL; rw [hLL] at hcs hpl; rw [if_pos rfl] at hpl; (intro j hj; by_cases e : (j : Int) = z4; (have e2 : j = z4.toNat := by omega); subst e2; rw [hez, ← hz11, z_up_s]; omega; rw [z_up_n _ _ (fun h => e (rg_inj (n := i_p0_seats) (k := x1) (by omega) (by omega) (by omega) (by omega) (by omega)))]; exact i_B_X12_findPlaces_12_5 j (by omega))) | (rw [if_neg (by omega)] at hLL; rw [hLL] at hcs hpl; rw [if_neg (by decide)] at hpl; (intro j hj; by_cases e : (j : Int) = z4; (have e2 : j = z4.toNat := by omega); subst e2; rw [hez, ← hz11, z_up_s]; omega; rw [z_up_n _ _ (fun h => e (rg_inj (n := i_p0_seats) (k := x1) (by omega) (by omega) (by omega) (by omega) (by omega)))]; exact i_B_X12_findPlaces_12_5 j (by omega)))) /- B_X12_findPlaces_12.inv5#10 -/⟩ (by omega) /- B_X12_findPlaces_12.dec#10 -/
        ·
          refine wp_ck (z_ix_i.mpr ⟨⟨(by omega) /- ix.lo z18#6 -/, (by omega) /- ix.hi z18#6 -/⟩, (by omega) /- ix.big z18#6 -/⟩) ?_
          refine wp_bnd ?_
          refine wp_bd1 (s_X12_flag _ (by omega) /- pre X12_flag.1#16 -/) (fun z22 q_X12_flag_16 => ?_)
          try dsimp only at q_X12_flag_16
          refine wp_bndE (fun z23 hz23 => ?_)
          refine wp_if (fun c12 => ?_) (fun c12 => ?_)
          ·
            refine wp_bd1 (s_X12_flag _ (by omega) /- pre X12_flag.1#17 -/) (fun z27 q_X12_flag_17 => ?_)
            try dsimp only at q_X12_flag_17
            refine wp_bndE (fun z28 hz28 => ?_)
            refine wp_bndE (fun z29 hz29 => ?_)
            exact ih_B_X12_findPlaces_12 _ _ _ _ ⟨(by omega) /- B_X12_findPlaces_12.inv1#11 -/, (by omega) /- B_X12_findPlaces_12.inv2#11 -/, (by 
                                        have hLL : low1 x1 (v_p0_st (9 + x1)) z11 = if z11 = x1 ∨ ¬ bt (v_p0_st (9 + x1)) z11 = 0 then 1 else 0 := rfl
                                        have hb01 := bt01 (v_p0_st (9 + x1)) z11
                                        have hbt : z_and (z_shr (v_p0_st (9 + x1)) z11) 1 = bt (v_p0_st (9 + x1)) z11 := rfl
                                        rw [← hz11] at hcs hpl
                                        first | (rw [if_pos (by omega)] at hLL; rw [hLL] at hcs hpl; rw [if_pos rfl] at hpl; (first | rw [hz26] | rw [hz29]); rw [h1n, hcs]; omega) | (rw [if_neg (by omega)] at hLL; rw [hLL] at hcs hpl; rw [if_neg (by decide)] at hpl; (first | rw [hz26] | rw [hz29]); rw [h1n, hcs]; omega)) /- B_X12_findPlaces_12.inv3#11 -/, (by 
                                        have hLL : low1 x1 (v_p0_st (9 + x1)) z11 = if z11 = x1 ∨ ¬ bt (v_p0_st (9 + x1)) z11 = 0 then 1 else 0 := rfl
                                        have hb01 := bt01 (v_p0_st (9 + x1)) z11
                                        have hbt : z_and (z_shr (v_p0_st (9 + x1)) z11) 1 = bt (v_p0_st (9 + x1)) z11 := rfl
                                        rw [← hz11] at hcs hpl
                                        first | (rw [if_pos (by omega)] at hLL; rw [hLL] at hcs hpl; rw [if_pos rfl] at hpl; (first | rw [hz26] | rw [hz29]); rw [h1n, hcs]; omega) | (rw [if_neg (by omega)] at hLL; rw [hLL] at hcs hpl; rw [if_neg (by decide)] at hpl; (first | rw [hz26] | rw [hz29]); rw [h1n, hcs]; omega)) /- B_X12_findPlaces_12.inv4#11 -/, (by 
                                        have hLL : low1 x1 (v_p0_st (9 + x1)) z11 = if z11 = x1 ∨ ¬ bt (v_p0_st (9 + x1)) z11 = 0 then 1 else 0 := rfl
                                        have hb01 := bt01 (v_p0_st (9 + x1)) z11
                                        have hbt : z_and (z_shr (v_p0_st (9 + x1)) z11) 1 = bt (v_p0_st (9 + x1)) z11 := rfl
                                        rw [← hz11] at hcs hpl
                                        first | (rw [if_pos (by omega)] at hLL; rw [hLL] at hcs hpl; rw [if_pos rfl] at hpl; (intro j hj; by_cases e : (j : Int) = z4; (have e2 : j = z4.toNat := by omega); subst e2; rw [hez, ← hz11, z_up_s]; omega; rw [z_up_n _ _ (fun h => e (rg_inj (n := i_p0_seats) (k := x1) (by omega) (by omega) (by omega) (by omega) (by omega)))]; exact i_B_X12_findPlaces_12_5 j (by omega))) | (rw [if_neg (by omega)] at hLL; rw [hLL] at hcs hpl; rw [if_neg (by decide)] at hpl; (intro j hj; by_cases e : (j : Int) = z4; (have e2 : j = z4.toNat := by omega); subst e2; rw [hez, ← hz11, z_up_s]; omega; rw [z_up_n _ _ (fun h => e (rg_inj (n := i_p0_seats) (k := x1) (by omega) (by omega) (by omega) (by omega) (by omega)))]; exact i_B_X12_findPlaces_12_5 j (by omega)))) /- B_X12_findPlaces_12.inv5#11 -/⟩ (by omega) /- B_X12_findPlaces_12.dec#11 -/
          ·
            refine wp_bd1 (s_X12_flag _ (by omega) /- pre X12_flag.1#18 -/) (fun z24 q_X12_flag_18 => ?_)
            try dsimp only at q_X12_flag_18
            refine wp_bndE (fun z25 hz25 => ?_)
            refine wp_bndE (fun z26 hz26 => ?_)
            exact ih_B_X12_findPlaces_12 _ _ _ _ ⟨(by omega) /- B_X12_findPlaces_12.inv1#12 -/, (by omega) /- B_X12_findPlaces_12.inv2#12 -/, (by 
                                        have hLL : low1 x1 (v_p0_st (9 + x1)) z11 = if z11 = x1 ∨ ¬ bt (v_p0_st (9 + x1)) z11 = 0 then 1 else 0 := rfl
                                        have hb01 := bt01 (v_p0_st (9 + x1)) z11
                                        have hbt : z_and (z_shr (v_p0_st (9 + x1)) z11) 1 = bt (v_p0_st (9 + x1)) z11 := rfl
                                        rw [← hz11] at hcs hpl
                                        first | (rw [if_pos (by omega)] at hLL; rw [hLL] at hcs hpl; rw [if_pos rfl] at hpl; (first | rw [hz26] | rw [hz29]); rw [h1n, hcs]; omega) | (rw [if_neg (by omega)] at hLL; rw [hLL] at hcs hpl; rw [if_neg (by decide)] at hpl; (first | rw [hz26] | rw [hz29]); rw [h1n, hcs]; omega)) /- B_X12_findPlaces_12.inv3#12 -/, (by 
                                        have hLL : low1 x1 (v_p0_st (9 + x1)) z11 = if z11 = x1 ∨ ¬ bt (v_p0_st (9 + x1)) z11 = 0 then 1 else 0 := rfl
                                        have hb01 := bt01 (v_p0_st (9 + x1)) z11
                                        have hbt : z_and (z_shr (v_p0_st (9 + x1)) z11) 1 = bt (v_p0_st (9 + x1)) z11 := rfl
                                        rw [← hz11] at hcs hpl
                                        first | (rw [if_pos (by omega)] at hLL; rw [hLL] at hcs hpl; rw [if_pos rfl] at hpl; (first | rw [hz26] | rw [hz29]); rw [h1n, hcs]; omega) | (rw [if_neg (by omega)] at hLL; rw [hLL] at hcs hpl; rw [if_neg (by decide)] at hpl; (first | rw [hz26] | rw [hz29]); rw [h1n, hcs]; omega)) /- B_X12_findPlaces_12.inv4#12 -/, (by 
                                        have hLL : low1 x1 (v_p0_st (9 + x1)) z11 = if z11 = x1 ∨ ¬ bt (v_p0_st (9 + x1)) z11 = 0 then 1 else 0 := rfl
                                        have hb01 := bt01 (v_p0_st (9 + x1)) z11
                                        have hbt : z_and (z_shr (v_p0_st (9 + x1)) z11) 1 = bt (v_p0_st (9 + x1)) z11 := rfl
                                        rw [← hz11] at hcs hpl
                                        first | (rw [if_pos (by omega)] at hLL; rw [hLL] at hcs hpl; rw [if_pos rfl] at hpl; (intro j hj; by_cases e : (j : Int) = z4; (have e2 : j = z4.toNat := by omega); subst e2; rw [hez, ← hz11, z_up_s]; omega; rw [z_up_n _ _ (fun h => e (rg_inj (n := i_p0_seats) (k := x1) (by omega) (by omega) (by omega) (by omega) (by omega)))]; exact i_B_X12_findPlaces_12_5 j (by omega))) | (rw [if_neg (by omega)] at hLL; rw [hLL] at hcs hpl; rw [if_neg (by decide)] at hpl; (intro j hj; by_cases e : (j : Int) = z4; (have e2 : j = z4.toNat := by omega); subst e2; rw [hez, ← hz11, z_up_s]; omega; rw [z_up_n _ _ (fun h => e (rg_inj (n := i_p0_seats) (k := x1) (by omega) (by omega) (by omega) (by omega) (by omega)))]; exact i_B_X12_findPlaces_12_5 j (by omega)))) /- B_X12_findPlaces_12.inv5#12 -/⟩ (by omega) /- B_X12_findPlaces_12.dec#12 -/

set_option maxHeartbeats 1000000 in
theorem s_X12_cameFrom (v_p0_brings : (Int → Int)) (x1 : Int) (x2 : Int) (n s : Int) (h1 : 2 ≤ n) (h2 : n ≤ 7) (h3 : 0 ≤ s) (h4 : s ≤ 5) (h5 : rowsM n s v_p0_brings) (h6 : 0 ≤ x1) (h7 : x1 < s) (h8 : 0 ≤ x2) (h9 : x2 < n) : wp (f_X12_cameFrom v_p0_brings x1 x2) (fun o => ((0 ≤ o ∧ o < n) ∧ v_p0_brings (7 * x1 + o) = x2)) := by
  unfold f_X12_cameFrom
  obtain ⟨i0, hi0, he0⟩ := rowM_sur h5 h6 h7 h8 h9
  refine wp_bnd ?_
  refine wp_lq1 (fun (z2 : Int) => (0 ≤ z2) ∧ (z2 ≤ i0)) (fun (z2 : Int) => (n - z2).toNat) (fun again2 z2 hI ih_B_X12_cameFrom_2 => ?_) 1000 _ ⟨(by omega) /- B_X12_cameFrom_2.init1#1 -/, (by omega) /- B_X12_cameFrom_2.init2#1 -/⟩ (by omega) /- B_X12_cameFrom_2.fuel#1 -/
  obtain ⟨i_B_X12_cameFrom_2_1, i_B_X12_cameFrom_2_2⟩ := hI
  unfold B_X12_cameFrom_2
  have hru := rowM_use h5 h6 h7 i_B_X12_cameFrom_2_1 (show z2 < n by omega)
  refine wp_ck (z_ix_i.mpr ⟨⟨(by omega) /- ix.lo (((7 : Int) * x1) + z2)#1 -/, (by omega) /- ix.hi (((7 : Int) * x1) + z2)#1 -/⟩, (by omega) /- ix.big (((7 : Int) * x1) + z2)#1 -/⟩) ?_
  refine wp_ck (z_r32_i.mpr ⟨(by omega) /- z_r32.lo (v_p0_brings (((7 : Int) * x1) + z2))#1 -/, (by omega) /- z_r32.hi (v_p0_brings (((7 : Int) * x1) + z2))#1 -/⟩) ?_
  refine wp_ck (z_r32_i.mpr ⟨(by omega) /- z_r32.lo x2#1 -/, (by omega) /- z_r32.hi x2#1 -/⟩) ?_
  refine wp_if (fun c1 => ?_) (fun c1 => ?_)
  ·
    refine wp_some ?_
    try dsimp only
    all_goals exact (by omega) /- post1#1 -/
  ·
    refine wp_bndE (fun z6 hz6 => ?_)
    exact ih_B_X12_cameFrom_2 _ ⟨(by omega) /- B_X12_cameFrom_2.inv1#1 -/, (by rcases Int.lt_or_eq_of_le i_B_X12_cameFrom_2_2 with h | h; omega; exfalso; subst h; exact absurd he0 (by assumption)) /- B_X12_cameFrom_2.inv2#1 -/⟩ (by omega) /- B_X12_cameFrom_2.dec#1 -/

set_option maxHeartbeats 1000000 in
theorem s_X12_nextBy (i_p0_seats : Int) (v_p0_st : (Int → Int)) (v_p0_brings : (Int → Int)) (v_p0_places : (Int → Int)) (x1 : Int) (x2 : Int) (x3 : Int) (i_p0_stirs : Int) (h1 : 2 ≤ i_p0_seats) (h2 : i_p0_seats ≤ 7) (h3 : 0 ≤ i_p0_stirs) (h4 : i_p0_stirs ≤ 5) (h5 : rowsM i_p0_seats i_p0_stirs v_p0_brings) (h6 : 0 ≤ x1) (h7 : x1 < i_p0_seats) (h8 : 0 ≤ x2) (h9 : x2 < i_p0_stirs) (h10 : 0 ≤ x3) (h11 : x3 < i_p0_seats) : wp (f_X12_nextBy i_p0_seats v_p0_st v_p0_brings v_p0_places x1 x2 x3) (fun o => ((0 ≤ o.1 ∧ o.1 < i_p0_seats) ∧ plc i_p0_seats x1 (v_p0_st (9 + x1)) o.1 = v_p0_brings (7 * x2 + x3)) ∧ (∀ p, 0 ≤ p → p < i_p0_seats → o.2 p = plc i_p0_seats x1 (v_p0_st (9 + x1)) p)) := by
  unfold f_X12_nextBy
  have hru := rowM_use h5 h8 h9 h10 h11
  obtain ⟨p0, hp0, hpe⟩ := plc_sur (n := i_p0_seats) (k := x1) (f := (v_p0_st (9 + x1))) (q := v_p0_brings (7 * x2 + x3)) (by omega) hru.1 hru.2
  refine wp_bd1 (s_X12_findPlaces _ _ _ _ (by omega) /- pre X12_findPlaces.1#1 -/ (by omega) /- pre X12_findPlaces.2#1 -/ (by omega) /- pre X12_findPlaces.3#1 -/ (by omega) /- pre X12_findPlaces.4#1 -/) (fun w1 q_X12_findPlaces_1 => ?_)
  try dsimp only at q_X12_findPlaces_1
  refine wp_bnd ?_
  refine wp_lq1 (fun (z3 : Int) => (0 ≤ z3) ∧ (z3 ≤ p0)) (fun (z3 : Int) => (i_p0_seats - z3).toNat) (fun again8 z3 hI ih_B_X12_nextBy_8 => ?_) 1000 _ ⟨(by omega) /- B_X12_nextBy_8.init1#1 -/, (by omega) /- B_X12_nextBy_8.init2#1 -/⟩ (by omega) /- B_X12_nextBy_8.fuel#1 -/
  obtain ⟨i_B_X12_nextBy_8_1, i_B_X12_nextBy_8_2⟩ := hI
  unfold B_X12_nextBy_8
  have hq := q_X12_findPlaces_1 z3 i_B_X12_nextBy_8_1 (by omega)
  have hqr := plc_rng (n := i_p0_seats) (k := x1) (f := (v_p0_st (9 + x1))) (p := z3) (by omega)
  refine wp_ck (z_ix_i.mpr ⟨⟨(by omega) /- ix.lo z3#1 -/, (by omega) /- ix.hi z3#1 -/⟩, (by omega) /- ix.big z3#1 -/⟩) ?_
  refine wp_ck (z_ix_i.mpr ⟨⟨(by omega) /- ix.lo (((7 : Int) * x2) + x3)#1 -/, (by omega) /- ix.hi (((7 : Int) * x2) + x3)#1 -/⟩, (by omega) /- ix.big (((7 : Int) * x2) + x3)#1 -/⟩) ?_
  refine wp_ck (z_r32_i.mpr ⟨(by omega) /- z_r32.lo (w1 z3)#1 -/, (by omega) /- z_r32.hi (w1 z3)#1 -/⟩) ?_
  refine wp_ck (z_r32_i.mpr ⟨(by omega) /- z_r32.lo (v_p0_brings (((7 : Int) * x2) + x3))#1 -/, (by omega) /- z_r32.hi (v_p0_brings (((7 : Int) * x2) + x3))#1 -/⟩) ?_
  refine wp_if (fun c1 => ?_) (fun c1 => ?_)
  ·
    refine wp_some ?_
    try dsimp only
    all_goals exact ⟨(by omega) /- post1#1 -/, (by exact q_X12_findPlaces_1) /- post2#1 -/⟩
  ·
    refine wp_bndE (fun z7 hz7 => ?_)
    exact ih_B_X12_nextBy_8 _ ⟨(by omega) /- B_X12_nextBy_8.inv1#1 -/, (by rcases Int.lt_or_eq_of_le i_B_X12_nextBy_8_2 with h | h; omega; exfalso; subst h; omega) /- B_X12_nextBy_8.inv2#1 -/⟩ (by omega) /- B_X12_nextBy_8.dec#1 -/

set_option maxHeartbeats 1000000 in
theorem s_X12_bowl (i_p0_seats : Int) (i_p0_stirs : Int) (v_p0_st : (Int → Int)) (v_p0_brings : (Int → Int)) (v_p0_places : (Int → Int)) (x1 : Int) (x2 : Int) (x3 : Int) (h1 : -2147483648 ≤ x1) (h2 : x1 < 2147483648) (h3 : -2147483648 ≤ x2) (h4 : x2 < 2147483648) (h5 : -2147483648 ≤ x3) (h6 : x3 < 2147483648) (h7 : 2 ≤ i_p0_seats) (h8 : i_p0_seats ≤ 7) (h9 : 0 ≤ i_p0_stirs) (h10 : i_p0_stirs ≤ 5) (h11 : rowsM i_p0_seats i_p0_stirs v_p0_brings) : wp (f_X12_bowl i_p0_seats i_p0_stirs v_p0_st v_p0_brings v_p0_places x1 x2 x3) (fun o => (¬ ((0 ≤ x1 ∧ x1 < i_p0_seats) ∧ (0 ≤ x2 ∧ x2 < i_p0_seats) ∧ (0 ≤ x3 ∧ x3 < i_p0_stirs)) → o.1 = -1) ∧ (((0 ≤ x1 ∧ x1 < i_p0_seats) ∧ (0 ≤ x2 ∧ x2 < i_p0_seats) ∧ (0 ≤ x3 ∧ x3 < i_p0_stirs)) → ∃ i, (0 ≤ i ∧ i < i_p0_seats) ∧ v_p0_brings (7 * x3 + i) = plc i_p0_seats x1 (v_p0_st (9 + x1)) x2 ∧ o.1 = v_p0_st i)) := by
  unfold f_X12_bowl
  refine wp_bd1 (s_X12_isSeat _ _ (by first | omega | assumption | grind) /- pre X12_isSeat.1#1 -/ (by first | omega | assumption | grind) /- pre X12_isSeat.2#1 -/ (by first | omega | assumption | grind) /- pre X12_isSeat.3#1 -/ (by first | omega | assumption | grind) /- pre X12_isSeat.4#1 -/) (fun z1 q_X12_isSeat_1 => ?_)
  try dsimp only at q_X12_isSeat_1
  refine wp_ck (z_r32_i.mpr ⟨(by first | omega | assumption | grind) /- z_r32.lo z1#1 -/, (by first | omega | assumption | grind) /- z_r32.hi z1#1 -/⟩) ?_
  refine wp_if (fun c1 => ?_) (fun c1 => ?_)
  ·
    refine wp_some ?_
    try dsimp only
    all_goals exact ⟨(by first | omega | assumption | grind) /- post1#1 -/, (by first | omega | assumption | grind) /- post2#1 -/⟩
  ·
    refine wp_bd1 (s_X12_isSeat _ _ (by first | omega | assumption | grind) /- pre X12_isSeat.1#2 -/ (by first | omega | assumption | grind) /- pre X12_isSeat.2#2 -/ (by first | omega | assumption | grind) /- pre X12_isSeat.3#2 -/ (by first | omega | assumption | grind) /- pre X12_isSeat.4#2 -/) (fun z3 q_X12_isSeat_2 => ?_)
    try dsimp only at q_X12_isSeat_2
    refine wp_ck (z_r32_i.mpr ⟨(by first | omega | assumption | grind) /- z_r32.lo z3#1 -/, (by first | omega | assumption | grind) /- z_r32.hi z3#1 -/⟩) ?_
    refine wp_if (fun c2 => ?_) (fun c2 => ?_)
    ·
      refine wp_some ?_
      try dsimp only
      all_goals exact ⟨(by first | omega | assumption | grind) /- post1#2 -/, (by first | omega | assumption | grind) /- post2#2 -/⟩
    ·
      refine wp_bd1 (s_X12_isStir _ _ (by first | omega | assumption | grind) /- pre X12_isStir.1#1 -/ (by first | omega | assumption | grind) /- pre X12_isStir.2#1 -/ (by first | omega | assumption | grind) /- pre X12_isStir.3#1 -/ (by first | omega | assumption | grind) /- pre X12_isStir.4#1 -/) (fun z5 q_X12_isStir_1 => ?_)
      try dsimp only at q_X12_isStir_1
      refine wp_ck (z_r32_i.mpr ⟨(by first | omega | assumption | grind) /- z_r32.lo z5#1 -/, (by first | omega | assumption | grind) /- z_r32.hi z5#1 -/⟩) ?_
      refine wp_if (fun c3 => ?_) (fun c3 => ?_)
      ·
        refine wp_some ?_
        try dsimp only
        all_goals exact ⟨(by first | omega | assumption | grind) /- post1#3 -/, (by first | omega | assumption | grind) /- post2#3 -/⟩
      ·
        have hs1 : 0 ≤ x1 ∧ x1 < i_p0_seats := by split at q_X12_isSeat_1 <;> omega
        have hs2 : 0 ≤ x2 ∧ x2 < i_p0_seats := by split at q_X12_isSeat_2 <;> omega
        have hs3 : 0 ≤ x3 ∧ x3 < i_p0_stirs := by split at q_X12_isStir_1 <;> omega
        clear q_X12_isSeat_1 q_X12_isSeat_2 q_X12_isStir_1
        refine wp_bd1 (s_X12_findPlaces _ _ _ _ (by first | omega | assumption | grind) /- pre X12_findPlaces.1#1 -/ (by first | omega | assumption | grind) /- pre X12_findPlaces.2#1 -/ (by first | omega | assumption | grind) /- pre X12_findPlaces.3#1 -/ (by first | omega | assumption | grind) /- pre X12_findPlaces.4#1 -/) (fun w7 q_X12_findPlaces_1 => ?_)
        try dsimp only at q_X12_findPlaces_1
        have hpl := q_X12_findPlaces_1 x2 hs2.1 hs2.2
        have hpr := plc_rng (n := i_p0_seats) (k := x1) (f := (v_p0_st (9 + x1))) (p := x2) (by omega)
        refine wp_ck (z_ix_i.mpr ⟨⟨(by first | omega | assumption | grind) /- ix.lo x2#1 -/, (by first | omega | assumption | grind) /- ix.hi x2#1 -/⟩, (by first | omega | assumption | grind) /- ix.big x2#1 -/⟩) ?_
        refine wp_bd1 (s_X12_cameFrom _ _ _ i_p0_seats i_p0_stirs (by first | omega | assumption | grind) /- pre X12_cameFrom.1#1 -/ (by first | omega | assumption | grind) /- pre X12_cameFrom.2#1 -/ (by first | omega | assumption | grind) /- pre X12_cameFrom.3#1 -/ (by first | omega | assumption | grind) /- pre X12_cameFrom.4#1 -/ (by exact h11) /- pre X12_cameFrom.5#1 -/ (by first | omega | assumption | grind) /- pre X12_cameFrom.6#1 -/ (by first | omega | assumption | grind) /- pre X12_cameFrom.7#1 -/ (by rw [hpl]; omega) /- pre X12_cameFrom.8#1 -/ (by rw [hpl]; omega) /- pre X12_cameFrom.9#1 -/) (fun z8 q_X12_cameFrom_1 => ?_)
        try dsimp only at q_X12_cameFrom_1
        refine wp_ck (z_ix_i.mpr ⟨⟨(by first | omega | assumption | grind) /- ix.lo z8#1 -/, (by first | omega | assumption | grind) /- ix.hi z8#1 -/⟩, (by first | omega | assumption | grind) /- ix.big z8#1 -/⟩) ?_
        refine wp_some ?_
        try dsimp only
        all_goals exact ⟨(by intro h; exact absurd ⟨hs1, hs2, hs3⟩ h) /- post1#4 -/, (by intro _; exact ⟨_, q_X12_cameFrom_1.1, by rw [q_X12_cameFrom_1.2, hpl], rfl⟩) /- post2#4 -/⟩

set_option maxHeartbeats 1000000 in
theorem s_X12_ladle (i_p0_seats : Int) (i_p0_stirs : Int) (v_p0_st : (Int → Int)) (v_p0_places : (Int → Int)) (x1 : Int) (x2 : Int) (x3 : Int) (h1 : -2147483648 ≤ x1) (h2 : x1 < 2147483648) (h3 : -2147483648 ≤ x2) (h4 : x2 < 2147483648) (h5 : -2147483648 ≤ x3) (h6 : x3 < 2147483648) (h7 : 2 ≤ i_p0_seats) (h8 : i_p0_seats ≤ 7) (h9 : 0 ≤ i_p0_stirs) (h10 : i_p0_stirs ≤ 5) : wp (f_X12_ladle i_p0_seats i_p0_stirs v_p0_st v_p0_places x1 x2 x3) (fun o => (o.1 = if ((0 ≤ x1 ∧ x1 < i_p0_seats) ∧ (0 ≤ x2 ∧ x2 < i_p0_seats) ∧ (0 ≤ x3 ∧ x3 < i_p0_stirs)) then plc i_p0_seats x1 (v_p0_st (9 + x1)) x2 else -1)) := by
  unfold f_X12_ladle
  refine wp_bd1 (s_X12_isSeat _ _ (by first | omega | assumption | grind) /- pre X12_isSeat.1#1 -/ (by first | omega | assumption | grind) /- pre X12_isSeat.2#1 -/ (by first | omega | assumption | grind) /- pre X12_isSeat.3#1 -/ (by first | omega | assumption | grind) /- pre X12_isSeat.4#1 -/) (fun z1 q_X12_isSeat_1 => ?_)
  try dsimp only at q_X12_isSeat_1
  refine wp_ck (z_r32_i.mpr ⟨(by first | omega | assumption | grind) /- z_r32.lo z1#1 -/, (by first | omega | assumption | grind) /- z_r32.hi z1#1 -/⟩) ?_
  refine wp_if (fun c1 => ?_) (fun c1 => ?_)
  ·
    refine wp_some ?_
    try dsimp only
    all_goals exact (by first | omega | assumption | grind) /- post1#1 -/
  ·
    refine wp_bd1 (s_X12_isSeat _ _ (by first | omega | assumption | grind) /- pre X12_isSeat.1#2 -/ (by first | omega | assumption | grind) /- pre X12_isSeat.2#2 -/ (by first | omega | assumption | grind) /- pre X12_isSeat.3#2 -/ (by first | omega | assumption | grind) /- pre X12_isSeat.4#2 -/) (fun z3 q_X12_isSeat_2 => ?_)
    try dsimp only at q_X12_isSeat_2
    refine wp_ck (z_r32_i.mpr ⟨(by first | omega | assumption | grind) /- z_r32.lo z3#1 -/, (by first | omega | assumption | grind) /- z_r32.hi z3#1 -/⟩) ?_
    refine wp_if (fun c2 => ?_) (fun c2 => ?_)
    ·
      refine wp_some ?_
      try dsimp only
      all_goals exact (by first | omega | assumption | grind) /- post1#2 -/
    ·
      refine wp_bd1 (s_X12_isStir _ _ (by first | omega | assumption | grind) /- pre X12_isStir.1#1 -/ (by first | omega | assumption | grind) /- pre X12_isStir.2#1 -/ (by first | omega | assumption | grind) /- pre X12_isStir.3#1 -/ (by first | omega | assumption | grind) /- pre X12_isStir.4#1 -/) (fun z5 q_X12_isStir_1 => ?_)
      try dsimp only at q_X12_isStir_1
      refine wp_ck (z_r32_i.mpr ⟨(by first | omega | assumption | grind) /- z_r32.lo z5#1 -/, (by first | omega | assumption | grind) /- z_r32.hi z5#1 -/⟩) ?_
      refine wp_if (fun c3 => ?_) (fun c3 => ?_)
      ·
        refine wp_some ?_
        try dsimp only
        all_goals exact (by first | omega | assumption | grind) /- post1#3 -/
      ·
        have hs1 : 0 ≤ x1 ∧ x1 < i_p0_seats := by split at q_X12_isSeat_1 <;> omega
        have hs2 : 0 ≤ x2 ∧ x2 < i_p0_seats := by split at q_X12_isSeat_2 <;> omega
        have hs3 : 0 ≤ x3 ∧ x3 < i_p0_stirs := by split at q_X12_isStir_1 <;> omega
        clear q_X12_isSeat_1 q_X12_isSeat_2 q_X12_isStir_1
        refine wp_bd1 (s_X12_findPlaces _ _ _ _ (by first | omega | assumption | grind) /- pre X12_findPlaces.1#1 -/ (by first | omega | assumption | grind) /- pre X12_findPlaces.2#1 -/ (by first | omega | assumption | grind) /- pre X12_findPlaces.3#1 -/ (by first | omega | assumption | grind) /- pre X12_findPlaces.4#1 -/) (fun w7 q_X12_findPlaces_1 => ?_)
        try dsimp only at q_X12_findPlaces_1
        refine wp_ck (z_ix_i.mpr ⟨⟨(by first | omega | assumption | grind) /- ix.lo x2#1 -/, (by first | omega | assumption | grind) /- ix.hi x2#1 -/⟩, (by first | omega | assumption | grind) /- ix.big x2#1 -/⟩) ?_
        refine wp_some ?_
        try dsimp only
        all_goals exact (by rw [if_pos ⟨hs1, hs2, hs3⟩]; exact q_X12_findPlaces_1 x2 hs2.1 hs2.2) /- post1#4 -/

set_option maxHeartbeats 1000000 in
theorem s_X12_next (i_p0_seats : Int) (i_p0_stirs : Int) (v_p0_st : (Int → Int)) (v_p0_brings : (Int → Int)) (v_p0_places : (Int → Int)) (x1 : Int) (x2 : Int) (h1 : -2147483648 ≤ x1) (h2 : x1 < 2147483648) (h3 : -2147483648 ≤ x2) (h4 : x2 < 2147483648) (h5 : 2 ≤ i_p0_seats) (h6 : i_p0_seats ≤ 7) (h7 : 0 ≤ i_p0_stirs) (h8 : i_p0_stirs ≤ 5) (h9 : rowsM i_p0_seats i_p0_stirs v_p0_brings) (h10 : 0 ≤ v_p0_st 7) (h11 : v_p0_st 7 < i_p0_seats) : wp (f_X12_next i_p0_seats i_p0_stirs v_p0_st v_p0_brings v_p0_places x1 x2) (fun o => (¬ ((0 ≤ x1 ∧ x1 < i_p0_seats) ∧ (0 ≤ x2 ∧ x2 < i_p0_stirs)) → o.1 = -1) ∧ (((0 ≤ x1 ∧ x1 < i_p0_seats) ∧ (0 ≤ x2 ∧ x2 < i_p0_stirs)) → (0 ≤ o.1 ∧ o.1 < i_p0_seats) ∧ plc i_p0_seats x1 (v_p0_st (9 + x1)) o.1 = v_p0_brings (7 * x2 + v_p0_st 7))) := by
  unfold f_X12_next
  refine wp_bd1 (s_X12_isSeat _ _ (by first | omega | assumption | grind) /- pre X12_isSeat.1#1 -/ (by first | omega | assumption | grind) /- pre X12_isSeat.2#1 -/ (by first | omega | assumption | grind) /- pre X12_isSeat.3#1 -/ (by first | omega | assumption | grind) /- pre X12_isSeat.4#1 -/) (fun z1 q_X12_isSeat_1 => ?_)
  try dsimp only at q_X12_isSeat_1
  refine wp_ck (z_r32_i.mpr ⟨(by first | omega | assumption | grind) /- z_r32.lo z1#1 -/, (by first | omega | assumption | grind) /- z_r32.hi z1#1 -/⟩) ?_
  refine wp_if (fun c1 => ?_) (fun c1 => ?_)
  ·
    refine wp_some ?_
    try dsimp only
    all_goals exact ⟨(by first | grind) /- post1#1 -/, (by first | (intro _; exact q_X12_nextBy_1_1) | grind) /- post2#1 -/⟩
  ·
    refine wp_bd1 (s_X12_isStir _ _ (by first | omega | assumption | grind) /- pre X12_isStir.1#1 -/ (by first | omega | assumption | grind) /- pre X12_isStir.2#1 -/ (by first | omega | assumption | grind) /- pre X12_isStir.3#1 -/ (by first | omega | assumption | grind) /- pre X12_isStir.4#1 -/) (fun z3 q_X12_isStir_1 => ?_)
    try dsimp only at q_X12_isStir_1
    refine wp_ck (z_r32_i.mpr ⟨(by first | omega | assumption | grind) /- z_r32.lo z3#1 -/, (by first | omega | assumption | grind) /- z_r32.hi z3#1 -/⟩) ?_
    refine wp_if (fun c2 => ?_) (fun c2 => ?_)
    ·
      refine wp_some ?_
      try dsimp only
      all_goals exact ⟨(by first | grind) /- post1#2 -/, (by first | (intro _; exact q_X12_nextBy_1_1) | grind) /- post2#2 -/⟩
    ·
      refine wp_ck (z_ix_i.mpr ⟨⟨(by first | omega | assumption | grind) /- ix.lo (7 : Int)#1 -/, (by first | omega | assumption | grind) /- ix.hi (7 : Int)#1 -/⟩, (by first | omega | assumption | grind) /- ix.big (7 : Int)#1 -/⟩) ?_
      have hs1 : 0 ≤ x1 ∧ x1 < i_p0_seats := by split at q_X12_isSeat_1 <;> omega
      have hs3 : 0 ≤ x2 ∧ x2 < i_p0_stirs := by split at q_X12_isStir_1 <;> omega
      clear q_X12_isSeat_1 q_X12_isStir_1
      refine wp_bd2 (s_X12_nextBy _ _ _ _ _ _ _ i_p0_stirs (by first | omega | assumption | grind) /- pre X12_nextBy.1#1 -/ (by first | omega | assumption | grind) /- pre X12_nextBy.2#1 -/ (by first | omega | assumption | grind) /- pre X12_nextBy.3#1 -/ (by first | omega | assumption | grind) /- pre X12_nextBy.4#1 -/ (by exact h9) /- pre X12_nextBy.5#1 -/ (by first | omega | assumption | grind) /- pre X12_nextBy.6#1 -/ (by first | omega | assumption | grind) /- pre X12_nextBy.7#1 -/ (by first | omega | assumption | grind) /- pre X12_nextBy.8#1 -/ (by first | omega | assumption | grind) /- pre X12_nextBy.9#1 -/ (by first | omega | assumption | grind) /- pre X12_nextBy.10#1 -/ (by first | omega | assumption | grind) /- pre X12_nextBy.11#1 -/) (fun z5 w6 q_X12_nextBy_1 => ?_)
      try dsimp only at q_X12_nextBy_1
      obtain ⟨q_X12_nextBy_1_1, q_X12_nextBy_1_2⟩ := q_X12_nextBy_1
      refine wp_some ?_
      try dsimp only
      all_goals exact ⟨(by first | grind) /- post1#3 -/, (by first | (intro _; exact q_X12_nextBy_1_1) | grind) /- post2#3 -/⟩

set_option maxHeartbeats 4000000 in
theorem s_X12_goesDay (i_p0_seats : Int) (v_p0_st : (Int → Int)) (v_p0_brings : (Int → Int)) (v_p0_places : (Int → Int)) (v_p0_stirred : (Int → Int)) (x1 : Int) (i_p0_stirs : Int) (h1 : 2 ≤ i_p0_seats) (h2 : i_p0_seats ≤ 7) (h3 : 0 ≤ i_p0_stirs) (h4 : i_p0_stirs ≤ 5) (h5 : rowsM i_p0_seats i_p0_stirs v_p0_brings) (h6 : 0 ≤ x1) (h7 : x1 < i_p0_stirs) (h8 : 0 ≤ v_p0_st 7) (h9 : v_p0_st 7 < i_p0_seats) (h10 : 0 ≤ v_p0_st 8) (h11 : v_p0_st 8 < i_p0_seats) : wp (f_X12_goesDay i_p0_seats v_p0_st v_p0_brings v_p0_places v_p0_stirred x1) (fun o => (dayP i_p0_seats (fun i => v_p0_brings (7 * x1 + i)) (fun k => v_p0_st (9 + k)) (v_p0_st 7) (v_p0_st 8) (v_p0_st 30) (vw v_p0_st 0) (vw v_p0_st 23) (o.1 7) (o.1 8) (o.1 30) (vw o.1 0) (vw o.1 23)) ∧ (∀ j, ((9 ≤ j ∧ j < 23) ∨ 31 ≤ j) → o.1 j = v_p0_st j)) := by
  unfold f_X12_goesDay
  have hrow := h5 x1 h6 h7
  refine wp_ck (z_ix_i.mpr ⟨⟨(by omega) /- ix.lo (8 : Int)#1 -/, (by omega) /- ix.hi (8 : Int)#1 -/⟩, (by omega) /- ix.big (8 : Int)#1 -/⟩) ?_
  refine wp_ck (z_ix_i.mpr ⟨⟨(by omega) /- ix.lo (7 : Int)#1 -/, (by omega) /- ix.hi (7 : Int)#1 -/⟩, (by omega) /- ix.big (7 : Int)#1 -/⟩) ?_
  refine wp_bd2 (s_X12_nextBy _ _ _ _ _ _ _ i_p0_stirs (by omega) /- pre X12_nextBy.1#1 -/ (by omega) /- pre X12_nextBy.2#1 -/ (by omega) /- pre X12_nextBy.3#1 -/ (by omega) /- pre X12_nextBy.4#1 -/ (by exact h5) /- pre X12_nextBy.5#1 -/ (by omega) /- pre X12_nextBy.6#1 -/ (by omega) /- pre X12_nextBy.7#1 -/ (by omega) /- pre X12_nextBy.8#1 -/ (by omega) /- pre X12_nextBy.9#1 -/ (by omega) /- pre X12_nextBy.10#1 -/ (by omega) /- pre X12_nextBy.11#1 -/) (fun z1 w2 q_X12_nextBy_1 => ?_)
  try dsimp only at q_X12_nextBy_1
  obtain ⟨q_X12_nextBy_1_1, q_X12_nextBy_1_2⟩ := q_X12_nextBy_1
  refine wp_bnd ?_
  refine wp_bnd ?_
  refine wp_jn ?_
  refine wp_lq2 (fun (z30 : Int) (w31 : (Int → Int)) => (0 ≤ z30) ∧ (z30 ≤ i_p0_seats) ∧ (∀ i, 0 ≤ i → i < z30 → w31 (v_p0_brings (7 * x1 + i)) = v_p0_st i)) (fun (z30 : Int) (w31 : (Int → Int)) => (i_p0_seats - z30).toNat) (fun again22 z30 w31 hI ih_B_X12_goesDay_22 => ?_) 1000 _ _ ⟨(by omega) /- B_X12_goesDay_22.init1#1 -/, (by omega) /- B_X12_goesDay_22.init2#1 -/, (by intro i; omega) /- B_X12_goesDay_22.init3#1 -/⟩ (by omega) /- B_X12_goesDay_22.fuel#1 -/
  obtain ⟨i_B_X12_goesDay_22_1, i_B_X12_goesDay_22_2, i_B_X12_goesDay_22_3⟩ := hI
  unfold B_X12_goesDay_22
  have hru := fun (h : z30 < i_p0_seats) => hrow.1 z30 i_B_X12_goesDay_22_1 h
  dsimp only at hru
  refine wp_ck (z_r32_i.mpr ⟨(by omega) /- z_r32.lo z30#1 -/, (by omega) /- z_r32.hi z30#1 -/⟩) ?_
  refine wp_ck (z_r32_i.mpr ⟨(by omega) /- z_r32.lo i_p0_seats#1 -/, (by omega) /- z_r32.hi i_p0_seats#1 -/⟩) ?_
  refine wp_if (fun c1 => ?_) (fun c1 => ?_)
  ·
    refine wp_bnd ?_
    refine wp_jn ?_
    refine wp_lq2 (fun (z23 : Int) (w24 : (Int → Int)) => (0 ≤ z23) ∧ (z23 ≤ i_p0_seats) ∧ (∀ j, 0 ≤ j → j < z23 → w24 j = w31 j) ∧ (∀ j, (j < 0 ∨ z23 ≤ j) → w24 j = v_p0_st j)) (fun (z23 : Int) (w24 : (Int → Int)) => (i_p0_seats - z23).toNat) (fun again60 z23 w24 hI ih_B_X12_goesDay_60 => ?_) 1000 _ _ ⟨(by omega) /- B_X12_goesDay_60.init1#1 -/, (by omega) /- B_X12_goesDay_60.init2#1 -/, (by intro i; omega) /- B_X12_goesDay_60.init3#1 -/, (by intro j _; rfl) /- B_X12_goesDay_60.init4#1 -/⟩ (by omega) /- B_X12_goesDay_60.fuel#1 -/
    obtain ⟨i_B_X12_goesDay_60_1, i_B_X12_goesDay_60_2, i_B_X12_goesDay_60_3, i_B_X12_goesDay_60_4⟩ := hI
    unfold B_X12_goesDay_60
    refine wp_ck (z_r32_i.mpr ⟨(by omega) /- z_r32.lo z23#1 -/, (by omega) /- z_r32.hi z23#1 -/⟩) ?_
    refine wp_ck (z_r32_i.mpr ⟨(by omega) /- z_r32.lo i_p0_seats#2 -/, (by omega) /- z_r32.hi i_p0_seats#2 -/⟩) ?_
    refine wp_if (fun c2 => ?_) (fun c2 => ?_)
    ·
      refine wp_bnd ?_
      refine wp_jn ?_
      refine wp_lq2 (fun (z16 : Int) (w17 : (Int → Int)) => (0 ≤ z16) ∧ (z16 ≤ i_p0_seats) ∧ (∀ p, 0 ≤ p → p < z16 → w17 (23 + p) = v_p0_st (23 + p) + w24 (plc i_p0_seats (v_p0_st 8) (v_p0_st (9 + v_p0_st 8)) p)) ∧ (∀ j, (j < 23 ∨ 23 + z16 ≤ j) → w17 j = w24 j)) (fun (z16 : Int) (w17 : (Int → Int)) => (i_p0_seats - z16).toNat) (fun again88 z16 w17 hI ih_B_X12_goesDay_88 => ?_) 1000 _ _ ⟨(by omega) /- B_X12_goesDay_88.init1#1 -/, (by omega) /- B_X12_goesDay_88.init2#1 -/, (by intro i; omega) /- B_X12_goesDay_88.init3#1 -/, (by intro j _; rfl) /- B_X12_goesDay_88.init4#1 -/⟩ (by omega) /- B_X12_goesDay_88.fuel#1 -/
      obtain ⟨i_B_X12_goesDay_88_1, i_B_X12_goesDay_88_2, i_B_X12_goesDay_88_3, i_B_X12_goesDay_88_4⟩ := hI
      unfold B_X12_goesDay_88
      have hpq := fun (h : z16 < i_p0_seats) => q_X12_nextBy_1_2 z16 i_B_X12_goesDay_88_1 h
      have hpr := plc_rng (n := i_p0_seats) (k := v_p0_st 8) (f := v_p0_st (9 + v_p0_st 8)) (p := z16) (by omega)
      refine wp_ck (z_r32_i.mpr ⟨(by omega) /- z_r32.lo z16#1 -/, (by omega) /- z_r32.hi z16#1 -/⟩) ?_
      refine wp_ck (z_r32_i.mpr ⟨(by omega) /- z_r32.lo i_p0_seats#3 -/, (by omega) /- z_r32.hi i_p0_seats#3 -/⟩) ?_
      refine wp_if (fun c3 => ?_) (fun c3 => ?_)
      ·
        have hw7 : w17 7 = v_p0_st 7 := by rw [i_B_X12_goesDay_88_4 7 (by omega), i_B_X12_goesDay_60_4 7 (by omega)]
        have hbn := hrow.1 (v_p0_st 7) h8 h9
        dsimp only at hbn
        refine wp_ck (z_ix_i.mpr ⟨⟨(by omega) /- ix.lo (7 : Int)#2 -/, (by omega) /- ix.hi (7 : Int)#2 -/⟩, (by omega) /- ix.big (7 : Int)#2 -/⟩) ?_
        refine wp_ck (z_ix_i.mpr ⟨⟨(by omega) /- ix.lo (((7 : Int) * x1) + (w11 (7 : Int)))#1 -/, (by omega) /- ix.hi (((7 : Int) * x1) + (w11 (7 : Int)))#1 -/⟩, (by omega) /- ix.big (((7 : Int) * x1) + (w11 (7 : Int)))#1 -/⟩) ?_
        refine wp_ck (z_ix_i.mpr ⟨⟨(by omega) /- ix.lo (7 : Int)#3 -/, (by omega) /- ix.hi (7 : Int)#3 -/⟩, (by omega) /- ix.big (7 : Int)#3 -/⟩) ?_
        refine wp_bnd ?_
        refine wp_ck (z_ix_i.mpr ⟨⟨(by omega) /- ix.lo (8 : Int)#2 -/, (by omega) /- ix.hi (8 : Int)#2 -/⟩, (by omega) /- ix.big (8 : Int)#2 -/⟩) ?_
        refine wp_bnd ?_
        refine wp_ck (z_ix_i.mpr ⟨⟨(by omega) /- ix.lo (30 : Int)#1 -/, (by omega) /- ix.hi (30 : Int)#1 -/⟩, (by omega) /- ix.big (30 : Int)#1 -/⟩) ?_
        refine wp_ck (z_ix_i.mpr ⟨⟨(by omega) /- ix.lo (30 : Int)#2 -/, (by omega) /- ix.hi (30 : Int)#2 -/⟩, (by omega) /- ix.big (30 : Int)#2 -/⟩) ?_
        refine wp_bnd ?_
        refine wp_some ?_
        try dsimp only
        all_goals exact ⟨(by 
                                        have e7 : z_up (z_up (z_up w17 7 (v_p0_brings (7 * x1 + w17 7))) 8 z1) 30 (z_up (z_up w17 7 (v_p0_brings (7 * x1 + w17 7))) 8 z1 30 + 1) 7 = v_p0_brings (7 * x1 + v_p0_st 7) := by rw [z_up_n _ _ (by omega), z_up_n _ _ (by omega), z_up_s, hw7]
                                        have e8 : z_up (z_up (z_up w17 7 (v_p0_brings (7 * x1 + w17 7))) 8 z1) 30 (z_up (z_up w17 7 (v_p0_brings (7 * x1 + w17 7))) 8 z1 30 + 1) 8 = z1 := by rw [z_up_n _ _ (by omega), z_up_s]
                                        have e30 : z_up (z_up (z_up w17 7 (v_p0_brings (7 * x1 + w17 7))) 8 z1) 30 (z_up (z_up w17 7 (v_p0_brings (7 * x1 + w17 7))) 8 z1 30 + 1) 30 = v_p0_st 30 + 1 := by rw [z_up_s, z_up_n _ _ (by omega), z_up_n _ _ (by omega), i_B_X12_goesDay_88_4 30 (by omega), i_B_X12_goesDay_60_4 30 (by omega)]
                                        have eo : ∀ j, 0 ≤ j → j < 30 → ¬ j = 7 → ¬ j = 8 → z_up (z_up (z_up w17 7 (v_p0_brings (7 * x1 + w17 7))) 8 z1) 30 (z_up (z_up w17 7 (v_p0_brings (7 * x1 + w17 7))) 8 z1 30 + 1) j = w17 j := by intro j a b c d; rw [z_up_n _ _ (by omega), z_up_n _ _ d, z_up_n _ _ c]
                                        have ep : ∀ q, 0 ≤ q → q < 7 → vw (z_up (z_up (z_up w17 7 (v_p0_brings (7 * x1 + w17 7))) 8 z1) 30 (z_up (z_up w17 7 (v_p0_brings (7 * x1 + w17 7))) 8 z1 30 + 1)) 0 q = w24 q := by intro q a b; rw [vw_in0 a b, eo q a (by omega) (by omega) (by omega), i_B_X12_goesDay_88_4 q (by omega)]
                                        refine ⟨e7, ?_, e30, fun i a b => ?_, fun q a => ?_, fun p a b => ?_, fun q a => ?_⟩
                                        · rw [e8, e7]; exact ⟨q_X12_nextBy_1_1.1.1, q_X12_nextBy_1_1.1.2, q_X12_nextBy_1_1.2⟩
                                        · have hr := hrow.1 i a b
                                          dsimp only at hr
                                          rw [ep _ hr.1 (by omega), i_B_X12_goesDay_60_3 _ hr.1 (by omega), i_B_X12_goesDay_22_3 i a (by omega), vw_in0 a (by omega)]
                                        · by_cases c : 0 ≤ q ∧ q < 7
                                          · rw [ep q c.1 c.2, i_B_X12_goesDay_60_4 q (by omega), vw_in0 c.1 c.2]
                                          · rw [vw_out (by omega), vw_out (by omega)]
                                        · have hr := plc_rng (n := i_p0_seats) (k := v_p0_st 8) (f := v_p0_st (9 + v_p0_st 8)) (p := p) (by omega)
                                          rw [ep _ hr.1 (by omega), vw_in a (by omega), vw_in a (by omega), eo _ (by omega) (by omega) (by omega) (by omega), i_B_X12_goesDay_88_3 p a (by omega)]
                                        · by_cases c : 0 ≤ q ∧ q < 7
                                          · rw [vw_in c.1 c.2, vw_in c.1 c.2, eo _ (by omega) (by omega) (by omega) (by omega), i_B_X12_goesDay_88_4 _ (by omega), i_B_X12_goesDay_60_4 _ (by omega)]
                                          · rw [vw_out (by omega), vw_out (by omega)]) /- post1#1 -/, (by intro j a; rw [z_up_n _ _ (by omega), z_up_n _ _ (by omega), z_up_n _ _ (by omega), i_B_X12_goesDay_88_4 j (by omega), i_B_X12_goesDay_60_4 j (by omega)]) /- post2#1 -/⟩
      ·
        have hpq2 := hpq (by omega)
        refine wp_ck (z_ix_i.mpr ⟨⟨(by omega) /- ix.lo ((23 : Int) + z16)#1 -/, (by omega) /- ix.hi ((23 : Int) + z16)#1 -/⟩, (by omega) /- ix.big ((23 : Int) + z16)#1 -/⟩) ?_
        refine wp_ck (z_ix_i.mpr ⟨⟨(by omega) /- ix.lo z16#1 -/, (by omega) /- ix.hi z16#1 -/⟩, (by omega) /- ix.big z16#1 -/⟩) ?_
        refine wp_ck (z_ix_i.mpr ⟨⟨(by omega) /- ix.lo (w2 z16)#1 -/, (by omega) /- ix.hi (w2 z16)#1 -/⟩, (by omega) /- ix.big (w2 z16)#1 -/⟩) ?_
        refine wp_ck (z_ix_i.mpr ⟨⟨(by omega) /- ix.lo ((23 : Int) + z16)#2 -/, (by omega) /- ix.hi ((23 : Int) + z16)#2 -/⟩, (by omega) /- ix.big ((23 : Int) + z16)#2 -/⟩) ?_
        refine wp_bnd ?_
        refine wp_bndE (fun z22 hz22 => ?_)
        exact ih_B_X12_goesDay_88 _ _ ⟨(by omega) /- B_X12_goesDay_88.inv1#1 -/, (by omega) /- B_X12_goesDay_88.inv2#1 -/, (by 
                                        intro p a b
                                        by_cases e : p = z16
                                        · subst e; rw [z_up_s, i_B_X12_goesDay_88_4 (23 + p) (by omega), hpq2, i_B_X12_goesDay_88_4 _ (by omega), i_B_X12_goesDay_60_4 (23 + p) (by omega)]
                                        · rw [z_up_n _ _ (by omega)]; exact i_B_X12_goesDay_88_3 p a (by omega)) /- B_X12_goesDay_88.inv3#1 -/, (by intro j a; rw [z_up_n _ _ (by omega)]; exact i_B_X12_goesDay_88_4 j (by omega)) /- B_X12_goesDay_88.inv4#1 -/⟩ (by omega) /- B_X12_goesDay_88.dec#1 -/
    ·
      refine wp_ck (z_ix_i.mpr ⟨⟨(by omega) /- ix.lo z23#1 -/, (by omega) /- ix.hi z23#1 -/⟩, (by omega) /- ix.big z23#1 -/⟩) ?_
      refine wp_ck (z_ix_i.mpr ⟨⟨(by omega) /- ix.lo z23#2 -/, (by omega) /- ix.hi z23#2 -/⟩, (by omega) /- ix.big z23#2 -/⟩) ?_
      refine wp_bnd ?_
      refine wp_bndE (fun z29 hz29 => ?_)
      exact ih_B_X12_goesDay_60 _ _ ⟨(by omega) /- B_X12_goesDay_60.inv1#1 -/, (by omega) /- B_X12_goesDay_60.inv2#1 -/, (by intro j a b; rw [z_up_a]; split; rename_i e; rw [e]; exact i_B_X12_goesDay_60_3 j a (by omega)) /- B_X12_goesDay_60.inv3#1 -/, (by intro j a; rw [z_up_n _ _ (by omega)]; exact i_B_X12_goesDay_60_4 j (by omega)) /- B_X12_goesDay_60.inv4#1 -/⟩ (by omega) /- B_X12_goesDay_60.dec#1 -/
  ·
    refine wp_ck (z_ix_i.mpr ⟨⟨(by omega) /- ix.lo (((7 : Int) * x1) + z30)#1 -/, (by omega) /- ix.hi (((7 : Int) * x1) + z30)#1 -/⟩, (by omega) /- ix.big (((7 : Int) * x1) + z30)#1 -/⟩) ?_
    refine wp_ck (z_ix_i.mpr ⟨⟨(by omega) /- ix.lo z30#1 -/, (by omega) /- ix.hi z30#1 -/⟩, (by omega) /- ix.big z30#1 -/⟩) ?_
    refine wp_ck (z_ix_i.mpr ⟨⟨(by omega) /- ix.lo (v_p0_brings (((7 : Int) * x1) + z30))#1 -/, (by omega) /- ix.hi (v_p0_brings (((7 : Int) * x1) + z30))#1 -/⟩, (by omega) /- ix.big (v_p0_brings (((7 : Int) * x1) + z30))#1 -/⟩) ?_
    refine wp_bnd ?_
    refine wp_bndE (fun z36 hz36 => ?_)
    exact ih_B_X12_goesDay_22 _ _ ⟨(by omega) /- B_X12_goesDay_22.inv1#1 -/, (by omega) /- B_X12_goesDay_22.inv2#1 -/, (by 
                                        intro i a b
                                        by_cases e : i = z30
                                        · subst e; rw [z_up_s]
                                        · rw [z_up_n _ _ (fun h => e (hrow.2 i z30 a (by omega) (by omega) (by omega) h))]
                                          exact i_B_X12_goesDay_22_3 i a (by omega)) /- B_X12_goesDay_22.inv3#1 -/⟩ (by omega) /- B_X12_goesDay_22.dec#1 -/

set_option maxHeartbeats 1000000 in
theorem s_X12_day (i_p0_seats : Int) (i_p0_stirs : Int) (v_p0_st : (Int → Int)) (v_p0_brings : (Int → Int)) (v_p0_places : (Int → Int)) (v_p0_stirred : (Int → Int)) (x1 : Int) (h1 : -2147483648 ≤ x1) (h2 : x1 < 2147483648) (h3 : 2 ≤ i_p0_seats) (h4 : i_p0_seats ≤ 7) (h5 : 0 ≤ i_p0_stirs) (h6 : i_p0_stirs ≤ 5) (h7 : rowsM i_p0_seats i_p0_stirs v_p0_brings) (h8 : okM i_p0_seats v_p0_st) : wp (f_X12_day i_p0_seats i_p0_stirs v_p0_st v_p0_brings v_p0_places v_p0_stirred x1) (fun o => ((¬ (0 ≤ x1 ∧ x1 < i_p0_stirs) ∧ o.1 = -1 ∧ o.2.1 = v_p0_st) ∨ ((0 ≤ x1 ∧ x1 < i_p0_stirs) ∧ v_p0_st 30 = 999 ∧ o.1 = -3 ∧ o.2.1 = v_p0_st) ∨ ((0 ≤ x1 ∧ x1 < i_p0_stirs) ∧ v_p0_st 30 < 999 ∧ o.1 = o.2.1 8 ∧ (dayP i_p0_seats (fun i => v_p0_brings (7 * x1 + i)) (fun k => v_p0_st (9 + k)) (v_p0_st 7) (v_p0_st 8) (v_p0_st 30) (vw v_p0_st 0) (vw v_p0_st 23) (o.2.1 7) (o.2.1 8) (o.2.1 30) (vw o.2.1 0) (vw o.2.1 23)) ∧ (∀ j, ((9 ≤ j ∧ j < 23) ∨ 31 ≤ j) → o.2.1 j = v_p0_st j))) ∧ (okM i_p0_seats o.2.1)) := by
  unfold f_X12_day
  have ho1 := okM_1 h8
  refine wp_bd1 (s_X12_isStir _ _ (by omega) /- pre X12_isStir.1#1 -/ (by omega) /- pre X12_isStir.2#1 -/ (by omega) /- pre X12_isStir.3#1 -/ (by omega) /- pre X12_isStir.4#1 -/) (fun z1 q_X12_isStir_1 => ?_)
  try dsimp only at q_X12_isStir_1
  refine wp_ck (z_r32_i.mpr ⟨(by omega) /- z_r32.lo z1#1 -/, (by omega) /- z_r32.hi z1#1 -/⟩) ?_
  refine wp_if (fun c1 => ?_) (fun c1 => ?_)
  ·
    have hs3 : ¬ (0 ≤ x1 ∧ x1 < i_p0_stirs) := by split at q_X12_isStir_1 <;> omega
    clear q_X12_isStir_1
    refine wp_some ?_
    try dsimp only
    all_goals exact ⟨(by left; exact ⟨hs3, rfl, rfl⟩) /- post1#1 -/, (by exact h8) /- post2#1 -/⟩
  ·
    have hs3 : 0 ≤ x1 ∧ x1 < i_p0_stirs := by split at q_X12_isStir_1 <;> omega
    clear q_X12_isStir_1
    refine wp_ck (z_ix_i.mpr ⟨⟨(by omega) /- ix.lo (30 : Int)#1 -/, (by omega) /- ix.hi (30 : Int)#1 -/⟩, (by omega) /- ix.big (30 : Int)#1 -/⟩) ?_
    refine wp_ck (z_r32_i.mpr ⟨(by omega) /- z_r32.lo (v_p0_st (30 : Int))#1 -/, (by omega) /- z_r32.hi (v_p0_st (30 : Int))#1 -/⟩) ?_
    refine wp_if (fun c2 => ?_) (fun c2 => ?_)
    ·
      refine wp_some ?_
      try dsimp only
      all_goals exact ⟨(by right; left; exact ⟨hs3, by assumption, rfl, rfl⟩) /- post1#2 -/, (by exact h8) /- post2#2 -/⟩
    ·
      refine wp_bd3 (s_X12_goesDay _ _ _ _ _ _ i_p0_stirs (by omega) /- pre X12_goesDay.1#1 -/ (by omega) /- pre X12_goesDay.2#1 -/ (by omega) /- pre X12_goesDay.3#1 -/ (by omega) /- pre X12_goesDay.4#1 -/ (by exact h7) /- pre X12_goesDay.5#1 -/ (by omega) /- pre X12_goesDay.6#1 -/ (by omega) /- pre X12_goesDay.7#1 -/ (by omega) /- pre X12_goesDay.8#1 -/ (by omega) /- pre X12_goesDay.9#1 -/ (by omega) /- pre X12_goesDay.10#1 -/ (by omega) /- pre X12_goesDay.11#1 -/) (fun w4 w5 w6 q_X12_goesDay_1 => ?_)
      try dsimp only at q_X12_goesDay_1
      obtain ⟨q_X12_goesDay_1_1, q_X12_goesDay_1_2⟩ := q_X12_goesDay_1
      refine wp_ck (z_ix_i.mpr ⟨⟨(by omega) /- ix.lo (8 : Int)#1 -/, (by omega) /- ix.hi (8 : Int)#1 -/⟩, (by omega) /- ix.big (8 : Int)#1 -/⟩) ?_
      refine wp_some ?_
      try dsimp only
      all_goals exact ⟨(by right; right; exact ⟨hs3, by omega, rfl, q_X12_goesDay_1_1, q_X12_goesDay_1_2⟩) /- post1#3 -/, (by exact okM_day ⟨h3, h4⟩ (h7 x1 hs3.1 hs3.2) h8 (by omega) q_X12_goesDay_1_1 q_X12_goesDay_1_2) /- post2#3 -/⟩

set_option maxHeartbeats 1000000 in
theorem s_X12_torn (i_p0_torn : Int) : wp (f_X12_torn i_p0_torn) (fun o => (o = i_p0_torn)) := by
  unfold f_X12_torn
  refine wp_some ?_
  try dsimp only
  all_goals exact (by rfl) /- post1#1 -/
