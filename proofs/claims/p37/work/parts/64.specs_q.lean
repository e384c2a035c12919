theorem wp_jnP1 {α1 β : Type} {F : α1 → Option β} {k : (α1 → Option β) → Option β} {P : β → Prop} (I : α1 → Prop) (h1 : ∀ (x1 : α1), I x1 → wp (F x1) P) (h2 : ∀ J : α1 → Option β, (∀ (x1 : α1), I x1 → wp (J x1) P) → wp (k J) P) : wp (jn F k) P := h2 F h1
theorem wp_jnP2 {α1 α2 β : Type} {F : α1 → α2 → Option β} {k : (α1 → α2 → Option β) → Option β} {P : β → Prop} (I : α1 → α2 → Prop) (h1 : ∀ (x1 : α1) (x2 : α2), I x1 x2 → wp (F x1 x2) P) (h2 : ∀ J : α1 → α2 → Option β, (∀ (x1 : α1) (x2 : α2), I x1 x2 → wp (J x1 x2) P) → wp (k J) P) : wp (jn F k) P := h2 F h1
theorem wp_jnP3 {α1 α2 α3 β : Type} {F : α1 → α2 → α3 → Option β} {k : (α1 → α2 → α3 → Option β) → Option β} {P : β → Prop} (I : α1 → α2 → α3 → Prop) (h1 : ∀ (x1 : α1) (x2 : α2) (x3 : α3), I x1 x2 x3 → wp (F x1 x2 x3) P) (h2 : ∀ J : α1 → α2 → α3 → Option β, (∀ (x1 : α1) (x2 : α2) (x3 : α3), I x1 x2 x3 → wp (J x1 x2 x3) P) → wp (k J) P) : wp (jn F k) P := h2 F h1
theorem wp_jnP4 {α1 α2 α3 α4 β : Type} {F : α1 → α2 → α3 → α4 → Option β} {k : (α1 → α2 → α3 → α4 → Option β) → Option β} {P : β → Prop} (I : α1 → α2 → α3 → α4 → Prop) (h1 : ∀ (x1 : α1) (x2 : α2) (x3 : α3) (x4 : α4), I x1 x2 x3 x4 → wp (F x1 x2 x3 x4) P) (h2 : ∀ J : α1 → α2 → α3 → α4 → Option β, (∀ (x1 : α1) (x2 : α2) (x3 : α3) (x4 : α4), I x1 x2 x3 x4 → wp (J x1 x2 x3 x4) P) → wp (k J) P) : wp (jn F k) P := h2 F h1
theorem wp_jnP5 {α1 α2 α3 α4 α5 β : Type} {F : α1 → α2 → α3 → α4 → α5 → Option β} {k : (α1 → α2 → α3 → α4 → α5 → Option β) → Option β} {P : β → Prop} (I : α1 → α2 → α3 → α4 → α5 → Prop) (h1 : ∀ (x1 : α1) (x2 : α2) (x3 : α3) (x4 : α4) (x5 : α5), I x1 x2 x3 x4 x5 → wp (F x1 x2 x3 x4 x5) P) (h2 : ∀ J : α1 → α2 → α3 → α4 → α5 → Option β, (∀ (x1 : α1) (x2 : α2) (x3 : α3) (x4 : α4) (x5 : α5), I x1 x2 x3 x4 x5 → wp (J x1 x2 x3 x4 x5) P) → wp (k J) P) : wp (jn F k) P := h2 F h1
theorem wp_jnP6 {α1 α2 α3 α4 α5 α6 β : Type} {F : α1 → α2 → α3 → α4 → α5 → α6 → Option β} {k : (α1 → α2 → α3 → α4 → α5 → α6 → Option β) → Option β} {P : β → Prop} (I : α1 → α2 → α3 → α4 → α5 → α6 → Prop) (h1 : ∀ (x1 : α1) (x2 : α2) (x3 : α3) (x4 : α4) (x5 : α5) (x6 : α6), I x1 x2 x3 x4 x5 x6 → wp (F x1 x2 x3 x4 x5 x6) P) (h2 : ∀ J : α1 → α2 → α3 → α4 → α5 → α6 → Option β, (∀ (x1 : α1) (x2 : α2) (x3 : α3) (x4 : α4) (x5 : α5) (x6 : α6), I x1 x2 x3 x4 x5 x6 → wp (J x1 x2 x3 x4 x5 x6) P) → wp (k J) P) : wp (jn F k) P := h2 F h1
theorem wp_jnP7 {α1 α2 α3 α4 α5 α6 α7 β : Type} {F : α1 → α2 → α3 → α4 → α5 → α6 → α7 → Option β} {k : (α1 → α2 → α3 → α4 → α5 → α6 → α7 → Option β) → Option β} {P : β → Prop} (I : α1 → α2 → α3 → α4 → α5 → α6 → α7 → Prop) (h1 : ∀ (x1 : α1) (x2 : α2) (x3 : α3) (x4 : α4) (x5 : α5) (x6 : α6) (x7 : α7), I x1 x2 x3 x4 x5 x6 x7 → wp (F x1 x2 x3 x4 x5 x6 x7) P) (h2 : ∀ J : α1 → α2 → α3 → α4 → α5 → α6 → α7 → Option β, (∀ (x1 : α1) (x2 : α2) (x3 : α3) (x4 : α4) (x5 : α5) (x6 : α6) (x7 : α7), I x1 x2 x3 x4 x5 x6 x7 → wp (J x1 x2 x3 x4 x5 x6 x7) P) → wp (k J) P) : wp (jn F k) P := h2 F h1
theorem wp_jnP8 {α1 α2 α3 α4 α5 α6 α7 α8 β : Type} {F : α1 → α2 → α3 → α4 → α5 → α6 → α7 → α8 → Option β} {k : (α1 → α2 → α3 → α4 → α5 → α6 → α7 → α8 → Option β) → Option β} {P : β → Prop} (I : α1 → α2 → α3 → α4 → α5 → α6 → α7 → α8 → Prop) (h1 : ∀ (x1 : α1) (x2 : α2) (x3 : α3) (x4 : α4) (x5 : α5) (x6 : α6) (x7 : α7) (x8 : α8), I x1 x2 x3 x4 x5 x6 x7 x8 → wp (F x1 x2 x3 x4 x5 x6 x7 x8) P) (h2 : ∀ J : α1 → α2 → α3 → α4 → α5 → α6 → α7 → α8 → Option β, (∀ (x1 : α1) (x2 : α2) (x3 : α3) (x4 : α4) (x5 : α5) (x6 : α6) (x7 : α7) (x8 : α8), I x1 x2 x3 x4 x5 x6 x7 x8 → wp (J x1 x2 x3 x4 x5 x6 x7 x8) P) → wp (k J) P) : wp (jn F k) P := h2 F h1
theorem wp_jnP9 {α1 α2 α3 α4 α5 α6 α7 α8 α9 β : Type} {F : α1 → α2 → α3 → α4 → α5 → α6 → α7 → α8 → α9 → Option β} {k : (α1 → α2 → α3 → α4 → α5 → α6 → α7 → α8 → α9 → Option β) → Option β} {P : β → Prop} (I : α1 → α2 → α3 → α4 → α5 → α6 → α7 → α8 → α9 → Prop) (h1 : ∀ (x1 : α1) (x2 : α2) (x3 : α3) (x4 : α4) (x5 : α5) (x6 : α6) (x7 : α7) (x8 : α8) (x9 : α9), I x1 x2 x3 x4 x5 x6 x7 x8 x9 → wp (F x1 x2 x3 x4 x5 x6 x7 x8 x9) P) (h2 : ∀ J : α1 → α2 → α3 → α4 → α5 → α6 → α7 → α8 → α9 → Option β, (∀ (x1 : α1) (x2 : α2) (x3 : α3) (x4 : α4) (x5 : α5) (x6 : α6) (x7 : α7) (x8 : α8) (x9 : α9), I x1 x2 x3 x4 x5 x6 x7 x8 x9 → wp (J x1 x2 x3 x4 x5 x6 x7 x8 x9) P) → wp (k J) P) : wp (jn F k) P := h2 F h1
theorem rrdr_0 {dr nd dst : Int → Int} (h1 : ∀ j, 0 ≤ j → j < 38 → dr j = if 16 ≤ j ∧ j < 23 then 1 else 0) (h2 : ∀ j, 0 ≤ j → j < 7 → nd j = 0) : rrdr 4 0 (-4) nd dst dr := by
  refine ⟨by omega, by omega, by omega, ?_, ?_, fun j a b => by rw [h2 j a b]; omega, fun j a b => ?_, fun j a b => ?_, fun j a b => ?_, fun r a b => by omega⟩
  · rw [h1 7 (by omega) (by omega), if_neg (by omega)]; omega
  · rw [h1 8 (by omega) (by omega), if_neg (by omega)]; omega
  · rw [h1 j a (by omega), if_neg (by omega)]; omega
  · dsimp only; rw [h1 _ (by omega) (by omega), if_pos (by omega)]; omega
  · dsimp only; rw [h1 _ (by omega) (by omega), if_neg (by omega)]; omega
theorem tokI_first {t : Int → Int} {L wa pos2 frm2 so2 v2 fl2 wa2 : Int} (ht : ∀ j, 0 ≤ j → j < 320 → 0 ≤ t j ∧ t j ≤ 255) (hL : L ≤ 320) (h2 : (0 ≤ frm2 ∧ frm2 ≤ L) ∧ (∀ j, 0 ≤ j → j < frm2 → t j = 32) ∧ (frm2 < L → ¬ t frm2 = 32) ∧ tokr t L frm2 pos2 so2 v2 fl2 ∧ (wa2 = if fl2 = 0 then wa else frm2)) : tokI L pos2 frm2 so2 v2 fl2 wa2 := by
  obtain ⟨a1, a2, a3, a4, a5⟩ := h2
  obtain ⟨b1, b2, b3, b4, b5, b6⟩ := tokr_use ht (by omega) hL a1.2 a4
  refine ⟨by omega, b2, b3, by omega, ?_, b5, b6⟩
  intro h
  rw [if_neg h] at a5
  omega
set_option maxHeartbeats 4000000 in
theorem s_X12_readLineOf (i_p0_dSeats : Int) (i_p0_dStirs : Int) (i_p0_highest : Int) (i_p0_taped : Int) (i_p0_pos : Int) (i_p0_from : Int) (i_p0_sort : Int) (i_p0_value : Int) (i_p0_fault : Int) (i_p0_wrongAt : Int) (v_p0_draft : (Int → Int)) (v_p0_dStir : (Int → Int)) (v_p0_dNeed : (Int → Int)) (v_p0_tape : (Int → Int)) (x1 : Int) (B : Int → Int) (P : Int) (D : Int → Int) (h1 : 0 ≤ i_p0_taped) (h2 : i_p0_taped ≤ 320) (h3 : ∀ j, 0 ≤ j → j < 320 → 0 ≤ v_p0_tape j ∧ v_p0_tape j ≤ 255) (h4 : tokI i_p0_taped i_p0_pos i_p0_from i_p0_sort i_p0_value i_p0_fault i_p0_wrongAt) (h5 : -4 ≤ i_p0_highest) (h6 : i_p0_highest ≤ 6) (h7 : rrdr i_p0_dSeats i_p0_dStirs i_p0_highest v_p0_dNeed v_p0_dStir v_p0_draft) (h8 : 0 ≤ x1) (h9 : x1 ≤ 10) (h10 : x1 ≤ 3 → i_p0_dStirs < 5) (h11 : i_p0_fault = 0) (h12 : bR B v_p0_tape i_p0_taped) (h13 : cur B i_p0_taped P i_p0_pos i_p0_from i_p0_sort i_p0_value) (h14 : rrel D i_p0_dSeats i_p0_dStirs i_p0_highest v_p0_dNeed v_p0_dStir v_p0_draft) : wp (f_X12_readLineOf i_p0_dSeats i_p0_dStirs i_p0_highest i_p0_taped i_p0_pos i_p0_from i_p0_sort i_p0_value i_p0_fault i_p0_wrongAt v_p0_draft v_p0_dStir v_p0_dNeed v_p0_tape x1) (fun o => (tokI i_p0_taped o.2.2.2.1 o.2.2.2.2.1 o.2.2.2.2.2.1 o.2.2.2.2.2.2.1 o.2.2.2.2.2.2.2.1 o.2.2.2.2.2.2.2.2.1) ∧ (i_p0_from ≤ o.2.2.2.2.1) ∧ (-4 ≤ o.2.2.1 ∧ o.2.2.1 ≤ 6) ∧ (0 ≤ o.2.1 ∧ o.2.1 ≤ 5) ∧ (o.2.2.2.2.2.2.2.1 = 0 → rrdr o.1 o.2.1 o.2.2.1 o.2.2.2.2.2.2.2.2.2.2.2 o.2.2.2.2.2.2.2.2.2.2.1 o.2.2.2.2.2.2.2.2.2.1) ∧ (∀ j, 23 ≤ j → o.2.2.2.2.2.2.2.2.2.1 j = v_p0_draft j) ∧ (Hid (∃ c, (o.2.2.2.2.2.2.2.1 = 0 → lnC B i_p0_taped P (cnm x1) D c ∧ z_T 0 (cnm x1) ≤ c ∧ cur B i_p0_taped (PP B i_p0_taped P c) o.2.2.2.1 o.2.2.2.2.1 o.2.2.2.2.2.1 o.2.2.2.2.2.2.1 ∧ rrel (tak B i_p0_taped P (cnm x1) c D) o.1 o.2.1 o.2.2.1 o.2.2.2.2.2.2.2.2.2.2.2 o.2.2.2.2.2.2.2.2.2.2.1 o.2.2.2.2.2.2.2.2.2.1) ∧ (¬ o.2.2.2.2.2.2.2.1 = 0 → lnW B i_p0_taped P (cnm x1) D o.2.2.2.2.2.2.2.2.1)))) := by
  unfold f_X12_readLineOf
  have hs2 := h7.2.1
  refine wp_ck (z_r32_i.mpr ⟨(by omega) /- z_r32.lo x1#1 -/, (by omega) /- z_r32.hi x1#1 -/⟩) ?_
  refine wp_if (fun c1 => ?_) (fun c1 => ?_)
  ·
    refine wp_bd7 (s_X12_readNumber _ _ _ _ _ _ _ _ _ _ B P (by omega) /- pre X12_readNumber.1#1 -/ (by omega) /- pre X12_readNumber.2#1 -/ (by exact h3) /- pre X12_readNumber.3#1 -/ (by first | exact h4 | exact q_X12_readPlace_3_1 | exact q_X12_readPlace_4_1) /- pre X12_readNumber.4#1 -/ (by omega) /- pre X12_readNumber.5#1 -/ (by omega) /- pre X12_readNumber.6#1 -/ (by omega) /- pre X12_readNumber.7#1 -/ (by omega) /- pre X12_readNumber.8#1 -/ (by exact h12) /- pre X12_readNumber.9#1 -/ (by exact fun _ => h13) /- pre X12_readNumber.10#1 -/) (fun z3 z4 z5 z6 z7 z8 z9 q_X12_readNumber_1 => ?_)
    try dsimp only at q_X12_readNumber_1
    obtain ⟨q_X12_readNumber_1_1, q_X12_readNumber_1_2, q_X12_readNumber_1_3, q_X12_readNumber_1_4, q_X12_readNumber_1_5⟩ := q_X12_readNumber_1
    refine wp_bnd ?_
    refine wp_some ?_
    try dsimp only
    all_goals exact ⟨(by first | exact q_X12_readNumber_1_1 | exact q_X12_readPot_1_1 | exact q_X12_readPlace_1_1 | exact q_X12_readPlace_2_1 | exact q_X12_readFriend_1_1 | exact q_X12_readNumber_2_1 | exact q_X12_readNumber_3_1 | exact q_X12_readStir_1_1) /- post1#1 -/, (by omega) /- post2#1 -/, (by omega) /- post3#1 -/, (by omega) /- post4#1 -/, (by intro h; exact rrdr_n h7 (by have := q_X12_readNumber_1_4 h; omega)) /- post5#1 -/, (by intro j _; rfl) /- post6#1 -/, (by 
                                        unfold Hid
                                        rw [show cnm x1 = 0 from by rw [c1]; rfl]
                                        obtain ⟨g1, g2⟩ := RQ_a (nm := 0) (D := D) h13 q_X12_readNumber_1_5 h11 rfl rfl (by decide) (by decide)
                                        refine ⟨1, fun z => ?_, RQ_w g1⟩
                                        obtain ⟨k1, k2, k3⟩ := RQ_z g1 (by omega) rfl rfl z
                                        refine ⟨k1, k2, k3, ?_⟩
                                        exact rrel_seats h14 (g2 z)) /- post7#1 -/⟩
  ·
    refine wp_if (fun c2 => ?_) (fun c2 => ?_)
    ·
      refine wp_bd8 (s_X12_readPot _ _ _ _ _ _ _ _ _ _ B P D (by omega) /- pre X12_readPot.1#1 -/ (by omega) /- pre X12_readPot.2#1 -/ (by exact h3) /- pre X12_readPot.3#1 -/ (by first | exact h4 | exact q_X12_readPlace_3_1 | exact q_X12_readPlace_4_1) /- pre X12_readPot.4#1 -/ (by omega) /- pre X12_readPot.5#1 -/ (by omega) /- pre X12_readPot.6#1 -/ (by exact h7.2.2.2.2.2.2.1) /- pre X12_readPot.7#1 -/ (by exact h12) /- pre X12_readPot.8#1 -/ (by exact h11) /- pre X12_readPot.9#1 -/ (by exact h13) /- pre X12_readPot.10#1 -/) (fun z12 z13 z14 z15 z16 z17 z18 w19 q_X12_readPot_1 => ?_)
      try dsimp only at q_X12_readPot_1
      obtain ⟨q_X12_readPot_1_1, q_X12_readPot_1_2, q_X12_readPot_1_3, q_X12_readPot_1_4, q_X12_readPot_1_5, q_X12_readPot_1_6⟩ := q_X12_readPot_1
      refine wp_some ?_
      try dsimp only
      all_goals exact ⟨(by first | exact q_X12_readNumber_1_1 | exact q_X12_readPot_1_1 | exact q_X12_readPlace_1_1 | exact q_X12_readPlace_2_1 | exact q_X12_readFriend_1_1 | exact q_X12_readNumber_2_1 | exact q_X12_readNumber_3_1 | exact q_X12_readStir_1_1) /- post1#2 -/, (by omega) /- post2#2 -/, (by omega) /- post3#2 -/, (by omega) /- post4#2 -/, (by intro _; exact rrdr_pt (rrdr_h h7 q_X12_readPot_1_3.1 q_X12_readPot_1_3.2) q_X12_readPot_1_4 q_X12_readPot_1_5) /- post5#2 -/, (by intro j a; exact q_X12_readPot_1_5 j (by omega)) /- post6#2 -/, (by 
                                        unfold Hid
                                        rw [show cnm x1 = 1 from by rw [c2]; rfl]
                                        obtain ⟨c, hc, g1, g2⟩ := hid q_X12_readPot_1_6
                                        refine ⟨c, fun z => ?_, RQ_w g1⟩
                                        obtain ⟨k1, k2, k3, k4, k5⟩ := g2 z
                                        rcases g1 with ⟨_, m1, m2⟩ | ⟨m1, _⟩
                                        · exact ⟨⟨hc.1, m1, fun y => k2 (by rw [m2.2.2.1]; exact y.1)⟩, k1, m2, rrel_pot h14 k1 hc.2 k3 k4 k5⟩
                                        · exact absurd z m1) /- post7#2 -/⟩
    ·
      refine wp_if (fun c3 => ?_) (fun c3 => ?_)
      ·
        refine wp_bd8 (s_X12_readPlace _ _ _ _ _ _ _ _ _ B P (by omega) /- pre X12_readPlace.1#1 -/ (by omega) /- pre X12_readPlace.2#1 -/ (by exact h3) /- pre X12_readPlace.3#1 -/ (by first | exact h4 | exact q_X12_readPlace_3_1 | exact q_X12_readPlace_4_1) /- pre X12_readPlace.4#1 -/ (by omega) /- pre X12_readPlace.5#1 -/ (by omega) /- pre X12_readPlace.6#1 -/ (by exact h12) /- pre X12_readPlace.7#1 -/ (by exact fun _ => h13) /- pre X12_readPlace.8#1 -/) (fun z21 z22 z23 z24 z25 z26 z27 z28 q_X12_readPlace_1 => ?_)
        try dsimp only at q_X12_readPlace_1
        obtain ⟨q_X12_readPlace_1_1, q_X12_readPlace_1_2, q_X12_readPlace_1_3, q_X12_readPlace_1_4, q_X12_readPlace_1_5, q_X12_readPlace_1_6⟩ := q_X12_readPlace_1
        refine wp_ck (z_ix_i.mpr ⟨⟨(by omega) /- ix.lo (7 : Int)#1 -/, (by omega) /- ix.hi (7 : Int)#1 -/⟩, (by omega) /- ix.big (7 : Int)#1 -/⟩) ?_
        refine wp_bnd ?_
        refine wp_some ?_
        try dsimp only
        all_goals exact ⟨(by exact q_X12_readPlace_1_1) /- post1#3 -/, (by omega) /- post2#3 -/, (by omega) /- post3#3 -/, (by omega) /- post4#3 -/, (by intro _; exact rrdr_b (rrdr_h h7 (by omega) (by omega)) (by omega) (by omega)) /- post5#3 -/, (by intro j a; rw [z_up_n _ _ (by omega)]) /- post6#3 -/, (by 
                                        unfold Hid
                                        rw [show cnm x1 = 2 from by rw [c3]; rfl]
                                        obtain ⟨g1, g2⟩ := RQ_a (nm := 2) (D := D) h13 q_X12_readPlace_1_6 h11 rfl rfl (by decide) (by decide)
                                        refine ⟨1, fun z => ?_, RQ_w g1⟩
                                        obtain ⟨k1, k2, k3⟩ := RQ_z g1 (by omega) rfl rfl z
                                        refine ⟨k1, k2, k3, ?_⟩
                                        rw [q_X12_readPlace_1_4]; exact rrel_bone h14 (g2 z)) /- post7#3 -/⟩
      ·
        refine wp_if (fun c4 => ?_) (fun c4 => ?_)
        ·
          refine wp_bd8 (s_X12_readPlace _ _ _ _ _ _ _ _ _ B P (by omega) /- pre X12_readPlace.1#2 -/ (by omega) /- pre X12_readPlace.2#2 -/ (by exact h3) /- pre X12_readPlace.3#2 -/ (by first | exact h4 | exact q_X12_readPlace_3_1 | exact q_X12_readPlace_4_1) /- pre X12_readPlace.4#2 -/ (by omega) /- pre X12_readPlace.5#2 -/ (by omega) /- pre X12_readPlace.6#2 -/ (by exact h12) /- pre X12_readPlace.7#2 -/ (by exact fun _ => h13) /- pre X12_readPlace.8#2 -/) (fun z31 z32 z33 z34 z35 z36 z37 z38 q_X12_readPlace_2 => ?_)
          try dsimp only at q_X12_readPlace_2
          obtain ⟨q_X12_readPlace_2_1, q_X12_readPlace_2_2, q_X12_readPlace_2_3, q_X12_readPlace_2_4, q_X12_readPlace_2_5, q_X12_readPlace_2_6⟩ := q_X12_readPlace_2
          refine wp_ck (z_ix_i.mpr ⟨⟨(by omega) /- ix.lo (8 : Int)#1 -/, (by omega) /- ix.hi (8 : Int)#1 -/⟩, (by omega) /- ix.big (8 : Int)#1 -/⟩) ?_
          refine wp_bnd ?_
          refine wp_some ?_
          try dsimp only
          all_goals exact ⟨(by exact q_X12_readPlace_2_1) /- post1#4 -/, (by omega) /- post2#4 -/, (by omega) /- post3#4 -/, (by omega) /- post4#4 -/, (by intro _; exact rrdr_k (rrdr_h h7 (by omega) (by omega)) (by omega) (by omega)) /- post5#4 -/, (by intro j a; rw [z_up_n _ _ (by omega)]) /- post6#4 -/, (by 
                                        unfold Hid
                                        rw [show cnm x1 = 3 from by rw [c4]; rfl]
                                        obtain ⟨g1, g2⟩ := RQ_a (nm := 3) (D := D) h13 q_X12_readPlace_2_6 h11 rfl rfl (by decide) (by decide)
                                        refine ⟨1, fun z => ?_, RQ_w g1⟩
                                        obtain ⟨k1, k2, k3⟩ := RQ_z g1 (by omega) rfl rfl z
                                        refine ⟨k1, k2, k3, ?_⟩
                                        rw [q_X12_readPlace_2_4]; exact rrel_king h14 (g2 z)) /- post7#4 -/⟩
        ·
          refine wp_if (fun c5 => ?_) (fun c5 => ?_)
          ·
            refine wp_bd8 (s_X12_readFriend _ _ _ _ _ _ _ _ _ _ B P (by omega) /- pre X12_readFriend.1#1 -/ (by omega) /- pre X12_readFriend.2#1 -/ (by exact h3) /- pre X12_readFriend.3#1 -/ (by first | exact h4 | exact q_X12_readPlace_3_1 | exact q_X12_readPlace_4_1) /- pre X12_readFriend.4#1 -/ (by omega) /- pre X12_readFriend.5#1 -/ (by omega) /- pre X12_readFriend.6#1 -/ (by exact h7.2.2.2.2.2.2.2.2.1) /- pre X12_readFriend.7#1 -/ (by exact h12) /- pre X12_readFriend.8#1 -/ (by exact fun _ => h13) /- pre X12_readFriend.9#1 -/) (fun z41 z42 z43 z44 z45 z46 z47 w48 q_X12_readFriend_1 => ?_)
            try dsimp only at q_X12_readFriend_1
            obtain ⟨q_X12_readFriend_1_1, q_X12_readFriend_1_2, q_X12_readFriend_1_3, q_X12_readFriend_1_4, q_X12_readFriend_1_5⟩ := q_X12_readFriend_1
            refine wp_some ?_
            try dsimp only
            all_goals exact ⟨(by first | exact q_X12_readNumber_1_1 | exact q_X12_readPot_1_1 | exact q_X12_readPlace_1_1 | exact q_X12_readPlace_2_1 | exact q_X12_readFriend_1_1 | exact q_X12_readNumber_2_1 | exact q_X12_readNumber_3_1 | exact q_X12_readStir_1_1) /- post1#5 -/, (by omega) /- post2#5 -/, (by omega) /- post3#5 -/, (by omega) /- post4#5 -/, (by intro _; obtain ⟨p, x, hp, hx, e⟩ := q_X12_readFriend_1_4; rw [e]; exact rrdr_fr (rrdr_h h7 q_X12_readFriend_1_3.1 q_X12_readFriend_1_3.2) hp.1 hp.2 hx.1 hx.2) /- post5#5 -/, (by obtain ⟨p, x, hp, hx, e⟩ := q_X12_readFriend_1_4; rw [e]; intro j a; rw [z_up_n _ _ (by omega)]) /- post6#5 -/, (by 
                                        unfold Hid
                                        rw [show cnm x1 = 4 from by rw [c5]; rfl]
                                        obtain ⟨r1, r2, pos1, frm1, so1, v1, fl1, wa1, k1, k2, k3, k4, k5⟩ := hid q_X12_readFriend_1_5
                                        obtain ⟨g1, g2⟩ := RQ_a (nm := 4) (D := D) h13 k1 h11 rfl rfl (by decide) (by decide)
                                        obtain ⟨G1, G2⟩ := RQ_c g1 k2 (Or.inl rfl) (fun e => by
                                          have e1 := g2 e
                                          rw [agn4]
                                          try dsimp only
                                          rw [PP_0, ← e1, h14.2.2.2.2.2.2.2.1 r1 k5.1 (by omega)])
                                        refine ⟨2, fun z => ?_, RQ_w G1⟩
                                        obtain ⟨m1, m2, m3⟩ := RQ_z G1 (by omega) rfl rfl z
                                        obtain ⟨y1, y2⟩ := G2 z
                                        refine ⟨m1, m2, m3, ?_⟩
                                        rw [k3, k4]
                                        exact rrel_friend h14 (g2 y1) y2 k5.1 k5.2) /- post7#5 -/⟩
          ·
            refine wp_if (fun c6 => ?_) (fun c6 => ?_)
            ·
              refine wp_bd8 (s_X12_readPlace _ _ _ _ _ _ _ _ _ B P (by omega) /- pre X12_readPlace.1#3 -/ (by omega) /- pre X12_readPlace.2#3 -/ (by exact h3) /- pre X12_readPlace.3#3 -/ (by first | exact h4 | exact q_X12_readPlace_3_1 | exact q_X12_readPlace_4_1) /- pre X12_readPlace.4#3 -/ (by omega) /- pre X12_readPlace.5#3 -/ (by omega) /- pre X12_readPlace.6#3 -/ (by exact h12) /- pre X12_readPlace.7#3 -/ (by exact fun _ => h13) /- pre X12_readPlace.8#3 -/) (fun z50 z51 z52 z53 z54 z55 z56 z57 q_X12_readPlace_3 => ?_)
              try dsimp only at q_X12_readPlace_3
              obtain ⟨q_X12_readPlace_3_1, q_X12_readPlace_3_2, q_X12_readPlace_3_3, q_X12_readPlace_3_4, q_X12_readPlace_3_5, q_X12_readPlace_3_6⟩ := q_X12_readPlace_3
              refine wp_bnd ?_
              refine wp_bd7 (s_X12_readNumber _ _ _ _ _ _ _ _ _ _ B (tA B i_p0_taped P) (by omega) /- pre X12_readNumber.1#2 -/ (by omega) /- pre X12_readNumber.2#2 -/ (by exact h3) /- pre X12_readNumber.3#2 -/ (by first | exact h4 | exact q_X12_readPlace_3_1 | exact q_X12_readPlace_4_1) /- pre X12_readNumber.4#2 -/ (by omega) /- pre X12_readNumber.5#2 -/ (by omega) /- pre X12_readNumber.6#2 -/ (by omega) /- pre X12_readNumber.7#2 -/ (by omega) /- pre X12_readNumber.8#2 -/ (by exact h12) /- pre X12_readNumber.9#2 -/ (by exact fun e => (rdE_cur q_X12_readPlace_3_6 e).2.2.2) /- pre X12_readNumber.10#2 -/) (fun z59 z60 z61 z62 z63 z64 z65 q_X12_readNumber_2 => ?_)
              try dsimp only at q_X12_readNumber_2
              obtain ⟨q_X12_readNumber_2_1, q_X12_readNumber_2_2, q_X12_readNumber_2_3, q_X12_readNumber_2_4, q_X12_readNumber_2_5⟩ := q_X12_readNumber_2
              refine wp_ck (z_ix_i.mpr ⟨⟨(by omega) /- ix.lo ((16 : Int) + z58)#1 -/, (by omega) /- ix.hi ((16 : Int) + z58)#1 -/⟩, (by omega) /- ix.big ((16 : Int) + z58)#1 -/⟩) ?_
              refine wp_bnd ?_
              refine wp_some ?_
              try dsimp only
              all_goals exact ⟨(by exact q_X12_readNumber_2_1) /- post1#6 -/, (by omega) /- post2#6 -/, (by omega) /- post3#6 -/, (by omega) /- post4#6 -/, (by intro h; have := q_X12_readNumber_2_4 h; exact rrdr_sp (rrdr_h h7 (by omega) (by omega)) (by omega) (by omega) (by omega) (by omega)) /- post5#6 -/, (by intro j a; rw [z_up_n _ _ (by omega)]) /- post6#6 -/, (by 
                                        unfold Hid
                                        rw [show cnm x1 = 5 from by rw [c6]; rfl]
                                        obtain ⟨g1, g2⟩ := RQ_a (nm := 5) (D := D) h13 q_X12_readPlace_3_6 h11 rfl rfl (by decide) (by decide)
                                        obtain ⟨G1, G2⟩ := RQ_b g1 q_X12_readNumber_2_5 rfl rfl (by decide) (by decide) (by decide)
                                        refine ⟨2, fun z => ?_, RQ_w G1⟩
                                        obtain ⟨m1, m2, m3⟩ := RQ_z G1 (by omega) rfl rfl z
                                        obtain ⟨y1, y2⟩ := G2 z
                                        refine ⟨m1, m2, m3, ?_⟩
                                        rw [q_X12_readPlace_3_4]
                                        exact rrel_spoons h14 (g2 y1) y2 (by omega) (by omega)) /- post7#6 -/⟩
            ·
              refine wp_if (fun c7 => ?_) (fun c7 => ?_)
              ·
                refine wp_bd8 (s_X12_readPlace _ _ _ _ _ _ _ _ _ B P (by omega) /- pre X12_readPlace.1#4 -/ (by omega) /- pre X12_readPlace.2#4 -/ (by exact h3) /- pre X12_readPlace.3#4 -/ (by first | exact h4 | exact q_X12_readPlace_3_1 | exact q_X12_readPlace_4_1) /- pre X12_readPlace.4#4 -/ (by omega) /- pre X12_readPlace.5#4 -/ (by omega) /- pre X12_readPlace.6#4 -/ (by exact h12) /- pre X12_readPlace.7#4 -/ (by exact fun _ => h13) /- pre X12_readPlace.8#4 -/) (fun z68 z69 z70 z71 z72 z73 z74 z75 q_X12_readPlace_4 => ?_)
                try dsimp only at q_X12_readPlace_4
                obtain ⟨q_X12_readPlace_4_1, q_X12_readPlace_4_2, q_X12_readPlace_4_3, q_X12_readPlace_4_4, q_X12_readPlace_4_5, q_X12_readPlace_4_6⟩ := q_X12_readPlace_4
                refine wp_bnd ?_
                refine wp_bd7 (s_X12_readNumber _ _ _ _ _ _ _ _ _ _ B (tA B i_p0_taped P) (by omega) /- pre X12_readNumber.1#3 -/ (by omega) /- pre X12_readNumber.2#3 -/ (by exact h3) /- pre X12_readNumber.3#3 -/ (by first | exact h4 | exact q_X12_readPlace_3_1 | exact q_X12_readPlace_4_1) /- pre X12_readNumber.4#3 -/ (by omega) /- pre X12_readNumber.5#3 -/ (by omega) /- pre X12_readNumber.6#3 -/ (by omega) /- pre X12_readNumber.7#3 -/ (by omega) /- pre X12_readNumber.8#3 -/ (by exact h12) /- pre X12_readNumber.9#3 -/ (by exact fun e => (rdE_cur q_X12_readPlace_4_6 e).2.2.2) /- pre X12_readNumber.10#3 -/) (fun z77 z78 z79 z80 z81 z82 z83 q_X12_readNumber_3 => ?_)
                try dsimp only at q_X12_readNumber_3
                obtain ⟨q_X12_readNumber_3_1, q_X12_readNumber_3_2, q_X12_readNumber_3_3, q_X12_readNumber_3_4, q_X12_readNumber_3_5⟩ := q_X12_readNumber_3
                refine wp_ck (z_ix_i.mpr ⟨⟨(by omega) /- ix.lo z76#1 -/, (by omega) /- ix.hi z76#1 -/⟩, (by omega) /- ix.big z76#1 -/⟩) ?_
                refine wp_bnd ?_
                refine wp_some ?_
                try dsimp only
                all_goals exact ⟨(by exact q_X12_readNumber_3_1) /- post1#7 -/, (by omega) /- post2#7 -/, (by omega) /- post3#7 -/, (by omega) /- post4#7 -/, (by intro h; have := q_X12_readNumber_3_4 h; exact rrdr_nd (rrdr_h h7 (by omega) (by omega)) (by omega) (by omega)) /- post5#7 -/, (by intro j _; rfl) /- post6#7 -/, (by 
                                        unfold Hid
                                        rw [show cnm x1 = 6 from by rw [c7]; rfl]
                                        obtain ⟨g1, g2⟩ := RQ_a (nm := 6) (D := D) h13 q_X12_readPlace_4_6 h11 rfl rfl (by decide) (by decide)
                                        obtain ⟨G1, G2⟩ := RQ_b g1 q_X12_readNumber_3_5 rfl rfl (by decide) (by decide) (by decide)
                                        refine ⟨2, fun z => ?_, RQ_w G1⟩
                                        obtain ⟨m1, m2, m3⟩ := RQ_z G1 (by omega) rfl rfl z
                                        obtain ⟨y1, y2⟩ := G2 z
                                        refine ⟨m1, m2, m3, ?_⟩
                                        rw [q_X12_readPlace_4_4]
                                        exact rrel_need h14 (g2 y1) y2) /- post7#7 -/⟩
              ·
                refine wp_bd9 (s_X12_readStir _ _ _ _ _ _ _ _ _ _ _ _ B P (by omega) /- pre X12_readStir.1#1 -/ (by omega) /- pre X12_readStir.2#1 -/ (by exact h3) /- pre X12_readStir.3#1 -/ (by first | exact h4 | exact q_X12_readPlace_3_1 | exact q_X12_readPlace_4_1) /- pre X12_readStir.4#1 -/ (by omega) /- pre X12_readStir.5#1 -/ (by omega) /- pre X12_readStir.6#1 -/ (by omega) /- pre X12_readStir.7#1 -/ (by omega) /- pre X12_readStir.8#1 -/ (by omega) /- pre X12_readStir.9#1 -/ (by omega) /- pre X12_readStir.10#1 -/ (by exact h12) /- pre X12_readStir.11#1 -/ (by exact h11) /- pre X12_readStir.12#1 -/ (by exact h13) /- pre X12_readStir.13#1 -/) (fun z85 z86 z87 z88 z89 z90 z91 z92 w93 q_X12_readStir_1 => ?_)
                try dsimp only at q_X12_readStir_1
                obtain ⟨q_X12_readStir_1_1, q_X12_readStir_1_2, q_X12_readStir_1_3, q_X12_readStir_1_4, q_X12_readStir_1_5, q_X12_readStir_1_6, q_X12_readStir_1_7, q_X12_readStir_1_8, q_X12_readStir_1_9, q_X12_readStir_1_10, q_X12_readStir_1_11⟩ := q_X12_readStir_1
                refine wp_some ?_
                try dsimp only
                all_goals exact ⟨(by first | exact q_X12_readNumber_1_1 | exact q_X12_readPot_1_1 | exact q_X12_readPlace_1_1 | exact q_X12_readPlace_2_1 | exact q_X12_readFriend_1_1 | exact q_X12_readNumber_2_1 | exact q_X12_readNumber_3_1 | exact q_X12_readStir_1_1) /- post1#8 -/, (by omega) /- post2#8 -/, (by omega) /- post3#8 -/, (by omega) /- post4#8 -/, (by intro h; rw [q_X12_readStir_1_4]; exact rrdr_st (rrdr_h h7 q_X12_readStir_1_3.1 q_X12_readStir_1_3.2) (by omega) (q_X12_readStir_1_6 h) q_X12_readStir_1_5) /- post5#8 -/, (by intro j _; rfl) /- post6#8 -/, (by 
                                        unfold Hid
                                        have hx3 : x1 = 0 ∨ x1 = 1 ∨ x1 = 2 ∨ x1 = 3 := by omega
                                        have hs0 := h7.2.1.1
                                        have h2c := h14.2.2.1
                                        rw [q_X12_readStir_1_4]
                                        rcases hx3 with e | e | e | e
                                        · rw [show cnm x1 = 7 from by rw [e]; rfl]
                                          obtain ⟨k1, k2, k3⟩ := hid q_X12_readStir_1_8 e
                                          obtain ⟨g1, g2⟩ := RQ_a (nm := 7) (D := D) h13 k1 h11 rfl rfl (by decide) (by decide)
                                          refine ⟨1, fun z => ?_, RQ_w g1⟩
                                          obtain ⟨m1, m2, m3⟩ := RQ_z g1 (by omega) rfl rfl z
                                          exact ⟨m1, m2, m3, rrel_stir h14 (by omega) hs0 q_X12_readStir_1_5 (by rw [q_X12_readStir_1_7]; omega) (g2 z) k2 (by rw [k3]; exact h2c)⟩
                                        · rw [show cnm x1 = 8 from by rw [e]; rfl]
                                          obtain ⟨k1, k2, k3, k4, k5⟩ := hid q_X12_readStir_1_9 e
                                          refine ⟨0, fun z => ?_, fun z => absurd k2 z⟩
                                          exact ⟨⟨by omega, fun j a b => by omega, fun y => by have : (0 : Int) < 0 := y.2.1; omega⟩, Int.le_refl 0, k1, rrel_stir h14 (by omega) hs0 q_X12_readStir_1_5 (by rw [q_X12_readStir_1_7]; omega) k3 k4 (by rw [k5]; exact h2c)⟩
                                        · rw [show cnm x1 = 9 from by rw [e]; rfl]
                                          obtain ⟨pos1, frm1, so1, v1, fl1, wa1, k1, k2, k3⟩ := hid q_X12_readStir_1_10 e
                                          obtain ⟨g1, g2⟩ := RQ_a (nm := 9) (D := D) h13 k1 h11 rfl rfl (by decide) (by decide)
                                          obtain ⟨G1, G2⟩ := RQ_c g1 k2 (Or.inr rfl) (fun e => by
                                            have e1 := g2 e
                                            rw [agn9]
                                            try dsimp only
                                            rw [PP_0, ← e1])
                                          refine ⟨2, fun z => ?_, RQ_w G1⟩
                                          obtain ⟨m1, m2, m3⟩ := RQ_z G1 (by omega) rfl rfl z
                                          obtain ⟨y1, y2⟩ := G2 z
                                          exact ⟨m1, m2, m3, rrel_stir h14 (by omega) hs0 q_X12_readStir_1_5 (by rw [q_X12_readStir_1_7]; omega) (g2 y1) y2 (by rw [k3, g2 y1, y2]; show _ = max (D 2) (max (tV B i_p0_taped P) (tV B i_p0_taped (tA B i_p0_taped P))); omega)⟩
                                        · rw [show cnm x1 = 10 from by rw [e]; rfl]
                                          obtain ⟨k1, k2, k3⟩ := hid q_X12_readStir_1_11 e
                                          obtain ⟨g1, g2⟩ := RQ_a (nm := 10) (D := D) h13 k1 h11 rfl rfl (by decide) (by decide)
                                          refine ⟨1, fun z => ?_, RQ_w g1⟩
                                          obtain ⟨m1, m2, m3⟩ := RQ_z g1 (by omega) rfl rfl z
                                          exact ⟨m1, m2, m3, rrel_stir h14 (by omega) hs0 q_X12_readStir_1_5 (by rw [q_X12_readStir_1_7]; omega) (g2 z) k2 (by rw [k3, g2 z]; show _ = max (D 2) (tV B i_p0_taped P); omega)⟩) /- post7#8 -/⟩

set_option maxHeartbeats 16000000 in
theorem s_X12_readLine (i_p0_dSeats : Int) (i_p0_dStirs : Int) (i_p0_told : Int) (i_p0_highest : Int) (i_p0_taped : Int) (i_p0_pos : Int) (i_p0_from : Int) (i_p0_sort : Int) (i_p0_value : Int) (i_p0_fault : Int) (i_p0_wrongAt : Int) (v_p0_draft : (Int → Int)) (v_p0_dStir : (Int → Int)) (v_p0_dNeed : (Int → Int)) (v_p0_tape : (Int → Int)) (B : Int → Int) (P : Int) (D : Int → Int) (h1 : 0 ≤ i_p0_taped) (h2 : i_p0_taped ≤ 320) (h3 : ∀ j, 0 ≤ j → j < 320 → 0 ≤ v_p0_tape j ∧ v_p0_tape j ≤ 255) (h4 : tokI i_p0_taped i_p0_pos i_p0_from i_p0_sort i_p0_value i_p0_fault i_p0_wrongAt) (h5 : -4 ≤ i_p0_highest) (h6 : i_p0_highest ≤ 6) (h7 : rrdr i_p0_dSeats i_p0_dStirs i_p0_highest v_p0_dNeed v_p0_dStir v_p0_draft) (h8 : i_p0_fault = 0) (h9 : ¬ i_p0_sort = 0) (h10 : bR B v_p0_tape i_p0_taped) (h11 : cur B i_p0_taped P i_p0_pos i_p0_from i_p0_sort i_p0_value) (h12 : rrel D i_p0_dSeats i_p0_dStirs i_p0_highest v_p0_dNeed v_p0_dStir v_p0_draft) (h13 : mrel D i_p0_told 4) : wp (f_X12_readLine i_p0_dSeats i_p0_dStirs i_p0_told i_p0_highest i_p0_taped i_p0_pos i_p0_from i_p0_sort i_p0_value i_p0_fault i_p0_wrongAt v_p0_draft v_p0_dStir v_p0_dNeed v_p0_tape) (fun o => (tokI i_p0_taped o.2.2.2.2.1 o.2.2.2.2.2.1 o.2.2.2.2.2.2.1 o.2.2.2.2.2.2.2.1 o.2.2.2.2.2.2.2.2.1 o.2.2.2.2.2.2.2.2.2.1) ∧ (o.2.2.2.2.2.2.2.2.1 = 0 → i_p0_from < o.2.2.2.2.2.1) ∧ (-4 ≤ o.2.2.2.1 ∧ o.2.2.2.1 ≤ 6) ∧ (o.2.2.2.2.2.2.2.2.1 = 0 → rrdr o.1 o.2.1 o.2.2.2.1 o.2.2.2.2.2.2.2.2.2.2.2.2 o.2.2.2.2.2.2.2.2.2.2.2.1 o.2.2.2.2.2.2.2.2.2.2.1) ∧ (∀ j, 23 ≤ j → o.2.2.2.2.2.2.2.2.2.2.1 j = v_p0_draft j) ∧ (i_p0_from ≤ o.2.2.2.2.2.1) ∧ (Hid (o.2.2.2.2.2.2.2.2.1 = 0 → ∃ nm c, lnT B i_p0_taped P D nm c ∧ cur B i_p0_taped (tA B i_p0_taped (PP B i_p0_taped (tA B i_p0_taped P) c)) o.2.2.2.2.1 o.2.2.2.2.2.1 o.2.2.2.2.2.2.1 o.2.2.2.2.2.2.2.1 ∧ rrel (tak B i_p0_taped (tA B i_p0_taped P) nm c D) o.1 o.2.1 o.2.2.2.1 o.2.2.2.2.2.2.2.2.2.2.2.2 o.2.2.2.2.2.2.2.2.2.2.2.1 o.2.2.2.2.2.2.2.2.2.2.1 ∧ mrel (tak B i_p0_taped (tA B i_p0_taped P) nm c D) o.2.2.1 4)) ∧ (Hid (¬ o.2.2.2.2.2.2.2.2.1 = 0 → lnF B i_p0_taped P D o.2.2.2.2.2.2.2.2.2.1 ∨ ∃ nm c, lnT B i_p0_taped P D nm c ∧ lnF B i_p0_taped (tA B i_p0_taped (PP B i_p0_taped (tA B i_p0_taped P) c)) (tak B i_p0_taped (tA B i_p0_taped P) nm c D) o.2.2.2.2.2.2.2.2.2.1))) := by
  unfold f_X12_readLine
  have i1 := h4.1
  have i2 := h4.2.1
  have i4 := h4.2.2.2.1
  have i6 := h4.2.2.2.2.2.1
  have hs2 := h7.2.1
  refine wp_ck (z_r32_i.mpr ⟨(by omega) /- z_r32.lo i_p0_sort#1 -/, (by omega) /- z_r32.hi i_p0_sort#1 -/⟩) ?_
  refine wp_jnP1 (fun (z2 : Int) => (z2 = -4 ∨ (0 ≤ z2 ∧ z2 ≤ 10)) ∧ ((i_p0_sort = 1 ∧ lnR v_p0_tape i_p0_from i_p0_pos z2) ∨ (¬ i_p0_sort = 1 ∧ z2 = -4))) (fun z2 pJ3 => ?_) (fun J3 hJ3 => ?_)
  ·
    have hbt : bt i_p0_told z2 = z_and (z_shr i_p0_told z2) 1 := rfl
    have hNm := lnR_isNm h10 h4.1.1 h4.1.2.2 h11.1 h11.2.1 h11.2.2.1 pJ3.2
    have hFn := fnm_ref (B := B) (L := i_p0_taped) (p := P) (D := D) (fl := 0) (so := 0) h11.2.2.2.2 pJ3.1 h12.2.1 h13
    replace pJ3 := pJ3.1
    refine wp_bnd ?_
    refine wp_ck (z_r32_i.mpr ⟨(by omega) /- z_r32.lo z4#1 -/, (by omega) /- z_r32.hi z4#1 -/⟩) ?_
    refine wp_jnP1 (fun (z6 : Int) => (z6 = 1 ∧ ¬ z2 = -4) ∨ (z6 = 0 ∧ z2 = -4)) (fun z6 pJ7 => ?_) (fun J7 hJ7 => ?_)
    ·
      refine wp_bd2 (s_X12_needs _ _ _ _ _ (by omega) /- pre X12_needs.1#1 -/ (by omega) /- pre X12_needs.2#1 -/ (by omega) /- pre X12_needs.3#1 -/) (fun z8 z9 q_X12_needs_1 => ?_)
      try dsimp only at q_X12_needs_1
      obtain ⟨q_X12_needs_1_1, q_X12_needs_1_2⟩ := q_X12_needs_1
      refine wp_jnP1 (fun (z10 : Int) => (z10 = 1 ∧ (3 < z2 ∨ i_p0_dStirs < 5)) ∨ (z10 = 0 ∧ z2 ≤ 3 ∧ 5 ≤ i_p0_dStirs)) (fun z10 pJ11 => ?_) (fun J11 hJ11 => ?_)
      ·
        refine wp_bd2 (s_X12_needs _ _ _ _ _ (by omega) /- pre X12_needs.1#2 -/ (by omega) /- pre X12_needs.2#2 -/ (by omega) /- pre X12_needs.3#2 -/) (fun z12 z13 q_X12_needs_2 => ?_)
        try dsimp only at q_X12_needs_2
        obtain ⟨q_X12_needs_2_1, q_X12_needs_2_2⟩ := q_X12_needs_2
        refine wp_ck (z_r32_i.mpr ⟨(by omega) /- z_r32.lo z12#1 -/, (by omega) /- z_r32.hi z12#1 -/⟩) ?_
        refine wp_jnP3 (fun (z15 : Int) (z16 : Int) (z17 : Int) => (0 ≤ z16 ∧ z16 ≤ 6) ∧ (¬ z16 = 0 → 0 ≤ z17 ∧ z17 ≤ i_p0_taped) ∧ (z16 = 0 → ¬ z2 = -4 ∧ (3 < z2 ∨ i_p0_dStirs < 5)) ∧ (z16 = 0 ↔ ¬ (z2 = -4 ∨ (z2 ≤ 3 ∧ 5 ≤ i_p0_dStirs) ∨ ((4 ≤ z2 ∧ z2 ≤ 7) ∧ ¬ bt i_p0_told z2 = 0))) ∧ (¬ z16 = 0 → z17 = i_p0_from) ∧ (z16 = 0 → z15 = if 4 ≤ z2 ∧ z2 ≤ 7 then z_or i_p0_told (z_shl 1 z2) else i_p0_told)) (fun z15 z16 z17 pJ18 => ?_) (fun J18 hJ18 => ?_)
        ·
          rw [← hFn] at pJ18
          obtain ⟨pa, pb, pc, pF, pW, pT⟩ := pJ18
          have pJ18 := And.intro pa (And.intro pb pc)
          clear hbt hFn
          clear q_X12_needs_1_1 q_X12_needs_1_2 q_X12_needs_2_1 q_X12_needs_2_2 pJ7 pJ11
          have hti : tokI i_p0_taped i_p0_pos i_p0_from i_p0_sort i_p0_value z16 z17 := tokI_fl h4 pJ18.1 pJ18.2.1
          refine wp_bd6 (s_X12_nextToken _ _ _ _ _ _ _ _ (by omega) /- pre X12_nextToken.1#1 -/ (by omega) /- pre X12_nextToken.2#1 -/ (by omega) /- pre X12_nextToken.3#1 -/ (by omega) /- pre X12_nextToken.4#1 -/ (by exact h3) /- pre X12_nextToken.5#1 -/ (by omega) /- pre X12_nextToken.6#1 -/ (by omega) /- pre X12_nextToken.7#1 -/) (fun z19 z20 z21 z22 z23 z24 q_X12_nextToken_1 => ?_)
          try dsimp only at q_X12_nextToken_1
          obtain ⟨q_X12_nextToken_1_1, q_X12_nextToken_1_2⟩ := q_X12_nextToken_1
          have hn1 := nt_st h10 (by omega) q_X12_nextToken_1_1 q_X12_nextToken_1_2
          rw [h11.2.1] at hn1
          obtain ⟨n1, n2, n3, n4⟩ := tokI_next h3 h2 hti q_X12_nextToken_1_1 q_X12_nextToken_1_2
          clear q_X12_nextToken_1_1 q_X12_nextToken_1_2
          have m1 := n1.1
          have m4 := n1.2.2.2.1
          refine wp_ck (z_r32_i.mpr ⟨(by omega) /- z_r32.lo z23#1 -/, (by omega) /- z_r32.hi z23#1 -/⟩) ?_
          refine wp_if (fun c1 => ?_) (fun c1 => ?_)
          ·
            have hz16 : z16 = 0 := by
              by_cases e : z16 = 0
              · exact e
              · have := (hn1.2 e).1; omega
            have hcA : cur B i_p0_taped (tA B i_p0_taped P) z19 z20 z21 z22 := by
              rcases hn1.1 hz16 with g | g
              · exact g.2
              · have := g.1; omega
            have hNF := pF.mp hz16
            rw [if_neg (show ¬ z2 = -4 by omega)] at hNm hNF
            refine wp_bd12 (s_X12_readLineOf _ _ _ _ _ _ _ _ _ _ _ _ _ _ _ B (tA B i_p0_taped P) D (by omega) /- pre X12_readLineOf.1#1 -/ (by omega) /- pre X12_readLineOf.2#1 -/ (by exact h3) /- pre X12_readLineOf.3#1 -/ (by exact n1) /- pre X12_readLineOf.4#1 -/ (by omega) /- pre X12_readLineOf.5#1 -/ (by omega) /- pre X12_readLineOf.6#1 -/ (by exact h7) /- pre X12_readLineOf.7#1 -/ (by omega) /- pre X12_readLineOf.8#1 -/ (by omega) /- pre X12_readLineOf.9#1 -/ (by omega) /- pre X12_readLineOf.10#1 -/ (by omega) /- pre X12_readLineOf.11#1 -/ (by exact h10) /- pre X12_readLineOf.12#1 -/ (by exact hcA) /- pre X12_readLineOf.13#1 -/ (by exact h12) /- pre X12_readLineOf.14#1 -/) (fun z26 z27 z28 z29 z30 z31 z32 z33 z34 w35 w36 w37 q_X12_readLineOf_1 => ?_)
            try dsimp only at q_X12_readLineOf_1
            obtain ⟨q_X12_readLineOf_1_1, q_X12_readLineOf_1_2, q_X12_readLineOf_1_3, q_X12_readLineOf_1_4, q_X12_readLineOf_1_5, q_X12_readLineOf_1_6, q_X12_readLineOf_1_7⟩ := q_X12_readLineOf_1
            obtain ⟨cc, hcc1, hcc2⟩ := hid q_X12_readLineOf_1_7
            have hmr : mrel (tak B i_p0_taped (tA B i_p0_taped P) (cnm z2) cc D) z15 4 := mrel_ref pJ3 (by omega) h13 (pT hz16)
            have q_lo5 := q_X12_readLineOf_1_5
            have l1 := q_X12_readLineOf_1_1.1
            have l2 := q_X12_readLineOf_1_1.2.1
            have l4 := q_X12_readLineOf_1_1.2.2.2.1
            have l5 := q_X12_readLineOf_1_1.2.2.2.2.1
            have l6 := q_X12_readLineOf_1_1.2.2.2.2.2.1
            refine wp_ck (z_r32_i.mpr ⟨(by omega) /- z_r32.lo z33#1 -/, (by omega) /- z_r32.hi z33#1 -/⟩) ?_
            refine wp_if (fun c2 => ?_) (fun c2 => ?_)
            ·
              refine wp_ck (z_r32_i.mpr ⟨(by omega) /- z_r32.lo z31#1 -/, (by omega) /- z_r32.hi z31#1 -/⟩) ?_
              refine wp_if (fun c3 => ?_) (fun c3 => ?_)
              ·
                refine wp_bd2 (s_X12_needs _ _ _ _ _ (by omega) /- pre X12_needs.1#3 -/ (by omega) /- pre X12_needs.2#3 -/ (by omega) /- pre X12_needs.3#3 -/) (fun z54 z55 q_X12_needs_3 => ?_)
                try dsimp only at q_X12_needs_3
                obtain ⟨q_X12_needs_3_1, q_X12_needs_3_2⟩ := q_X12_needs_3
                have hnk : (z54 = 0 ∧ 1 = 1) ∨ (¬ z54 = 0 ∧ z55 = z30 ∧ 1 = 0) := by split at q_X12_needs_3_1 <;> split at q_X12_needs_3_2 <;> omega
                have htk : tokI i_p0_taped z29 z30 z31 z32 z54 z55 := tokI_fl q_X12_readLineOf_1_1 (by split at q_X12_needs_3_1 <;> omega) (by split at q_X12_needs_3_1 <;> split at q_X12_needs_3_2 <;> omega)
                have hnf : z54 = 0 → z33 = 0 := by intro a; split at q_X12_needs_3_1 <;> omega
                have m5 := htk.2.2.2.1
                clear q_X12_needs_3_1 q_X12_needs_3_2
                refine wp_bd6 (s_X12_nextToken _ _ _ _ _ _ _ _ (by omega) /- pre X12_nextToken.1#2 -/ (by omega) /- pre X12_nextToken.2#2 -/ (by omega) /- pre X12_nextToken.3#2 -/ (by omega) /- pre X12_nextToken.4#2 -/ (by exact h3) /- pre X12_nextToken.5#2 -/ (by omega) /- pre X12_nextToken.6#2 -/ (by omega) /- pre X12_nextToken.7#2 -/) (fun z56 z57 z58 z59 z60 z61 q_X12_nextToken_2 => ?_)
                try dsimp only at q_X12_nextToken_2
                obtain ⟨q_X12_nextToken_2_1, q_X12_nextToken_2_2⟩ := q_X12_nextToken_2
                have hn2 := nt_st h10 (by omega) q_X12_nextToken_2_1 q_X12_nextToken_2_2
                obtain ⟨k1, k2, k3, k4⟩ := tokI_next h3 h2 (by first | exact htk | exact q_X12_readLineOf_1_1) q_X12_nextToken_2_1 q_X12_nextToken_2_2
                clear q_X12_nextToken_2_1 q_X12_nextToken_2_2
                refine wp_some ?_
                try dsimp only
                all_goals exact ⟨(by first | exact k1 | exact n1) /- post1#1 -/, (by omega) /- post2#1 -/, (by omega) /- post3#1 -/, (by first | (intro h; exfalso; omega) | (intro h; exact q_lo5 (by omega))) /- post4#1 -/, (by first | exact q_X12_readLineOf_1_6 | (intro j _; rfl)) /- post5#1 -/, (by omega) /- post6#1 -/, (by 
                                        unfold Hid
                                        intro e
                                        obtain ⟨w1, w2, w3, w4⟩ := hcc1 (by omega)
                                        have e54 : z54 = 0 := by omega
                                        rw [w3.2.1] at hn2
                                        refine ⟨cnm z2, cc, ⟨by rw [← h11.2.2.1]; exact h9, hNm, hNF, w1, by rw [← w3.2.2.1]; assumption, w2⟩, ?_, w4, hmr⟩
                                        rcases hn2.1 e54 with g | g
                                        · exact g.2
                                        · exact absurd e g.1) /- post7#1 -/, (by 
                                        unfold Hid
                                        intro e
                                        obtain ⟨w1, w2, w3, w4⟩ := hcc1 (by omega)
                                        have e54 : z54 = 0 := by omega
                                        rw [w3.2.1] at hn2
                                        right
                                        refine ⟨cnm z2, cc, ⟨by rw [← h11.2.2.1]; exact h9, hNm, hNF, w1, by rw [← w3.2.2.1]; assumption, w2⟩, ?_⟩
                                        rcases hn2.1 e54 with g | g
                                        · exact absurd g.1 e
                                        · exact lnF_4 g.2.2 g.2.1) /- post8#1 -/⟩
              ·
                refine wp_bd2 (s_X12_needs _ _ _ _ _ (by omega) /- pre X12_needs.1#4 -/ (by omega) /- pre X12_needs.2#4 -/ (by omega) /- pre X12_needs.3#4 -/) (fun z46 z47 q_X12_needs_4 => ?_)
                try dsimp only at q_X12_needs_4
                obtain ⟨q_X12_needs_4_1, q_X12_needs_4_2⟩ := q_X12_needs_4
                have hnk : (z46 = 0 ∧ 0 = 1) ∨ (¬ z46 = 0 ∧ z47 = z30 ∧ 0 = 0) := by split at q_X12_needs_4_1 <;> split at q_X12_needs_4_2 <;> omega
                have htk : tokI i_p0_taped z29 z30 z31 z32 z46 z47 := tokI_fl q_X12_readLineOf_1_1 (by split at q_X12_needs_4_1 <;> omega) (by split at q_X12_needs_4_1 <;> split at q_X12_needs_4_2 <;> omega)
                have hnf : z46 = 0 → z33 = 0 := by intro a; split at q_X12_needs_4_1 <;> omega
                have m5 := htk.2.2.2.1
                clear q_X12_needs_4_1 q_X12_needs_4_2
                refine wp_bd6 (s_X12_nextToken _ _ _ _ _ _ _ _ (by omega) /- pre X12_nextToken.1#3 -/ (by omega) /- pre X12_nextToken.2#3 -/ (by omega) /- pre X12_nextToken.3#3 -/ (by omega) /- pre X12_nextToken.4#3 -/ (by exact h3) /- pre X12_nextToken.5#3 -/ (by omega) /- pre X12_nextToken.6#3 -/ (by omega) /- pre X12_nextToken.7#3 -/) (fun z48 z49 z50 z51 z52 z53 q_X12_nextToken_3 => ?_)
                try dsimp only at q_X12_nextToken_3
                obtain ⟨q_X12_nextToken_3_1, q_X12_nextToken_3_2⟩ := q_X12_nextToken_3
                have hn2 := nt_st h10 (by omega) q_X12_nextToken_3_1 q_X12_nextToken_3_2
                obtain ⟨k1, k2, k3, k4⟩ := tokI_next h3 h2 (by first | exact htk | exact q_X12_readLineOf_1_1) q_X12_nextToken_3_1 q_X12_nextToken_3_2
                clear q_X12_nextToken_3_1 q_X12_nextToken_3_2
                refine wp_some ?_
                try dsimp only
                all_goals exact ⟨(by first | exact k1 | exact n1) /- post1#2 -/, (by omega) /- post2#2 -/, (by omega) /- post3#2 -/, (by first | (intro h; exfalso; omega) | (intro h; exact q_lo5 (by omega))) /- post4#2 -/, (by first | exact q_X12_readLineOf_1_6 | (intro j _; rfl)) /- post5#2 -/, (by omega) /- post6#2 -/, (by unfold Hid; intro e; have := (hn2.2 (by omega)).1; exact absurd e this) /- post7#2 -/, (by 
                                        unfold Hid
                                        intro e
                                        obtain ⟨w1, w2, w3, w4⟩ := hcc1 (by omega)
                                        have e46 : ¬ z46 = 0 := by omega
                                        left
                                        refine ⟨by rw [← h11.2.2.1]; exact h9, cnm z2, hNm, Or.inr ⟨hNF, cc, w1, fun y => absurd y.1 (by rw [← w3.2.2.1]; assumption), ?_⟩⟩
                                        rw [(hn2.2 e46).2, show z47 = z30 from by omega]
                                        exact w3.1) /- post8#2 -/⟩
            ·
              refine wp_bd6 (s_X12_nextToken _ _ _ _ _ _ _ _ (by omega) /- pre X12_nextToken.1#4 -/ (by omega) /- pre X12_nextToken.2#4 -/ (by omega) /- pre X12_nextToken.3#4 -/ (by omega) /- pre X12_nextToken.4#4 -/ (by exact h3) /- pre X12_nextToken.5#4 -/ (by omega) /- pre X12_nextToken.6#4 -/ (by omega) /- pre X12_nextToken.7#4 -/) (fun z39 z40 z41 z42 z43 z44 q_X12_nextToken_4 => ?_)
              try dsimp only at q_X12_nextToken_4
              obtain ⟨q_X12_nextToken_4_1, q_X12_nextToken_4_2⟩ := q_X12_nextToken_4
              have hn2 := nt_st h10 (by omega) q_X12_nextToken_4_1 q_X12_nextToken_4_2
              obtain ⟨k1, k2, k3, k4⟩ := tokI_next h3 h2 (by first | exact htk | exact q_X12_readLineOf_1_1) q_X12_nextToken_4_1 q_X12_nextToken_4_2
              clear q_X12_nextToken_4_1 q_X12_nextToken_4_2
              refine wp_some ?_
              try dsimp only
              all_goals exact ⟨(by first | exact k1 | exact n1) /- post1#3 -/, (by omega) /- post2#3 -/, (by omega) /- post3#3 -/, (by first | (intro h; exfalso; omega) | (intro h; exact q_lo5 (by omega))) /- post4#3 -/, (by first | exact q_X12_readLineOf_1_6 | (intro j _; rfl)) /- post5#3 -/, (by omega) /- post6#3 -/, (by unfold Hid; intro e; have := (hn2.2 (by omega)).1; exact absurd e this) /- post7#3 -/, (by 
                                        unfold Hid
                                        intro e
                                        left
                                        refine ⟨by rw [← h11.2.2.1]; exact h9, cnm z2, hNm, Or.inr ⟨hNF, ?_⟩⟩
                                        rw [(hn2.2 (by assumption)).2]
                                        exact hcc2 (by assumption)) /- post8#3 -/⟩
          ·
            refine wp_some ?_
            try dsimp only
            all_goals exact ⟨(by first | exact k1 | exact n1) /- post1#4 -/, (by omega) /- post2#4 -/, (by omega) /- post3#4 -/, (by first | (intro h; exfalso; omega) | (intro h; exact q_lo5 (by omega))) /- post4#4 -/, (by first | exact q_X12_readLineOf_1_6 | (intro j _; rfl)) /- post5#4 -/, (by omega) /- post6#4 -/, (by unfold Hid; intro e; exfalso; omega) /- post7#4 -/, (by 
                                        unfold Hid
                                        intro e
                                        left
                                        refine ⟨by rw [← h11.2.2.1]; exact h9, _, hNm, ?_⟩
                                        by_cases e16 : z16 = 0
                                        · right
                                          refine ⟨pF.mp e16, ?_⟩
                                          exact RQ_w (RQ_0 (hn1.1 e16)) e
                                        · left
                                          refine ⟨Classical.byContradiction (fun y => e16 (pF.mpr y)), ?_⟩
                                          rw [(hn1.2 e16).2, pW e16]
                                          exact h11.1) /- post8#4 -/⟩
        refine wp_if (fun c4 => ?_) (fun c4 => ?_)
        ·
          refine wp_bd1 (s_X12_in _ _ _ (by omega) /- pre X12_in.1#1 -/ (by omega) /- pre X12_in.2#1 -/ (by omega) /- pre X12_in.3#1 -/ (by omega) /- pre X12_in.4#1 -/ (by omega) /- pre X12_in.5#1 -/ (by omega) /- pre X12_in.6#1 -/) (fun z62 q_X12_in_1 => ?_)
          try dsimp only at q_X12_in_1
          refine wp_ck (z_r32_i.mpr ⟨(by omega) /- z_r32.lo z62#1 -/, (by omega) /- z_r32.hi z62#1 -/⟩) ?_
          refine wp_if (fun c5 => ?_) (fun c5 => ?_)
          ·
            exact hJ18 _ _ _ (by omega) /- to J18#1 -/
          ·
            refine wp_ck (z_r32_t _) ?_
            refine wp_jn ?_
            refine wp_if (fun c6 => ?_) (fun c6 => ?_)
            ·
              refine wp_bd2 (s_X12_needs _ _ _ _ _ (by omega) /- pre X12_needs.1#5 -/ (by omega) /- pre X12_needs.2#5 -/ (by omega) /- pre X12_needs.3#5 -/) (fun z67 z68 q_X12_needs_5 => ?_)
              try dsimp only at q_X12_needs_5
              obtain ⟨q_X12_needs_5_1, q_X12_needs_5_2⟩ := q_X12_needs_5
              refine wp_bndE (fun z69 hz69 => ?_)
              exact hJ18 _ _ _ (by omega) /- to J18#2 -/
            ·
              refine wp_bd2 (s_X12_needs _ _ _ _ _ (by omega) /- pre X12_needs.1#6 -/ (by omega) /- pre X12_needs.2#6 -/ (by omega) /- pre X12_needs.3#6 -/) (fun z67 z68 q_X12_needs_6 => ?_)
              try dsimp only at q_X12_needs_6
              obtain ⟨q_X12_needs_6_1, q_X12_needs_6_2⟩ := q_X12_needs_6
              refine wp_bndE (fun z69 hz69 => ?_)
              exact hJ18 _ _ _ (by omega) /- to J18#3 -/
        ·
          exact hJ18 _ _ _ (by omega) /- to J18#4 -/
      refine wp_jn ?_
      refine wp_if (fun c7 => ?_) (fun c7 => ?_)
      ·
        exact hJ11 _ (by omega) /- to J11#1 -/
      ·
        refine wp_ck (z_r32_i.mpr ⟨(by omega) /- z_r32.lo i_p0_dStirs#1 -/, (by omega) /- z_r32.hi i_p0_dStirs#1 -/⟩) ?_
        refine wp_if (fun c8 => ?_) (fun c8 => ?_)
        ·
          exact hJ11 _ (by omega) /- to J11#2 -/
        ·
          exact hJ11 _ (by omega) /- to J11#3 -/
    refine wp_if (fun c9 => ?_) (fun c9 => ?_)
    ·
      exact hJ7 _ (by omega) /- to J7#1 -/
    ·
      exact hJ7 _ (by omega) /- to J7#2 -/
  refine wp_if (fun c10 => ?_) (fun c10 => ?_)
  ·
    refine wp_bd1 (s_X12_lineNow _ _ _ _ (by omega) /- pre X12_lineNow.1#1 -/ (by omega) /- pre X12_lineNow.2#1 -/ (by exact h3) /- pre X12_lineNow.3#1 -/ (by omega) /- pre X12_lineNow.4#1 -/ (by omega) /- pre X12_lineNow.5#1 -/ (by omega) /- pre X12_lineNow.6#1 -/) (fun z72 q_X12_lineNow_1 => ?_)
    try dsimp only at q_X12_lineNow_1
    obtain ⟨q_X12_lineNow_1_1, q_X12_lineNow_1_2⟩ := q_X12_lineNow_1
    exact hJ3 _ (by exact ⟨q_X12_lineNow_1_1, Or.inl ⟨by assumption, q_X12_lineNow_1_2⟩⟩) /- to J3#1 -/
  ·
    exact hJ3 _ (by exact ⟨Or.inl rfl, Or.inr ⟨by assumption, rfl⟩⟩) /- to J3#2 -/

set_option maxHeartbeats 8000000 in
theorem s_X12_text (i_p0_seats : Int) (i_p0_stirs : Int) (i_p0_taped : Int) (i_p0_from : Int) (i_p0_sort : Int) (i_p0_value : Int) (i_p0_wrongAt : Int) (v_p0_st : (Int → Int)) (v_p0_isKept : (Int → Int)) (v_p0_brings : (Int → Int)) (v_p0_need : (Int → Int)) (v_p0_draft : (Int → Int)) (v_p0_dStir : (Int → Int)) (v_p0_dNeed : (Int → Int)) (v_p0_tape : (Int → Int)) (B : Int → Int) (h1 : 0 ≤ i_p0_taped) (h2 : i_p0_taped ≤ 320) (h3 : ∀ j, 0 ≤ j → j < 320 → 0 ≤ v_p0_tape j ∧ v_p0_tape j ≤ 255) (h4 : 2 ≤ i_p0_seats) (h5 : i_p0_seats ≤ 7) (h6 : 0 ≤ i_p0_stirs) (h7 : i_p0_stirs ≤ 5) (h8 : bR B v_p0_tape i_p0_taped) : wp (f_X12_text i_p0_seats i_p0_stirs i_p0_taped i_p0_from i_p0_sort i_p0_value i_p0_wrongAt v_p0_st v_p0_isKept v_p0_brings v_p0_need v_p0_draft v_p0_dStir v_p0_dNeed v_p0_tape) (fun o => (-340 ≤ o.1 ∧ o.1 ≤ 1000) ∧ (o.2.2.2.2.2.2.2.1 = 0) ∧ (0 ≤ o.2.2.2.2.2.2.2.2.2.2.2.2.1 ∧ o.2.2.2.2.2.2.2.2.2.2.2.2.1 ≤ 6) ∧ (o.2.2.2.2.2.2.2.2.2.2.2.2.1 = 0 → (∃ h, rrdr o.2.1 o.2.2.1 h o.2.2.2.2.2.2.2.2.2.2.2.2.2.2.2.2.2.2.2.2 o.2.2.2.2.2.2.2.2.2.2.2.2.2.2.2.2.2.2.2.1 o.2.2.2.2.2.2.2.2.2.2.2.2.2.2.2.2.2.2.1 ∧ h < o.2.1) ∧ (∀ j, 0 ≤ j → j < 38 → o.2.2.2.2.2.2.2.2.2.2.2.2.2.2.1 j = o.2.2.2.2.2.2.2.2.2.2.2.2.2.2.2.2.2.2.1 j) ∧ (∀ j, 38 ≤ j → o.2.2.2.2.2.2.2.2.2.2.2.2.2.2.1 j = v_p0_st j) ∧ (∀ j, 0 ≤ j → j < 2 → o.2.2.2.2.2.2.2.2.2.2.2.2.2.2.2.1 j = 0) ∧ (∀ t, 0 ≤ t → t < o.2.2.1 → ∀ i, 0 ≤ i → i < o.2.1 → o.2.2.2.2.2.2.2.2.2.2.2.2.2.2.2.2.1 (7 * t + i) = bro o.2.1 (7 + o.2.2.2.2.2.2.2.2.2.2.2.2.2.2.2.2.2.2.2.1 (3 * t)) (o.2.2.2.2.2.2.2.2.2.2.2.2.2.2.2.2.2.2.2.1 (3 * t + 1)) (o.2.2.2.2.2.2.2.2.2.2.2.2.2.2.2.2.2.2.2.1 (3 * t + 2)) i) ∧ (∀ j, 0 ≤ j → j < 7 → o.2.2.2.2.2.2.2.2.2.2.2.2.2.2.2.2.2.1 j = o.2.2.2.2.2.2.2.2.2.2.2.2.2.2.2.2.2.2.2.2 j) ∧ (∀ j, 23 ≤ j → j < 38 → o.2.2.2.2.2.2.2.2.2.2.2.2.2.2.2.2.2.2.1 j = 0)) ∧ (¬ o.2.2.2.2.2.2.2.2.2.2.2.2.1 = 0 → o.2.1 = i_p0_seats ∧ o.2.2.1 = i_p0_stirs ∧ o.2.2.2.2.2.2.2.2.2.2.2.2.2.2.1 = v_p0_st ∧ o.2.2.2.2.2.2.2.2.2.2.2.2.2.2.2.1 = v_p0_isKept ∧ o.2.2.2.2.2.2.2.2.2.2.2.2.2.2.2.2.1 = v_p0_brings ∧ o.2.2.2.2.2.2.2.2.2.2.2.2.2.2.2.2.2.1 = v_p0_need) ∧ (Hid (o.2.2.2.2.2.2.2.2.2.2.2.2.1 = 0 → ∃ D, txE B i_p0_taped o.1.toNat D ∧ 0 ≤ o.1 ∧ D 2 < D 0 ∧ fin D o.2.1 o.2.2.1 (o.2.2.2.2.2.2.2.2.2.2.2.2.2.2.1 7) (o.2.2.2.2.2.2.2.2.2.2.2.2.2.2.1 8) o.2.2.2.2.2.2.2.2.2.2.2.2.2.2.2.2.2.1 o.2.2.2.2.2.2.2.2.2.2.2.2.2.2.2.2.1 o.2.2.2.2.2.2.2.2.2.2.2.2.2.2.1 (fun j => o.2.2.2.2.2.2.2.2.2.2.2.2.2.2.1 (9 + j)) (fun j => o.2.2.2.2.2.2.2.2.2.2.2.2.2.2.1 (16 + j)) ∧ o.2.2.2.2.2.2.2.2.2.2.2.2.2.2.1 31 = 0 ∧ o.2.2.2.2.2.2.2.2.2.2.2.2.2.2.1 30 = 0 ∧ (∀ j, 0 ≤ j → j < 7 → o.2.2.2.2.2.2.2.2.2.2.2.2.2.2.1 (23 + j) = 0) ∧ (∀ j, 0 ≤ j → j < 2 → o.2.2.2.2.2.2.2.2.2.2.2.2.2.2.2.1 j = 0))) ∧ (Hid (¬ o.2.2.2.2.2.2.2.2.2.2.2.2.1 = 0 → txF B i_p0_taped (-10 - o.1) ∨ (o.1 = -10 - i_p0_taped ∧ ∃ k D, txE B i_p0_taped k D ∧ ¬ D 2 < D 0)))) := by
  unfold f_X12_text
  refine wp_bnd ?_
  refine wp_bnd ?_
  refine wp_bnd ?_
  refine wp_bd6 (s_X12_firstDraft _ _) (fun z4 z5 z6 z7 w8 w9 q_X12_firstDraft_1 => ?_)
  try dsimp only at q_X12_firstDraft_1
  obtain ⟨q_X12_firstDraft_1_1, q_X12_firstDraft_1_2, q_X12_firstDraft_1_3, q_X12_firstDraft_1_4, q_X12_firstDraft_1_5, q_X12_firstDraft_1_6⟩ := q_X12_firstDraft_1
  refine wp_bd6 (s_X12_nextToken _ _ _ _ _ _ _ _ (by omega) /- pre X12_nextToken.1#1 -/ (by omega) /- pre X12_nextToken.2#1 -/ (by omega) /- pre X12_nextToken.3#1 -/ (by omega) /- pre X12_nextToken.4#1 -/ (by exact h3) /- pre X12_nextToken.5#1 -/ (by omega) /- pre X12_nextToken.6#1 -/ (by omega) /- pre X12_nextToken.7#1 -/) (fun z10 z11 z12 z13 z14 z15 q_X12_nextToken_1 => ?_)
  try dsimp only at q_X12_nextToken_1
  obtain ⟨q_X12_nextToken_1_1, q_X12_nextToken_1_2⟩ := q_X12_nextToken_1
  have hn0 := (nt_st h8 (by omega) q_X12_nextToken_1_1 q_X12_nextToken_1_2).1 rfl
  have ht0 := tokI_first h3 h2 (q_X12_nextToken_1_2 rfl)
  clear q_X12_nextToken_1_1 q_X12_nextToken_1_2
  have t1 := ht0.1
  have t4 := ht0.2.2.2.1
  refine wp_jn ?_
  refine wp_lq14 (fun (z49 : Int) (z50 : Int) (z51 : Int) (z52 : Int) (z53 : Int) (z54 : Int) (z55 : Int) (z56 : Int) (z57 : Int) (z58 : Int) (z59 : Int) (w60 : (Int → Int)) (w61 : (Int → Int)) (w62 : (Int → Int)) => (tokI i_p0_taped z54 z55 z56 z57 z58 z59) ∧ (-4 ≤ z53 ∧ z53 ≤ 6) ∧ (z58 = 0 → rrdr z50 z51 z53 w62 w61 w60) ∧ (0 ≤ z49) ∧ (z49 ≤ z55 + 1) ∧ (z58 = 0 → z49 ≤ z55) ∧ (∀ j, 23 ≤ j → j < 38 → w60 j = 0) ∧ (Hid (z58 = 0 → ∃ P D, rn B i_p0_taped z49.toNat P D ∧ cur B i_p0_taped P z54 z55 z56 z57 ∧ rrel D z50 z51 z53 w62 w61 w60 ∧ mrel D z52 4)) ∧ (¬ z58 = 0 → txF B i_p0_taped z59)) (fun (z49 : Int) (z50 : Int) (z51 : Int) (z52 : Int) (z53 : Int) (z54 : Int) (z55 : Int) (z56 : Int) (z57 : Int) (z58 : Int) (z59 : Int) (w60 : (Int → Int)) (w61 : (Int → Int)) (w62 : (Int → Int)) => if z58 = 0 then (i_p0_taped - z55 + 1).toNat else 0) (fun again20 z49 z50 z51 z52 z53 z54 z55 z56 z57 z58 z59 w60 w61 w62 hI ih_B_X12_text_20 => ?_) 1000 _ _ _ _ _ _ _ _ _ _ _ _ _ _ ⟨(by exact ht0) /- B_X12_text_20.init1#1 -/, (by omega) /- B_X12_text_20.init2#1 -/, (by intro _; rw [q_X12_firstDraft_1_1, q_X12_firstDraft_1_2, q_X12_firstDraft_1_4]; exact rrdr_0 q_X12_firstDraft_1_5 q_X12_firstDraft_1_6) /- B_X12_text_20.init3#1 -/, (by omega) /- B_X12_text_20.init4#1 -/, (by omega) /- B_X12_text_20.init5#1 -/, (by omega) /- B_X12_text_20.init6#1 -/, (by intro j a b; rw [q_X12_firstDraft_1_5 j (by omega) b, if_neg (by omega)]) /- B_X12_text_20.init7#1 -/, (by 
                                        unfold Hid
                                        intro e
                                        rcases hn0 with g | g
                                        · refine ⟨0, D0, ⟨rfl, rfl⟩, g.2, ?_, ?_⟩
                                          · rw [q_X12_firstDraft_1_1, q_X12_firstDraft_1_2, q_X12_firstDraft_1_4]; exact rrel_0 q_X12_firstDraft_1_5 q_X12_firstDraft_1_6
                                          · rw [q_X12_firstDraft_1_3]; exact mrel_0 (by omega) (by omega)
                                        · exact absurd e g.1) /- B_X12_text_20.init8#1 -/, (by 
                                        intro e
                                        rcases hn0 with g | g
                                        · exact absurd g.1 e
                                        · exact ⟨0, 0, D0, ⟨rfl, rfl⟩, lnF_4 g.2.2 g.2.1⟩) /- B_X12_text_20.init9#1 -/⟩ (by split <;> omega) /- B_X12_text_20.fuel#1 -/
  obtain ⟨i_B_X12_text_20_1, i_B_X12_text_20_2, i_B_X12_text_20_3, i_B_X12_text_20_4, i_B_X12_text_20_5, i_B_X12_text_20_6, i_B_X12_text_20_7, i_B_X12_text_20_8, i_B_X12_text_20_9⟩ := hI
  unfold B_X12_text_20
  have i1 := i_B_X12_text_20_1.1
  have i2 := i_B_X12_text_20_1.2.1
  have i4 := i_B_X12_text_20_1.2.2.2.1
  have i5 := i_B_X12_text_20_1.2.2.2.2.1
  have i6 := i_B_X12_text_20_1.2.2.2.2.2.1
  refine wp_ck (z_r32_i.mpr ⟨(by omega) /- z_r32.lo z58#1 -/, (by omega) /- z_r32.hi z58#1 -/⟩) ?_
  refine wp_if (fun c1 => ?_) (fun c1 => ?_)
  ·
    refine wp_ck (z_r32_i.mpr ⟨(by omega) /- z_r32.lo z56#1 -/, (by omega) /- z_r32.hi z56#1 -/⟩) ?_
    refine wp_if (fun c2 => ?_) (fun c2 => ?_)
    ·
      refine wp_ck (z_r32_i.mpr ⟨(by omega) /- z_r32.lo z25#1 -/, (by omega) /- z_r32.hi z25#1 -/⟩) ?_
      refine wp_jn ?_
      refine wp_if (fun c3 => ?_) (fun c3 => ?_)
      ·
        refine wp_ck (z_r32_i.mpr ⟨(by omega) /- z_r32.lo z20#1 -/, (by omega) /- z_r32.hi z20#1 -/⟩) ?_
        refine wp_ck (z_r32_i.mpr ⟨(by first | omega | (have r1 := (i_B_X12_text_20_3 (by assumption)).1; omega)) /- z_r32.lo z17#1 -/, (by first | omega | (have r1 := (i_B_X12_text_20_3 (by assumption)).1; omega)) /- z_r32.hi z17#1 -/⟩) ?_
        refine wp_if (fun c4 => ?_) (fun c4 => ?_)
        ·
          refine wp_bd2 (s_X12_needs _ _ _ _ _ (by omega) /- pre X12_needs.1#1 -/ (by omega) /- pre X12_needs.2#1 -/ (by omega) /- pre X12_needs.3#1 -/) (fun z45 z46 q_X12_needs_1 => ?_)
          try dsimp only at q_X12_needs_1
          obtain ⟨q_X12_needs_1_1, q_X12_needs_1_2⟩ := q_X12_needs_1
          refine wp_bnd ?_
          refine wp_ck (z_r32_i.mpr ⟨(by omega) /- z_r32.lo z32#1 -/, (by omega) /- z_r32.hi z32#1 -/⟩) ?_
          refine wp_if (fun c5 => ?_) (fun c5 => ?_)
          ·
            refine wp_bd6 (s_X12_keepDraft _ _ _ _ _ _ _ _ _ (by omega) /- pre X12_keepDraft.1#1 -/ (by omega) /- pre X12_keepDraft.2#1 -/ (by omega) /- pre X12_keepDraft.3#1 -/ (by omega) /- pre X12_keepDraft.4#1 -/ (by first | (exfalso; omega) | (intro t a b; exact okSt_mono (by omega) (hrr.2.2.2.2.2.2.2.2.2 t a b))) /- pre X12_keepDraft.5#1 -/) (fun z37 z38 w39 w40 w41 w42 q_X12_keepDraft_1 => ?_)
            try dsimp only at q_X12_keepDraft_1
            obtain ⟨q_X12_keepDraft_1_1, q_X12_keepDraft_1_2, q_X12_keepDraft_1_3, q_X12_keepDraft_1_4, q_X12_keepDraft_1_5, q_X12_keepDraft_1_6, q_X12_keepDraft_1_7⟩ := q_X12_keepDraft_1
            refine wp_some ?_
            try dsimp only
            all_goals exact ⟨(by omega) /- post1#1 -/, (by omega) /- post2#1 -/, (by omega) /- post3#1 -/, (by omega) /- post4#1 -/, (by omega) /- post5#1 -/, (by unfold Hid; intro h; exfalso; omega) /- post6#1 -/, (by unfold Hid; intro h; exfalso; omega) /- post7#1 -/⟩
          ·
            refine wp_some ?_
            try dsimp only
            all_goals exact ⟨(by omega) /- post1#2 -/, (by omega) /- post2#2 -/, (by omega) /- post3#2 -/, (by omega) /- post4#2 -/, (by intro _; exact ⟨rfl, rfl, rfl, rfl, rfl, rfl⟩) /- post5#2 -/, (by unfold Hid; intro h; exfalso; omega) /- post6#2 -/, (by 
                                        unfold Hid
                                        intro _
                                        obtain ⟨P, D, hP1, hP2, hP3, hP4⟩ := hid i_B_X12_text_20_8 (by assumption)
                                        have hr2 := hP3.2.2.1
                                        have hr0 := hP3.1
                                        have hfl := i_B_X12_text_20_1.2.2.2.2.2.2 (by assumption)
                                        right
                                        exact ⟨by omega, _, D, ⟨P, hP1, by rw [← hP2.2.2.1]; assumption⟩, by omega⟩) /- post7#2 -/⟩
        ·
          refine wp_bd2 (s_X12_needs _ _ _ _ _ (by omega) /- pre X12_needs.1#2 -/ (by omega) /- pre X12_needs.2#2 -/ (by omega) /- pre X12_needs.3#2 -/) (fun z47 z48 q_X12_needs_2 => ?_)
          try dsimp only at q_X12_needs_2
          obtain ⟨q_X12_needs_2_1, q_X12_needs_2_2⟩ := q_X12_needs_2
          refine wp_bnd ?_
          refine wp_ck (z_r32_i.mpr ⟨(by omega) /- z_r32.lo z32#2 -/, (by omega) /- z_r32.hi z32#2 -/⟩) ?_
          refine wp_if (fun c6 => ?_) (fun c6 => ?_)
          ·
            have hrr := i_B_X12_text_20_3 (by assumption)
            have r1 := hrr.1
            have r2 := hrr.2.1
            refine wp_bd6 (s_X12_keepDraft _ _ _ _ _ _ _ _ _ (by omega) /- pre X12_keepDraft.1#2 -/ (by omega) /- pre X12_keepDraft.2#2 -/ (by omega) /- pre X12_keepDraft.3#2 -/ (by omega) /- pre X12_keepDraft.4#2 -/ (by first | (exfalso; omega) | (intro t a b; exact okSt_mono (by omega) (hrr.2.2.2.2.2.2.2.2.2 t a b))) /- pre X12_keepDraft.5#2 -/) (fun z37 z38 w39 w40 w41 w42 q_X12_keepDraft_2 => ?_)
            try dsimp only at q_X12_keepDraft_2
            obtain ⟨q_X12_keepDraft_2_1, q_X12_keepDraft_2_2, q_X12_keepDraft_2_3, q_X12_keepDraft_2_4, q_X12_keepDraft_2_5, q_X12_keepDraft_2_6, q_X12_keepDraft_2_7⟩ := q_X12_keepDraft_2
            refine wp_some ?_
            try dsimp only
            all_goals exact ⟨(by omega) /- post1#3 -/, (by omega) /- post2#3 -/, (by omega) /- post3#3 -/, (by intro _; exact ⟨⟨z53, by rw [q_X12_keepDraft_2_1, q_X12_keepDraft_2_2]; exact hrr, by omega⟩, q_X12_keepDraft_2_3, q_X12_keepDraft_2_4, q_X12_keepDraft_2_5, by rw [q_X12_keepDraft_2_1, q_X12_keepDraft_2_2]; exact q_X12_keepDraft_2_6, q_X12_keepDraft_2_7, i_B_X12_text_20_7⟩) /- post4#3 -/, (by omega) /- post5#3 -/, (by 
                                        unfold Hid
                                        intro _
                                        obtain ⟨P, D, hP1, hP2, hP3, hP4⟩ := hid i_B_X12_text_20_8 (by assumption)
                                        have hr2 := hP3.2.2.1
                                        have hr0 := hP3.1
                                        refine ⟨D, ⟨P, hP1, by rw [← hP2.2.2.1]; assumption⟩, by omega, by omega, ?_, ?_, ?_, ?_, q_X12_keepDraft_2_5⟩
                                        · rw [q_X12_keepDraft_2_1, q_X12_keepDraft_2_2]
                                          refine ⟨hP3.1, hP3.2.1, by rw [q_X12_keepDraft_2_3 7 (by omega) (by omega)]; exact hP3.2.2.2.1, by rw [q_X12_keepDraft_2_3 8 (by omega) (by omega)]; exact hP3.2.2.2.2.1, fun j a b => ?_, fun j a b => ?_, fun j a b => ?_, fun j a b => ?_, fun t a b i c d => ?_⟩
                                          · rw [q_X12_keepDraft_2_7 j a b]; exact hP3.2.2.2.2.2.1 j a b
                                          · rw [q_X12_keepDraft_2_3 j a (by omega)]; exact hP3.2.2.2.2.2.2.1 j a b
                                          · dsimp only; rw [q_X12_keepDraft_2_3 _ (by omega) (by omega)]; exact hP3.2.2.2.2.2.2.2.1 j a b
                                          · dsimp only; rw [q_X12_keepDraft_2_3 _ (by omega) (by omega)]; exact hP3.2.2.2.2.2.2.2.2.1 j a b
                                          · rw [q_X12_keepDraft_2_6 t a b i c d, (hP3.2.2.2.2.2.2.2.2.2 t a b).1, (hP3.2.2.2.2.2.2.2.2.2 t a b).2.1, (hP3.2.2.2.2.2.2.2.2.2 t a b).2.2]
                                        · rw [q_X12_keepDraft_2_3 31 (by omega) (by omega)]; exact i_B_X12_text_20_7 31 (by omega) (by omega)
                                        · rw [q_X12_keepDraft_2_3 30 (by omega) (by omega)]; exact i_B_X12_text_20_7 30 (by omega) (by omega)
                                        · intro j a b; rw [q_X12_keepDraft_2_3 _ (by omega) (by omega)]; exact i_B_X12_text_20_7 _ (by omega) (by omega)) /- post6#3 -/, (by unfold Hid; intro h; exfalso; omega) /- post7#3 -/⟩
          ·
            refine wp_some ?_
            try dsimp only
            all_goals exact ⟨(by omega) /- post1#4 -/, (by omega) /- post2#4 -/, (by omega) /- post3#4 -/, (by omega) /- post4#4 -/, (by omega) /- post5#4 -/, (by unfold Hid; intro h; exfalso; omega) /- post6#4 -/, (by unfold Hid; intro h; exfalso; omega) /- post7#4 -/⟩
      ·
        refine wp_bnd ?_
        refine wp_ck (z_r32_i.mpr ⟨(by omega) /- z_r32.lo z32#3 -/, (by omega) /- z_r32.hi z32#3 -/⟩) ?_
        refine wp_if (fun c7 => ?_) (fun c7 => ?_)
        ·
          refine wp_bd6 (s_X12_keepDraft _ _ _ _ _ _ _ _ _ (by omega) /- pre X12_keepDraft.1#3 -/ (by omega) /- pre X12_keepDraft.2#3 -/ (by omega) /- pre X12_keepDraft.3#3 -/ (by omega) /- pre X12_keepDraft.4#3 -/ (by first | (exfalso; omega) | (intro t a b; exact okSt_mono (by omega) (hrr.2.2.2.2.2.2.2.2.2 t a b))) /- pre X12_keepDraft.5#3 -/) (fun z37 z38 w39 w40 w41 w42 q_X12_keepDraft_3 => ?_)
          try dsimp only at q_X12_keepDraft_3
          obtain ⟨q_X12_keepDraft_3_1, q_X12_keepDraft_3_2, q_X12_keepDraft_3_3, q_X12_keepDraft_3_4, q_X12_keepDraft_3_5, q_X12_keepDraft_3_6, q_X12_keepDraft_3_7⟩ := q_X12_keepDraft_3
          refine wp_some ?_
          try dsimp only
          all_goals exact ⟨(by omega) /- post1#5 -/, (by omega) /- post2#5 -/, (by omega) /- post3#5 -/, (by omega) /- post4#5 -/, (by omega) /- post5#5 -/, (by unfold Hid; intro h; exfalso; omega) /- post6#5 -/, (by unfold Hid; intro h; exfalso; omega) /- post7#5 -/⟩
        ·
          refine wp_some ?_
          try dsimp only
          all_goals exact ⟨(by omega) /- post1#6 -/, (by omega) /- post2#6 -/, (by omega) /- post3#6 -/, (by omega) /- post4#6 -/, (by omega) /- post5#6 -/, (by unfold Hid; intro h; exfalso; omega) /- post6#6 -/, (by unfold Hid; intro h; exfalso; omega) /- post7#6 -/⟩
    ·
      obtain ⟨P, D, hP1, hP2, hP3, hP4⟩ := hid i_B_X12_text_20_8 (by assumption)
      refine wp_bd13 (s_X12_readLine _ _ _ _ _ _ _ _ _ _ _ _ _ _ _ B P D (by omega) /- pre X12_readLine.1#1 -/ (by omega) /- pre X12_readLine.2#1 -/ (by exact h3) /- pre X12_readLine.3#1 -/ (by exact i_B_X12_text_20_1) /- pre X12_readLine.4#1 -/ (by omega) /- pre X12_readLine.5#1 -/ (by omega) /- pre X12_readLine.6#1 -/ (by exact i_B_X12_text_20_3 (by assumption)) /- pre X12_readLine.7#1 -/ (by omega) /- pre X12_readLine.8#1 -/ (by omega) /- pre X12_readLine.9#1 -/ (by exact h8) /- pre X12_readLine.10#1 -/ (by exact hP2) /- pre X12_readLine.11#1 -/ (by exact hP3) /- pre X12_readLine.12#1 -/ (by exact hP4) /- pre X12_readLine.13#1 -/) (fun z66 z67 z68 z69 z70 z71 z72 z73 z74 z75 w76 w77 w78 q_X12_readLine_1 => ?_)
      try dsimp only at q_X12_readLine_1
      obtain ⟨q_X12_readLine_1_1, q_X12_readLine_1_2, q_X12_readLine_1_3, q_X12_readLine_1_4, q_X12_readLine_1_5, q_X12_readLine_1_6, q_X12_readLine_1_7, q_X12_readLine_1_8⟩ := q_X12_readLine_1
      have l1 := q_X12_readLine_1_1.1
      refine wp_bndE (fun z79 hz79 => ?_)
      exact ih_B_X12_text_20 _ _ _ _ _ _ _ _ _ _ _ _ _ _ ⟨(by exact q_X12_readLine_1_1) /- B_X12_text_20.inv1#1 -/, (by omega) /- B_X12_text_20.inv2#1 -/, (by exact q_X12_readLine_1_4) /- B_X12_text_20.inv3#1 -/, (by omega) /- B_X12_text_20.inv4#1 -/, (by omega) /- B_X12_text_20.inv5#1 -/, (by omega) /- B_X12_text_20.inv6#1 -/, (by intro j a b; rw [q_X12_readLine_1_5 j a]; exact i_B_X12_text_20_7 j a b) /- B_X12_text_20.inv7#1 -/, (by 
                                        unfold Hid
                                        intro e
                                        obtain ⟨nm, c, g1, g2, g3, g4⟩ := hid q_X12_readLine_1_7 e
                                        refine ⟨_, _, ?_, g2, g3, g4⟩
                                        rw [show z79.toNat = z49.toNat + 1 from by omega]
                                        exact ⟨_, _, nm, c, hP1, g1, rfl, rfl⟩) /- B_X12_text_20.inv8#1 -/, (by 
                                        intro e
                                        rcases hid q_X12_readLine_1_8 e with g | ⟨nm, c, g1, g2⟩
                                        · exact ⟨_, _, _, hP1, g⟩
                                        · exact ⟨z49.toNat + 1, _, _, ⟨_, _, nm, c, hP1, g1, rfl, rfl⟩, g2⟩) /- B_X12_text_20.inv9#1 -/⟩ (by rw [if_pos (show z58 = 0 by assumption)]; split <;> omega) /- B_X12_text_20.dec#1 -/
  ·
    refine wp_ck (z_r32_i.mpr ⟨(by omega) /- z_r32.lo z25#2 -/, (by omega) /- z_r32.hi z25#2 -/⟩) ?_
    refine wp_jn ?_
    refine wp_if (fun c8 => ?_) (fun c8 => ?_)
    ·
      refine wp_ck (z_r32_i.mpr ⟨(by omega) /- z_r32.lo z20#2 -/, (by omega) /- z_r32.hi z20#2 -/⟩) ?_
      refine wp_ck (z_r32_i.mpr ⟨(by first | omega | (have r1 := (i_B_X12_text_20_3 (by assumption)).1; omega)) /- z_r32.lo z17#2 -/, (by first | omega | (have r1 := (i_B_X12_text_20_3 (by assumption)).1; omega)) /- z_r32.hi z17#2 -/⟩) ?_
      refine wp_if (fun c9 => ?_) (fun c9 => ?_)
      ·
        refine wp_bd2 (s_X12_needs _ _ _ _ _ (by omega) /- pre X12_needs.1#3 -/ (by omega) /- pre X12_needs.2#3 -/ (by omega) /- pre X12_needs.3#3 -/) (fun z45 z46 q_X12_needs_3 => ?_)
        try dsimp only at q_X12_needs_3
        obtain ⟨q_X12_needs_3_1, q_X12_needs_3_2⟩ := q_X12_needs_3
        refine wp_bnd ?_
        refine wp_ck (z_r32_i.mpr ⟨(by omega) /- z_r32.lo z32#4 -/, (by omega) /- z_r32.hi z32#4 -/⟩) ?_
        refine wp_if (fun c10 => ?_) (fun c10 => ?_)
        ·
          refine wp_bd6 (s_X12_keepDraft _ _ _ _ _ _ _ _ _ (by omega) /- pre X12_keepDraft.1#4 -/ (by omega) /- pre X12_keepDraft.2#4 -/ (by omega) /- pre X12_keepDraft.3#4 -/ (by omega) /- pre X12_keepDraft.4#4 -/ (by first | (exfalso; omega) | (intro t a b; exact okSt_mono (by omega) (hrr.2.2.2.2.2.2.2.2.2 t a b))) /- pre X12_keepDraft.5#4 -/) (fun z37 z38 w39 w40 w41 w42 q_X12_keepDraft_4 => ?_)
          try dsimp only at q_X12_keepDraft_4
          obtain ⟨q_X12_keepDraft_4_1, q_X12_keepDraft_4_2, q_X12_keepDraft_4_3, q_X12_keepDraft_4_4, q_X12_keepDraft_4_5, q_X12_keepDraft_4_6, q_X12_keepDraft_4_7⟩ := q_X12_keepDraft_4
          refine wp_some ?_
          try dsimp only
          all_goals exact ⟨(by omega) /- post1#7 -/, (by omega) /- post2#7 -/, (by omega) /- post3#7 -/, (by omega) /- post4#7 -/, (by omega) /- post5#7 -/, (by unfold Hid; intro h; exfalso; omega) /- post6#7 -/, (by unfold Hid; intro h; exfalso; omega) /- post7#7 -/⟩
        ·
          refine wp_some ?_
          try dsimp only
          all_goals exact ⟨(by omega) /- post1#8 -/, (by omega) /- post2#8 -/, (by omega) /- post3#8 -/, (by omega) /- post4#8 -/, (by omega) /- post5#8 -/, (by unfold Hid; intro h; exfalso; omega) /- post6#8 -/, (by unfold Hid; intro h; exfalso; omega) /- post7#8 -/⟩
      ·
        refine wp_bd2 (s_X12_needs _ _ _ _ _ (by omega) /- pre X12_needs.1#4 -/ (by omega) /- pre X12_needs.2#4 -/ (by omega) /- pre X12_needs.3#4 -/) (fun z47 z48 q_X12_needs_4 => ?_)
        try dsimp only at q_X12_needs_4
        obtain ⟨q_X12_needs_4_1, q_X12_needs_4_2⟩ := q_X12_needs_4
        refine wp_bnd ?_
        refine wp_ck (z_r32_i.mpr ⟨(by omega) /- z_r32.lo z32#5 -/, (by omega) /- z_r32.hi z32#5 -/⟩) ?_
        refine wp_if (fun c11 => ?_) (fun c11 => ?_)
        ·
          refine wp_bd6 (s_X12_keepDraft _ _ _ _ _ _ _ _ _ (by omega) /- pre X12_keepDraft.1#5 -/ (by omega) /- pre X12_keepDraft.2#5 -/ (by omega) /- pre X12_keepDraft.3#5 -/ (by omega) /- pre X12_keepDraft.4#5 -/ (by first | (exfalso; omega) | (intro t a b; exact okSt_mono (by omega) (hrr.2.2.2.2.2.2.2.2.2 t a b))) /- pre X12_keepDraft.5#5 -/) (fun z37 z38 w39 w40 w41 w42 q_X12_keepDraft_5 => ?_)
          try dsimp only at q_X12_keepDraft_5
          obtain ⟨q_X12_keepDraft_5_1, q_X12_keepDraft_5_2, q_X12_keepDraft_5_3, q_X12_keepDraft_5_4, q_X12_keepDraft_5_5, q_X12_keepDraft_5_6, q_X12_keepDraft_5_7⟩ := q_X12_keepDraft_5
          refine wp_some ?_
          try dsimp only
          all_goals exact ⟨(by omega) /- post1#9 -/, (by omega) /- post2#9 -/, (by omega) /- post3#9 -/, (by omega) /- post4#9 -/, (by omega) /- post5#9 -/, (by unfold Hid; intro h; exfalso; omega) /- post6#9 -/, (by unfold Hid; intro h; exfalso; omega) /- post7#9 -/⟩
        ·
          refine wp_some ?_
          try dsimp only
          all_goals exact ⟨(by omega) /- post1#10 -/, (by omega) /- post2#10 -/, (by omega) /- post3#10 -/, (by omega) /- post4#10 -/, (by omega) /- post5#10 -/, (by unfold Hid; intro h; exfalso; omega) /- post6#10 -/, (by unfold Hid; intro h; exfalso; omega) /- post7#10 -/⟩
    ·
      refine wp_bnd ?_
      refine wp_ck (z_r32_i.mpr ⟨(by omega) /- z_r32.lo z32#6 -/, (by omega) /- z_r32.hi z32#6 -/⟩) ?_
      refine wp_if (fun c12 => ?_) (fun c12 => ?_)
      ·
        refine wp_bd6 (s_X12_keepDraft _ _ _ _ _ _ _ _ _ (by omega) /- pre X12_keepDraft.1#6 -/ (by omega) /- pre X12_keepDraft.2#6 -/ (by omega) /- pre X12_keepDraft.3#6 -/ (by omega) /- pre X12_keepDraft.4#6 -/ (by first | (exfalso; omega) | (intro t a b; exact okSt_mono (by omega) (hrr.2.2.2.2.2.2.2.2.2 t a b))) /- pre X12_keepDraft.5#6 -/) (fun z37 z38 w39 w40 w41 w42 q_X12_keepDraft_6 => ?_)
        try dsimp only at q_X12_keepDraft_6
        obtain ⟨q_X12_keepDraft_6_1, q_X12_keepDraft_6_2, q_X12_keepDraft_6_3, q_X12_keepDraft_6_4, q_X12_keepDraft_6_5, q_X12_keepDraft_6_6, q_X12_keepDraft_6_7⟩ := q_X12_keepDraft_6
        refine wp_some ?_
        try dsimp only
        all_goals exact ⟨(by omega) /- post1#11 -/, (by omega) /- post2#11 -/, (by omega) /- post3#11 -/, (by omega) /- post4#11 -/, (by omega) /- post5#11 -/, (by unfold Hid; intro h; exfalso; omega) /- post6#11 -/, (by unfold Hid; intro h; exfalso; omega) /- post7#11 -/⟩
      ·
        refine wp_some ?_
        try dsimp only
        all_goals exact ⟨(by omega) /- post1#12 -/, (by omega) /- post2#12 -/, (by omega) /- post3#12 -/, (by omega) /- post4#12 -/, (by intro _; exact ⟨rfl, rfl, rfl, rfl, rfl, rfl⟩) /- post5#12 -/, (by unfold Hid; intro h; exfalso; omega) /- post6#12 -/, (by unfold Hid; intro e; left; rw [show -10 - (-10 - z59) = z59 from by omega]; exact i_B_X12_text_20_9 (by assumption)) /- post7#12 -/⟩
