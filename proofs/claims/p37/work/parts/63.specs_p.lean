set_option maxHeartbeats 4000000 in
theorem s_X12_readFriend (i_p0_highest : Int) (i_p0_taped : Int) (i_p0_pos : Int) (i_p0_from : Int) (i_p0_sort : Int) (i_p0_value : Int) (i_p0_fault : Int) (i_p0_wrongAt : Int) (v_p0_draft : (Int → Int)) (v_p0_tape : (Int → Int)) (B : Int → Int) (P : Int) (h1 : 0 ≤ i_p0_taped) (h2 : i_p0_taped ≤ 320) (h3 : ∀ j, 0 ≤ j → j < 320 → 0 ≤ v_p0_tape j ∧ v_p0_tape j ≤ 255) (h4 : tokI i_p0_taped i_p0_pos i_p0_from i_p0_sort i_p0_value i_p0_fault i_p0_wrongAt) (h5 : -4 ≤ i_p0_highest) (h6 : i_p0_highest ≤ 6) (h7 : ∀ j, 0 ≤ j → j < 7 → 0 ≤ v_p0_draft (9 + j) ∧ v_p0_draft (9 + j) < 128) (h8 : bR B v_p0_tape i_p0_taped) (h9 : i_p0_fault = 0 → cur B i_p0_taped P i_p0_pos i_p0_from i_p0_sort i_p0_value) : wp (f_X12_readFriend i_p0_highest i_p0_taped i_p0_pos i_p0_from i_p0_sort i_p0_value i_p0_fault i_p0_wrongAt v_p0_draft v_p0_tape) (fun o => (tokI i_p0_taped o.2.1 o.2.2.1 o.2.2.2.1 o.2.2.2.2.1 o.2.2.2.2.2.1 o.2.2.2.2.2.2.1) ∧ (i_p0_from ≤ o.2.2.1) ∧ (i_p0_highest ≤ o.1 ∧ o.1 ≤ 6) ∧ (∃ p x, (0 ≤ p ∧ p ≤ 6) ∧ (0 ≤ x ∧ x < 128) ∧ o.2.2.2.2.2.2.2 = z_up v_p0_draft (9 + p) x) ∧ (Hid (∃ r1 r2 pos1 frm1 so1 v1 fl1 wa1, rdE B i_p0_taped P 0 6 True i_p0_fault i_p0_wrongAt r1 pos1 frm1 so1 v1 fl1 wa1 ∧ rdE B i_p0_taped (tA B i_p0_taped P) 0 6 (¬ r1 = tV B i_p0_taped (tA B i_p0_taped P) ∧ bt (v_p0_draft (9 + r1)) (tV B i_p0_taped (tA B i_p0_taped P)) = 0) fl1 wa1 r2 o.2.1 o.2.2.1 o.2.2.2.1 o.2.2.2.2.1 o.2.2.2.2.2.1 o.2.2.2.2.2.2.1 ∧ o.2.2.2.2.2.2.2 = z_up v_p0_draft (9 + r1) (z_or (v_p0_draft (9 + r1)) (z_shl 1 r2)) ∧ o.1 = max (max i_p0_highest r1) r2 ∧ (0 ≤ r1 ∧ r1 ≤ 6)))) := by
  unfold f_X12_readFriend
  refine wp_bd8 (s_X12_readPlace _ _ _ _ _ _ _ _ _ B P (by omega) /- pre X12_readPlace.1#1 -/ (by omega) /- pre X12_readPlace.2#1 -/ (by exact h3) /- pre X12_readPlace.3#1 -/ (by exact h4) /- pre X12_readPlace.4#1 -/ (by omega) /- pre X12_readPlace.5#1 -/ (by omega) /- pre X12_readPlace.6#1 -/ (by exact h8) /- pre X12_readPlace.7#1 -/ (by exact h9) /- pre X12_readPlace.8#1 -/) (fun z1 z2 z3 z4 z5 z6 z7 z8 q_X12_readPlace_1 => ?_)
  try dsimp only at q_X12_readPlace_1
  obtain ⟨q_X12_readPlace_1_1, q_X12_readPlace_1_2, q_X12_readPlace_1_3, q_X12_readPlace_1_4, q_X12_readPlace_1_5, q_X12_readPlace_1_6⟩ := q_X12_readPlace_1
  have hc2 := hd_ (fun (e : z7 = 0) => (rdE_cur q_X12_readPlace_1_6 e).2.2.2)
  have j1 := q_X12_readPlace_1_1.1
  have j4 := q_X12_readPlace_1_1.2.2.2.1
  have j5 := q_X12_readPlace_1_1.2.2.2.2.1
  refine wp_bnd ?_
  refine wp_bd4 (s_X12_lookedPlace _ _ _ _ _ _ i_p0_taped z3 (by exact q_X12_readPlace_1_1) /- pre X12_lookedPlace.1#1 -/ (by omega) /- pre X12_lookedPlace.2#1 -/ (by omega) /- pre X12_lookedPlace.3#1 -/) (fun z10 z11 z12 z13 q_X12_lookedPlace_1 => ?_)
  try dsimp only at q_X12_lookedPlace_1
  obtain ⟨q_X12_lookedPlace_1_1, q_X12_lookedPlace_1_2, q_X12_lookedPlace_1_3, q_X12_lookedPlace_1_4⟩ := q_X12_lookedPlace_1
  have he2 : Hid (z12 = 0 → z10 = tV B i_p0_taped (tA B i_p0_taped P)) := by
    unfold Hid
    intro e
    by_cases e7 : z7 = 0
    · rcases q_X12_lookedPlace_1_4.1 e7 with g | g
      · have := (hid hc2 e7).2.2.2.1 g.1; omega
      · exact absurd e g.2.1
    · exact absurd e (q_X12_lookedPlace_1_4.2 e7).1
  have k4 := q_X12_lookedPlace_1_3.2.2.2.1
  have k5 := q_X12_lookedPlace_1_3.2.2.2.2.1
  have k3 := q_X12_readPlace_1_1.2.2.1
  have hz10 : 0 ≤ z10 ∧ z10 ≤ 6 := by omega
  have hfr := h7 z1 (by omega) (by omega)
  have hor := or7z hfr.1 hfr.2 hz10.1 (show z10 < 7 by omega)
  refine wp_bnd ?_
  refine wp_ck (z_r32_i.mpr ⟨(by omega) /- z_r32.lo z9#1 -/, (by omega) /- z_r32.hi z9#1 -/⟩) ?_
  refine wp_ck (z_r32_i.mpr ⟨(by omega) /- z_r32.lo z14#1 -/, (by omega) /- z_r32.hi z14#1 -/⟩) ?_
  refine wp_jn ?_
  refine wp_jn ?_
  refine wp_if (fun c1 => ?_) (fun c1 => ?_)
  ·
    refine wp_bd2 (s_X12_needs _ _ _ _ _ (by omega) /- pre X12_needs.1#1 -/ (by omega) /- pre X12_needs.2#1 -/ (by omega) /- pre X12_needs.3#1 -/) (fun z19 z20 q_X12_needs_1 => ?_)
    try dsimp only at q_X12_needs_1
    obtain ⟨q_X12_needs_1_1, q_X12_needs_1_2⟩ := q_X12_needs_1
    have hd := hd_ (nd_E (E := (¬ z1 = tV B i_p0_taped (tA B i_p0_taped P) ∧ bt (v_p0_draft (9 + z1)) (tV B i_p0_taped (tA B i_p0_taped P)) = 0)) q_X12_needs_1_1 q_X12_needs_1_2 (by decide) (fun e => ⟨fun z => absurd rfl z, fun z => absurd (by rw [← hid he2 e]; assumption) z.1⟩))
    have hti : tokI i_p0_taped z3 z4 z5 z6 z19 z20 := tokI_fl q_X12_lookedPlace_1_3 (by split at q_X12_needs_1_1 <;> omega) (by split at q_X12_needs_1_1 <;> split at q_X12_needs_1_2 <;> omega)
    clear q_X12_needs_1_1 q_X12_needs_1_2
    have m4 := hti.2.2.2.1
    refine wp_ck (z_ix_i.mpr ⟨⟨(by omega) /- ix.lo ((9 : Int) + z9)#1 -/, (by omega) /- ix.hi ((9 : Int) + z9)#1 -/⟩, (by omega) /- ix.big ((9 : Int) + z9)#1 -/⟩) ?_
    refine wp_ck (z_ix_i.mpr ⟨⟨(by omega) /- ix.lo ((9 : Int) + z9)#2 -/, (by omega) /- ix.hi ((9 : Int) + z9)#2 -/⟩, (by omega) /- ix.big ((9 : Int) + z9)#2 -/⟩) ?_
    refine wp_bnd ?_
    refine wp_bd6 (s_X12_nextToken _ _ _ _ _ _ _ _ (by omega) /- pre X12_nextToken.1#1 -/ (by omega) /- pre X12_nextToken.2#1 -/ (by omega) /- pre X12_nextToken.3#1 -/ (by omega) /- pre X12_nextToken.4#1 -/ (by exact h3) /- pre X12_nextToken.5#1 -/ (by omega) /- pre X12_nextToken.6#1 -/ (by omega) /- pre X12_nextToken.7#1 -/) (fun z22 z23 z24 z25 z26 z27 q_X12_nextToken_1 => ?_)
    try dsimp only at q_X12_nextToken_1
    obtain ⟨q_X12_nextToken_1_1, q_X12_nextToken_1_2⟩ := q_X12_nextToken_1
    have hns := hd_ (nt_st h8 (by omega) q_X12_nextToken_1_1 q_X12_nextToken_1_2)
    obtain ⟨n1, n2, n3, n4⟩ := tokI_next h3 h2 hti q_X12_nextToken_1_1 q_X12_nextToken_1_2
    clear q_X12_nextToken_1_1 q_X12_nextToken_1_2
    refine wp_some ?_
    try dsimp only
    all_goals exact ⟨(by exact n1) /- post1#1 -/, (by omega) /- post2#1 -/, (by omega) /- post3#1 -/, (by exact ⟨z1, _, by omega, hor, rfl⟩) /- post4#1 -/, (by unfold Hid; exact ⟨z1, z10, z3, z4, z5, z6, z7, z8, q_X12_readPlace_1_6, rdE_lkE (hid hc2) q_X12_lookedPlace_1_4 (hid hd) (hid hns), rfl, by omega, by omega⟩) /- post5#1 -/⟩
  ·
    refine wp_ck (z_ix_i.mpr ⟨⟨(by omega) /- ix.lo ((9 : Int) + z9)#3 -/, (by omega) /- ix.hi ((9 : Int) + z9)#3 -/⟩, (by omega) /- ix.big ((9 : Int) + z9)#3 -/⟩) ?_
    refine wp_ck (z_r32_t _) ?_
    refine wp_if (fun c2 => ?_) (fun c2 => ?_)
    ·
      refine wp_bd2 (s_X12_needs _ _ _ _ _ (by omega) /- pre X12_needs.1#2 -/ (by omega) /- pre X12_needs.2#2 -/ (by omega) /- pre X12_needs.3#2 -/) (fun z19 z20 q_X12_needs_2 => ?_)
      try dsimp only at q_X12_needs_2
      obtain ⟨q_X12_needs_2_1, q_X12_needs_2_2⟩ := q_X12_needs_2
      have hd := hd_ (nd_E (E := (¬ z1 = tV B i_p0_taped (tA B i_p0_taped P) ∧ bt (v_p0_draft (9 + z1)) (tV B i_p0_taped (tA B i_p0_taped P)) = 0)) q_X12_needs_2_1 q_X12_needs_2_2 (by decide) (fun e => ⟨fun _ => by rw [← hid he2 e]; exact ⟨by assumption, by assumption⟩, fun _ => by decide⟩))
      have hti : tokI i_p0_taped z3 z4 z5 z6 z19 z20 := tokI_fl q_X12_lookedPlace_1_3 (by split at q_X12_needs_2_1 <;> omega) (by split at q_X12_needs_2_1 <;> split at q_X12_needs_2_2 <;> omega)
      clear q_X12_needs_2_1 q_X12_needs_2_2
      have m4 := hti.2.2.2.1
      refine wp_ck (z_ix_i.mpr ⟨⟨(by omega) /- ix.lo ((9 : Int) + z9)#4 -/, (by omega) /- ix.hi ((9 : Int) + z9)#4 -/⟩, (by omega) /- ix.big ((9 : Int) + z9)#4 -/⟩) ?_
      refine wp_ck (z_ix_i.mpr ⟨⟨(by omega) /- ix.lo ((9 : Int) + z9)#5 -/, (by omega) /- ix.hi ((9 : Int) + z9)#5 -/⟩, (by omega) /- ix.big ((9 : Int) + z9)#5 -/⟩) ?_
      refine wp_bnd ?_
      refine wp_bd6 (s_X12_nextToken _ _ _ _ _ _ _ _ (by omega) /- pre X12_nextToken.1#2 -/ (by omega) /- pre X12_nextToken.2#2 -/ (by omega) /- pre X12_nextToken.3#2 -/ (by omega) /- pre X12_nextToken.4#2 -/ (by exact h3) /- pre X12_nextToken.5#2 -/ (by omega) /- pre X12_nextToken.6#2 -/ (by omega) /- pre X12_nextToken.7#2 -/) (fun z22 z23 z24 z25 z26 z27 q_X12_nextToken_2 => ?_)
      try dsimp only at q_X12_nextToken_2
      obtain ⟨q_X12_nextToken_2_1, q_X12_nextToken_2_2⟩ := q_X12_nextToken_2
      have hns := hd_ (nt_st h8 (by omega) q_X12_nextToken_2_1 q_X12_nextToken_2_2)
      obtain ⟨n1, n2, n3, n4⟩ := tokI_next h3 h2 hti q_X12_nextToken_2_1 q_X12_nextToken_2_2
      clear q_X12_nextToken_2_1 q_X12_nextToken_2_2
      refine wp_some ?_
      try dsimp only
      all_goals exact ⟨(by exact n1) /- post1#2 -/, (by omega) /- post2#2 -/, (by omega) /- post3#2 -/, (by exact ⟨z1, _, by omega, hor, rfl⟩) /- post4#2 -/, (by unfold Hid; exact ⟨z1, z10, z3, z4, z5, z6, z7, z8, q_X12_readPlace_1_6, rdE_lkE (hid hc2) q_X12_lookedPlace_1_4 (hid hd) (hid hns), rfl, by omega, by omega⟩) /- post5#2 -/⟩
    ·
      refine wp_bd2 (s_X12_needs _ _ _ _ _ (by omega) /- pre X12_needs.1#3 -/ (by omega) /- pre X12_needs.2#3 -/ (by omega) /- pre X12_needs.3#3 -/) (fun z19 z20 q_X12_needs_3 => ?_)
      try dsimp only at q_X12_needs_3
      obtain ⟨q_X12_needs_3_1, q_X12_needs_3_2⟩ := q_X12_needs_3
      have hd := hd_ (nd_E (E := (¬ z1 = tV B i_p0_taped (tA B i_p0_taped P) ∧ bt (v_p0_draft (9 + z1)) (tV B i_p0_taped (tA B i_p0_taped P)) = 0)) q_X12_needs_3_1 q_X12_needs_3_2 (by decide) (fun e => ⟨fun z => absurd rfl z, fun z => absurd z.2 (by rw [← hid he2 e]; assumption)⟩))
      have hti : tokI i_p0_taped z3 z4 z5 z6 z19 z20 := tokI_fl q_X12_lookedPlace_1_3 (by split at q_X12_needs_3_1 <;> omega) (by split at q_X12_needs_3_1 <;> split at q_X12_needs_3_2 <;> omega)
      clear q_X12_needs_3_1 q_X12_needs_3_2
      have m4 := hti.2.2.2.1
      refine wp_ck (z_ix_i.mpr ⟨⟨(by omega) /- ix.lo ((9 : Int) + z9)#6 -/, (by omega) /- ix.hi ((9 : Int) + z9)#6 -/⟩, (by omega) /- ix.big ((9 : Int) + z9)#6 -/⟩) ?_
      refine wp_ck (z_ix_i.mpr ⟨⟨(by omega) /- ix.lo ((9 : Int) + z9)#7 -/, (by omega) /- ix.hi ((9 : Int) + z9)#7 -/⟩, (by omega) /- ix.big ((9 : Int) + z9)#7 -/⟩) ?_
      refine wp_bnd ?_
      refine wp_bd6 (s_X12_nextToken _ _ _ _ _ _ _ _ (by omega) /- pre X12_nextToken.1#3 -/ (by omega) /- pre X12_nextToken.2#3 -/ (by omega) /- pre X12_nextToken.3#3 -/ (by omega) /- pre X12_nextToken.4#3 -/ (by exact h3) /- pre X12_nextToken.5#3 -/ (by omega) /- pre X12_nextToken.6#3 -/ (by omega) /- pre X12_nextToken.7#3 -/) (fun z22 z23 z24 z25 z26 z27 q_X12_nextToken_3 => ?_)
      try dsimp only at q_X12_nextToken_3
      obtain ⟨q_X12_nextToken_3_1, q_X12_nextToken_3_2⟩ := q_X12_nextToken_3
      have hns := hd_ (nt_st h8 (by omega) q_X12_nextToken_3_1 q_X12_nextToken_3_2)
      obtain ⟨n1, n2, n3, n4⟩ := tokI_next h3 h2 hti q_X12_nextToken_3_1 q_X12_nextToken_3_2
      clear q_X12_nextToken_3_1 q_X12_nextToken_3_2
      refine wp_some ?_
      try dsimp only
      all_goals exact ⟨(by exact n1) /- post1#3 -/, (by omega) /- post2#3 -/, (by omega) /- post3#3 -/, (by exact ⟨z1, _, by omega, hor, rfl⟩) /- post4#3 -/, (by unfold Hid; exact ⟨z1, z10, z3, z4, z5, z6, z7, z8, q_X12_readPlace_1_6, rdE_lkE (hid hc2) q_X12_lookedPlace_1_4 (hid hd) (hid hns), rfl, by omega, by omega⟩) /- post5#3 -/⟩

set_option maxHeartbeats 4000000 in
theorem s_X12_readStir (i_p0_dStirs : Int) (i_p0_highest : Int) (i_p0_taped : Int) (i_p0_pos : Int) (i_p0_from : Int) (i_p0_sort : Int) (i_p0_value : Int) (i_p0_fault : Int) (i_p0_wrongAt : Int) (v_p0_dStir : (Int → Int)) (v_p0_tape : (Int → Int)) (x1 : Int) (B : Int → Int) (P : Int) (h1 : 0 ≤ i_p0_taped) (h2 : i_p0_taped ≤ 320) (h3 : ∀ j, 0 ≤ j → j < 320 → 0 ≤ v_p0_tape j ∧ v_p0_tape j ≤ 255) (h4 : tokI i_p0_taped i_p0_pos i_p0_from i_p0_sort i_p0_value i_p0_fault i_p0_wrongAt) (h5 : -4 ≤ i_p0_highest) (h6 : i_p0_highest ≤ 6) (h7 : 0 ≤ i_p0_dStirs) (h8 : i_p0_dStirs < 5) (h9 : 0 ≤ x1) (h10 : x1 ≤ 3) (h11 : bR B v_p0_tape i_p0_taped) (h12 : i_p0_fault = 0) (h13 : cur B i_p0_taped P i_p0_pos i_p0_from i_p0_sort i_p0_value) : wp (f_X12_readStir i_p0_dStirs i_p0_highest i_p0_taped i_p0_pos i_p0_from i_p0_sort i_p0_value i_p0_fault i_p0_wrongAt v_p0_dStir v_p0_tape x1) (fun o => (tokI i_p0_taped o.2.2.1 o.2.2.2.1 o.2.2.2.2.1 o.2.2.2.2.2.1 o.2.2.2.2.2.2.1 o.2.2.2.2.2.2.2.1) ∧ (i_p0_from ≤ o.2.2.2.1) ∧ (i_p0_highest ≤ o.2.1 ∧ o.2.1 ≤ 6) ∧ (o.1 = i_p0_dStirs + 1) ∧ (∀ j, j < 3 * i_p0_dStirs → o.2.2.2.2.2.2.2.2 j = v_p0_dStir j) ∧ (o.2.2.2.2.2.2.1 = 0 → okSt (max o.2.1 0 + 1) (7 + o.2.2.2.2.2.2.2.2 (3 * i_p0_dStirs)) (o.2.2.2.2.2.2.2.2 (3 * i_p0_dStirs + 1)) (o.2.2.2.2.2.2.2.2 (3 * i_p0_dStirs + 2))) ∧ (o.2.2.2.2.2.2.2.2 (3 * i_p0_dStirs) = x1) ∧ (Hid (x1 = 0 → rdE B i_p0_taped P 1 6 True i_p0_fault i_p0_wrongAt (o.2.2.2.2.2.2.2.2 (3 * i_p0_dStirs + 1)) o.2.2.1 o.2.2.2.1 o.2.2.2.2.1 o.2.2.2.2.2.1 o.2.2.2.2.2.2.1 o.2.2.2.2.2.2.2.1 ∧ o.2.2.2.2.2.2.2.2 (3 * i_p0_dStirs + 2) = 0 ∧ o.2.1 = i_p0_highest)) ∧ (Hid (x1 = 1 → cur B i_p0_taped P o.2.2.1 o.2.2.2.1 o.2.2.2.2.1 o.2.2.2.2.2.1 ∧ o.2.2.2.2.2.2.1 = 0 ∧ o.2.2.2.2.2.2.2.2 (3 * i_p0_dStirs + 1) = 0 ∧ o.2.2.2.2.2.2.2.2 (3 * i_p0_dStirs + 2) = 0 ∧ o.2.1 = i_p0_highest)) ∧ (Hid (x1 = 2 → ∃ pos1 frm1 so1 v1 fl1 wa1, rdE B i_p0_taped P 0 6 True i_p0_fault i_p0_wrongAt (o.2.2.2.2.2.2.2.2 (3 * i_p0_dStirs + 1)) pos1 frm1 so1 v1 fl1 wa1 ∧ rdE B i_p0_taped (tA B i_p0_taped P) 0 6 (¬ (o.2.2.2.2.2.2.2.2 (3 * i_p0_dStirs + 1)) = tV B i_p0_taped (tA B i_p0_taped P)) fl1 wa1 (o.2.2.2.2.2.2.2.2 (3 * i_p0_dStirs + 2)) o.2.2.1 o.2.2.2.1 o.2.2.2.2.1 o.2.2.2.2.2.1 o.2.2.2.2.2.2.1 o.2.2.2.2.2.2.2.1 ∧ o.2.1 = max (max i_p0_highest (o.2.2.2.2.2.2.2.2 (3 * i_p0_dStirs + 1))) (o.2.2.2.2.2.2.2.2 (3 * i_p0_dStirs + 2)))) ∧ (Hid (x1 = 3 → rdE B i_p0_taped P 1 6 True i_p0_fault i_p0_wrongAt (o.2.2.2.2.2.2.2.2 (3 * i_p0_dStirs + 1)) o.2.2.1 o.2.2.2.1 o.2.2.2.2.1 o.2.2.2.2.2.1 o.2.2.2.2.2.2.1 o.2.2.2.2.2.2.2.1 ∧ o.2.2.2.2.2.2.2.2 (3 * i_p0_dStirs + 2) = 0 ∧ o.2.1 = max i_p0_highest (o.2.2.2.2.2.2.2.2 (3 * i_p0_dStirs + 1))))) := by
  unfold f_X12_readStir
  have i1 := h4.1
  have i3 := h4.2.2.1
  have i4 := h4.2.2.2.1
  have i5 := h4.2.2.2.2.1
  refine wp_bndE (fun z1 hz1 => ?_)
  refine wp_ck (z_ix_i.mpr ⟨⟨(by omega) /- ix.lo z1#1 -/, (by omega) /- ix.hi z1#1 -/⟩, (by omega) /- ix.big z1#1 -/⟩) ?_
  refine wp_bnd ?_
  refine wp_ck (z_ix_i.mpr ⟨⟨(by omega) /- ix.lo (z1 + (1 : Int))#1 -/, (by omega) /- ix.hi (z1 + (1 : Int))#1 -/⟩, (by omega) /- ix.big (z1 + (1 : Int))#1 -/⟩) ?_
  refine wp_bnd ?_
  refine wp_ck (z_ix_i.mpr ⟨⟨(by omega) /- ix.lo (z1 + (2 : Int))#1 -/, (by omega) /- ix.hi (z1 + (2 : Int))#1 -/⟩, (by omega) /- ix.big (z1 + (2 : Int))#1 -/⟩) ?_
  refine wp_bnd ?_
  refine wp_ck (z_r32_i.mpr ⟨(by omega) /- z_r32.lo x1#1 -/, (by omega) /- z_r32.hi x1#1 -/⟩) ?_
  refine wp_jn ?_
  refine wp_if (fun c1 => ?_) (fun c1 => ?_)
  ·
    refine wp_bd7 (s_X12_readNumber _ _ _ _ _ _ _ _ _ _ B P (by omega) /- pre X12_readNumber.1#1 -/ (by omega) /- pre X12_readNumber.2#1 -/ (by exact h3) /- pre X12_readNumber.3#1 -/ (by exact h4) /- pre X12_readNumber.4#1 -/ (by omega) /- pre X12_readNumber.5#1 -/ (by omega) /- pre X12_readNumber.6#1 -/ (by omega) /- pre X12_readNumber.7#1 -/ (by omega) /- pre X12_readNumber.8#1 -/ (by exact h11) /- pre X12_readNumber.9#1 -/ (by exact fun _ => h13) /- pre X12_readNumber.10#1 -/) (fun z64 z65 z66 z67 z68 z69 z70 q_X12_readNumber_1 => ?_)
    try dsimp only at q_X12_readNumber_1
    obtain ⟨q_X12_readNumber_1_1, q_X12_readNumber_1_2, q_X12_readNumber_1_3, q_X12_readNumber_1_4, q_X12_readNumber_1_5⟩ := q_X12_readNumber_1
    refine wp_ck (z_ix_i.mpr ⟨⟨(by omega) /- ix.lo (z1 + (1 : Int))#2 -/, (by omega) /- ix.hi (z1 + (1 : Int))#2 -/⟩, (by omega) /- ix.big (z1 + (1 : Int))#2 -/⟩) ?_
    refine wp_bnd ?_
    refine wp_bndE (fun z15 hz15 => ?_)
    refine wp_some ?_
    try dsimp only
    all_goals exact ⟨(by first | exact n1 | exact q_X12_readNumber_1_1 | exact h4) /- post1#1 -/, (by omega) /- post2#1 -/, (by omega) /- post3#1 -/, (by omega) /- post4#1 -/, (by intro j hj; (repeat rw [z_up_n _ _ (by omega)])) /- post5#1 -/, (by 
                                        intro h
                                        unfold okSt
                                        rw [← hz1]
                                        first
                                        | (left; rw [z_up_n _ _ (by omega), z_up_n _ _ (by omega), z_up_n _ _ (by omega), z_up_s, z_up_s]; omega)
                                        | (right; left; rw [z_up_n _ _ (by omega), z_up_n _ _ (by omega), z_up_s]; omega)
                                        | (right; right; right; rw [z_up_n _ _ (by omega), z_up_n _ _ (by omega), z_up_n _ _ (by omega), z_up_s, z_up_s]; omega)
                                        | (right; right; left; rw [w1e, w2e, z_up_n _ _ (by omega), z_up_n _ _ (by omega), z_up_n _ _ (by omega), z_up_n _ _ (by omega), z_up_s]; omega)) /- post6#1 -/, (by rw [← hz1]; (repeat rw [z_up_n _ _ (by omega)]); rw [z_up_s]) /- post7#1 -/, (by unfold Hid; intro _; rw [← hz1]; refine ⟨?_, ?_, rfl⟩; (rw [z_up_s]; exact q_X12_readNumber_1_5); (rw [z_up_n _ _ (by omega), z_up_s])) /- post8#1 -/, (by unfold Hid; intro h; exfalso; omega) /- post9#1 -/, (by unfold Hid; intro h; exfalso; omega) /- post10#1 -/, (by unfold Hid; intro h; exfalso; omega) /- post11#1 -/⟩
  ·
    refine wp_if (fun c2 => ?_) (fun c2 => ?_)
    ·
      refine wp_bd3 (s_X12_looked _ _ _ _ _ _ _ i_p0_taped i_p0_pos (by exact h4) /- pre X12_looked.1#1 -/ (by omega) /- pre X12_looked.2#1 -/ (by omega) /- pre X12_looked.3#1 -/ (by omega) /- pre X12_looked.4#1 -/ (by omega) /- pre X12_looked.5#1 -/) (fun z48 z49 z50 q_X12_looked_1 => ?_)
      try dsimp only at q_X12_looked_1
      obtain ⟨q_X12_looked_1_1, q_X12_looked_1_2, q_X12_looked_1_3⟩ := q_X12_looked_1
      have hlp := lkd_p q_X12_looked_1_1 q_X12_looked_1_2 q_X12_looked_1_3
      have hlk := lkd_d q_X12_looked_1_1 q_X12_looked_1_2 q_X12_looked_1_3
      clear q_X12_looked_1_1 q_X12_looked_1_2 q_X12_looked_1_3
      have hti : tokI i_p0_taped i_p0_pos i_p0_from i_p0_sort i_p0_value z49 z50 := tokI_fl h4 (by omega) (by omega)
      have m4 := hti.2.2.2.1
      refine wp_bnd ?_
      refine wp_ck (z_r32_i.mpr ⟨(by omega) /- z_r32.lo z51#1 -/, (by omega) /- z_r32.hi z51#1 -/⟩) ?_
      refine wp_ck (z_r32_i.mpr ⟨(by omega) /- z_r32.lo i_p0_highest#1 -/, (by omega) /- z_r32.hi i_p0_highest#1 -/⟩) ?_
      refine wp_jn ?_
      refine wp_if (fun c3 => ?_) (fun c3 => ?_)
      ·
        refine wp_bnd ?_
        refine wp_ck (z_ix_i.mpr ⟨⟨(by omega) /- ix.lo (z1 + (1 : Int))#3 -/, (by omega) /- ix.hi (z1 + (1 : Int))#3 -/⟩, (by omega) /- ix.big (z1 + (1 : Int))#3 -/⟩) ?_
        refine wp_bnd ?_
        refine wp_bd6 (s_X12_nextToken _ _ _ _ _ _ _ _ (by omega) /- pre X12_nextToken.1#1 -/ (by omega) /- pre X12_nextToken.2#1 -/ (by omega) /- pre X12_nextToken.3#1 -/ (by omega) /- pre X12_nextToken.4#1 -/ (by exact h3) /- pre X12_nextToken.5#1 -/ (by omega) /- pre X12_nextToken.6#1 -/ (by omega) /- pre X12_nextToken.7#1 -/) (fun z58 z59 z60 z61 z62 z63 q_X12_nextToken_1 => ?_)
        try dsimp only at q_X12_nextToken_1
        obtain ⟨q_X12_nextToken_1_1, q_X12_nextToken_1_2⟩ := q_X12_nextToken_1
        have hns := hd_ (nt_st h11 (by omega) q_X12_nextToken_1_1 q_X12_nextToken_1_2)
        obtain ⟨n1, n2, n3, n4⟩ := tokI_next h3 h2 hti q_X12_nextToken_1_1 q_X12_nextToken_1_2
        clear q_X12_nextToken_1_1 q_X12_nextToken_1_2
        refine wp_bndE (fun z15 hz15 => ?_)
        refine wp_some ?_
        try dsimp only
        all_goals exact ⟨(by first | exact n1 | exact q_X12_readNumber_1_1 | exact h4) /- post1#2 -/, (by omega) /- post2#2 -/, (by omega) /- post3#2 -/, (by omega) /- post4#2 -/, (by intro j hj; (repeat rw [z_up_n _ _ (by omega)])) /- post5#2 -/, (by 
                                        intro h
                                        unfold okSt
                                        rw [← hz1]
                                        first
                                        | (left; rw [z_up_n _ _ (by omega), z_up_n _ _ (by omega), z_up_n _ _ (by omega), z_up_s, z_up_s]; omega)
                                        | (right; left; rw [z_up_n _ _ (by omega), z_up_n _ _ (by omega), z_up_s]; omega)
                                        | (right; right; right; rw [z_up_n _ _ (by omega), z_up_n _ _ (by omega), z_up_n _ _ (by omega), z_up_s, z_up_s]; omega)
                                        | (right; right; left; rw [w1e, w2e, z_up_n _ _ (by omega), z_up_n _ _ (by omega), z_up_n _ _ (by omega), z_up_n _ _ (by omega), z_up_s]; omega)) /- post6#2 -/, (by rw [← hz1]; (repeat rw [z_up_n _ _ (by omega)]); rw [z_up_s]) /- post7#2 -/, (by unfold Hid; intro h; exfalso; omega) /- post8#2 -/, (by unfold Hid; intro h; exfalso; omega) /- post9#2 -/, (by unfold Hid; intro h; exfalso; omega) /- post10#2 -/, (by unfold Hid; intro _; rw [← hz1]; refine ⟨?_, ?_, ?_⟩; (rw [z_up_s]; exact rdE_lk (fun _ => h13) hlp (hid hns)); (rw [z_up_n _ _ (by omega), z_up_s]); (rw [z_up_s]; omega)) /- post11#2 -/⟩
      ·
        refine wp_bnd ?_
        refine wp_ck (z_ix_i.mpr ⟨⟨(by omega) /- ix.lo (z1 + (1 : Int))#4 -/, (by omega) /- ix.hi (z1 + (1 : Int))#4 -/⟩, (by omega) /- ix.big (z1 + (1 : Int))#4 -/⟩) ?_
        refine wp_bnd ?_
        refine wp_bd6 (s_X12_nextToken _ _ _ _ _ _ _ _ (by omega) /- pre X12_nextToken.1#2 -/ (by omega) /- pre X12_nextToken.2#2 -/ (by omega) /- pre X12_nextToken.3#2 -/ (by omega) /- pre X12_nextToken.4#2 -/ (by exact h3) /- pre X12_nextToken.5#2 -/ (by omega) /- pre X12_nextToken.6#2 -/ (by omega) /- pre X12_nextToken.7#2 -/) (fun z58 z59 z60 z61 z62 z63 q_X12_nextToken_2 => ?_)
        try dsimp only at q_X12_nextToken_2
        obtain ⟨q_X12_nextToken_2_1, q_X12_nextToken_2_2⟩ := q_X12_nextToken_2
        have hns := hd_ (nt_st h11 (by omega) q_X12_nextToken_2_1 q_X12_nextToken_2_2)
        obtain ⟨n1, n2, n3, n4⟩ := tokI_next h3 h2 hti q_X12_nextToken_2_1 q_X12_nextToken_2_2
        clear q_X12_nextToken_2_1 q_X12_nextToken_2_2
        refine wp_bndE (fun z15 hz15 => ?_)
        refine wp_some ?_
        try dsimp only
        all_goals exact ⟨(by first | exact n1 | exact q_X12_readNumber_1_1 | exact h4) /- post1#3 -/, (by omega) /- post2#3 -/, (by omega) /- post3#3 -/, (by omega) /- post4#3 -/, (by intro j hj; (repeat rw [z_up_n _ _ (by omega)])) /- post5#3 -/, (by 
                                        intro h
                                        unfold okSt
                                        rw [← hz1]
                                        first
                                        | (left; rw [z_up_n _ _ (by omega), z_up_n _ _ (by omega), z_up_n _ _ (by omega), z_up_s, z_up_s]; omega)
                                        | (right; left; rw [z_up_n _ _ (by omega), z_up_n _ _ (by omega), z_up_s]; omega)
                                        | (right; right; right; rw [z_up_n _ _ (by omega), z_up_n _ _ (by omega), z_up_n _ _ (by omega), z_up_s, z_up_s]; omega)
                                        | (right; right; left; rw [w1e, w2e, z_up_n _ _ (by omega), z_up_n _ _ (by omega), z_up_n _ _ (by omega), z_up_n _ _ (by omega), z_up_s]; omega)) /- post6#3 -/, (by rw [← hz1]; (repeat rw [z_up_n _ _ (by omega)]); rw [z_up_s]) /- post7#3 -/, (by unfold Hid; intro h; exfalso; omega) /- post8#3 -/, (by unfold Hid; intro h; exfalso; omega) /- post9#3 -/, (by unfold Hid; intro h; exfalso; omega) /- post10#3 -/, (by unfold Hid; intro _; rw [← hz1]; refine ⟨?_, ?_, ?_⟩; (rw [z_up_s]; exact rdE_lk (fun _ => h13) hlp (hid hns)); (rw [z_up_n _ _ (by omega), z_up_s]); (rw [z_up_s]; omega)) /- post11#3 -/⟩
    ·
      refine wp_if (fun c4 => ?_) (fun c4 => ?_)
      ·
        refine wp_bd8 (s_X12_readPlace _ _ _ _ _ _ _ _ _ B P (by omega) /- pre X12_readPlace.1#1 -/ (by omega) /- pre X12_readPlace.2#1 -/ (by exact h3) /- pre X12_readPlace.3#1 -/ (by exact h4) /- pre X12_readPlace.4#1 -/ (by omega) /- pre X12_readPlace.5#1 -/ (by omega) /- pre X12_readPlace.6#1 -/ (by exact h11) /- pre X12_readPlace.7#1 -/ (by exact fun _ => h13) /- pre X12_readPlace.8#1 -/) (fun z16 z17 z18 z19 z20 z21 z22 z23 q_X12_readPlace_1 => ?_)
        try dsimp only at q_X12_readPlace_1
        obtain ⟨q_X12_readPlace_1_1, q_X12_readPlace_1_2, q_X12_readPlace_1_3, q_X12_readPlace_1_4, q_X12_readPlace_1_5, q_X12_readPlace_1_6⟩ := q_X12_readPlace_1
        have hc2 := hd_ (fun (e : z22 = 0) => (rdE_cur q_X12_readPlace_1_6 e).2.2.2)
        have j1 := q_X12_readPlace_1_1.1
        have j3 := q_X12_readPlace_1_1.2.2.1
        have j4 := q_X12_readPlace_1_1.2.2.2.1
        have j5 := q_X12_readPlace_1_1.2.2.2.2.1
        refine wp_ck (z_ix_i.mpr ⟨⟨(by omega) /- ix.lo (z1 + (1 : Int))#5 -/, (by omega) /- ix.hi (z1 + (1 : Int))#5 -/⟩, (by omega) /- ix.big (z1 + (1 : Int))#5 -/⟩) ?_
        refine wp_bnd ?_
        refine wp_bd4 (s_X12_lookedPlace _ _ _ _ _ _ i_p0_taped z18 (by exact q_X12_readPlace_1_1) /- pre X12_lookedPlace.1#1 -/ (by omega) /- pre X12_lookedPlace.2#1 -/ (by omega) /- pre X12_lookedPlace.3#1 -/) (fun z25 z26 z27 z28 q_X12_lookedPlace_1 => ?_)
        try dsimp only at q_X12_lookedPlace_1
        obtain ⟨q_X12_lookedPlace_1_1, q_X12_lookedPlace_1_2, q_X12_lookedPlace_1_3, q_X12_lookedPlace_1_4⟩ := q_X12_lookedPlace_1
        have he2 : Hid (z27 = 0 → z25 = tV B i_p0_taped (tA B i_p0_taped P)) := by
          unfold Hid
          intro e
          by_cases e7 : z22 = 0
          · rcases q_X12_lookedPlace_1_4.1 e7 with g | g
            · have := (hid hc2 e7).2.2.2.1 g.1; omega
            · exact absurd e g.2.1
          · exact absurd e (q_X12_lookedPlace_1_4.2 e7).1
        have k4 := q_X12_lookedPlace_1_3.2.2.2.1
        have k5 := q_X12_lookedPlace_1_3.2.2.2.2.1
        have hz25 : 0 ≤ z25 ∧ z25 ≤ 6 := by omega
        have w1e : z_up (z_up (z_up (z_up (z_up v_p0_dStir z1 x1) (z1 + 1) 0) (z1 + 2) 0) (z1 + 1) z16) (z1 + 2) z25 (z1 + 1) = z16 := by rw [z_up_n _ _ (by omega), z_up_s]
        have w2e : z_up (z_up (z_up (z_up (z_up v_p0_dStir z1 x1) (z1 + 1) 0) (z1 + 2) 0) (z1 + 1) z16) (z1 + 2) z25 (z1 + 2) = z25 := by rw [z_up_s]
        refine wp_ck (z_ix_i.mpr ⟨⟨(by omega) /- ix.lo (z1 + (2 : Int))#2 -/, (by omega) /- ix.hi (z1 + (2 : Int))#2 -/⟩, (by omega) /- ix.big (z1 + (2 : Int))#2 -/⟩) ?_
        refine wp_bnd ?_
        refine wp_ck (z_ix_i.mpr ⟨⟨(by omega) /- ix.lo (z1 + (1 : Int))#6 -/, (by omega) /- ix.hi (z1 + (1 : Int))#6 -/⟩, (by omega) /- ix.big (z1 + (1 : Int))#6 -/⟩) ?_
        refine wp_ck (z_ix_i.mpr ⟨⟨(by omega) /- ix.lo (z1 + (2 : Int))#3 -/, (by omega) /- ix.hi (z1 + (2 : Int))#3 -/⟩, (by omega) /- ix.big (z1 + (2 : Int))#3 -/⟩) ?_
        refine wp_ck (z_r32_i.mpr ⟨(by omega) /- z_r32.lo (w29 (z1 + (1 : Int)))#1 -/, (by omega) /- z_r32.hi (w29 (z1 + (1 : Int)))#1 -/⟩) ?_
        refine wp_ck (z_r32_i.mpr ⟨(by omega) /- z_r32.lo (w29 (z1 + (2 : Int)))#1 -/, (by omega) /- z_r32.hi (w29 (z1 + (2 : Int)))#1 -/⟩) ?_
        refine wp_if (fun c5 => ?_) (fun c5 => ?_)
        ·
          refine wp_bd2 (s_X12_needs _ _ _ _ _ (by omega) /- pre X12_needs.1#1 -/ (by omega) /- pre X12_needs.2#1 -/ (by omega) /- pre X12_needs.3#1 -/) (fun z32 z33 q_X12_needs_1 => ?_)
          try dsimp only at q_X12_needs_1
          obtain ⟨q_X12_needs_1_1, q_X12_needs_1_2⟩ := q_X12_needs_1
          have hd := hd_ (nd_E (E := (¬ z16 = tV B i_p0_taped (tA B i_p0_taped P))) q_X12_needs_1_1 q_X12_needs_1_2 (by decide) (fun e => ⟨fun z => absurd rfl z, fun z => absurd (by rw [← hid he2 e]; rw [w1e, w2e] at c5; exact c5) z⟩))
          have hti : tokI i_p0_taped z18 z19 z20 z21 z32 z33 := tokI_fl q_X12_lookedPlace_1_3 (by split at q_X12_needs_1_1 <;> omega) (by split at q_X12_needs_1_1 <;> split at q_X12_needs_1_2 <;> omega)
          have m4 := hti.2.2.2.1
          have hnf : z32 = 0 → z27 = 0 ∧ ¬ z16 = z25 := by intro a; rw [w1e, w2e] at *; split at q_X12_needs_1_1 <;> omega
          clear q_X12_needs_1_1 q_X12_needs_1_2
          refine wp_bd6 (s_X12_nextToken _ _ _ _ _ _ _ _ (by omega) /- pre X12_nextToken.1#3 -/ (by omega) /- pre X12_nextToken.2#3 -/ (by omega) /- pre X12_nextToken.3#3 -/ (by omega) /- pre X12_nextToken.4#3 -/ (by exact h3) /- pre X12_nextToken.5#3 -/ (by omega) /- pre X12_nextToken.6#3 -/ (by omega) /- pre X12_nextToken.7#3 -/) (fun z34 z35 z36 z37 z38 z39 q_X12_nextToken_3 => ?_)
          try dsimp only at q_X12_nextToken_3
          obtain ⟨q_X12_nextToken_3_1, q_X12_nextToken_3_2⟩ := q_X12_nextToken_3
          have hns := hd_ (nt_st h11 (by omega) q_X12_nextToken_3_1 q_X12_nextToken_3_2)
          obtain ⟨n1, n2, n3, n4⟩ := tokI_next h3 h2 hti q_X12_nextToken_3_1 q_X12_nextToken_3_2
          clear q_X12_nextToken_3_1 q_X12_nextToken_3_2
          refine wp_bndE (fun z15 hz15 => ?_)
          refine wp_some ?_
          try dsimp only
          all_goals exact ⟨(by first | exact n1 | exact q_X12_readNumber_1_1 | exact h4) /- post1#4 -/, (by omega) /- post2#4 -/, (by omega) /- post3#4 -/, (by omega) /- post4#4 -/, (by intro j hj; (repeat rw [z_up_n _ _ (by omega)])) /- post5#4 -/, (by 
                                        intro h
                                        unfold okSt
                                        rw [← hz1]
                                        first
                                        | (left; rw [z_up_n _ _ (by omega), z_up_n _ _ (by omega), z_up_n _ _ (by omega), z_up_s, z_up_s]; omega)
                                        | (right; left; rw [z_up_n _ _ (by omega), z_up_n _ _ (by omega), z_up_s]; omega)
                                        | (right; right; right; rw [z_up_n _ _ (by omega), z_up_n _ _ (by omega), z_up_n _ _ (by omega), z_up_s, z_up_s]; omega)
                                        | (right; right; left; rw [w1e, w2e, z_up_n _ _ (by omega), z_up_n _ _ (by omega), z_up_n _ _ (by omega), z_up_n _ _ (by omega), z_up_s]; omega)) /- post6#4 -/, (by rw [← hz1]; (repeat rw [z_up_n _ _ (by omega)]); rw [z_up_s]) /- post7#4 -/, (by unfold Hid; intro h; exfalso; omega) /- post8#4 -/, (by unfold Hid; intro h; exfalso; omega) /- post9#4 -/, (by unfold Hid; intro _; rw [← hz1, w1e, w2e]; exact ⟨z18, z19, z20, z21, z22, z23, q_X12_readPlace_1_6, rdE_lkE (hid hc2) q_X12_lookedPlace_1_4 (hid hd) (hid hns), by omega⟩) /- post10#4 -/, (by unfold Hid; intro h; exfalso; omega) /- post11#4 -/⟩
        ·
          refine wp_bd2 (s_X12_needs _ _ _ _ _ (by omega) /- pre X12_needs.1#2 -/ (by omega) /- pre X12_needs.2#2 -/ (by omega) /- pre X12_needs.3#2 -/) (fun z40 z41 q_X12_needs_2 => ?_)
          try dsimp only at q_X12_needs_2
          obtain ⟨q_X12_needs_2_1, q_X12_needs_2_2⟩ := q_X12_needs_2
          have hd := hd_ (nd_E (E := (¬ z16 = tV B i_p0_taped (tA B i_p0_taped P))) q_X12_needs_2_1 q_X12_needs_2_2 (by decide) (fun e => ⟨fun _ => by rw [← hid he2 e]; rw [w1e, w2e] at c5; exact c5, fun _ => by decide⟩))
          have hti : tokI i_p0_taped z18 z19 z20 z21 z40 z41 := tokI_fl q_X12_lookedPlace_1_3 (by split at q_X12_needs_2_1 <;> omega) (by split at q_X12_needs_2_1 <;> split at q_X12_needs_2_2 <;> omega)
          have m4 := hti.2.2.2.1
          have hnf : z40 = 0 → z27 = 0 ∧ ¬ z16 = z25 := by intro a; rw [w1e, w2e] at *; split at q_X12_needs_2_1 <;> omega
          clear q_X12_needs_2_1 q_X12_needs_2_2
          refine wp_bd6 (s_X12_nextToken _ _ _ _ _ _ _ _ (by omega) /- pre X12_nextToken.1#4 -/ (by omega) /- pre X12_nextToken.2#4 -/ (by omega) /- pre X12_nextToken.3#4 -/ (by omega) /- pre X12_nextToken.4#4 -/ (by exact h3) /- pre X12_nextToken.5#4 -/ (by omega) /- pre X12_nextToken.6#4 -/ (by omega) /- pre X12_nextToken.7#4 -/) (fun z42 z43 z44 z45 z46 z47 q_X12_nextToken_4 => ?_)
          try dsimp only at q_X12_nextToken_4
          obtain ⟨q_X12_nextToken_4_1, q_X12_nextToken_4_2⟩ := q_X12_nextToken_4
          have hns := hd_ (nt_st h11 (by omega) q_X12_nextToken_4_1 q_X12_nextToken_4_2)
          obtain ⟨n1, n2, n3, n4⟩ := tokI_next h3 h2 hti q_X12_nextToken_4_1 q_X12_nextToken_4_2
          clear q_X12_nextToken_4_1 q_X12_nextToken_4_2
          refine wp_bndE (fun z15 hz15 => ?_)
          refine wp_some ?_
          try dsimp only
          all_goals exact ⟨(by first | exact n1 | exact q_X12_readNumber_1_1 | exact h4) /- post1#5 -/, (by omega) /- post2#5 -/, (by omega) /- post3#5 -/, (by omega) /- post4#5 -/, (by intro j hj; (repeat rw [z_up_n _ _ (by omega)])) /- post5#5 -/, (by 
                                        intro h
                                        unfold okSt
                                        rw [← hz1]
                                        first
                                        | (left; rw [z_up_n _ _ (by omega), z_up_n _ _ (by omega), z_up_n _ _ (by omega), z_up_s, z_up_s]; omega)
                                        | (right; left; rw [z_up_n _ _ (by omega), z_up_n _ _ (by omega), z_up_s]; omega)
                                        | (right; right; right; rw [z_up_n _ _ (by omega), z_up_n _ _ (by omega), z_up_n _ _ (by omega), z_up_s, z_up_s]; omega)
                                        | (right; right; left; rw [w1e, w2e, z_up_n _ _ (by omega), z_up_n _ _ (by omega), z_up_n _ _ (by omega), z_up_n _ _ (by omega), z_up_s]; omega)) /- post6#5 -/, (by rw [← hz1]; (repeat rw [z_up_n _ _ (by omega)]); rw [z_up_s]) /- post7#5 -/, (by unfold Hid; intro h; exfalso; omega) /- post8#5 -/, (by unfold Hid; intro h; exfalso; omega) /- post9#5 -/, (by unfold Hid; intro _; rw [← hz1, w1e, w2e]; exact ⟨z18, z19, z20, z21, z22, z23, q_X12_readPlace_1_6, rdE_lkE (hid hc2) q_X12_lookedPlace_1_4 (hid hd) (hid hns), by omega⟩) /- post10#5 -/, (by unfold Hid; intro h; exfalso; omega) /- post11#5 -/⟩
      ·
        refine wp_bndE (fun z15 hz15 => ?_)
        refine wp_some ?_
        try dsimp only
        all_goals exact ⟨(by first | exact n1 | exact q_X12_readNumber_1_1 | exact h4) /- post1#6 -/, (by omega) /- post2#6 -/, (by omega) /- post3#6 -/, (by omega) /- post4#6 -/, (by intro j hj; (repeat rw [z_up_n _ _ (by omega)])) /- post5#6 -/, (by 
                                        intro h
                                        unfold okSt
                                        rw [← hz1]
                                        first
                                        | (left; rw [z_up_n _ _ (by omega), z_up_n _ _ (by omega), z_up_n _ _ (by omega), z_up_s, z_up_s]; omega)
                                        | (right; left; rw [z_up_n _ _ (by omega), z_up_n _ _ (by omega), z_up_s]; omega)
                                        | (right; right; right; rw [z_up_n _ _ (by omega), z_up_n _ _ (by omega), z_up_n _ _ (by omega), z_up_s, z_up_s]; omega)
                                        | (right; right; left; rw [w1e, w2e, z_up_n _ _ (by omega), z_up_n _ _ (by omega), z_up_n _ _ (by omega), z_up_n _ _ (by omega), z_up_s]; omega)) /- post6#6 -/, (by rw [← hz1]; (repeat rw [z_up_n _ _ (by omega)]); rw [z_up_s]) /- post7#6 -/, (by unfold Hid; intro h; exfalso; omega) /- post8#6 -/, (by unfold Hid; intro _; rw [← hz1]; refine ⟨h13, h12, ?_, ?_, rfl⟩; (rw [z_up_n _ _ (by omega), z_up_s]); (rw [z_up_s])) /- post9#6 -/, (by unfold Hid; intro h; exfalso; omega) /- post10#6 -/, (by unfold Hid; intro h; exfalso; omega) /- post11#6 -/⟩
