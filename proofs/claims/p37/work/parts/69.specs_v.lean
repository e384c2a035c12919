set_option maxHeartbeats 4000000 in
theorem s_X12_findFewest (i_p0_seats : Int) (i_p0_stirs : Int) (v_p0_st : (Int → Int)) (v_p0_brings : (Int → Int)) (v_p0_places : (Int → Int)) (v_p0_fewest : (Int → Int)) (x1 : Int) (h1 : 2 ≤ i_p0_seats) (h2 : i_p0_seats ≤ 7) (h3 : 0 ≤ i_p0_stirs) (h4 : i_p0_stirs ≤ 5) (h5 : rowsM i_p0_seats i_p0_stirs v_p0_brings) (h6 : 0 ≤ x1) (h7 : x1 < i_p0_seats) : wp (f_X12_findFewest i_p0_seats i_p0_stirs v_p0_st v_p0_brings v_p0_places v_p0_fewest x1) (fun o => (few1 i_p0_seats i_p0_stirs v_p0_st v_p0_brings x1 o.2) ∧ (few2 i_p0_seats i_p0_stirs v_p0_st v_p0_brings x1 o.2 49)) := by
  unfold f_X12_findFewest
  refine wp_bnd ?_
  refine wp_jn ?_
  refine wp_lq2 (fun (z39 : Int) (w40 : (Int → Int)) => (0 ≤ z39) ∧ (z39 ≤ 49) ∧ (∀ j, 0 ≤ j → j < z39 → w40 j = (if j % 7 = x1 then 0 else 1000000))) (fun (z39 : Int) (w40 : (Int → Int)) => (49 - z39).toNat) (fun again2 z39 w40 hI ih_B_X12_findFewest_2 => ?_) 1000 _ _ ⟨(by omega) /- B_X12_findFewest_2.init1#1 -/, (by omega) /- B_X12_findFewest_2.init2#1 -/, (by intro j; omega) /- B_X12_findFewest_2.init3#1 -/⟩ (by omega) /- B_X12_findFewest_2.fuel#1 -/
  obtain ⟨i_B_X12_findFewest_2_1, i_B_X12_findFewest_2_2, i_B_X12_findFewest_2_3⟩ := hI
  unfold B_X12_findFewest_2
  refine wp_ck (z_r32_i.mpr ⟨(by omega) /- z_r32.lo z39#1 -/, (by omega) /- z_r32.hi z39#1 -/⟩) ?_
  refine wp_if (fun c1 => ?_) (fun c1 => ?_)
  ·
    refine wp_bnd ?_
    refine wp_lq3 (fun (z5 : Int) (w6 : (Int → Int)) (w7 : (Int → Int)) => (0 ≤ z5) ∧ (z5 ≤ 49) ∧ (few1 i_p0_seats i_p0_stirs v_p0_st v_p0_brings x1 w7) ∧ (few2 i_p0_seats i_p0_stirs v_p0_st v_p0_brings x1 w7 z5)) (fun (z5 : Int) (w6 : (Int → Int)) (w7 : (Int → Int)) => (49 - z5).toNat) (fun again37 z5 w6 w7 hI ih_B_X12_findFewest_37 => ?_) 1000 _ _ _ ⟨(by omega) /- B_X12_findFewest_37.init1#1 -/, (by omega) /- B_X12_findFewest_37.init2#1 -/, (by intro s a b; rw [i_B_X12_findFewest_2_3 s a (by omega)]; split; (refine ⟨by omega, fun _ => Or.inr ?_⟩; show s % 7 = x1; assumption); exact ⟨by omega, fun _ => Or.inl rfl⟩) /- B_X12_findFewest_37.init3#1 -/, (by 
                                        intro q a s b c
                                        have e : q = 0 := by omega
                                        subst e
                                        unfold vst at b
                                        rw [i_B_X12_findFewest_2_3 s (by omega) (by omega), if_pos (show s % 7 = x1 from c)]; exact Int.le_refl _) /- B_X12_findFewest_37.init4#1 -/⟩ (by omega) /- B_X12_findFewest_37.fuel#1 -/
    obtain ⟨i_B_X12_findFewest_37_1, i_B_X12_findFewest_37_2, i_B_X12_findFewest_37_3, i_B_X12_findFewest_37_4⟩ := hI
    unfold B_X12_findFewest_37
    refine wp_ck (z_r32_i.mpr ⟨(by omega) /- z_r32.lo z5#1 -/, (by omega) /- z_r32.hi z5#1 -/⟩) ?_
    refine wp_if (fun c2 => ?_) (fun c2 => ?_)
    ·
      refine wp_some ?_
      try dsimp only
      all_goals exact ⟨(by exact i_B_X12_findFewest_37_3) /- post1#1 -/, (by rw [show z5 = 49 from by omega] at i_B_X12_findFewest_37_4; exact i_B_X12_findFewest_37_4) /- post2#1 -/⟩
    ·
      refine wp_bnd ?_
      refine wp_lq3 (fun (z11 : Int) (w12 : (Int → Int)) (w13 : (Int → Int)) => (0 ≤ z11) ∧ (z11 ≤ 49) ∧ (few1 i_p0_seats i_p0_stirs v_p0_st v_p0_brings x1 w13) ∧ (few2 i_p0_seats i_p0_stirs v_p0_st v_p0_brings x1 w13 z5) ∧ (few3 i_p0_seats i_p0_stirs v_p0_st v_p0_brings x1 w13 (z5 + 1) z11)) (fun (z11 : Int) (w12 : (Int → Int)) (w13 : (Int → Int)) => (49 - z11).toNat) (fun again45 z11 w12 w13 hI ih_B_X12_findFewest_45 => ?_) 1000 _ _ _ ⟨(by omega) /- B_X12_findFewest_45.init1#1 -/, (by omega) /- B_X12_findFewest_45.init2#1 -/, (by exact i_B_X12_findFewest_37_3) /- B_X12_findFewest_45.init3#1 -/, (by exact i_B_X12_findFewest_37_4) /- B_X12_findFewest_45.init4#1 -/, (by intro q a s b c; unfold vst at b; omega) /- B_X12_findFewest_45.init5#1 -/⟩ (by omega) /- B_X12_findFewest_45.fuel#1 -/
      obtain ⟨i_B_X12_findFewest_45_1, i_B_X12_findFewest_45_2, i_B_X12_findFewest_45_3, i_B_X12_findFewest_45_4, i_B_X12_findFewest_45_5⟩ := hI
      unfold B_X12_findFewest_45
      refine wp_ck (z_r32_i.mpr ⟨(by omega) /- z_r32.lo z11#1 -/, (by omega) /- z_r32.hi z11#1 -/⟩) ?_
      refine wp_if (fun c3 => ?_) (fun c3 => ?_)
      ·
        refine wp_bndE (fun z16 hz16 => ?_)
        exact ih_B_X12_findFewest_37 _ _ _ ⟨(by omega) /- B_X12_findFewest_37.inv1#1 -/, (by omega) /- B_X12_findFewest_37.inv2#1 -/, (by exact i_B_X12_findFewest_45_3) /- B_X12_findFewest_37.inv3#1 -/, (by intro q a s b c; exact i_B_X12_findFewest_45_5 q (by omega) s b (by unfold vst at b; omega) c) /- B_X12_findFewest_37.inv4#1 -/⟩ (by omega) /- B_X12_findFewest_37.dec#1 -/
      ·
        refine wp_bnd ?_
        refine wp_lq3 (fun (z18 : Int) (w19 : (Int → Int)) (w20 : (Int → Int)) => (0 ≤ z18) ∧ (z18 ≤ i_p0_stirs) ∧ (few1 i_p0_seats i_p0_stirs v_p0_st v_p0_brings x1 w20) ∧ (few2 i_p0_seats i_p0_stirs v_p0_st v_p0_brings x1 w20 z5) ∧ (few3 i_p0_seats i_p0_stirs v_p0_st v_p0_brings x1 w20 (z5 + 1) z11) ∧ (∀ r, 0 ≤ r → r < z18 → w20 z11 ≤ w20 (thn i_p0_seats v_p0_st v_p0_brings z11 r) + 1)) (fun (z18 : Int) (w19 : (Int → Int)) (w20 : (Int → Int)) => (i_p0_stirs - z18).toNat) (fun again54 z18 w19 w20 hI ih_B_X12_findFewest_54 => ?_) 1000 _ _ _ ⟨(by omega) /- B_X12_findFewest_54.init1#1 -/, (by omega) /- B_X12_findFewest_54.init2#1 -/, (by exact i_B_X12_findFewest_45_3) /- B_X12_findFewest_54.init3#1 -/, (by exact i_B_X12_findFewest_45_4) /- B_X12_findFewest_54.init4#1 -/, (by exact i_B_X12_findFewest_45_5) /- B_X12_findFewest_54.init5#1 -/, (by intro r; omega) /- B_X12_findFewest_54.init6#1 -/⟩ (by omega) /- B_X12_findFewest_54.fuel#1 -/
        obtain ⟨i_B_X12_findFewest_54_1, i_B_X12_findFewest_54_2, i_B_X12_findFewest_54_3, i_B_X12_findFewest_54_4, i_B_X12_findFewest_54_5, i_B_X12_findFewest_54_6⟩ := hI
        unfold B_X12_findFewest_54
        refine wp_ck (z_r32_i.mpr ⟨(by omega) /- z_r32.lo z18#1 -/, (by omega) /- z_r32.hi z18#1 -/⟩) ?_
        refine wp_ck (z_r32_i.mpr ⟨(by omega) /- z_r32.lo i_p0_stirs#1 -/, (by omega) /- z_r32.hi i_p0_stirs#1 -/⟩) ?_
        refine wp_if (fun c4 => ?_) (fun c4 => ?_)
        ·
          refine wp_bndE (fun z24 hz24 => ?_)
          exact ih_B_X12_findFewest_45 _ _ _ ⟨(by omega) /- B_X12_findFewest_45.inv1#1 -/, (by omega) /- B_X12_findFewest_45.inv2#1 -/, (by exact i_B_X12_findFewest_54_3) /- B_X12_findFewest_45.inv3#1 -/, (by exact i_B_X12_findFewest_54_4) /- B_X12_findFewest_45.inv4#1 -/, (by subst hz24; exact few3_end (by omega) i_B_X12_findFewest_54_4 i_B_X12_findFewest_54_5 (fun _ r a b => i_B_X12_findFewest_54_6 r a (by omega)) (fun v r a b => thn_rng h1 h2 h5 v a b)) /- B_X12_findFewest_45.inv5#1 -/⟩ (by omega) /- B_X12_findFewest_45.dec#1 -/
        ·
          refine wp_ck (z_dv_i.mpr ⟨⟨⟨(by omega) /- dv.0 z11#1 -/, (by omega) /- dv.1 z11#1 -/⟩, (by omega) /- dv.2 z11#1 -/⟩, (by omega) /- dv.3 z11#1 -/⟩) ?_
          refine wp_ck (z_r32_i.mpr ⟨(by omega) /- z_r32.lo (z11 % (7 : Int))#1 -/, (by omega) /- z_r32.hi (z11 % (7 : Int))#1 -/⟩) ?_
          refine wp_ck (z_r32_i.mpr ⟨(by omega) /- z_r32.lo i_p0_seats#1 -/, (by omega) /- z_r32.hi i_p0_seats#1 -/⟩) ?_
          refine wp_if (fun c5 => ?_) (fun c5 => ?_)
          ·
            refine wp_bndE (fun z27 hz27 => ?_)
            exact ih_B_X12_findFewest_45 _ _ _ ⟨(by omega) /- B_X12_findFewest_45.inv1#2 -/, (by omega) /- B_X12_findFewest_45.inv2#2 -/, (by exact i_B_X12_findFewest_54_3) /- B_X12_findFewest_45.inv3#2 -/, (by exact i_B_X12_findFewest_54_4) /- B_X12_findFewest_45.inv4#2 -/, (by subst hz27; exact few3_end (by omega) i_B_X12_findFewest_54_4 i_B_X12_findFewest_54_5 (fun v => absurd v (by unfold vst; omega)) (fun v r a b => thn_rng h1 h2 h5 v a b)) /- B_X12_findFewest_45.inv5#2 -/⟩ (by omega) /- B_X12_findFewest_45.dec#2 -/
          ·
            refine wp_ck (z_dv_i.mpr ⟨⟨⟨(by omega) /- dv.0 z11#2 -/, (by omega) /- dv.1 z11#2 -/⟩, (by omega) /- dv.2 z11#2 -/⟩, (by omega) /- dv.3 z11#2 -/⟩) ?_
            refine wp_ck (z_r32_i.mpr ⟨(by omega) /- z_r32.lo (z11 / (7 : Int))#1 -/, (by omega) /- z_r32.hi (z11 / (7 : Int))#1 -/⟩) ?_
            refine wp_if (fun c6 => ?_) (fun c6 => ?_)
            ·
              refine wp_bndE (fun z29 hz29 => ?_)
              exact ih_B_X12_findFewest_45 _ _ _ ⟨(by omega) /- B_X12_findFewest_45.inv1#3 -/, (by omega) /- B_X12_findFewest_45.inv2#3 -/, (by exact i_B_X12_findFewest_54_3) /- B_X12_findFewest_45.inv3#3 -/, (by exact i_B_X12_findFewest_54_4) /- B_X12_findFewest_45.inv4#3 -/, (by subst hz29; exact few3_end (by omega) i_B_X12_findFewest_54_4 i_B_X12_findFewest_54_5 (fun v => absurd v (by unfold vst; omega)) (fun v r a b => thn_rng h1 h2 h5 v a b)) /- B_X12_findFewest_45.inv5#3 -/⟩ (by omega) /- B_X12_findFewest_45.dec#3 -/
            ·
              have hvz : vst i_p0_seats z11 := by unfold vst; omega
              refine wp_bd2 (s_X12_then _ _ _ _ _ _ i_p0_stirs (by omega) /- pre X12_then.1#1 -/ (by omega) /- pre X12_then.2#1 -/ (by omega) /- pre X12_then.3#1 -/ (by omega) /- pre X12_then.4#1 -/ (by exact h5) /- pre X12_then.5#1 -/ (by exact hvz) /- pre X12_then.6#1 -/ (by omega) /- pre X12_then.7#1 -/ (by omega) /- pre X12_then.8#1 -/) (fun z30 w31 q_X12_then_1 => ?_)
              try dsimp only at q_X12_then_1
              obtain ⟨q_X12_then_1_1, q_X12_then_1_2⟩ := q_X12_then_1
              have hvt := q_X12_then_1_2
              unfold vst at hvt
              have hf0 := (i_B_X12_findFewest_54_3 z30 (by omega) (by omega)).1
              have hf1 := (i_B_X12_findFewest_54_3 z11 (by omega) (by omega)).1
              refine wp_ck (z_ix_i.mpr ⟨⟨(by omega) /- ix.lo z30#1 -/, (by omega) /- ix.hi z30#1 -/⟩, (by omega) /- ix.big z30#1 -/⟩) ?_
              refine wp_bndE (fun z32 hz32 => ?_)
              refine wp_ck (z_ix_i.mpr ⟨⟨(by omega) /- ix.lo z11#1 -/, (by omega) /- ix.hi z11#1 -/⟩, (by omega) /- ix.big z11#1 -/⟩) ?_
              refine wp_ck (z_r32_i.mpr ⟨(by omega) /- z_r32.lo z32#1 -/, (by omega) /- z_r32.hi z32#1 -/⟩) ?_
              refine wp_ck (z_r32_i.mpr ⟨(by omega) /- z_r32.lo (w20 z11)#1 -/, (by omega) /- z_r32.hi (w20 z11)#1 -/⟩) ?_
              refine wp_if (fun c7 => ?_) (fun c7 => ?_)
              ·
                refine wp_ck (z_ix_i.mpr ⟨⟨(by omega) /- ix.lo z11#2 -/, (by omega) /- ix.hi z11#2 -/⟩, (by omega) /- ix.big z11#2 -/⟩) ?_
                refine wp_ck (z_ix_i.mpr ⟨⟨(by omega) /- ix.lo z11#3 -/, (by omega) /- ix.hi z11#3 -/⟩, (by omega) /- ix.big z11#3 -/⟩) ?_
                refine wp_bnd ?_
                refine wp_bndE (fun z36 hz36 => ?_)
                exact ih_B_X12_findFewest_54 _ _ _ ⟨(by omega) /- B_X12_findFewest_54.inv1#1 -/, (by omega) /- B_X12_findFewest_54.inv2#1 -/, (by rw [z_up_id]; exact i_B_X12_findFewest_54_3) /- B_X12_findFewest_54.inv3#1 -/, (by rw [z_up_id]; exact i_B_X12_findFewest_54_4) /- B_X12_findFewest_54.inv4#1 -/, (by rw [z_up_id]; exact i_B_X12_findFewest_54_5) /- B_X12_findFewest_54.inv5#1 -/, (by rw [z_up_id]; intro r a b; by_cases e : r = z18; (rw [e, ← q_X12_then_1_1]; omega); exact i_B_X12_findFewest_54_6 r a (by omega)) /- B_X12_findFewest_54.inv6#1 -/⟩ (by omega) /- B_X12_findFewest_54.dec#1 -/
              ·
                refine wp_ck (z_ix_i.mpr ⟨⟨(by omega) /- ix.lo z11#4 -/, (by omega) /- ix.hi z11#4 -/⟩, (by omega) /- ix.big z11#4 -/⟩) ?_
                refine wp_bnd ?_
                refine wp_bndE (fun z38 hz38 => ?_)
                exact ih_B_X12_findFewest_54 _ _ _ ⟨(by omega) /- B_X12_findFewest_54.inv1#2 -/, (by omega) /- B_X12_findFewest_54.inv2#2 -/, (by subst hz32; rw [q_X12_then_1_1]; exact few1_up h1 h2 h5 hvz (by omega) (by omega) i_B_X12_findFewest_54_3 (by rw [← q_X12_then_1_1]; omega)) /- B_X12_findFewest_54.inv3#2 -/, (by exact few2_up i_B_X12_findFewest_54_4 (by omega)) /- B_X12_findFewest_54.inv4#2 -/, (by exact few3_up i_B_X12_findFewest_54_5 (by omega)) /- B_X12_findFewest_54.inv5#2 -/, (by intro r a b; rw [z_up_s]; by_cases e : thn i_p0_seats v_p0_st v_p0_brings z11 r = z11; (rw [e, z_up_s]; omega); rw [z_up_n _ _ e]; by_cases e2 : r = z18; (rw [e2, ← q_X12_then_1_1]; omega); (have := i_B_X12_findFewest_54_6 r a (by omega); omega)) /- B_X12_findFewest_54.inv6#2 -/⟩ (by omega) /- B_X12_findFewest_54.dec#2 -/
  ·
    refine wp_ck (z_dv_i.mpr ⟨⟨⟨(by omega) /- dv.0 z39#1 -/, (by omega) /- dv.1 z39#1 -/⟩, (by omega) /- dv.2 z39#1 -/⟩, (by omega) /- dv.3 z39#1 -/⟩) ?_
    refine wp_ck (z_r32_i.mpr ⟨(by omega) /- z_r32.lo (z39 % (7 : Int))#1 -/, (by omega) /- z_r32.hi (z39 % (7 : Int))#1 -/⟩) ?_
    refine wp_ck (z_r32_i.mpr ⟨(by omega) /- z_r32.lo x1#1 -/, (by omega) /- z_r32.hi x1#1 -/⟩) ?_
    refine wp_if (fun c8 => ?_) (fun c8 => ?_)
    ·
      refine wp_ck (z_ix_i.mpr ⟨⟨(by omega) /- ix.lo z39#1 -/, (by omega) /- ix.hi z39#1 -/⟩, (by omega) /- ix.big z39#1 -/⟩) ?_
      refine wp_bnd ?_
      refine wp_bndE (fun z48 hz48 => ?_)
      exact ih_B_X12_findFewest_2 _ _ ⟨(by omega) /- B_X12_findFewest_2.inv1#1 -/, (by omega) /- B_X12_findFewest_2.inv2#1 -/, (by intro j a b; rw [z_up_a]; split; (rename_i e; rw [e]; first | rw [if_pos (by omega)] | rw [if_neg (by omega)]); exact i_B_X12_findFewest_2_3 j a (by omega)) /- B_X12_findFewest_2.inv3#1 -/⟩ (by omega) /- B_X12_findFewest_2.dec#1 -/
    ·
      refine wp_ck (z_ix_i.mpr ⟨⟨(by omega) /- ix.lo z39#2 -/, (by omega) /- ix.hi z39#2 -/⟩, (by omega) /- ix.big z39#2 -/⟩) ?_
      refine wp_bnd ?_
      refine wp_bndE (fun z46 hz46 => ?_)
      exact ih_B_X12_findFewest_2 _ _ ⟨(by omega) /- B_X12_findFewest_2.inv1#2 -/, (by omega) /- B_X12_findFewest_2.inv2#2 -/, (by intro j a b; rw [z_up_a]; split; (rename_i e; rw [e]; first | rw [if_pos (by omega)] | rw [if_neg (by omega)]); exact i_B_X12_findFewest_2_3 j a (by omega)) /- B_X12_findFewest_2.inv3#2 -/⟩ (by omega) /- B_X12_findFewest_2.dec#2 -/

set_option maxHeartbeats 4000000 in
theorem s_X12_raise (i_p0_seats : Int) (i_p0_stirs : Int) (v_p0_st : (Int → Int)) (v_p0_brings : (Int → Int)) (v_p0_places : (Int → Int)) (v_p0_fewest : (Int → Int)) (x1 : Int) (x2 : Int) (h1 : -2147483648 ≤ x1) (h2 : x1 < 2147483648) (h3 : -2147483648 ≤ x2) (h4 : x2 < 2147483648) (h5 : 2 ≤ i_p0_seats) (h6 : i_p0_seats ≤ 7) (h7 : 0 ≤ i_p0_stirs) (h8 : i_p0_stirs ≤ 5) (h9 : rowsM i_p0_seats i_p0_stirs v_p0_brings) (h10 : okM i_p0_seats v_p0_st) : wp (f_X12_raise i_p0_seats i_p0_stirs v_p0_st v_p0_brings v_p0_places v_p0_fewest x1 x2) (fun o => (-4 ≤ o.1 ∧ o.1 ≤ 10) ∧ (Hid (¬ ((0 ≤ x1 ∧ x1 < i_p0_seats) ∧ (x2 = 0 ∨ (10 ≤ x2 ∧ x2 ≤ 19))) → o.1 = -1)) ∧ (Hid (((0 ≤ x1 ∧ x1 < i_p0_seats) ∧ (x2 = 0 ∨ (10 ≤ x2 ∧ x2 ≤ 19))) → i_p0_stirs = 0 → o.1 = -2)) ∧ (Hid (((0 ≤ x1 ∧ x1 < i_p0_seats) ∧ (x2 = 0 ∨ (10 ≤ x2 ∧ x2 ≤ 19))) → ¬ i_p0_stirs = 0 → ∃ l, fstq 11 (fun t => can i_p0_seats i_p0_stirs 0 (clF i_p0_seats (fun k => v_p0_st (9 + k))) (clA i_p0_seats i_p0_stirs (fun y b => v_p0_brings (7 * y + b))) (fun k => k = x1) t.toNat (v_p0_st 8) (v_p0_st 7)) l ∧ o.1 = if x2 = 0 then l else if x2 - 10 < l then prow i_p0_seats i_p0_stirs 0 (clF i_p0_seats (fun k => v_p0_st (9 + k))) (clA i_p0_seats i_p0_stirs (fun y b => v_p0_brings (7 * y + b))) (fun k => k = x1) l.toNat (v_p0_st 8) (v_p0_st 7) (x2 - 10).toNat else -4))) := by
  unfold f_X12_raise
  refine wp_bd1 (s_X12_isSeat _ _ (by omega) /- pre X12_isSeat.1#1 -/ (by omega) /- pre X12_isSeat.2#1 -/ (by omega) /- pre X12_isSeat.3#1 -/ (by omega) /- pre X12_isSeat.4#1 -/) (fun z1 q_X12_isSeat_1 => ?_)
  try dsimp only at q_X12_isSeat_1
  refine wp_ck (z_r32_i.mpr ⟨(by omega) /- z_r32.lo z1#1 -/, (by omega) /- z_r32.hi z1#1 -/⟩) ?_
  refine wp_if (fun c1 => ?_) (fun c1 => ?_)
  ·
    refine wp_some ?_
    try dsimp only
    all_goals exact ⟨(by omega) /- post1#1 -/, (by unfold Hid; intro _; rfl) /- post2#1 -/, (by unfold Hid; intro h _; exfalso; split at q_X12_isSeat_1 <;> omega) /- post3#1 -/, (by unfold Hid; intro h _; exfalso; split at q_X12_isSeat_1 <;> omega) /- post4#1 -/⟩
  ·
    have hk : 0 ≤ x1 ∧ x1 < i_p0_seats := by split at q_X12_isSeat_1 <;> omega
    clear q_X12_isSeat_1
    refine wp_ck (z_r32_i.mpr ⟨(by omega) /- z_r32.lo x2#1 -/, (by omega) /- z_r32.hi x2#1 -/⟩) ?_
    refine wp_jnP0 (x2 = 0 ∨ (10 ≤ x2 ∧ x2 ≤ 19)) (fun pJ4 => ?_) (fun J4 hJ4 => ?_)
    ·
      refine wp_ck (z_r32_i.mpr ⟨(by omega) /- z_r32.lo i_p0_stirs#1 -/, (by omega) /- z_r32.hi i_p0_stirs#1 -/⟩) ?_
      refine wp_if (fun c2 => ?_) (fun c2 => ?_)
      ·
        refine wp_some ?_
        try dsimp only
        all_goals exact ⟨(by omega) /- post1#2 -/, (by unfold Hid; intro h; exfalso; omega) /- post2#2 -/, (by unfold Hid; intro _ _; rfl) /- post3#2 -/, (by unfold Hid; intro _ h; exact absurd (by assumption) h) /- post4#2 -/⟩
      ·
        refine wp_bd2 (s_X12_findFewest _ _ _ _ _ _ _ (by omega) /- pre X12_findFewest.1#1 -/ (by omega) /- pre X12_findFewest.2#1 -/ (by omega) /- pre X12_findFewest.3#1 -/ (by omega) /- pre X12_findFewest.4#1 -/ (by exact h9) /- pre X12_findFewest.5#1 -/ (by omega) /- pre X12_findFewest.6#1 -/ (by omega) /- pre X12_findFewest.7#1 -/) (fun w6 w7 q_X12_findFewest_1 => ?_)
        try dsimp only at q_X12_findFewest_1
        obtain ⟨q_X12_findFewest_1_1, q_X12_findFewest_1_2⟩ := q_X12_findFewest_1
        refine wp_bd1 (s_X12_stateNow _ i_p0_seats (by omega) /- pre X12_stateNow.1#1 -/ (by omega) /- pre X12_stateNow.2#1 -/ (by exact h10) /- pre X12_stateNow.3#1 -/) (fun z8 q_X12_stateNow_1 => ?_)
        try dsimp only at q_X12_stateNow_1
        obtain ⟨q_X12_stateNow_1_1, q_X12_stateNow_1_2⟩ := q_X12_stateNow_1
        have he := hd_ (show z8 % 7 = v_p0_st 8 ∧ z8 / 7 = v_p0_st 7 from by have ho1 := okM_1 h10; omega)
        have hvn := q_X12_stateNow_1_2
        unfold vst at hvn
        have hf8 := (q_X12_findFewest_1_1 z8 (by omega) (by omega)).1
        have hff := few_first h5 h6 h9 q_X12_findFewest_1_1 q_X12_findFewest_1_2 q_X12_stateNow_1_2
        rw [(hid he).1, (hid he).2] at hff
        replace hff := hd_ hff
        refine wp_bnd ?_
        refine wp_ck (z_ix_i.mpr ⟨⟨(by omega) /- ix.lo z9#1 -/, (by omega) /- ix.hi z9#1 -/⟩, (by omega) /- ix.big z9#1 -/⟩) ?_
        refine wp_bndE (fun z10 hz10 => ?_)
        refine wp_ck (z_r32_i.mpr ⟨(by omega) /- z_r32.lo z10#1 -/, (by omega) /- z_r32.hi z10#1 -/⟩) ?_
        refine wp_if (fun c3 => ?_) (fun c3 => ?_)
        ·
          refine wp_if (fun c4 => ?_) (fun c4 => ?_)
          ·
            refine wp_some ?_
            try dsimp only
            all_goals exact ⟨(by omega) /- post1#3 -/, (by unfold Hid; intro h; exfalso; omega) /- post2#3 -/, (by unfold Hid; intro h _; exfalso; omega) /- post3#3 -/, (by unfold Hid; intro _ _; refine ⟨_, hid hff, ?_⟩; rw [if_pos (by assumption), if_pos (by omega)]; omega) /- post4#3 -/⟩
          ·
            refine wp_ck (z_r32_i.mpr ⟨(by omega) /- z_r32.lo (x2 - (10 : Int))#1 -/, (by omega) /- z_r32.hi (x2 - (10 : Int))#1 -/⟩) ?_
            refine wp_if (fun c5 => ?_) (fun c5 => ?_)
            ·
              refine wp_bnd ?_
              refine wp_bnd ?_
              refine wp_lq4 (fun (z15 : Int) (z16 : Int) (z17 : Int) (w18 : (Int → Int)) => (0 ≤ z15) ∧ (z15 ≤ x2 - 9) ∧ (vst i_p0_seats z17) ∧ (w7 z17 = w7 z8 - z15) ∧ (-4 ≤ z16 ∧ z16 < 5) ∧ (Hid (pst i_p0_seats i_p0_stirs 0 (clF i_p0_seats (fun k => v_p0_st (9 + k))) (clA i_p0_seats i_p0_stirs (fun y b => v_p0_brings (7 * y + b))) (fun k => k = x1) (w7 z8).toNat (v_p0_st 8) (v_p0_st 7) z15.toNat = (z17 % 7, z17 / 7))) ∧ (Hid (0 < z15 → z16 = prow i_p0_seats i_p0_stirs 0 (clF i_p0_seats (fun k => v_p0_st (9 + k))) (clA i_p0_seats i_p0_stirs (fun y b => v_p0_brings (7 * y + b))) (fun k => k = x1) (w7 z8).toNat (v_p0_st 8) (v_p0_st 7) (z15 - 1).toNat))) (fun (z15 : Int) (z16 : Int) (z17 : Int) (w18 : (Int → Int)) => (x2 - 9 - z15).toNat) (fun again92 z15 z16 z17 w18 hI ih_B_X12_raise_92 => ?_) 1000 _ _ _ _ ⟨(by omega) /- B_X12_raise_92.init1#1 -/, (by omega) /- B_X12_raise_92.init2#1 -/, (by exact q_X12_stateNow_1_2) /- B_X12_raise_92.init3#1 -/, (by omega) /- B_X12_raise_92.init4#1 -/, (by omega) /- B_X12_raise_92.init5#1 -/, (by unfold Hid; rw [(hid he).1, (hid he).2]; rfl) /- B_X12_raise_92.init6#1 -/, (by unfold Hid; intro h; omega) /- B_X12_raise_92.init7#1 -/⟩ (by omega) /- B_X12_raise_92.fuel#1 -/
              obtain ⟨i_B_X12_raise_92_1, i_B_X12_raise_92_2, i_B_X12_raise_92_3, i_B_X12_raise_92_4, i_B_X12_raise_92_5, i_B_X12_raise_92_6, i_B_X12_raise_92_7⟩ := hI
              unfold B_X12_raise_92
              refine wp_ck (z_r32_i.mpr ⟨(by omega) /- z_r32.lo z15#1 -/, (by omega) /- z_r32.hi z15#1 -/⟩) ?_
              refine wp_if (fun c6 => ?_) (fun c6 => ?_)
              ·
                refine wp_some ?_
                try dsimp only
                all_goals exact ⟨(by omega) /- post1#4 -/, (by unfold Hid; intro h; exfalso; omega) /- post2#4 -/, (by unfold Hid; intro h _; exfalso; omega) /- post3#4 -/, (by unfold Hid; intro _ _; refine ⟨_, hid hff, ?_⟩; rw [if_pos (show w7 z8 ≤ 10 by omega), if_neg (by omega), if_pos (by omega), hid i_B_X12_raise_92_7 (by omega)]; congr 1; omega) /- post4#4 -/⟩
              ·
                refine wp_bnd ?_
                refine wp_bndE (fun z22 hz22 => ?_)
                refine wp_jn ?_
                have hvs := i_B_X12_raise_92_3
                unfold vst at hvs
                have hex := hd_ (few_next h5 h6 h9 q_X12_findFewest_1_1 q_X12_findFewest_1_2 i_B_X12_raise_92_3 (by omega) (by omega))
                refine wp_lq3 (fun (z30 : Int) (z31 : Int) (w32 : (Int → Int)) => (-1 ≤ z30) ∧ (z30 < i_p0_stirs) ∧ (fstd z30 i_p0_stirs (fun r => w7 (thn i_p0_seats v_p0_st v_p0_brings z17 r) + 1 = w7 z17) z31)) (fun (z30 : Int) (z31 : Int) (w32 : (Int → Int)) => (z30 + 1).toNat) (fun again113 z30 z31 w32 hI ih_B_X12_raise_113 => ?_) 1000 _ _ _ ⟨(by omega) /- B_X12_raise_113.init1#1 -/, (by omega) /- B_X12_raise_113.init2#1 -/, (by rw [hz22]; exact fstd_0) /- B_X12_raise_113.init3#1 -/⟩ (by omega) /- B_X12_raise_113.fuel#1 -/
                obtain ⟨i_B_X12_raise_113_1, i_B_X12_raise_113_2, i_B_X12_raise_113_3⟩ := hI
                unfold B_X12_raise_113
                refine wp_ck (z_r32_i.mpr ⟨(by omega) /- z_r32.lo z30#1 -/, (by omega) /- z_r32.hi z30#1 -/⟩) ?_
                refine wp_if (fun c7 => ?_) (fun c7 => ?_)
                ·
                  have hfq := hd_ (fstd_q i_B_X12_raise_113_3 (by omega) (by omega))
                  have hgr := (fstq_ex (hid hfq) (hid hex)).1
                  have hgd := hd_ (fstq_ex (hid hfq) (hid hex)).2
                  have hfp := hd_ (few_fsp h5 h6 h9 q_X12_findFewest_1_1 q_X12_findFewest_1_2 i_B_X12_raise_92_3 (by omega) (by omega) (hid hfq))
                  refine wp_bd2 (s_X12_then _ _ _ _ _ _ i_p0_stirs (by omega) /- pre X12_then.1#1 -/ (by omega) /- pre X12_then.2#1 -/ (by omega) /- pre X12_then.3#1 -/ (by omega) /- pre X12_then.4#1 -/ (by exact h9) /- pre X12_then.5#1 -/ (by exact i_B_X12_raise_92_3) /- pre X12_then.6#1 -/ (by omega) /- pre X12_then.7#1 -/ (by omega) /- pre X12_then.8#1 -/) (fun z26 w27 q_X12_then_1 => ?_)
                  try dsimp only at q_X12_then_1
                  obtain ⟨q_X12_then_1_1, q_X12_then_1_2⟩ := q_X12_then_1
                  have hps := hd_ (pst_t (st := v_p0_st) h5 h6 h9 i_B_X12_raise_92_3 hgr.1 hgr.2 (hid i_B_X12_raise_92_6) (by rw [show (w7 z8).toNat - 1 - z15.toNat = (w7 z17 - 1).toNat from by omega]; exact hid hfp) q_X12_then_1_1)
                  refine wp_bnd ?_
                  refine wp_bndE (fun z29 hz29 => ?_)
                  exact ih_B_X12_raise_92 _ _ _ _ ⟨(by omega) /- B_X12_raise_92.inv1#1 -/, (by omega) /- B_X12_raise_92.inv2#1 -/, (by exact q_X12_then_1_2) /- B_X12_raise_92.inv3#1 -/, (by have e := hid hgd; replace e : _ = _ := e; rw [← q_X12_then_1_1] at e; omega) /- B_X12_raise_92.inv4#1 -/, (by omega) /- B_X12_raise_92.inv5#1 -/, (by unfold Hid; rw [show z29.toNat = z15.toNat + 1 from by omega]; exact (hid hps).1) /- B_X12_raise_92.inv6#1 -/, (by unfold Hid; intro _; rw [(hid hps).2]; congr 1; omega) /- B_X12_raise_92.inv7#1 -/⟩ (by omega) /- B_X12_raise_92.dec#1 -/
                ·
                  refine wp_bd2 (s_X12_then _ _ _ _ _ _ i_p0_stirs (by omega) /- pre X12_then.1#2 -/ (by omega) /- pre X12_then.2#2 -/ (by omega) /- pre X12_then.3#2 -/ (by omega) /- pre X12_then.4#2 -/ (by exact h9) /- pre X12_then.5#2 -/ (by exact i_B_X12_raise_92_3) /- pre X12_then.6#2 -/ (by omega) /- pre X12_then.7#2 -/ (by omega) /- pre X12_then.8#2 -/) (fun z35 w36 q_X12_then_2 => ?_)
                  try dsimp only at q_X12_then_2
                  obtain ⟨q_X12_then_2_1, q_X12_then_2_2⟩ := q_X12_then_2
                  have hvt := q_X12_then_2_2
                  unfold vst at hvt
                  have hft := (q_X12_findFewest_1_1 z35 (by omega) (by omega)).1
                  refine wp_ck (z_ix_i.mpr ⟨⟨(by omega) /- ix.lo z35#1 -/, (by omega) /- ix.hi z35#1 -/⟩, (by omega) /- ix.big z35#1 -/⟩) ?_
                  refine wp_ck (z_ix_i.mpr ⟨⟨(by omega) /- ix.lo z17#1 -/, (by omega) /- ix.hi z17#1 -/⟩, (by omega) /- ix.big z17#1 -/⟩) ?_
                  refine wp_ck (z_r32_i.mpr ⟨(by omega) /- z_r32.lo ((w7 z35) + (1 : Int))#1 -/, (by omega) /- z_r32.hi ((w7 z35) + (1 : Int))#1 -/⟩) ?_
                  refine wp_ck (z_r32_i.mpr ⟨(by omega) /- z_r32.lo (w7 z17)#1 -/, (by omega) /- z_r32.hi (w7 z17)#1 -/⟩) ?_
                  refine wp_if (fun c8 => ?_) (fun c8 => ?_)
                  ·
                    refine wp_bnd ?_
                    refine wp_bndE (fun z42 hz42 => ?_)
                    exact ih_B_X12_raise_113 _ _ _ ⟨(by omega) /- B_X12_raise_113.inv1#1 -/, (by omega) /- B_X12_raise_113.inv2#1 -/, (by first | (rw [hz42]; exact fstd_yes (z := z31) (by omega) (by show _ = _; rw [← q_X12_then_2_1]; assumption)) | (rw [hz40]; refine fstd_no i_B_X12_raise_113_3 (fun c => ?_); replace c : _ = _ := c; rw [← q_X12_then_2_1] at c; omega)) /- B_X12_raise_113.inv3#1 -/⟩ (by omega) /- B_X12_raise_113.dec#1 -/
                  ·
                    refine wp_bnd ?_
                    refine wp_bndE (fun z40 hz40 => ?_)
                    exact ih_B_X12_raise_113 _ _ _ ⟨(by omega) /- B_X12_raise_113.inv1#2 -/, (by omega) /- B_X12_raise_113.inv2#2 -/, (by first | (rw [hz42]; exact fstd_yes (z := z31) (by omega) (by show _ = _; rw [← q_X12_then_2_1]; assumption)) | (rw [hz40]; refine fstd_no i_B_X12_raise_113_3 (fun c => ?_); replace c : _ = _ := c; rw [← q_X12_then_2_1] at c; omega)) /- B_X12_raise_113.inv3#2 -/⟩ (by omega) /- B_X12_raise_113.dec#2 -/
            ·
              refine wp_some ?_
              try dsimp only
              all_goals exact ⟨(by omega) /- post1#5 -/, (by unfold Hid; intro h; exfalso; omega) /- post2#5 -/, (by unfold Hid; intro h _; exfalso; omega) /- post3#5 -/, (by unfold Hid; intro _ _; refine ⟨_, hid hff, ?_⟩; rw [if_pos (show w7 z8 ≤ 10 by omega), if_neg (by omega), if_neg (by omega)]) /- post4#5 -/⟩
        ·
          refine wp_some ?_
          try dsimp only
          all_goals exact ⟨(by omega) /- post1#6 -/, (by unfold Hid; intro h; exfalso; omega) /- post2#6 -/, (by unfold Hid; intro h _; exfalso; omega) /- post3#6 -/, (by unfold Hid; intro _ _; refine ⟨_, hid hff, ?_⟩; rw [if_neg (show ¬ w7 z8 ≤ 10 by omega)]; by_cases c : x2 = 0; rw [if_pos c]; rw [if_neg c, if_neg (by omega)]) /- post4#6 -/⟩
    refine wp_if (fun c9 => ?_) (fun c9 => ?_)
    ·
      exact hJ4  (by first | omega | (split at q_X12_in_1 <;> omega)) /- to J4#1 -/
    ·
      refine wp_bd1 (s_X12_in _ _ _ (by omega) /- pre X12_in.1#1 -/ (by omega) /- pre X12_in.2#1 -/ (by omega) /- pre X12_in.3#1 -/ (by omega) /- pre X12_in.4#1 -/ (by omega) /- pre X12_in.5#1 -/ (by omega) /- pre X12_in.6#1 -/) (fun z43 q_X12_in_1 => ?_)
      try dsimp only at q_X12_in_1
      refine wp_ck (z_r32_i.mpr ⟨(by omega) /- z_r32.lo z43#1 -/, (by omega) /- z_r32.hi z43#1 -/⟩) ?_
      refine wp_if (fun c10 => ?_) (fun c10 => ?_)
      ·
        refine wp_some ?_
        try dsimp only
        all_goals exact ⟨(by omega) /- post1#7 -/, (by unfold Hid; intro _; rfl) /- post2#7 -/, (by unfold Hid; intro h _; exfalso; split at q_X12_in_1 <;> omega) /- post3#7 -/, (by unfold Hid; intro h _; exfalso; split at q_X12_in_1 <;> omega) /- post4#7 -/⟩
      ·
        exact hJ4  (by first | omega | (split at q_X12_in_1 <;> omega)) /- to J4#2 -/
