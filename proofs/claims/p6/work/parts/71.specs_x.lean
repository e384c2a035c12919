def hR (w : Int → Int) (lo N : Int) : Prop := ∀ d s, lo ≤ d → d ≤ N → 0 ≤ s → s < 49 → 0 ≤ w (49 * d + s) ∧ w (49 * d + s) ≤ (5 : Int) ^ (N - d).toNat
def hE (n m : Int) (st b w : Int → Int) (d s : Int) : Prop := vst n s → 0 < w (49 * d + s) → ∃ r, (0 ≤ r ∧ r < m) ∧ thn n st b s r % 7 = st (32 + d) ∧ 0 < w (49 * d + 49 + thn n st b s r)
theorem hR_up {w : Int → Int} {lo N i v : Int} (h : hR w lo N) (hi : i < 49 * lo) : hR (z_up w i v) lo N := by
  intro d s a b c e
  rw [z_up_n _ _ (by omega)]
  exact h d s a b c e
theorem hE_up {n m : Int} {st b w : Int → Int} {d s i v : Int} (h2 : 2 ≤ n) (h7 : n ≤ 7) (hr : rowsM n m b) (h : hE n m st b w d s) (hi : i < 49 * d + 49) (hn : ¬ 49 * d + s = i) : hE n m st b (z_up w i v) d s := by
  intro a c
  rw [z_up_n _ _ hn] at c
  obtain ⟨r, f, g, t⟩ := h a c
  have q := thn_rng (st := st) h2 h7 hr a f.1 f.2
  unfold vst at q
  exact ⟨r, f, g, by rw [z_up_n _ _ (by omega)]; exact t⟩
theorem pow5_6 {z : Int} (h0 : 0 ≤ z) (h1 : z ≤ 6) : 1 ≤ (5 : Int) ^ z.toNat ∧ (5 : Int) ^ z.toNat ≤ 15625 := by
  have : ∀ k : Nat, k ≤ 6 → 1 ≤ (5 : Int) ^ k ∧ (5 : Int) ^ k ≤ 15625 := by decide +kernel
  exact this z.toNat (by omega)
set_option maxHeartbeats 4000000 in
theorem s_X12_findHistories (i_p0_seats : Int) (i_p0_stirs : Int) (v_p0_st : (Int → Int)) (v_p0_brings : (Int → Int)) (v_p0_places : (Int → Int)) (v_p0_goesOn : (Int → Int)) (h1 : 2 ≤ i_p0_seats) (h2 : i_p0_seats ≤ 7) (h3 : 0 ≤ i_p0_stirs) (h4 : i_p0_stirs ≤ 5) (h5 : rowsM i_p0_seats i_p0_stirs v_p0_brings) (h6 : okM i_p0_seats v_p0_st) : wp (f_X12_findHistories i_p0_seats i_p0_stirs v_p0_st v_p0_brings v_p0_places v_p0_goesOn) (fun o => (hR o.2 0 (v_p0_st 31)) ∧ (∀ d s, 0 ≤ d → d < v_p0_st 31 → hE i_p0_seats i_p0_stirs v_p0_st v_p0_brings o.2 d s)) := by
  unfold f_X12_findHistories
  have ho1 := okM_1 h6
  refine wp_ck (z_ix_i.mpr ⟨⟨(by omega) /- ix.lo (31 : Int)#1 -/, (by omega) /- ix.hi (31 : Int)#1 -/⟩, (by omega) /- ix.big (31 : Int)#1 -/⟩) ?_
  refine wp_bndE (fun z1 hz1 => ?_)
  refine wp_bnd ?_
  refine wp_jn ?_
  subst hz1
  refine wp_lq2 (fun (z41 : Int) (w42 : (Int → Int)) => (0 ≤ z41) ∧ (z41 ≤ 49) ∧ (∀ s, 0 ≤ s → s < z41 → w42 (49 * v_p0_st 31 + s) = 1)) (fun (z41 : Int) (w42 : (Int → Int)) => (49 - z41).toNat) (fun again10 z41 w42 hI ih_B_X12_findHistories_10 => ?_) 1000 _ _ ⟨(by omega) /- B_X12_findHistories_10.init1#1 -/, (by omega) /- B_X12_findHistories_10.init2#1 -/, (by intro s; omega) /- B_X12_findHistories_10.init3#1 -/⟩ (by omega) /- B_X12_findHistories_10.fuel#1 -/
  obtain ⟨i_B_X12_findHistories_10_1, i_B_X12_findHistories_10_2, i_B_X12_findHistories_10_3⟩ := hI
  unfold B_X12_findHistories_10
  refine wp_ck (z_r32_i.mpr ⟨(by omega) /- z_r32.lo z41#1 -/, (by omega) /- z_r32.hi z41#1 -/⟩) ?_
  refine wp_if (fun c1 => ?_) (fun c1 => ?_)
  ·
    refine wp_bndE (fun z5 hz5 => ?_)
    refine wp_lq3 (fun (z6 : Int) (w7 : (Int → Int)) (w8 : (Int → Int)) => (-1 ≤ z6) ∧ (z6 < v_p0_st 31) ∧ (hR w8 (z6 + 1) (v_p0_st 31)) ∧ (∀ d s, z6 + 1 ≤ d → d < v_p0_st 31 → hE i_p0_seats i_p0_stirs v_p0_st v_p0_brings w8 d s)) (fun (z6 : Int) (w7 : (Int → Int)) (w8 : (Int → Int)) => (z6 + 1).toNat) (fun again38 z6 w7 w8 hI ih_B_X12_findHistories_38 => ?_) 1000 _ _ _ ⟨(by omega) /- B_X12_findHistories_38.init1#1 -/, (by omega) /- B_X12_findHistories_38.init2#1 -/, (by 
                                        intro d s a b c e
                                        have f : d = v_p0_st 31 := by omega
                                        rw [f]
                                        rw [i_B_X12_findHistories_10_3 s c (by omega), show v_p0_st 31 - v_p0_st 31 = 0 from by omega]; decide) /- B_X12_findHistories_38.init3#1 -/, (by intro d s a b; omega) /- B_X12_findHistories_38.init4#1 -/⟩ (by omega) /- B_X12_findHistories_38.fuel#1 -/
    obtain ⟨i_B_X12_findHistories_38_1, i_B_X12_findHistories_38_2, i_B_X12_findHistories_38_3, i_B_X12_findHistories_38_4⟩ := hI
    unfold B_X12_findHistories_38
    have hpw := fun (h : 0 ≤ z6) => pow5_6 (z := v_p0_st 31 - z6 - 1) (by omega) (by omega)
    have hps := fun (h : 0 ≤ z6) => pow_step (b := 5) (z := v_p0_st 31 - z6 - 1) (by omega)
    refine wp_ck (z_r32_i.mpr ⟨(by omega) /- z_r32.lo z6#1 -/, (by omega) /- z_r32.hi z6#1 -/⟩) ?_
    refine wp_if (fun c2 => ?_) (fun c2 => ?_)
    ·
      refine wp_some ?_
      try dsimp only
      all_goals exact ⟨(by intro d s a b; exact i_B_X12_findHistories_38_3 d s (by omega) b) /- post1#1 -/, (by intro d s a b; exact i_B_X12_findHistories_38_4 d s (by omega) b) /- post2#1 -/⟩
    ·
      have hpw1 := hpw (by omega)
      have hps1 := hps (by omega)
      rw [show v_p0_st 31 - z6 - 1 + 1 = v_p0_st 31 - z6 from by omega] at hps1
      refine wp_bnd ?_
      refine wp_lq3 (fun (z12 : Int) (w13 : (Int → Int)) (w14 : (Int → Int)) => (0 ≤ z12) ∧ (z12 ≤ 49) ∧ (hR w14 (z6 + 1) (v_p0_st 31)) ∧ (∀ d s, z6 + 1 ≤ d → d < v_p0_st 31 → hE i_p0_seats i_p0_stirs v_p0_st v_p0_brings w14 d s) ∧ (∀ s, 0 ≤ s → s < z12 → 0 ≤ w14 (49 * z6 + s) ∧ w14 (49 * z6 + s) ≤ (5 : Int) ^ (v_p0_st 31 - z6).toNat) ∧ (∀ s, 0 ≤ s → s < z12 → hE i_p0_seats i_p0_stirs v_p0_st v_p0_brings w14 z6 s)) (fun (z12 : Int) (w13 : (Int → Int)) (w14 : (Int → Int)) => (49 - z12).toNat) (fun again44 z12 w13 w14 hI ih_B_X12_findHistories_44 => ?_) 1000 _ _ _ ⟨(by omega) /- B_X12_findHistories_44.init1#1 -/, (by omega) /- B_X12_findHistories_44.init2#1 -/, (by exact i_B_X12_findHistories_38_3) /- B_X12_findHistories_44.init3#1 -/, (by exact i_B_X12_findHistories_38_4) /- B_X12_findHistories_44.init4#1 -/, (by intro s; omega) /- B_X12_findHistories_44.init5#1 -/, (by intro s; omega) /- B_X12_findHistories_44.init6#1 -/⟩ (by omega) /- B_X12_findHistories_44.fuel#1 -/
      obtain ⟨i_B_X12_findHistories_44_1, i_B_X12_findHistories_44_2, i_B_X12_findHistories_44_3, i_B_X12_findHistories_44_4, i_B_X12_findHistories_44_5, i_B_X12_findHistories_44_6⟩ := hI
      unfold B_X12_findHistories_44
      refine wp_ck (z_r32_i.mpr ⟨(by omega) /- z_r32.lo z12#1 -/, (by omega) /- z_r32.hi z12#1 -/⟩) ?_
      refine wp_if (fun c3 => ?_) (fun c3 => ?_)
      ·
        refine wp_bndE (fun z17 hz17 => ?_)
        exact ih_B_X12_findHistories_38 _ _ _ ⟨(by omega) /- B_X12_findHistories_38.inv1#1 -/, (by omega) /- B_X12_findHistories_38.inv2#1 -/, (by intro d s a b c e; by_cases f : d = z6; (rw [f]; exact i_B_X12_findHistories_44_5 s c (by omega)); exact i_B_X12_findHistories_44_3 d s (by omega) b c e) /- B_X12_findHistories_38.inv3#1 -/, (by intro d s a b; by_cases f : d = z6; (rw [f]; intro v; exact i_B_X12_findHistories_44_6 s v.1 (by have := v.2.1; omega) v); exact i_B_X12_findHistories_44_4 d s (by omega) b) /- B_X12_findHistories_38.inv4#1 -/⟩ (by omega) /- B_X12_findHistories_38.dec#1 -/
      ·
        refine wp_ck (z_ix_i.mpr ⟨⟨(by omega) /- ix.lo (((49 : Int) * z6) + z12)#1 -/, (by omega) /- ix.hi (((49 : Int) * z6) + z12)#1 -/⟩, (by omega) /- ix.big (((49 : Int) * z6) + z12)#1 -/⟩) ?_
        refine wp_bnd ?_
        refine wp_bnd ?_
        refine wp_lq3 (fun (z20 : Int) (w21 : (Int → Int)) (w22 : (Int → Int)) => (0 ≤ z20) ∧ (z20 ≤ i_p0_stirs) ∧ (hR w22 (z6 + 1) (v_p0_st 31)) ∧ (∀ d s, z6 + 1 ≤ d → d < v_p0_st 31 → hE i_p0_seats i_p0_stirs v_p0_st v_p0_brings w22 d s) ∧ (∀ s, 0 ≤ s → s < z12 → 0 ≤ w22 (49 * z6 + s) ∧ w22 (49 * z6 + s) ≤ (5 : Int) ^ (v_p0_st 31 - z6).toNat) ∧ (∀ s, 0 ≤ s → s < z12 → hE i_p0_seats i_p0_stirs v_p0_st v_p0_brings w22 z6 s) ∧ (0 ≤ w22 (49 * z6 + z12) ∧ w22 (49 * z6 + z12) ≤ z20 * (5 : Int) ^ (v_p0_st 31 - z6 - 1).toNat) ∧ (0 < w22 (49 * z6 + z12) → ∃ r, (0 ≤ r ∧ r < z20) ∧ thn i_p0_seats v_p0_st v_p0_brings z12 r % 7 = v_p0_st (32 + z6) ∧ 0 < w22 (49 * z6 + 49 + thn i_p0_seats v_p0_st v_p0_brings z12 r))) (fun (z20 : Int) (w21 : (Int → Int)) (w22 : (Int → Int)) => (i_p0_stirs - z20).toNat) (fun again65 z20 w21 w22 hI ih_B_X12_findHistories_65 => ?_) 1000 _ _ _ ⟨(by omega) /- B_X12_findHistories_65.init1#1 -/, (by omega) /- B_X12_findHistories_65.init2#1 -/, (by exact hR_up i_B_X12_findHistories_44_3 (by omega)) /- B_X12_findHistories_65.init3#1 -/, (by intro d s a b; intro v; exact hE_up h1 h2 h5 (i_B_X12_findHistories_44_4 d s a b) (by omega) (by have := v.1; omega) v) /- B_X12_findHistories_65.init4#1 -/, (by intro s a b; rw [z_up_n _ _ (by omega)]; exact i_B_X12_findHistories_44_5 s a b) /- B_X12_findHistories_65.init5#1 -/, (by intro s a b; exact hE_up h1 h2 h5 (i_B_X12_findHistories_44_6 s a b) (by omega) (by omega)) /- B_X12_findHistories_65.init6#1 -/, (by rw [z_up_s, Int.zero_mul]; omega) /- B_X12_findHistories_65.init7#1 -/, (by rw [z_up_s]; intro h; omega) /- B_X12_findHistories_65.init8#1 -/⟩ (by omega) /- B_X12_findHistories_65.fuel#1 -/
        obtain ⟨i_B_X12_findHistories_65_1, i_B_X12_findHistories_65_2, i_B_X12_findHistories_65_3, i_B_X12_findHistories_65_4, i_B_X12_findHistories_65_5, i_B_X12_findHistories_65_6, i_B_X12_findHistories_65_7, i_B_X12_findHistories_65_8⟩ := hI
        unfold B_X12_findHistories_65
        have hm5 := mul5 (z := z20) (v := (5 : Int) ^ (v_p0_st 31 - z6 - 1).toNat) (by omega) (by omega)
        have hw := okM_w h6 z6 (by omega) (by omega)
        refine wp_ck (z_r32_i.mpr ⟨(by omega) /- z_r32.lo z20#1 -/, (by omega) /- z_r32.hi z20#1 -/⟩) ?_
        refine wp_ck (z_r32_i.mpr ⟨(by omega) /- z_r32.lo i_p0_stirs#1 -/, (by omega) /- z_r32.hi i_p0_stirs#1 -/⟩) ?_
        refine wp_if (fun c4 => ?_) (fun c4 => ?_)
        ·
          refine wp_bndE (fun z26 hz26 => ?_)
          exact ih_B_X12_findHistories_44 _ _ _ ⟨(by omega) /- B_X12_findHistories_44.inv1#1 -/, (by omega) /- B_X12_findHistories_44.inv2#1 -/, (by exact i_B_X12_findHistories_65_3) /- B_X12_findHistories_44.inv3#1 -/, (by exact i_B_X12_findHistories_65_4) /- B_X12_findHistories_44.inv4#1 -/, (by intro s a b; by_cases e : s = z12; (rw [e]; omega); exact i_B_X12_findHistories_65_5 s a (by omega)) /- B_X12_findHistories_44.inv5#1 -/, (by intro s a b; by_cases e : s = z12; (rw [e]; intro v c; obtain ⟨r, f, g, t⟩ := i_B_X12_findHistories_65_8 c; exact ⟨r, ⟨f.1, by omega⟩, g, t⟩); exact i_B_X12_findHistories_65_6 s a (by omega)) /- B_X12_findHistories_44.inv6#1 -/⟩ (by omega) /- B_X12_findHistories_44.dec#1 -/
        ·
          refine wp_ck (z_dv_i.mpr ⟨⟨⟨(by omega) /- dv.0 z12#1 -/, (by omega) /- dv.1 z12#1 -/⟩, (by omega) /- dv.2 z12#1 -/⟩, (by omega) /- dv.3 z12#1 -/⟩) ?_
          refine wp_ck (z_r32_i.mpr ⟨(by omega) /- z_r32.lo (z12 % (7 : Int))#1 -/, (by omega) /- z_r32.hi (z12 % (7 : Int))#1 -/⟩) ?_
          refine wp_ck (z_r32_i.mpr ⟨(by omega) /- z_r32.lo i_p0_seats#1 -/, (by omega) /- z_r32.hi i_p0_seats#1 -/⟩) ?_
          refine wp_if (fun c5 => ?_) (fun c5 => ?_)
          ·
            refine wp_bndE (fun z29 hz29 => ?_)
            exact ih_B_X12_findHistories_44 _ _ _ ⟨(by omega) /- B_X12_findHistories_44.inv1#2 -/, (by omega) /- B_X12_findHistories_44.inv2#2 -/, (by exact i_B_X12_findHistories_65_3) /- B_X12_findHistories_44.inv3#2 -/, (by exact i_B_X12_findHistories_65_4) /- B_X12_findHistories_44.inv4#2 -/, (by intro s a b; by_cases e : s = z12; (rw [e]; omega); exact i_B_X12_findHistories_65_5 s a (by omega)) /- B_X12_findHistories_44.inv5#2 -/, (by intro s a b; by_cases e : s = z12; (rw [e]; intro v; exfalso; unfold vst at v; omega); exact i_B_X12_findHistories_65_6 s a (by omega)) /- B_X12_findHistories_44.inv6#2 -/⟩ (by omega) /- B_X12_findHistories_44.dec#2 -/
          ·
            refine wp_ck (z_dv_i.mpr ⟨⟨⟨(by omega) /- dv.0 z12#2 -/, (by omega) /- dv.1 z12#2 -/⟩, (by omega) /- dv.2 z12#2 -/⟩, (by omega) /- dv.3 z12#2 -/⟩) ?_
            refine wp_ck (z_r32_i.mpr ⟨(by omega) /- z_r32.lo (z12 / (7 : Int))#1 -/, (by omega) /- z_r32.hi (z12 / (7 : Int))#1 -/⟩) ?_
            refine wp_if (fun c6 => ?_) (fun c6 => ?_)
            ·
              refine wp_bndE (fun z31 hz31 => ?_)
              exact ih_B_X12_findHistories_44 _ _ _ ⟨(by omega) /- B_X12_findHistories_44.inv1#3 -/, (by omega) /- B_X12_findHistories_44.inv2#3 -/, (by exact i_B_X12_findHistories_65_3) /- B_X12_findHistories_44.inv3#3 -/, (by exact i_B_X12_findHistories_65_4) /- B_X12_findHistories_44.inv4#3 -/, (by intro s a b; by_cases e : s = z12; (rw [e]; omega); exact i_B_X12_findHistories_65_5 s a (by omega)) /- B_X12_findHistories_44.inv5#3 -/, (by intro s a b; by_cases e : s = z12; (rw [e]; intro v; exfalso; unfold vst at v; omega); exact i_B_X12_findHistories_65_6 s a (by omega)) /- B_X12_findHistories_44.inv6#3 -/⟩ (by omega) /- B_X12_findHistories_44.dec#3 -/
            ·
              have hvz : vst i_p0_seats z12 := by unfold vst; omega
              refine wp_bd2 (s_X12_then _ _ _ _ _ _ i_p0_stirs (by omega) /- pre X12_then.1#1 -/ (by omega) /- pre X12_then.2#1 -/ (by omega) /- pre X12_then.3#1 -/ (by omega) /- pre X12_then.4#1 -/ (by exact h5) /- pre X12_then.5#1 -/ (by exact hvz) /- pre X12_then.6#1 -/ (by omega) /- pre X12_then.7#1 -/ (by omega) /- pre X12_then.8#1 -/) (fun z32 w33 q_X12_then_1 => ?_)
              try dsimp only at q_X12_then_1
              obtain ⟨q_X12_then_1_1, q_X12_then_1_2⟩ := q_X12_then_1
              have hvt := q_X12_then_1_2
              unfold vst at hvt
              have hg := i_B_X12_findHistories_65_3 (z6 + 1) z32 (by omega) (by omega) (by omega) (by omega)
              rw [show 49 * (z6 + 1) + z32 = 49 * z6 + 49 + z32 from by omega, show v_p0_st 31 - (z6 + 1) = v_p0_st 31 - z6 - 1 from by omega] at hg
              have hmu : (z20 + 1) * (5 : Int) ^ (v_p0_st 31 - z6 - 1).toNat = z20 * (5 : Int) ^ (v_p0_st 31 - z6 - 1).toNat + (5 : Int) ^ (v_p0_st 31 - z6 - 1).toNat := by rw [Int.add_mul, Int.one_mul]
              refine wp_bnd ?_
              refine wp_ck (z_ix_i.mpr ⟨⟨(by omega) /- ix.lo (((49 : Int) * z6) + z12)#2 -/, (by omega) /- ix.hi (((49 : Int) * z6) + z12)#2 -/⟩, (by omega) /- ix.big (((49 : Int) * z6) + z12)#2 -/⟩) ?_
              refine wp_ck (z_dv_i.mpr ⟨⟨⟨(by omega) /- dv.0 z34#1 -/, (by omega) /- dv.1 z34#1 -/⟩, (by omega) /- dv.2 z34#1 -/⟩, (by omega) /- dv.3 z34#1 -/⟩) ?_
              refine wp_ck (z_ix_i.mpr ⟨⟨(by omega) /- ix.lo ((32 : Int) + z6)#1 -/, (by omega) /- ix.hi ((32 : Int) + z6)#1 -/⟩, (by omega) /- ix.big ((32 : Int) + z6)#1 -/⟩) ?_
              refine wp_ck (z_r32_i.mpr ⟨(by omega) /- z_r32.lo (z34 % (7 : Int))#1 -/, (by omega) /- z_r32.hi (z34 % (7 : Int))#1 -/⟩) ?_
              refine wp_ck (z_r32_i.mpr ⟨(by omega) /- z_r32.lo (v_p0_st ((32 : Int) + z6))#1 -/, (by omega) /- z_r32.hi (v_p0_st ((32 : Int) + z6))#1 -/⟩) ?_
              refine wp_if (fun c7 => ?_) (fun c7 => ?_)
              ·
                refine wp_ck (z_ix_i.mpr ⟨⟨(by omega) /- ix.lo ((((49 : Int) * z6) + (49 : Int)) + z34)#1 -/, (by omega) /- ix.hi ((((49 : Int) * z6) + (49 : Int)) + z34)#1 -/⟩, (by omega) /- ix.big ((((49 : Int) * z6) + (49 : Int)) + z34)#1 -/⟩) ?_
                refine wp_ck (z_ix_i.mpr ⟨⟨(by omega) /- ix.lo (((49 : Int) * z6) + z12)#3 -/, (by omega) /- ix.hi (((49 : Int) * z6) + z12)#3 -/⟩, (by omega) /- ix.big (((49 : Int) * z6) + z12)#3 -/⟩) ?_
                refine wp_bnd ?_
                refine wp_bndE (fun z40 hz40 => ?_)
                exact ih_B_X12_findHistories_65 _ _ _ ⟨(by omega) /- B_X12_findHistories_65.inv1#1 -/, (by omega) /- B_X12_findHistories_65.inv2#1 -/, (by exact hR_up i_B_X12_findHistories_65_3 (by omega)) /- B_X12_findHistories_65.inv3#1 -/, (by intro d s a b; intro v; exact hE_up h1 h2 h5 (i_B_X12_findHistories_65_4 d s a b) (by omega) (by have := v.1; omega) v) /- B_X12_findHistories_65.inv4#1 -/, (by intro s a b; rw [z_up_n _ _ (by omega)]; exact i_B_X12_findHistories_65_5 s a b) /- B_X12_findHistories_65.inv5#1 -/, (by intro s a b; exact hE_up h1 h2 h5 (i_B_X12_findHistories_65_6 s a b) (by omega) (by omega)) /- B_X12_findHistories_65.inv6#1 -/, (by rw [z_up_s]; first | (subst hz40; rw [hmu]; omega) | (subst hz38; rw [hmu]; omega)) /- B_X12_findHistories_65.inv7#1 -/, (by 
                                        rw [z_up_s]
                                        intro c
                                        by_cases e : 0 < w22 (49 * z6 + 49 + z32)
                                        · exact ⟨z20, ⟨by omega, by omega⟩, by rw [← q_X12_then_1_1]; assumption, by rw [z_up_n _ _ (by rw [← q_X12_then_1_1]; omega), ← q_X12_then_1_1]; exact e⟩
                                        · obtain ⟨r, f, g, t⟩ := i_B_X12_findHistories_65_8 (by omega)
                                          have q := thn_rng (st := v_p0_st) h1 h2 h5 hvz f.1 (show r < i_p0_stirs by omega)
                                          unfold vst at q
                                          exact ⟨r, ⟨f.1, by omega⟩, g, by rw [z_up_n _ _ (by omega)]; exact t⟩) /- B_X12_findHistories_65.inv8#1 -/⟩ (by omega) /- B_X12_findHistories_65.dec#1 -/
              ·
                refine wp_ck (z_ix_i.mpr ⟨⟨(by omega) /- ix.lo (((49 : Int) * z6) + z12)#4 -/, (by omega) /- ix.hi (((49 : Int) * z6) + z12)#4 -/⟩, (by omega) /- ix.big (((49 : Int) * z6) + z12)#4 -/⟩) ?_
                refine wp_bnd ?_
                refine wp_bndE (fun z38 hz38 => ?_)
                exact ih_B_X12_findHistories_65 _ _ _ ⟨(by omega) /- B_X12_findHistories_65.inv1#2 -/, (by omega) /- B_X12_findHistories_65.inv2#2 -/, (by exact hR_up i_B_X12_findHistories_65_3 (by omega)) /- B_X12_findHistories_65.inv3#2 -/, (by intro d s a b; intro v; exact hE_up h1 h2 h5 (i_B_X12_findHistories_65_4 d s a b) (by omega) (by have := v.1; omega) v) /- B_X12_findHistories_65.inv4#2 -/, (by intro s a b; rw [z_up_n _ _ (by omega)]; exact i_B_X12_findHistories_65_5 s a b) /- B_X12_findHistories_65.inv5#2 -/, (by intro s a b; exact hE_up h1 h2 h5 (i_B_X12_findHistories_65_6 s a b) (by omega) (by omega)) /- B_X12_findHistories_65.inv6#2 -/, (by rw [z_up_s]; first | (subst hz40; rw [hmu]; omega) | (subst hz38; rw [hmu]; omega)) /- B_X12_findHistories_65.inv7#2 -/, (by 
                                        rw [z_up_s]
                                        intro c
                                        obtain ⟨r, f, g, t⟩ := i_B_X12_findHistories_65_8 (by omega)
                                        have q := thn_rng (st := v_p0_st) h1 h2 h5 hvz f.1 (show r < i_p0_stirs by omega)
                                        unfold vst at q
                                        exact ⟨r, ⟨f.1, by omega⟩, g, by rw [z_up_n _ _ (by omega)]; exact t⟩) /- B_X12_findHistories_65.inv8#2 -/⟩ (by omega) /- B_X12_findHistories_65.dec#2 -/
  ·
    refine wp_ck (z_ix_i.mpr ⟨⟨(by omega) /- ix.lo (((49 : Int) * z1) + z41)#1 -/, (by omega) /- ix.hi (((49 : Int) * z1) + z41)#1 -/⟩, (by omega) /- ix.big (((49 : Int) * z1) + z41)#1 -/⟩) ?_
    refine wp_bnd ?_
    refine wp_bndE (fun z46 hz46 => ?_)
    exact ih_B_X12_findHistories_10 _ _ ⟨(by omega) /- B_X12_findHistories_10.inv1#1 -/, (by omega) /- B_X12_findHistories_10.inv2#1 -/, (by intro s a b; rw [z_up_a]; split; rfl; exact i_B_X12_findHistories_10_3 s a (by omega)) /- B_X12_findHistories_10.inv3#1 -/⟩ (by omega) /- B_X12_findHistories_10.dec#1 -/

set_option maxHeartbeats 1000000 in
theorem s_X12_canGo (i_p0_seats : Int) (v_p0_st : (Int → Int)) (v_p0_brings : (Int → Int)) (v_p0_places : (Int → Int)) (v_p0_goesOn : (Int → Int)) (x1 : Int) (x2 : Int) (x3 : Int) (i_p0_stirs : Int) (h1 : 2 ≤ i_p0_seats) (h2 : i_p0_seats ≤ 7) (h3 : 0 ≤ i_p0_stirs) (h4 : i_p0_stirs ≤ 5) (h5 : rowsM i_p0_seats i_p0_stirs v_p0_brings) (h6 : 0 ≤ x1) (h7 : x1 < 6) (h8 : vst i_p0_seats x2) (h9 : 0 ≤ x3) (h10 : x3 < i_p0_stirs) (h11 : 0 ≤ v_p0_st (32 + x1)) (h12 : v_p0_st (32 + x1) < 7) (h13 : ∀ s, 0 ≤ s → s < 49 → 0 ≤ v_p0_goesOn (49 * x1 + 49 + s) ∧ v_p0_goesOn (49 * x1 + 49 + s) ≤ 15625) : wp (f_X12_canGo i_p0_seats v_p0_st v_p0_brings v_p0_places v_p0_goesOn x1 x2 x3) (fun o => ((o.1 = 1 ∧ (thn i_p0_seats v_p0_st v_p0_brings x2 x3 % 7 = v_p0_st (32 + x1) ∧ 0 < v_p0_goesOn (49 * x1 + 49 + thn i_p0_seats v_p0_st v_p0_brings x2 x3))) ∨ (o.1 = 0 ∧ ¬ (thn i_p0_seats v_p0_st v_p0_brings x2 x3 % 7 = v_p0_st (32 + x1) ∧ 0 < v_p0_goesOn (49 * x1 + 49 + thn i_p0_seats v_p0_st v_p0_brings x2 x3))))) := by
  unfold f_X12_canGo
  refine wp_bd2 (s_X12_then _ _ _ _ _ _ i_p0_stirs (by omega) /- pre X12_then.1#1 -/ (by omega) /- pre X12_then.2#1 -/ (by omega) /- pre X12_then.3#1 -/ (by omega) /- pre X12_then.4#1 -/ (by exact h5) /- pre X12_then.5#1 -/ (by exact h8) /- pre X12_then.6#1 -/ (by omega) /- pre X12_then.7#1 -/ (by omega) /- pre X12_then.8#1 -/) (fun z1 w2 q_X12_then_1 => ?_)
  try dsimp only at q_X12_then_1
  obtain ⟨q_X12_then_1_1, q_X12_then_1_2⟩ := q_X12_then_1
  have hvt := q_X12_then_1_2
  unfold vst at hvt
  have hg := h13 z1 (by omega) (by omega)
  refine wp_bnd ?_
  refine wp_ck (z_dv_i.mpr ⟨⟨⟨(by omega) /- dv.0 z3#1 -/, (by omega) /- dv.1 z3#1 -/⟩, (by omega) /- dv.2 z3#1 -/⟩, (by omega) /- dv.3 z3#1 -/⟩) ?_
  refine wp_ck (z_ix_i.mpr ⟨⟨(by omega) /- ix.lo ((32 : Int) + x1)#1 -/, (by omega) /- ix.hi ((32 : Int) + x1)#1 -/⟩, (by omega) /- ix.big ((32 : Int) + x1)#1 -/⟩) ?_
  refine wp_ck (z_r32_i.mpr ⟨(by omega) /- z_r32.lo (z3 % (7 : Int))#1 -/, (by omega) /- z_r32.hi (z3 % (7 : Int))#1 -/⟩) ?_
  refine wp_ck (z_r32_i.mpr ⟨(by omega) /- z_r32.lo (v_p0_st ((32 : Int) + x1))#1 -/, (by omega) /- z_r32.hi (v_p0_st ((32 : Int) + x1))#1 -/⟩) ?_
  refine wp_if (fun c1 => ?_) (fun c1 => ?_)
  ·
    refine wp_ck (z_ix_i.mpr ⟨⟨(by omega) /- ix.lo ((((49 : Int) * x1) + (49 : Int)) + z3)#1 -/, (by omega) /- ix.hi ((((49 : Int) * x1) + (49 : Int)) + z3)#1 -/⟩, (by omega) /- ix.big ((((49 : Int) * x1) + (49 : Int)) + z3)#1 -/⟩) ?_
    refine wp_ck (z_r32_i.mpr ⟨(by omega) /- z_r32.lo (v_p0_goesOn ((((49 : Int) * x1) + (49 : Int)) + z3))#1 -/, (by omega) /- z_r32.hi (v_p0_goesOn ((((49 : Int) * x1) + (49 : Int)) + z3))#1 -/⟩) ?_
    refine wp_if (fun c2 => ?_) (fun c2 => ?_)
    ·
      refine wp_some ?_
      try dsimp only
      all_goals exact (by rw [← q_X12_then_1_1]; omega) /- post1#1 -/
    ·
      refine wp_some ?_
      try dsimp only
      all_goals exact (by rw [← q_X12_then_1_1]; omega) /- post1#2 -/
  ·
    refine wp_some ?_
    try dsimp only
    all_goals exact (by rw [← q_X12_then_1_1]; omega) /- post1#3 -/

set_option maxHeartbeats 4000000 in
theorem s_X12_histories (i_p0_seats : Int) (i_p0_stirs : Int) (v_p0_st : (Int → Int)) (v_p0_brings : (Int → Int)) (v_p0_places : (Int → Int)) (v_p0_goesOn : (Int → Int)) (x1 : Int) (h1 : -2147483648 ≤ x1) (h2 : x1 < 2147483648) (h3 : 2 ≤ i_p0_seats) (h4 : i_p0_seats ≤ 7) (h5 : 0 ≤ i_p0_stirs) (h6 : i_p0_stirs ≤ 5) (h7 : rowsM i_p0_seats i_p0_stirs v_p0_brings) (h8 : okM i_p0_seats v_p0_st) : wp (f_X12_histories i_p0_seats i_p0_stirs v_p0_st v_p0_brings v_p0_places v_p0_goesOn x1) (fun o => True) := by
  unfold f_X12_histories
  have ho1 := okM_1 h8
  refine wp_ck (z_r32_i.mpr ⟨(by omega) /- z_r32.lo x1#1 -/, (by omega) /- z_r32.hi x1#1 -/⟩) ?_
  refine wp_jnP0 (x1 = 0 ∨ (10 ≤ x1 ∧ x1 ≤ 15)) (fun pJ2 => ?_) (fun J2 hJ2 => ?_)
  ·
    refine wp_bd2 (s_X12_findHistories _ _ _ _ _ _ (by omega) /- pre X12_findHistories.1#1 -/ (by omega) /- pre X12_findHistories.2#1 -/ (by omega) /- pre X12_findHistories.3#1 -/ (by omega) /- pre X12_findHistories.4#1 -/ (by exact h7) /- pre X12_findHistories.5#1 -/ (by exact h8) /- pre X12_findHistories.6#1 -/) (fun w3 w4 q_X12_findHistories_1 => ?_)
    try dsimp only at q_X12_findHistories_1
    obtain ⟨q_X12_findHistories_1_1, q_X12_findHistories_1_2⟩ := q_X12_findHistories_1
    refine wp_bd1 (s_X12_stateNow _ i_p0_seats (by omega) /- pre X12_stateNow.1#1 -/ (by omega) /- pre X12_stateNow.2#1 -/ (by exact h8) /- pre X12_stateNow.3#1 -/) (fun z5 q_X12_stateNow_1 => ?_)
    try dsimp only at q_X12_stateNow_1
    obtain ⟨q_X12_stateNow_1_1, q_X12_stateNow_1_2⟩ := q_X12_stateNow_1
    have hvn := q_X12_stateNow_1_2
    unfold vst at hvn
    have hz0 := q_X12_findHistories_1_1 0 z5 (by omega) (by omega) (by omega) (by omega)
    have hp6 := pow5_6 (z := v_p0_st 31 - 0) (by omega) (by omega)
    rw [show (49 : Int) * 0 + z5 = z5 from by omega] at hz0
    refine wp_bnd ?_
    refine wp_if (fun c1 => ?_) (fun c1 => ?_)
    ·
      refine wp_ck (z_ix_i.mpr ⟨⟨(by omega) /- ix.lo z6#1 -/, (by omega) /- ix.hi z6#1 -/⟩, (by omega) /- ix.big z6#1 -/⟩) ?_
      exact wp_some trivial
    ·
      refine wp_ck (z_ix_i.mpr ⟨⟨(by omega) /- ix.lo z6#2 -/, (by omega) /- ix.hi z6#2 -/⟩, (by omega) /- ix.big z6#2 -/⟩) ?_
      refine wp_ck (z_r32_i.mpr ⟨(by omega) /- z_r32.lo (w4 z6)#1 -/, (by omega) /- z_r32.hi (w4 z6)#1 -/⟩) ?_
      refine wp_if (fun c2 => ?_) (fun c2 => ?_)
      ·
        exact wp_some trivial
      ·
        refine wp_ck (z_ix_i.mpr ⟨⟨(by omega) /- ix.lo (31 : Int)#1 -/, (by omega) /- ix.hi (31 : Int)#1 -/⟩, (by omega) /- ix.big (31 : Int)#1 -/⟩) ?_
        refine wp_ck (z_r32_i.mpr ⟨(by omega) /- z_r32.lo (x1 - (10 : Int))#1 -/, (by omega) /- z_r32.hi (x1 - (10 : Int))#1 -/⟩) ?_
        refine wp_ck (z_r32_i.mpr ⟨(by omega) /- z_r32.lo (v_p0_st (31 : Int))#1 -/, (by omega) /- z_r32.hi (v_p0_st (31 : Int))#1 -/⟩) ?_
        refine wp_if (fun c3 => ?_) (fun c3 => ?_)
        ·
          refine wp_bnd ?_
          refine wp_bnd ?_
          refine wp_lq4 (fun (z12 : Int) (z13 : Int) (z14 : Int) (w15 : (Int → Int)) => (0 ≤ z12) ∧ (z12 ≤ x1 - 9) ∧ (vst i_p0_seats z14) ∧ (0 < w4 (49 * z12 + z14)) ∧ (-4 ≤ z13 ∧ z13 < 5)) (fun (z12 : Int) (z13 : Int) (z14 : Int) (w15 : (Int → Int)) => (x1 - 9 - z12).toNat) (fun again72 z12 z13 z14 w15 hI ih_B_X12_histories_72 => ?_) 1000 _ _ _ _ ⟨(by omega) /- B_X12_histories_72.init1#1 -/, (by omega) /- B_X12_histories_72.init2#1 -/, (by exact q_X12_stateNow_1_2) /- B_X12_histories_72.init3#1 -/, (by rw [show (49 : Int) * 0 + z5 = z5 from by omega]; omega) /- B_X12_histories_72.init4#1 -/, (by omega) /- B_X12_histories_72.init5#1 -/⟩ (by omega) /- B_X12_histories_72.fuel#1 -/
          obtain ⟨i_B_X12_histories_72_1, i_B_X12_histories_72_2, i_B_X12_histories_72_3, i_B_X12_histories_72_4, i_B_X12_histories_72_5⟩ := hI
          unfold B_X12_histories_72
          refine wp_ck (z_r32_i.mpr ⟨(by omega) /- z_r32.lo z12#1 -/, (by omega) /- z_r32.hi z12#1 -/⟩) ?_
          refine wp_if (fun c4 => ?_) (fun c4 => ?_)
          ·
            exact wp_some trivial
          ·
            refine wp_bnd ?_
            refine wp_bndE (fun z19 hz19 => ?_)
            refine wp_jn ?_
            have hex := q_X12_findHistories_1_2 z12 z14 (by omega) (by omega) i_B_X12_histories_72_3 i_B_X12_histories_72_4
            have hw := okM_w h8 z12 (by omega) (by omega)
            have hgb : ∀ s, 0 ≤ s → s < 49 → 0 ≤ w4 (49 * z12 + 49 + s) ∧ w4 (49 * z12 + 49 + s) ≤ 15625 := by
              intro s a b
              have e := q_X12_findHistories_1_1 (z12 + 1) s (by omega) (by omega) a b
              have p := pow5_6 (z := v_p0_st 31 - (z12 + 1)) (by omega) (by omega)
              rw [show 49 * (z12 + 1) + s = 49 * z12 + 49 + s from by omega] at e
              omega
            refine wp_lq3 (fun (z27 : Int) (z28 : Int) (w29 : (Int → Int)) => (-1 ≤ z27) ∧ (z27 < i_p0_stirs) ∧ ((z28 = -4 ∧ ∀ r, z27 < r → r < i_p0_stirs → ¬ (thn i_p0_seats v_p0_st v_p0_brings z14 r % 7 = v_p0_st (32 + z12) ∧ 0 < w4 (49 * z12 + 49 + thn i_p0_seats v_p0_st v_p0_brings z14 r))) ∨ ((0 ≤ z28 ∧ z28 < i_p0_stirs) ∧ (thn i_p0_seats v_p0_st v_p0_brings z14 z28 % 7 = v_p0_st (32 + z12) ∧ 0 < w4 (49 * z12 + 49 + thn i_p0_seats v_p0_st v_p0_brings z14 z28))))) (fun (z27 : Int) (z28 : Int) (w29 : (Int → Int)) => (z27 + 1).toNat) (fun again92 z27 z28 w29 hI ih_B_X12_histories_92 => ?_) 1000 _ _ _ ⟨(by omega) /- B_X12_histories_92.init1#1 -/, (by omega) /- B_X12_histories_92.init2#1 -/, (by left; exact ⟨rfl, by intro r; omega⟩) /- B_X12_histories_92.init3#1 -/⟩ (by omega) /- B_X12_histories_92.fuel#1 -/
            obtain ⟨i_B_X12_histories_92_1, i_B_X12_histories_92_2, i_B_X12_histories_92_3⟩ := hI
            unfold B_X12_histories_92
            refine wp_ck (z_r32_i.mpr ⟨(by omega) /- z_r32.lo z27#1 -/, (by omega) /- z_r32.hi z27#1 -/⟩) ?_
            refine wp_if (fun c5 => ?_) (fun c5 => ?_)
            ·
              have hgd : (0 ≤ z28 ∧ z28 < i_p0_stirs) ∧ (thn i_p0_seats v_p0_st v_p0_brings z14 z28 % 7 = v_p0_st (32 + z12) ∧ 0 < w4 (49 * z12 + 49 + thn i_p0_seats v_p0_st v_p0_brings z14 z28)) := by
                rcases i_B_X12_histories_92_3 with h | h
                · obtain ⟨r, a, b⟩ := hex; exact absurd b (h.2 r (by omega) a.2)
                · exact h
              refine wp_bd2 (s_X12_then _ _ _ _ _ _ i_p0_stirs (by omega) /- pre X12_then.1#1 -/ (by omega) /- pre X12_then.2#1 -/ (by omega) /- pre X12_then.3#1 -/ (by omega) /- pre X12_then.4#1 -/ (by exact h7) /- pre X12_then.5#1 -/ (by exact i_B_X12_histories_72_3) /- pre X12_then.6#1 -/ (by omega) /- pre X12_then.7#1 -/ (by omega) /- pre X12_then.8#1 -/) (fun z23 w24 q_X12_then_1 => ?_)
              try dsimp only at q_X12_then_1
              obtain ⟨q_X12_then_1_1, q_X12_then_1_2⟩ := q_X12_then_1
              refine wp_bnd ?_
              refine wp_bndE (fun z26 hz26 => ?_)
              exact ih_B_X12_histories_72 _ _ _ _ ⟨(by omega) /- B_X12_histories_72.inv1#1 -/, (by omega) /- B_X12_histories_72.inv2#1 -/, (by exact q_X12_then_1_2) /- B_X12_histories_72.inv3#1 -/, (by subst hz26; have e := hgd.2.2; rw [← q_X12_then_1_1] at e; rw [show 49 * (z12 + 1) + z23 = 49 * z12 + 49 + z23 from by omega]; exact e) /- B_X12_histories_72.inv4#1 -/, (by omega) /- B_X12_histories_72.inv5#1 -/⟩ (by omega) /- B_X12_histories_72.dec#1 -/
            ·
              refine wp_bd2 (s_X12_canGo _ _ _ _ _ _ _ _ i_p0_stirs (by omega) /- pre X12_canGo.1#1 -/ (by omega) /- pre X12_canGo.2#1 -/ (by omega) /- pre X12_canGo.3#1 -/ (by omega) /- pre X12_canGo.4#1 -/ (by exact h7) /- pre X12_canGo.5#1 -/ (by omega) /- pre X12_canGo.6#1 -/ (by omega) /- pre X12_canGo.7#1 -/ (by exact i_B_X12_histories_72_3) /- pre X12_canGo.8#1 -/ (by omega) /- pre X12_canGo.9#1 -/ (by omega) /- pre X12_canGo.10#1 -/ (by omega) /- pre X12_canGo.11#1 -/ (by omega) /- pre X12_canGo.12#1 -/ (by exact hgb) /- pre X12_canGo.13#1 -/) (fun z32 w33 q_X12_canGo_1 => ?_)
              try dsimp only at q_X12_canGo_1
              refine wp_ck (z_r32_i.mpr ⟨(by omega) /- z_r32.lo z32#1 -/, (by omega) /- z_r32.hi z32#1 -/⟩) ?_
              refine wp_if (fun c6 => ?_) (fun c6 => ?_)
              ·
                refine wp_bnd ?_
                refine wp_bndE (fun z36 hz36 => ?_)
                exact ih_B_X12_histories_92 _ _ _ ⟨(by omega) /- B_X12_histories_92.inv1#1 -/, (by omega) /- B_X12_histories_92.inv2#1 -/, (by rcases q_X12_canGo_1 with hq | hq; (first | (exfalso; omega) | (right; exact ⟨⟨by omega, by omega⟩, hq.2⟩)); (first | (exfalso; omega) | (rcases i_B_X12_histories_92_3 with h | h; (left; refine ⟨h.1, fun r a b c => ?_⟩; by_cases e : r = z27; (rw [e] at c; exact hq.2 c); exact h.2 r (by omega) b c); (right; exact h)))) /- B_X12_histories_92.inv3#1 -/⟩ (by omega) /- B_X12_histories_92.dec#1 -/
              ·
                refine wp_bnd ?_
                refine wp_bndE (fun z38 hz38 => ?_)
                exact ih_B_X12_histories_92 _ _ _ ⟨(by omega) /- B_X12_histories_92.inv1#2 -/, (by omega) /- B_X12_histories_92.inv2#2 -/, (by rcases q_X12_canGo_1 with hq | hq; (first | (exfalso; omega) | (right; exact ⟨⟨by omega, by omega⟩, hq.2⟩)); (first | (exfalso; omega) | (rcases i_B_X12_histories_92_3 with h | h; (left; refine ⟨h.1, fun r a b c => ?_⟩; by_cases e : r = z27; (rw [e] at c; exact hq.2 c); exact h.2 r (by omega) b c); (right; exact h)))) /- B_X12_histories_92.inv3#2 -/⟩ (by omega) /- B_X12_histories_92.dec#2 -/
        ·
          exact wp_some trivial
  refine wp_if (fun c7 => ?_) (fun c7 => ?_)
  ·
    exact hJ2  (by omega) /- to J2#1 -/
  ·
    refine wp_bd1 (s_X12_in _ _ _ (by omega) /- pre X12_in.1#1 -/ (by omega) /- pre X12_in.2#1 -/ (by omega) /- pre X12_in.3#1 -/ (by omega) /- pre X12_in.4#1 -/ (by omega) /- pre X12_in.5#1 -/ (by omega) /- pre X12_in.6#1 -/) (fun z39 q_X12_in_1 => ?_)
    try dsimp only at q_X12_in_1
    refine wp_ck (z_r32_i.mpr ⟨(by omega) /- z_r32.lo z39#1 -/, (by omega) /- z_r32.hi z39#1 -/⟩) ?_
    refine wp_if (fun c8 => ?_) (fun c8 => ?_)
    ·
      exact wp_some trivial
    ·
      exact hJ2  (by omega) /- to J2#2 -/

set_option maxHeartbeats 4000000 in
theorem s_X12_could (i_p0_seats : Int) (i_p0_stirs : Int) (v_p0_st : (Int → Int)) (v_p0_brings : (Int → Int)) (v_p0_places : (Int → Int)) (v_p0_goesOn : (Int → Int)) (v_p0_isThere : (Int → Int)) (v_p0_isThereThen : (Int → Int)) (x1 : Int) (h1 : -2147483648 ≤ x1) (h2 : x1 < 2147483648) (h3 : 2 ≤ i_p0_seats) (h4 : i_p0_seats ≤ 7) (h5 : 0 ≤ i_p0_stirs) (h6 : i_p0_stirs ≤ 5) (h7 : rowsM i_p0_seats i_p0_stirs v_p0_brings) (h8 : okM i_p0_seats v_p0_st) : wp (f_X12_could i_p0_seats i_p0_stirs v_p0_st v_p0_brings v_p0_places v_p0_goesOn v_p0_isThere v_p0_isThereThen x1) (fun o => True) := by
  unfold f_X12_could
  have ho1 := okM_1 h8
  refine wp_ck (z_r32_i.mpr ⟨(by omega) /- z_r32.lo x1#1 -/, (by omega) /- z_r32.hi x1#1 -/⟩) ?_
  refine wp_ck (z_ix_i.mpr ⟨⟨(by omega) /- ix.lo (31 : Int)#1 -/, (by omega) /- ix.hi (31 : Int)#1 -/⟩, (by omega) /- ix.big (31 : Int)#1 -/⟩) ?_
  refine wp_ck (z_r32_i.mpr ⟨(by omega) /- z_r32.lo ((v_p0_st (31 : Int)) - (1 : Int))#1 -/, (by omega) /- z_r32.hi ((v_p0_st (31 : Int)) - (1 : Int))#1 -/⟩) ?_
  refine wp_bd1 (s_X12_in _ _ _ (by omega) /- pre X12_in.1#1 -/ (by omega) /- pre X12_in.2#1 -/ (by omega) /- pre X12_in.3#1 -/ (by omega) /- pre X12_in.4#1 -/ (by omega) /- pre X12_in.5#1 -/ (by omega) /- pre X12_in.6#1 -/) (fun z3 q_X12_in_1 => ?_)
  try dsimp only at q_X12_in_1
  refine wp_ck (z_r32_i.mpr ⟨(by omega) /- z_r32.lo z3#1 -/, (by omega) /- z_r32.hi z3#1 -/⟩) ?_
  refine wp_if (fun c1 => ?_) (fun c1 => ?_)
  ·
    clear q_X12_in_1
    exact wp_some trivial
  ·
    have hk : 0 ≤ x1 ∧ x1 < v_p0_st 31 := by split at q_X12_in_1 <;> omega
    clear q_X12_in_1
    refine wp_bd2 (s_X12_findHistories _ _ _ _ _ _ (by omega) /- pre X12_findHistories.1#1 -/ (by omega) /- pre X12_findHistories.2#1 -/ (by omega) /- pre X12_findHistories.3#1 -/ (by omega) /- pre X12_findHistories.4#1 -/ (by exact h7) /- pre X12_findHistories.5#1 -/ (by exact h8) /- pre X12_findHistories.6#1 -/) (fun w5 w6 q_X12_findHistories_1 => ?_)
    try dsimp only at q_X12_findHistories_1
    obtain ⟨q_X12_findHistories_1_1, q_X12_findHistories_1_2⟩ := q_X12_findHistories_1
    refine wp_bnd ?_
    refine wp_bnd ?_
    refine wp_jn ?_
    refine wp_lq2 (fun (z68 : Int) (w69 : (Int → Int)) => (0 ≤ z68) ∧ (z68 ≤ 49) ∧ (∀ j, 0 ≤ j → j < z68 → (w69 j = 0 ∨ w69 j = 1) ∧ (¬ w69 j = 0 → vst i_p0_seats j))) (fun (z68 : Int) (w69 : (Int → Int)) => (49 - z68).toNat) (fun again29 z68 w69 hI ih_B_X12_could_29 => ?_) 1000 _ _ ⟨(by omega) /- B_X12_could_29.init1#1 -/, (by omega) /- B_X12_could_29.init2#1 -/, (by intro j; omega) /- B_X12_could_29.init3#1 -/⟩ (by omega) /- B_X12_could_29.fuel#1 -/
    obtain ⟨i_B_X12_could_29_1, i_B_X12_could_29_2, i_B_X12_could_29_3⟩ := hI
    unfold B_X12_could_29
    refine wp_ck (z_r32_i.mpr ⟨(by omega) /- z_r32.lo z68#1 -/, (by omega) /- z_r32.hi z68#1 -/⟩) ?_
    refine wp_if (fun c2 => ?_) (fun c2 => ?_)
    ·
      refine wp_bnd ?_
      refine wp_lq5 (fun (z12 : Int) (z13 : Int) (w14 : (Int → Int)) (w15 : (Int → Int)) (w16 : (Int → Int)) => (0 ≤ z12) ∧ (z12 ≤ x1 + 1) ∧ (∀ j, 0 ≤ j → j < 49 → (w15 j = 0 ∨ w15 j = 1) ∧ (¬ w15 j = 0 → vst i_p0_seats j))) (fun (z12 : Int) (z13 : Int) (w14 : (Int → Int)) (w15 : (Int → Int)) (w16 : (Int → Int)) => (x1 + 1 - z12).toNat) (fun again62 z12 z13 w14 w15 w16 hI ih_B_X12_could_62 => ?_) 1000 _ _ _ _ _ ⟨(by omega) /- B_X12_could_62.init1#1 -/, (by omega) /- B_X12_could_62.init2#1 -/, (by intro j a b; exact i_B_X12_could_29_3 j a (by omega)) /- B_X12_could_62.init3#1 -/⟩ (by omega) /- B_X12_could_62.fuel#1 -/
      obtain ⟨i_B_X12_could_62_1, i_B_X12_could_62_2, i_B_X12_could_62_3⟩ := hI
      unfold B_X12_could_62
      refine wp_ck (z_r32_i.mpr ⟨(by omega) /- z_r32.lo z12#1 -/, (by omega) /- z_r32.hi z12#1 -/⟩) ?_
      refine wp_if (fun c3 => ?_) (fun c3 => ?_)
      ·
        exact wp_some trivial
      ·
        refine wp_bnd ?_
        refine wp_bnd ?_
        refine wp_jn ?_
        have hw := okM_w h8 z12 (by omega) (by omega)
        have hgb : ∀ s, 0 ≤ s → s < 49 → 0 ≤ w6 (49 * z12 + 49 + s) ∧ w6 (49 * z12 + 49 + s) ≤ 15625 := by
          intro s a b
          have e := q_X12_findHistories_1_1 (z12 + 1) s (by omega) (by omega) a b
          have p := pow5_6 (z := v_p0_st 31 - (z12 + 1)) (by omega) (by omega)
          rw [show 49 * (z12 + 1) + s = 49 * z12 + 49 + s from by omega] at e
          omega
        refine wp_lq2 (fun (z62 : Int) (w63 : (Int → Int)) => (0 ≤ z62) ∧ (z62 ≤ 49) ∧ (∀ j, 0 ≤ j → j < z62 → (w63 j = 0 ∨ w63 j = 1) ∧ (¬ w63 j = 0 → vst i_p0_seats j))) (fun (z62 : Int) (w63 : (Int → Int)) => (49 - z62).toNat) (fun again72 z62 w63 hI ih_B_X12_could_72 => ?_) 1000 _ _ ⟨(by omega) /- B_X12_could_72.init1#1 -/, (by omega) /- B_X12_could_72.init2#1 -/, (by intro j; omega) /- B_X12_could_72.init3#1 -/⟩ (by omega) /- B_X12_could_72.fuel#1 -/
        obtain ⟨i_B_X12_could_72_1, i_B_X12_could_72_2, i_B_X12_could_72_3⟩ := hI
        unfold B_X12_could_72
        refine wp_ck (z_r32_i.mpr ⟨(by omega) /- z_r32.lo z62#1 -/, (by omega) /- z_r32.hi z62#1 -/⟩) ?_
        refine wp_if (fun c4 => ?_) (fun c4 => ?_)
        ·
          refine wp_bnd ?_
          refine wp_jn ?_
          refine wp_lq4 (fun (z36 : Int) (z37 : Int) (w38 : (Int → Int)) (w39 : (Int → Int)) => (0 ≤ z36) ∧ (z36 ≤ 49) ∧ (∀ j, 0 ≤ j → j < 49 → (w39 j = 0 ∨ w39 j = 1) ∧ (¬ w39 j = 0 → vst i_p0_seats j))) (fun (z36 : Int) (z37 : Int) (w38 : (Int → Int)) (w39 : (Int → Int)) => (49 - z36).toNat) (fun again96 z36 z37 w38 w39 hI ih_B_X12_could_96 => ?_) 1000 _ _ _ _ ⟨(by omega) /- B_X12_could_96.init1#1 -/, (by omega) /- B_X12_could_96.init2#1 -/, (by intro j a b; exact i_B_X12_could_72_3 j a (by omega)) /- B_X12_could_96.init3#1 -/⟩ (by omega) /- B_X12_could_96.fuel#1 -/
          obtain ⟨i_B_X12_could_96_1, i_B_X12_could_96_2, i_B_X12_could_96_3⟩ := hI
          unfold B_X12_could_96
          refine wp_ck (z_r32_i.mpr ⟨(by omega) /- z_r32.lo z36#1 -/, (by omega) /- z_r32.hi z36#1 -/⟩) ?_
          refine wp_if (fun c5 => ?_) (fun c5 => ?_)
          ·
            refine wp_bnd ?_
            refine wp_lq2 (fun (z29 : Int) (w30 : (Int → Int)) => (0 ≤ z29) ∧ (z29 ≤ 49) ∧ (∀ j, 0 ≤ j → j < z29 → (w30 j = 0 ∨ w30 j = 1) ∧ (¬ w30 j = 0 → vst i_p0_seats j))) (fun (z29 : Int) (w30 : (Int → Int)) => (49 - z29).toNat) (fun again173 z29 w30 hI ih_B_X12_could_173 => ?_) 1000 _ _ ⟨(by omega) /- B_X12_could_173.init1#1 -/, (by omega) /- B_X12_could_173.init2#1 -/, (by intro j; omega) /- B_X12_could_173.init3#1 -/⟩ (by omega) /- B_X12_could_173.fuel#1 -/
            obtain ⟨i_B_X12_could_173_1, i_B_X12_could_173_2, i_B_X12_could_173_3⟩ := hI
            unfold B_X12_could_173
            have h26 := fun (h : z29 < 49) => i_B_X12_could_96_3 z29 (by omega) h
            refine wp_ck (z_r32_i.mpr ⟨(by omega) /- z_r32.lo z29#1 -/, (by omega) /- z_r32.hi z29#1 -/⟩) ?_
            refine wp_if (fun c6 => ?_) (fun c6 => ?_)
            ·
              refine wp_bndE (fun z33 hz33 => ?_)
              exact ih_B_X12_could_62 _ _ _ _ _ ⟨(by omega) /- B_X12_could_62.inv1#1 -/, (by omega) /- B_X12_could_62.inv2#1 -/, (by intro j a b; exact i_B_X12_could_173_3 j a (by omega)) /- B_X12_could_62.inv3#1 -/⟩ (by omega) /- B_X12_could_62.dec#1 -/
            ·
              refine wp_ck (z_ix_i.mpr ⟨⟨(by omega) /- ix.lo z29#1 -/, (by omega) /- ix.hi z29#1 -/⟩, (by omega) /- ix.big z29#1 -/⟩) ?_
              refine wp_ck (z_ix_i.mpr ⟨⟨(by omega) /- ix.lo z29#2 -/, (by omega) /- ix.hi z29#2 -/⟩, (by omega) /- ix.big z29#2 -/⟩) ?_
              refine wp_ck (z_bB_i.mpr (by omega) /- bB (w26 z29)#1 -/) ?_
              refine wp_bnd ?_
              refine wp_bndE (fun z35 hz35 => ?_)
              exact ih_B_X12_could_173 _ _ ⟨(by omega) /- B_X12_could_173.inv1#1 -/, (by omega) /- B_X12_could_173.inv2#1 -/, (by intro j a b; rw [z_up_a]; split; (rename_i e; have := h26 (by omega); rw [e]; exact this); exact i_B_X12_could_173_3 j a (by omega)) /- B_X12_could_173.inv3#1 -/⟩ (by omega) /- B_X12_could_173.dec#1 -/
          ·
            refine wp_bnd ?_
            refine wp_lq4 (fun (z43 : Int) (z44 : Int) (w45 : (Int → Int)) (w46 : (Int → Int)) => (0 ≤ z43) ∧ (z43 ≤ i_p0_stirs) ∧ (∀ j, 0 ≤ j → j < 49 → (w46 j = 0 ∨ w46 j = 1) ∧ (¬ w46 j = 0 → vst i_p0_seats j))) (fun (z43 : Int) (z44 : Int) (w45 : (Int → Int)) (w46 : (Int → Int)) => (i_p0_stirs - z43).toNat) (fun again106 z43 z44 w45 w46 hI ih_B_X12_could_106 => ?_) 1000 _ _ _ _ ⟨(by omega) /- B_X12_could_106.init1#1 -/, (by omega) /- B_X12_could_106.init2#1 -/, (by exact i_B_X12_could_96_3) /- B_X12_could_106.init3#1 -/⟩ (by omega) /- B_X12_could_106.fuel#1 -/
            obtain ⟨i_B_X12_could_106_1, i_B_X12_could_106_2, i_B_X12_could_106_3⟩ := hI
            unfold B_X12_could_106
            have h15 := i_B_X12_could_62_3 z36 (by omega) (by omega)
            refine wp_ck (z_r32_i.mpr ⟨(by omega) /- z_r32.lo z43#1 -/, (by omega) /- z_r32.hi z43#1 -/⟩) ?_
            refine wp_ck (z_r32_i.mpr ⟨(by omega) /- z_r32.lo i_p0_stirs#1 -/, (by omega) /- z_r32.hi i_p0_stirs#1 -/⟩) ?_
            refine wp_if (fun c7 => ?_) (fun c7 => ?_)
            ·
              refine wp_bndE (fun z50 hz50 => ?_)
              exact ih_B_X12_could_96 _ _ _ _ ⟨(by omega) /- B_X12_could_96.inv1#1 -/, (by omega) /- B_X12_could_96.inv2#1 -/, (by exact i_B_X12_could_106_3) /- B_X12_could_96.inv3#1 -/⟩ (by omega) /- B_X12_could_96.dec#1 -/
            ·
              refine wp_ck (z_ix_i.mpr ⟨⟨(by omega) /- ix.lo z36#1 -/, (by omega) /- ix.hi z36#1 -/⟩, (by omega) /- ix.big z36#1 -/⟩) ?_
              refine wp_ck (z_r32_i.mpr ⟨(by omega) /- z_r32.lo (w15 z36)#1 -/, (by omega) /- z_r32.hi (w15 z36)#1 -/⟩) ?_
              refine wp_if (fun c8 => ?_) (fun c8 => ?_)
              ·
                refine wp_bndE (fun z52 hz52 => ?_)
                exact ih_B_X12_could_96 _ _ _ _ ⟨(by omega) /- B_X12_could_96.inv1#2 -/, (by omega) /- B_X12_could_96.inv2#2 -/, (by exact i_B_X12_could_106_3) /- B_X12_could_96.inv3#2 -/⟩ (by omega) /- B_X12_could_96.dec#2 -/
              ·
                have hvz := h15.2 (by assumption)
                refine wp_bd2 (s_X12_canGo _ _ _ _ _ _ _ _ i_p0_stirs (by omega) /- pre X12_canGo.1#1 -/ (by omega) /- pre X12_canGo.2#1 -/ (by omega) /- pre X12_canGo.3#1 -/ (by omega) /- pre X12_canGo.4#1 -/ (by exact h7) /- pre X12_canGo.5#1 -/ (by omega) /- pre X12_canGo.6#1 -/ (by omega) /- pre X12_canGo.7#1 -/ (by exact hvz) /- pre X12_canGo.8#1 -/ (by omega) /- pre X12_canGo.9#1 -/ (by omega) /- pre X12_canGo.10#1 -/ (by omega) /- pre X12_canGo.11#1 -/ (by omega) /- pre X12_canGo.12#1 -/ (by exact hgb) /- pre X12_canGo.13#1 -/) (fun z53 w54 q_X12_canGo_1 => ?_)
                try dsimp only at q_X12_canGo_1
                refine wp_ck (z_r32_i.mpr ⟨(by omega) /- z_r32.lo z53#1 -/, (by omega) /- z_r32.hi z53#1 -/⟩) ?_
                refine wp_if (fun c9 => ?_) (fun c9 => ?_)
                ·
                  refine wp_bndE (fun z56 hz56 => ?_)
                  exact ih_B_X12_could_106 _ _ _ _ ⟨(by omega) /- B_X12_could_106.inv1#1 -/, (by omega) /- B_X12_could_106.inv2#1 -/, (by first | exact i_B_X12_could_106_3 | (intro j a b; rw [z_up_a]; split; (rename_i e; exact ⟨Or.inr rfl, fun _ => by rw [e]; exact q_X12_then_1_2⟩); exact i_B_X12_could_106_3 j a b)) /- B_X12_could_106.inv3#1 -/⟩ (by omega) /- B_X12_could_106.dec#1 -/
                ·
                  refine wp_bndE (fun z57 hz57 => ?_)
                  refine wp_bd2 (s_X12_then _ _ _ _ _ _ i_p0_stirs (by omega) /- pre X12_then.1#1 -/ (by omega) /- pre X12_then.2#1 -/ (by omega) /- pre X12_then.3#1 -/ (by omega) /- pre X12_then.4#1 -/ (by exact h7) /- pre X12_then.5#1 -/ (by exact hvz) /- pre X12_then.6#1 -/ (by omega) /- pre X12_then.7#1 -/ (by omega) /- pre X12_then.8#1 -/) (fun z58 w59 q_X12_then_1 => ?_)
                  try dsimp only at q_X12_then_1
                  obtain ⟨q_X12_then_1_1, q_X12_then_1_2⟩ := q_X12_then_1
                  have hvt := q_X12_then_1_2
                  unfold vst at hvt
                  refine wp_ck (z_ix_i.mpr ⟨⟨(by omega) /- ix.lo z58#1 -/, (by omega) /- ix.hi z58#1 -/⟩, (by omega) /- ix.big z58#1 -/⟩) ?_
                  refine wp_ck (z_bB_i.mpr (by omega) /- bB (1 : Int)#1 -/) ?_
                  refine wp_bnd ?_
                  refine wp_bndE (fun z61 hz61 => ?_)
                  exact ih_B_X12_could_106 _ _ _ _ ⟨(by omega) /- B_X12_could_106.inv1#2 -/, (by omega) /- B_X12_could_106.inv2#2 -/, (by first | exact i_B_X12_could_106_3 | (intro j a b; rw [z_up_a]; split; (rename_i e; exact ⟨Or.inr rfl, fun _ => by rw [e]; exact q_X12_then_1_2⟩); exact i_B_X12_could_106_3 j a b)) /- B_X12_could_106.inv3#2 -/⟩ (by omega) /- B_X12_could_106.dec#2 -/
        ·
          refine wp_ck (z_ix_i.mpr ⟨⟨(by omega) /- ix.lo z62#1 -/, (by omega) /- ix.hi z62#1 -/⟩, (by omega) /- ix.big z62#1 -/⟩) ?_
          refine wp_ck (z_bB_i.mpr (by omega) /- bB (0 : Int)#1 -/) ?_
          refine wp_bnd ?_
          refine wp_bndE (fun z67 hz67 => ?_)
          exact ih_B_X12_could_72 _ _ ⟨(by omega) /- B_X12_could_72.inv1#1 -/, (by omega) /- B_X12_could_72.inv2#1 -/, (by intro j a b; rw [z_up_a]; split; exact ⟨Or.inl rfl, fun h => absurd rfl h⟩; exact i_B_X12_could_72_3 j a (by omega)) /- B_X12_could_72.inv3#1 -/⟩ (by omega) /- B_X12_could_72.dec#1 -/
    ·
      refine wp_bd1 (s_X12_stateNow _ i_p0_seats (by omega) /- pre X12_stateNow.1#1 -/ (by omega) /- pre X12_stateNow.2#1 -/ (by exact h8) /- pre X12_stateNow.3#1 -/) (fun z72 q_X12_stateNow_1 => ?_)
      try dsimp only at q_X12_stateNow_1
      obtain ⟨q_X12_stateNow_1_1, q_X12_stateNow_1_2⟩ := q_X12_stateNow_1
      have hvn := q_X12_stateNow_1_2
      unfold vst at hvn
      refine wp_ck (z_r32_i.mpr ⟨(by omega) /- z_r32.lo z72#1 -/, (by omega) /- z_r32.hi z72#1 -/⟩) ?_
      refine wp_if (fun c10 => ?_) (fun c10 => ?_)
      ·
        refine wp_ck (z_ix_i.mpr ⟨⟨(by omega) /- ix.lo z68#1 -/, (by omega) /- ix.hi z68#1 -/⟩, (by omega) /- ix.big z68#1 -/⟩) ?_
        refine wp_ck (z_bB_i.mpr (by omega) /- bB (1 : Int)#2 -/) ?_
        refine wp_bnd ?_
        refine wp_bndE (fun z77 hz77 => ?_)
        exact ih_B_X12_could_29 _ _ ⟨(by omega) /- B_X12_could_29.inv1#1 -/, (by omega) /- B_X12_could_29.inv2#1 -/, (by intro j a b; rw [z_up_a]; split; (rename_i e; first | exact ⟨Or.inr rfl, fun _ => by rw [e]; first | assumption | (have := q_X12_stateNow_1_2; rw [← (show z68 = z72 by assumption)] at this; exact this)⟩ | exact ⟨Or.inl rfl, fun h => absurd rfl h⟩); exact i_B_X12_could_29_3 j a (by omega)) /- B_X12_could_29.inv3#1 -/⟩ (by omega) /- B_X12_could_29.dec#1 -/
      ·
        refine wp_ck (z_ix_i.mpr ⟨⟨(by omega) /- ix.lo z68#2 -/, (by omega) /- ix.hi z68#2 -/⟩, (by omega) /- ix.big z68#2 -/⟩) ?_
        refine wp_ck (z_bB_i.mpr (by omega) /- bB (0 : Int)#2 -/) ?_
        refine wp_bnd ?_
        refine wp_bndE (fun z75 hz75 => ?_)
        exact ih_B_X12_could_29 _ _ ⟨(by omega) /- B_X12_could_29.inv1#2 -/, (by omega) /- B_X12_could_29.inv2#2 -/, (by intro j a b; rw [z_up_a]; split; (rename_i e; first | exact ⟨Or.inr rfl, fun _ => by rw [e]; first | assumption | (have := q_X12_stateNow_1_2; rw [← (show z68 = z72 by assumption)] at this; exact this)⟩ | exact ⟨Or.inl rfl, fun h => absurd rfl h⟩); exact i_B_X12_could_29_3 j a (by omega)) /- B_X12_could_29.inv3#2 -/⟩ (by omega) /- B_X12_could_29.dec#2 -/
