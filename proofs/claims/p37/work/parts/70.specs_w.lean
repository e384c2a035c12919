theorem okM_p {n : Int} {st : Int → Int} (h : okM n st) : ∀ j, 0 ≤ j → j < 7 → 0 ≤ st j ∧ st j ≤ 9 := h.2.2.2.2.1
theorem okM_s {n : Int} {st : Int → Int} (h : okM n st) : ∀ j, 0 ≤ j → j < 7 → 1 ≤ st (16 + j) ∧ st (16 + j) ≤ 9 := h.2.2.2.2.2.2.1
theorem okM_e {n : Int} {st : Int → Int} (h : okM n st) : ∀ j, 0 ≤ j → j < 7 → 0 ≤ st (23 + j) ∧ st (23 + j) ≤ 9 * st 30 := h.2.2.2.2.2.2.2.1
theorem okM_w {n : Int} {st : Int → Int} (h : okM n st) : ∀ j, 0 ≤ j → j < st 31 → 0 ≤ st (32 + j) ∧ st (32 + j) < n := h.2.2.2.2.2.2.2.2
theorem bt_h7 : ∀ a : Nat, a < 128 → ∀ q : Nat, q < 32 → 7 ≤ q → bt (a : Int) (q : Int) = 0 := by decide +kernel
theorem bt_hn : ∀ a : Nat, a < 128 → ∀ m : Nat, m < 7 → (a : Int) < z_shl 1 (m : Int) → ∀ q : Nat, q < 7 → m ≤ q → bt (a : Int) (q : Int) = 0 := by decide +kernel
theorem bt_hz {a n q : Int} (h0 : 0 ≤ a) (h2 : 2 ≤ n) (h7 : n ≤ 7) (h1 : a < z_shl 1 n) (hq : n ≤ q) (hq2 : q < 32) : bt a q = 0 := by
  have m := shl_n h2 h7
  by_cases c : 7 ≤ q
  · have := bt_h7 a.toNat (by omega) q.toNat (by omega) (by omega)
    rw [Int.toNat_of_nonneg h0, Int.toNat_of_nonneg (by omega)] at this
    exact this
  · have := bt_hn a.toNat (by omega) n.toNat (by omega) (by rw [Int.toNat_of_nonneg h0, Int.toNat_of_nonneg (by omega)]; exact h1) q.toNat (by omega) (by omega)
    rw [Int.toNat_of_nonneg h0, Int.toNat_of_nonneg (by omega)] at this
    exact this
theorem bb_m1 : ∀ i, i < 32 → bb (-1) i = true := by decide +kernel
theorem bt_an {b g q : Int} (h0 : 0 ≤ q) (h1 : q < 32) : bt (z_and b (z_xor g (-1))) q = 0 ↔ (¬ bt b q = 0 → ¬ bt g q = 0) := by
  rw [bt_bb h0 h1, bt_bb h0 h1, bt_bb h0 h1, bb_and, bb_xor, bb_m1 _ (by omega)]
  cases bb b q.toNat <;> cases bb g q.toNat <;> simp
theorem sub_iff {n b : Int} {G : Int → Prop} (h2 : 2 ≤ n) (h7 : n ≤ 7) (h0 : 0 ≤ b) (h1 : b < z_shl 1 n) : z_and b (z_xor (bitsOf G n.toNat) (-1)) = 0 ↔ ∀ p, 0 ≤ p → p < n → ¬ bt b p = 0 → G p := by
  constructor
  · intro h p u v w
    have e := (bt_an (b := b) (g := bitsOf G n.toNat) u (by omega)).mp (by rw [h]; exact bt_z p u (by omega)) w
    exact Classical.byContradiction fun z => e ((bt_bits u (by omega) n.toNat (by omega)).mpr (fun y => z y.2))
  · intro h
    refine bb_ext (z_and_r _ _) (by omega) (fun i hi => ?_)
    have k := (bt_an (b := b) (g := bitsOf G n.toNat) (q := (i : Int)) (by omega) (by omega)).mpr (fun w => by
      by_cases c : (i : Int) < n
      · exact fun z => (bt_bits (by omega) (by omega) n.toNat (by omega)).mp z ⟨by omega, h _ (by omega) c w⟩
      · exact absurd (bt_hz h0 h2 h7 h1 (by omega) (by omega)) w)
    rw [bt_bb (by omega) (by omega), Int.toNat_natCast] at k
    rw [show bb 0 i = false from kb_0 _]
    by_cases c : bb (z_and b (z_xor (bitsOf G n.toNat) (-1))) i = true
    · rw [if_pos c] at k; omega
    · simpa using c
theorem bt_all : ∀ n : Nat, n < 8 → ∀ p : Nat, p < n → bt (z_shl 1 (n : Int) - 1) (p : Int) = 1 := by decide +kernel
theorem sp_all {n : Int} {sp : Int → Int} (h2 : 2 ≤ n) (h7 : n ≤ 7) : sumTo (spS sp (z_shl 1 n - 1)) n.toNat = sumTo sp n.toNat := by
  refine sum_ext n.toNat (fun j a b => ?_)
  have e := bt_all n.toNat (by omega) j.toNat (by omega)
  rw [Int.toNat_of_nonneg (by omega), Int.toNat_of_nonneg a] at e
  show (if bt (z_shl 1 n - 1) j = 0 then 0 else sp j) = sp j
  rw [if_neg (by omega)]
/-- the pot as a row stirs it -/
noncomputable def sdf (n : Int) (row p : Int → Int) : Int → Int := fun q => @dite Int (∃ i, (0 ≤ i ∧ i < n) ∧ row i = q) (Classical.propDecidable _) (fun h => p h.choose) (fun _ => 0)
theorem sdf_ok {n : Int} {row p : Int → Int} (h : perm n row) : stirdP n row p (sdf n row p) := by
  intro i a b
  have e : ∃ j, (0 ≤ j ∧ j < n) ∧ row j = row i := ⟨i, ⟨a, b⟩, rfl⟩
  unfold sdf
  rw [dif_pos e]
  congr 1
  exact h.2 _ i e.choose_spec.1.1 e.choose_spec.1.2 a b e.choose_spec.2
set_option maxHeartbeats 1000000 in
theorem s_X12_findBowls (i_p0_seats : Int) (v_p0_st : (Int → Int)) (v_p0_brings : (Int → Int)) (v_p0_places : (Int → Int)) (v_p0_bowls : (Int → Int)) (x1 : Int) (x2 : Int) (i_p0_stirs : Int) (v_sd : Int → Int) (h1 : 2 ≤ i_p0_seats) (h2 : i_p0_seats ≤ 7) (h3 : 0 ≤ i_p0_stirs) (h4 : i_p0_stirs ≤ 5) (h5 : rowsM i_p0_seats i_p0_stirs v_p0_brings) (h6 : 0 ≤ x1) (h7 : x1 < i_p0_seats) (h8 : 0 ≤ x2) (h9 : x2 < i_p0_stirs) (h10 : stirdP i_p0_seats (fun i => v_p0_brings (7 * x2 + i)) v_p0_st v_sd) : wp (f_X12_findBowls i_p0_seats v_p0_st v_p0_brings v_p0_places v_p0_bowls x1 x2) (fun o => (∀ p, 0 ≤ p → p < i_p0_seats → ∃ i, (0 ≤ i ∧ i < i_p0_seats) ∧ v_p0_brings (7 * x2 + i) = plc i_p0_seats x1 (v_p0_st (9 + x1)) p ∧ o.2 p = v_p0_st i) ∧ (∀ p, 0 ≤ p → p < i_p0_seats → o.2 p = v_sd (plc i_p0_seats x1 (v_p0_st (9 + x1)) p))) := by
  unfold f_X12_findBowls
  refine wp_bd1 (s_X12_findPlaces _ _ _ _ (by omega) /- pre X12_findPlaces.1#1 -/ (by omega) /- pre X12_findPlaces.2#1 -/ (by omega) /- pre X12_findPlaces.3#1 -/ (by omega) /- pre X12_findPlaces.4#1 -/) (fun w1 q_X12_findPlaces_1 => ?_)
  try dsimp only at q_X12_findPlaces_1
  refine wp_bnd ?_
  refine wp_lq2 (fun (z3 : Int) (w4 : (Int → Int)) => (0 ≤ z3) ∧ (z3 ≤ i_p0_seats) ∧ (∀ p, 0 ≤ p → p < z3 → ∃ i, (0 ≤ i ∧ i < i_p0_seats) ∧ v_p0_brings (7 * x2 + i) = plc i_p0_seats x1 (v_p0_st (9 + x1)) p ∧ w4 p = v_p0_st i)) (fun (z3 : Int) (w4 : (Int → Int)) => (i_p0_seats - z3).toNat) (fun again7 z3 w4 hI ih_B_X12_findBowls_7 => ?_) 1000 _ _ ⟨(by omega) /- B_X12_findBowls_7.init1#1 -/, (by omega) /- B_X12_findBowls_7.init2#1 -/, (by intro p; omega) /- B_X12_findBowls_7.init3#1 -/⟩ (by omega) /- B_X12_findBowls_7.fuel#1 -/
  obtain ⟨i_B_X12_findBowls_7_1, i_B_X12_findBowls_7_2, i_B_X12_findBowls_7_3⟩ := hI
  unfold B_X12_findBowls_7
  refine wp_ck (z_r32_i.mpr ⟨(by omega) /- z_r32.lo z3#1 -/, (by omega) /- z_r32.hi z3#1 -/⟩) ?_
  refine wp_ck (z_r32_i.mpr ⟨(by omega) /- z_r32.lo i_p0_seats#1 -/, (by omega) /- z_r32.hi i_p0_seats#1 -/⟩) ?_
  refine wp_if (fun c1 => ?_) (fun c1 => ?_)
  ·
    refine wp_some ?_
    try dsimp only
    all_goals exact ⟨(by intro p a b; exact i_B_X12_findBowls_7_3 p a (by omega)) /- post1#1 -/, (by intro p a b; obtain ⟨i, hi, e1, e2⟩ := i_B_X12_findBowls_7_3 p a (by omega); rw [e2, ← e1]; exact (h10 i hi.1 hi.2).symm) /- post2#1 -/⟩
  ·
    have hpl := q_X12_findPlaces_1 z3 (by omega) (by omega)
    have hpr := plc_rng (n := i_p0_seats) (k := x1) (f := (v_p0_st (9 + x1))) (p := z3) (by omega)
    refine wp_ck (z_ix_i.mpr ⟨⟨(by omega) /- ix.lo z3#1 -/, (by omega) /- ix.hi z3#1 -/⟩, (by omega) /- ix.big z3#1 -/⟩) ?_
    refine wp_bd1 (s_X12_cameFrom _ _ _ i_p0_seats i_p0_stirs (by omega) /- pre X12_cameFrom.1#1 -/ (by omega) /- pre X12_cameFrom.2#1 -/ (by omega) /- pre X12_cameFrom.3#1 -/ (by omega) /- pre X12_cameFrom.4#1 -/ (by exact h5) /- pre X12_cameFrom.5#1 -/ (by omega) /- pre X12_cameFrom.6#1 -/ (by omega) /- pre X12_cameFrom.7#1 -/ (by omega) /- pre X12_cameFrom.8#1 -/ (by omega) /- pre X12_cameFrom.9#1 -/) (fun z8 q_X12_cameFrom_1 => ?_)
    try dsimp only at q_X12_cameFrom_1
    refine wp_ck (z_ix_i.mpr ⟨⟨(by omega) /- ix.lo z8#1 -/, (by omega) /- ix.hi z8#1 -/⟩, (by omega) /- ix.big z8#1 -/⟩) ?_
    refine wp_ck (z_ix_i.mpr ⟨⟨(by omega) /- ix.lo z3#2 -/, (by omega) /- ix.hi z3#2 -/⟩, (by omega) /- ix.big z3#2 -/⟩) ?_
    refine wp_bnd ?_
    refine wp_bndE (fun z10 hz10 => ?_)
    exact ih_B_X12_findBowls_7 _ _ ⟨(by omega) /- B_X12_findBowls_7.inv1#1 -/, (by omega) /- B_X12_findBowls_7.inv2#1 -/, (by intro p a b; rw [z_up_a]; split; (rename_i e; exact ⟨z8, q_X12_cameFrom_1.1, by rw [q_X12_cameFrom_1.2, hpl, e], rfl⟩); exact i_B_X12_findBowls_7_3 p a (by omega)) /- B_X12_findBowls_7.inv3#1 -/⟩ (by omega) /- B_X12_findBowls_7.dec#1 -/

set_option maxHeartbeats 1000000 in
theorem s_X12_spoonsOf (i_p0_seats : Int) (v_p0_st : (Int → Int)) (x1 : Int) (h1 : 2 ≤ i_p0_seats) (h2 : i_p0_seats ≤ 7) (h3 : ∀ j, 0 ≤ j → j < 7 → 1 ≤ v_p0_st (16 + j) ∧ v_p0_st (16 + j) ≤ 9) : wp (f_X12_spoonsOf i_p0_seats v_p0_st x1) (fun o => (0 ≤ o ∧ o ≤ 63) ∧ (o = sumTo (spS (fun j => v_p0_st (16 + j)) x1) i_p0_seats.toNat)) := by
  unfold f_X12_spoonsOf
  refine wp_bnd ?_
  refine wp_bnd ?_
  refine wp_lq2 (fun (z3 : Int) (z4 : Int) => (0 ≤ z3) ∧ (z3 ≤ i_p0_seats) ∧ (0 ≤ z4) ∧ (z4 ≤ 9 * z3) ∧ (z4 = sumTo (spS (fun j => v_p0_st (16 + j)) x1) z3.toNat)) (fun (z3 : Int) (z4 : Int) => (i_p0_seats - z3).toNat) (fun again4 z3 z4 hI ih_B_X12_spoonsOf_4 => ?_) 1000 _ _ ⟨(by omega) /- B_X12_spoonsOf_4.init1#1 -/, (by omega) /- B_X12_spoonsOf_4.init2#1 -/, (by omega) /- B_X12_spoonsOf_4.init3#1 -/, (by omega) /- B_X12_spoonsOf_4.init4#1 -/, (by rfl) /- B_X12_spoonsOf_4.init5#1 -/⟩ (by omega) /- B_X12_spoonsOf_4.fuel#1 -/
  obtain ⟨i_B_X12_spoonsOf_4_1, i_B_X12_spoonsOf_4_2, i_B_X12_spoonsOf_4_3, i_B_X12_spoonsOf_4_4, i_B_X12_spoonsOf_4_5⟩ := hI
  unfold B_X12_spoonsOf_4
  refine wp_ck (z_r32_i.mpr ⟨(by omega) /- z_r32.lo z3#1 -/, (by omega) /- z_r32.hi z3#1 -/⟩) ?_
  refine wp_ck (z_r32_i.mpr ⟨(by omega) /- z_r32.lo i_p0_seats#1 -/, (by omega) /- z_r32.hi i_p0_seats#1 -/⟩) ?_
  refine wp_if (fun c1 => ?_) (fun c1 => ?_)
  ·
    refine wp_some ?_
    try dsimp only
    all_goals exact ⟨(by omega) /- post1#1 -/, (by rw [i_B_X12_spoonsOf_4_5]; congr 1; omega) /- post2#1 -/⟩
  ·
    have hsp := h3 z3 (by omega) (by omega)
    refine wp_ck (z_r32_t _) ?_
    refine wp_if (fun c2 => ?_) (fun c2 => ?_)
    ·
      refine wp_ck (z_ix_i.mpr ⟨⟨(by omega) /- ix.lo ((16 : Int) + z3)#1 -/, (by omega) /- ix.hi ((16 : Int) + z3)#1 -/⟩, (by omega) /- ix.big ((16 : Int) + z3)#1 -/⟩) ?_
      refine wp_bndE (fun z11 hz11 => ?_)
      refine wp_bndE (fun z12 hz12 => ?_)
      exact ih_B_X12_spoonsOf_4 _ _ ⟨(by omega) /- B_X12_spoonsOf_4.inv1#1 -/, (by omega) /- B_X12_spoonsOf_4.inv2#1 -/, (by omega) /- B_X12_spoonsOf_4.inv3#1 -/, (by omega) /- B_X12_spoonsOf_4.inv4#1 -/, (by rw [hz12, sum_s i_B_X12_spoonsOf_4_1, ← i_B_X12_spoonsOf_4_5]; show _ = _ + (if bt x1 z3 = 0 then 0 else v_p0_st (16 + z3)); have hb := bt01 x1 z3; have hc := c2; unfold bt at hb ⊢; rw [if_neg (by omega)]; omega) /- B_X12_spoonsOf_4.inv5#1 -/⟩ (by omega) /- B_X12_spoonsOf_4.dec#1 -/
    ·
      refine wp_bndE (fun z9 hz9 => ?_)
      refine wp_bndE (fun z10 hz10 => ?_)
      exact ih_B_X12_spoonsOf_4 _ _ ⟨(by omega) /- B_X12_spoonsOf_4.inv1#2 -/, (by omega) /- B_X12_spoonsOf_4.inv2#2 -/, (by omega) /- B_X12_spoonsOf_4.inv3#2 -/, (by omega) /- B_X12_spoonsOf_4.inv4#2 -/, (by rw [hz10, sum_s i_B_X12_spoonsOf_4_1, ← i_B_X12_spoonsOf_4_5]; show _ = _ + (if bt x1 z3 = 0 then 0 else v_p0_st (16 + z3)); have hb := bt01 x1 z3; have hc := c2; unfold bt at hb ⊢; rw [if_pos (by omega)]; omega) /- B_X12_spoonsOf_4.inv5#2 -/⟩ (by omega) /- B_X12_spoonsOf_4.dec#2 -/

set_option maxHeartbeats 1000000 in
theorem s_X12_coupBy (i_p0_seats : Int) (v_p0_st : (Int → Int)) (v_p0_brings : (Int → Int)) (v_p0_places : (Int → Int)) (v_p0_bowls : (Int → Int)) (v_p0_has : (Int → Int)) (x1 : Int) (x2 : Int) (x3 : Int) (i_p0_stirs : Int) (v_sd : Int → Int) (h1 : 2 ≤ i_p0_seats) (h2 : i_p0_seats ≤ 7) (h3 : 0 ≤ i_p0_stirs) (h4 : i_p0_stirs ≤ 5) (h5 : rowsM i_p0_seats i_p0_stirs v_p0_brings) (h6 : okM i_p0_seats v_p0_st) (h7 : 0 ≤ x1) (h8 : x1 < i_p0_seats) (h9 : 0 ≤ x2) (h10 : x2 < i_p0_seats) (h11 : 0 ≤ x3) (h12 : x3 < i_p0_stirs) (h13 : stirdP i_p0_seats (fun i => v_p0_brings (7 * x3 + i)) v_p0_st v_sd) : wp (f_X12_coupBy i_p0_seats v_p0_st v_p0_brings v_p0_places v_p0_bowls v_p0_has x1 x2 x3) (fun o => (o.1 = -4 ∨ (1 ≤ o.1 ∧ o.1 < 128)) ∧ (Hid ((o.1 = -4 ∧ ∀ t, 0 ≤ t → t < z_shl 1 i_p0_seats → ¬ bandP i_p0_seats (fun j => v_p0_st (16 + j)) (riseP i_p0_seats (fun j => v_p0_st (9 + j)) v_sd x2 x1) x2 t) ∨ ((1 ≤ o.1 ∧ o.1 < z_shl 1 i_p0_seats) ∧ bandP i_p0_seats (fun j => v_p0_st (16 + j)) (riseP i_p0_seats (fun j => v_p0_st (9 + j)) v_sd x2 x1) x2 o.1 ∧ ∀ t, 0 ≤ t → t < o.1 → ¬ bandP i_p0_seats (fun j => v_p0_st (16 + j)) (riseP i_p0_seats (fun j => v_p0_st (9 + j)) v_sd x2 x1) x2 t)))) := by
  unfold f_X12_coupBy
  have hsn := shl_n h1 h2
  refine wp_bd2 (s_X12_findBowls _ _ _ _ _ _ _ i_p0_stirs v_sd (by omega) /- pre X12_findBowls.1#1 -/ (by omega) /- pre X12_findBowls.2#1 -/ (by omega) /- pre X12_findBowls.3#1 -/ (by omega) /- pre X12_findBowls.4#1 -/ (by exact h5) /- pre X12_findBowls.5#1 -/ (by omega) /- pre X12_findBowls.6#1 -/ (by omega) /- pre X12_findBowls.7#1 -/ (by omega) /- pre X12_findBowls.8#1 -/ (by omega) /- pre X12_findBowls.9#1 -/ (by exact h13) /- pre X12_findBowls.10#1 -/) (fun w1 w2 q_X12_findBowls_1 => ?_)
  try dsimp only at q_X12_findBowls_1
  obtain ⟨q_X12_findBowls_1_1, q_X12_findBowls_1_2⟩ := q_X12_findBowls_1
  have hn1 : ∀ p, 0 ≤ p → p < i_p0_seats → 0 ≤ w2 p ∧ w2 p ≤ 9 := by
    intro p a b
    obtain ⟨i, hi, _, e⟩ := q_X12_findBowls_1_1 p a b
    rw [e]; exact okM_p h6 i hi.1 (by omega)
  refine wp_bnd ?_
  refine wp_jn ?_
  refine wp_lq2 (fun (z40 : Int) (w41 : (Int → Int)) => (0 ≤ z40) ∧ (z40 ≤ i_p0_seats) ∧ (∀ p, 0 ≤ p → p < z40 → 0 ≤ w41 p ∧ w41 p ≤ 9) ∧ (∀ p, 0 ≤ p → p < z40 → w41 p = w2 p)) (fun (z40 : Int) (w41 : (Int → Int)) => (i_p0_seats - z40).toNat) (fun again9 z40 w41 hI ih_B_X12_coupBy_9 => ?_) 1000 _ _ ⟨(by omega) /- B_X12_coupBy_9.init1#1 -/, (by omega) /- B_X12_coupBy_9.init2#1 -/, (by intro p; omega) /- B_X12_coupBy_9.init3#1 -/, (by intro p; omega) /- B_X12_coupBy_9.init4#1 -/⟩ (by omega) /- B_X12_coupBy_9.fuel#1 -/
  obtain ⟨i_B_X12_coupBy_9_1, i_B_X12_coupBy_9_2, i_B_X12_coupBy_9_3, i_B_X12_coupBy_9_4⟩ := hI
  unfold B_X12_coupBy_9
  refine wp_ck (z_r32_i.mpr ⟨(by omega) /- z_r32.lo z40#1 -/, (by omega) /- z_r32.hi z40#1 -/⟩) ?_
  refine wp_ck (z_r32_i.mpr ⟨(by omega) /- z_r32.lo i_p0_seats#1 -/, (by omega) /- z_r32.hi i_p0_seats#1 -/⟩) ?_
  refine wp_if (fun c1 => ?_) (fun c1 => ?_)
  ·
    refine wp_bd2 (s_X12_findBowls _ _ _ _ _ _ _ i_p0_stirs v_sd (by omega) /- pre X12_findBowls.1#2 -/ (by omega) /- pre X12_findBowls.2#2 -/ (by omega) /- pre X12_findBowls.3#2 -/ (by omega) /- pre X12_findBowls.4#2 -/ (by exact h5) /- pre X12_findBowls.5#2 -/ (by omega) /- pre X12_findBowls.6#2 -/ (by omega) /- pre X12_findBowls.7#2 -/ (by omega) /- pre X12_findBowls.8#2 -/ (by omega) /- pre X12_findBowls.9#2 -/ (by exact h13) /- pre X12_findBowls.10#2 -/) (fun w6 w7 q_X12_findBowls_2 => ?_)
    try dsimp only at q_X12_findBowls_2
    obtain ⟨q_X12_findBowls_2_1, q_X12_findBowls_2_2⟩ := q_X12_findBowls_2
    have hn2 : ∀ p, 0 ≤ p → p < i_p0_seats → 0 ≤ w7 p ∧ w7 p ≤ 9 := by
      intro p a b
      obtain ⟨i, hi, _, e⟩ := q_X12_findBowls_2_1 p a b
      rw [e]; exact okM_p h6 i hi.1 (by omega)
    refine wp_bnd ?_
    refine wp_bnd ?_
    refine wp_jn ?_
    refine wp_lq2 (fun (z27 : Int) (z28 : Int) => (0 ≤ z27) ∧ (z27 ≤ i_p0_seats) ∧ (z28 = bitsOf (riseP i_p0_seats (fun j => v_p0_st (9 + j)) v_sd x2 x1) z27.toNat)) (fun (z27 : Int) (z28 : Int) => (i_p0_seats - z27).toNat) (fun again50 z27 z28 hI ih_B_X12_coupBy_50 => ?_) 1000 _ _ ⟨(by omega) /- B_X12_coupBy_50.init1#1 -/, (by omega) /- B_X12_coupBy_50.init2#1 -/, (by rfl) /- B_X12_coupBy_50.init3#1 -/⟩ (by omega) /- B_X12_coupBy_50.fuel#1 -/
    obtain ⟨i_B_X12_coupBy_50_1, i_B_X12_coupBy_50_2, i_B_X12_coupBy_50_3⟩ := hI
    unfold B_X12_coupBy_50
    have hb1 := fun (h : z27 < i_p0_seats) => hn2 z27 (by omega) h
    have hb2 := fun (h : z27 < i_p0_seats) => i_B_X12_coupBy_9_3 z27 (by omega) (by omega)
    have hb3 := fun (h : z27 < i_p0_seats) => q_X12_findBowls_2_2 z27 (by omega) h
    have hb4 := fun (h : z27 < i_p0_seats) => i_B_X12_coupBy_9_4 z27 (by omega) (by omega)
    have hb5 := fun (h : z27 < i_p0_seats) => q_X12_findBowls_1_2 z27 (by omega) h
    refine wp_ck (z_r32_i.mpr ⟨(by omega) /- z_r32.lo z27#1 -/, (by omega) /- z_r32.hi z27#1 -/⟩) ?_
    refine wp_ck (z_r32_i.mpr ⟨(by omega) /- z_r32.lo i_p0_seats#2 -/, (by omega) /- z_r32.hi i_p0_seats#2 -/⟩) ?_
    refine wp_if (fun c2 => ?_) (fun c2 => ?_)
    ·
      refine wp_bd1 (s_X12_spoonsOf _ _ _ (by omega) /- pre X12_spoonsOf.1#1 -/ (by omega) /- pre X12_spoonsOf.2#1 -/ (by exact okM_s h6) /- pre X12_spoonsOf.3#1 -/) (fun z12 q_X12_spoonsOf_1 => ?_)
      try dsimp only at q_X12_spoonsOf_1
      obtain ⟨q_X12_spoonsOf_1_1, q_X12_spoonsOf_1_2⟩ := q_X12_spoonsOf_1
      have hgn : z28 = bitsOf (riseP i_p0_seats (fun j => v_p0_st (9 + j)) v_sd x2 x1) i_p0_seats.toNat := by rw [i_B_X12_coupBy_50_3]; congr 1; omega
      have hall : z12 = sumTo (fun j => v_p0_st (16 + j)) i_p0_seats.toNat := by rw [q_X12_spoonsOf_1_2]; exact sp_all h1 h2
      refine wp_bnd ?_
      refine wp_bnd ?_
      refine wp_lq1 (fun (z15 : Int) => (1 ≤ z15) ∧ (z15 ≤ 128) ∧ (∀ t, 0 ≤ t → t < z15 → ¬ bandP i_p0_seats (fun j => v_p0_st (16 + j)) (riseP i_p0_seats (fun j => v_p0_st (9 + j)) v_sd x2 x1) x2 t)) (fun (z15 : Int) => (128 - z15).toNat) (fun again115 z15 hI ih_B_X12_coupBy_115 => ?_) 1000 _ ⟨(by omega) /- B_X12_coupBy_115.init1#1 -/, (by omega) /- B_X12_coupBy_115.init2#1 -/, (by intro t a b h; have e : t = 0 := (by omega); rw [e] at h; exact h.2.1 (bt_z x2 h9 (by omega))) /- B_X12_coupBy_115.init3#1 -/⟩ (by omega) /- B_X12_coupBy_115.fuel#1 -/
      obtain ⟨i_B_X12_coupBy_115_1, i_B_X12_coupBy_115_2, i_B_X12_coupBy_115_3⟩ := hI
      unfold B_X12_coupBy_115
      refine wp_ck (z_r32_i.mpr ⟨(by omega) /- z_r32.lo z15#1 -/, (by omega) /- z_r32.hi z15#1 -/⟩) ?_
      refine wp_ck (z_r32_t _) ?_
      refine wp_if (fun c3 => ?_) (fun c3 => ?_)
      ·
        refine wp_some ?_
        try dsimp only
        all_goals exact ⟨(by omega) /- post1#1 -/, (by exact hd_ (Or.inl ⟨rfl, fun t a b => i_B_X12_coupBy_115_3 t a (by omega)⟩)) /- post2#1 -/⟩
      ·
        refine wp_ck (z_r32_t _) ?_
        refine wp_if (fun c4 => ?_) (fun c4 => ?_)
        ·
          refine wp_ck (z_r32_t _) ?_
          refine wp_if (fun c5 => ?_) (fun c5 => ?_)
          ·
            refine wp_bd1 (s_X12_spoonsOf _ _ _ (by omega) /- pre X12_spoonsOf.1#2 -/ (by omega) /- pre X12_spoonsOf.2#2 -/ (by exact okM_s h6) /- pre X12_spoonsOf.3#2 -/) (fun z23 q_X12_spoonsOf_2 => ?_)
            try dsimp only at q_X12_spoonsOf_2
            obtain ⟨q_X12_spoonsOf_2_1, q_X12_spoonsOf_2_2⟩ := q_X12_spoonsOf_2
            refine wp_ck (z_r32_i.mpr ⟨(by omega) /- z_r32.lo ((2 : Int) * z23)#1 -/, (by omega) /- z_r32.hi ((2 : Int) * z23)#1 -/⟩) ?_
            refine wp_ck (z_r32_i.mpr ⟨(by omega) /- z_r32.lo z13#1 -/, (by omega) /- z_r32.hi z13#1 -/⟩) ?_
            refine wp_if (fun c6 => ?_) (fun c6 => ?_)
            ·
              refine wp_bndE (fun z26 hz26 => ?_)
              exact ih_B_X12_coupBy_115 _ ⟨(by omega) /- B_X12_coupBy_115.inv1#1 -/, (by omega) /- B_X12_coupBy_115.inv2#1 -/, (by intro t a b h; by_cases e : t = z15; (rw [e] at h; have h3 := h.2.2; unfold enoughP at h3; omega); exact i_B_X12_coupBy_115_3 t a (by omega) h) /- B_X12_coupBy_115.inv3#1 -/⟩ (by omega) /- B_X12_coupBy_115.dec#1 -/
            ·
              refine wp_some ?_
              try dsimp only
              all_goals exact ⟨(by omega) /- post1#2 -/, (by exact hd_ (Or.inr ⟨by omega, ⟨(sub_iff h1 h2 (by omega) (by omega)).mp (by rw [← hgn]; exact c4), by (have h5 : bt z15 x2 = 1 := c5; omega), by (unfold enoughP; omega)⟩, i_B_X12_coupBy_115_3⟩)) /- post2#2 -/⟩
          ·
            refine wp_bndE (fun z22 hz22 => ?_)
            exact ih_B_X12_coupBy_115 _ ⟨(by omega) /- B_X12_coupBy_115.inv1#2 -/, (by omega) /- B_X12_coupBy_115.inv2#2 -/, (by intro t a b h; by_cases e : t = z15; (rw [e] at h; have h3 := h.2.1; have h4 := bt01 z15 x2; have h5 : ¬ bt z15 x2 = 1 := c5; omega); exact i_B_X12_coupBy_115_3 t a (by omega) h) /- B_X12_coupBy_115.inv3#2 -/⟩ (by omega) /- B_X12_coupBy_115.dec#2 -/
        ·
          refine wp_bndE (fun z20 hz20 => ?_)
          exact ih_B_X12_coupBy_115 _ ⟨(by omega) /- B_X12_coupBy_115.inv1#3 -/, (by omega) /- B_X12_coupBy_115.inv2#3 -/, (by intro t a b h; by_cases e : t = z15; (rw [e] at h; exact c4 (by rw [hgn]; exact (sub_iff h1 h2 (by omega) (by omega)).mpr h.1)); exact i_B_X12_coupBy_115_3 t a (by omega) h) /- B_X12_coupBy_115.inv3#3 -/⟩ (by omega) /- B_X12_coupBy_115.dec#3 -/
    ·
      refine wp_ck (z_ix_i.mpr ⟨⟨(by omega) /- ix.lo z27#1 -/, (by omega) /- ix.hi z27#1 -/⟩, (by omega) /- ix.big z27#1 -/⟩) ?_
      refine wp_ck (z_ix_i.mpr ⟨⟨(by omega) /- ix.lo z27#2 -/, (by omega) /- ix.hi z27#2 -/⟩, (by omega) /- ix.big z27#2 -/⟩) ?_
      refine wp_ck (z_r32_i.mpr ⟨(by omega) /- z_r32.lo (w7 z27)#1 -/, (by omega) /- z_r32.hi (w7 z27)#1 -/⟩) ?_
      refine wp_ck (z_r32_i.mpr ⟨(by omega) /- z_r32.lo (w4 z27)#1 -/, (by omega) /- z_r32.hi (w4 z27)#1 -/⟩) ?_
      refine wp_jn ?_
      refine wp_if (fun c7 => ?_) (fun c7 => ?_)
      ·
        refine wp_bd1 (s_X12_flag _ (by omega) /- pre X12_flag.1#1 -/) (fun z37 q_X12_flag_1 => ?_)
        try dsimp only at q_X12_flag_1
        refine wp_bndE (fun z38 hz38 => ?_)
        refine wp_bndE (fun z39 hz39 => ?_)
        exact ih_B_X12_coupBy_50 _ _ ⟨(by omega) /- B_X12_coupBy_50.inv1#1 -/, (by omega) /- B_X12_coupBy_50.inv2#1 -/, (by have hb := bits_rng (riseP i_p0_seats (fun j => v_p0_st (9 + j)) v_sd x2 x1) z27.toNat (by omega); rw [hz39, bits_fz i_B_X12_coupBy_50_1 (by (have a3 := hb3 (by omega); have a4 := hb4 (by omega); have a5 := hb5 (by omega); show ¬ v_sd (plc i_p0_seats x1 (v_p0_st (9 + x1)) z27) < v_sd (plc i_p0_seats x2 (v_p0_st (9 + x2)) z27); omega)), hz38, q_X12_flag_1, shl0, or0 (by omega) (by omega)]; exact i_B_X12_coupBy_50_3) /- B_X12_coupBy_50.inv3#1 -/⟩ (by omega) /- B_X12_coupBy_50.dec#1 -/
      ·
        refine wp_bd1 (s_X12_flag _ (by omega) /- pre X12_flag.1#2 -/) (fun z37 q_X12_flag_2 => ?_)
        try dsimp only at q_X12_flag_2
        refine wp_bndE (fun z38 hz38 => ?_)
        refine wp_bndE (fun z39 hz39 => ?_)
        exact ih_B_X12_coupBy_50 _ _ ⟨(by omega) /- B_X12_coupBy_50.inv1#2 -/, (by omega) /- B_X12_coupBy_50.inv2#2 -/, (by rw [hz39, bits_tz i_B_X12_coupBy_50_1 (by (have a3 := hb3 (by omega); have a4 := hb4 (by omega); have a5 := hb5 (by omega); show  v_sd (plc i_p0_seats x1 (v_p0_st (9 + x1)) z27) < v_sd (plc i_p0_seats x2 (v_p0_st (9 + x2)) z27); omega)), ← i_B_X12_coupBy_50_3, hz38, q_X12_flag_2]) /- B_X12_coupBy_50.inv3#2 -/⟩ (by omega) /- B_X12_coupBy_50.dec#2 -/
  ·
    refine wp_ck (z_ix_i.mpr ⟨⟨(by omega) /- ix.lo z40#1 -/, (by omega) /- ix.hi z40#1 -/⟩, (by omega) /- ix.big z40#1 -/⟩) ?_
    refine wp_ck (z_ix_i.mpr ⟨⟨(by omega) /- ix.lo z40#2 -/, (by omega) /- ix.hi z40#2 -/⟩, (by omega) /- ix.big z40#2 -/⟩) ?_
    refine wp_bnd ?_
    refine wp_bndE (fun z46 hz46 => ?_)
    exact ih_B_X12_coupBy_9 _ _ ⟨(by omega) /- B_X12_coupBy_9.inv1#1 -/, (by omega) /- B_X12_coupBy_9.inv2#1 -/, (by intro p a b; rw [z_up_a]; split; (rename_i e; exact hn1 z40 (by omega) (by omega)); exact i_B_X12_coupBy_9_3 p a (by omega)) /- B_X12_coupBy_9.inv3#1 -/, (by intro p a b; rw [z_up_a]; split; (rename_i e; rw [e]); exact i_B_X12_coupBy_9_4 p a (by omega)) /- B_X12_coupBy_9.inv4#1 -/⟩ (by omega) /- B_X12_coupBy_9.dec#1 -/

set_option maxHeartbeats 1000000 in
theorem s_X12_leaderBy (i_p0_seats : Int) (v_p0_st : (Int → Int)) (v_p0_brings : (Int → Int)) (v_p0_places : (Int → Int)) (v_p0_bowls : (Int → Int)) (v_p0_has : (Int → Int)) (x1 : Int) (x2 : Int) (i_p0_stirs : Int) (v_sd : Int → Int) (h1 : 2 ≤ i_p0_seats) (h2 : i_p0_seats ≤ 7) (h3 : 0 ≤ i_p0_stirs) (h4 : i_p0_stirs ≤ 5) (h5 : rowsM i_p0_seats i_p0_stirs v_p0_brings) (h6 : okM i_p0_seats v_p0_st) (h7 : 0 ≤ x1) (h8 : x1 < i_p0_seats) (h9 : 0 ≤ x2) (h10 : x2 < i_p0_stirs) (h11 : stirdP i_p0_seats (fun i => v_p0_brings (7 * x2 + i)) v_p0_st v_sd) : wp (f_X12_leaderBy i_p0_seats v_p0_st v_p0_brings v_p0_places v_p0_bowls v_p0_has x1 x2) (fun o => (o.1 = -4 ∨ (0 ≤ o.1 ∧ o.1 < i_p0_seats)) ∧ (Hid ((o.1 = -4 ∧ ∀ c, 0 ≤ c → c < i_p0_seats → ¬ c = x1 → ¬ leadP i_p0_seats (fun j => v_p0_st (9 + j)) (fun j => v_p0_st (16 + j)) v_sd c x1) ∨ ((0 ≤ o.1 ∧ o.1 < i_p0_seats) ∧ ¬ o.1 = x1 ∧ leadP i_p0_seats (fun j => v_p0_st (9 + j)) (fun j => v_p0_st (16 + j)) v_sd o.1 x1 ∧ ∀ c, 0 ≤ c → c < o.1 → ¬ c = x1 → ¬ leadP i_p0_seats (fun j => v_p0_st (9 + j)) (fun j => v_p0_st (16 + j)) v_sd c x1)))) := by
  unfold f_X12_leaderBy
  have hsp : ∀ j, 0 ≤ j → j < i_p0_seats → 0 ≤ (fun j => v_p0_st (16 + j)) j := fun j a b => by (have := okM_s h6 j a (by omega); show 0 ≤ v_p0_st (16 + j); omega)
  refine wp_bnd ?_
  refine wp_lq4 (fun (z2 : Int) (w3 : (Int → Int)) (w4 : (Int → Int)) (w5 : (Int → Int)) => (0 ≤ z2) ∧ (z2 ≤ i_p0_seats) ∧ (∀ c, 0 ≤ c → c < z2 → ¬ c = x1 → ¬ leadP i_p0_seats (fun j => v_p0_st (9 + j)) (fun j => v_p0_st (16 + j)) v_sd c x1)) (fun (z2 : Int) (w3 : (Int → Int)) (w4 : (Int → Int)) (w5 : (Int → Int)) => (i_p0_seats - z2).toNat) (fun again2 z2 w3 w4 w5 hI ih_B_X12_leaderBy_2 => ?_) 1000 _ _ _ _ ⟨(by omega) /- B_X12_leaderBy_2.init1#1 -/, (by omega) /- B_X12_leaderBy_2.init2#1 -/, (by intro c; omega) /- B_X12_leaderBy_2.init3#1 -/⟩ (by omega) /- B_X12_leaderBy_2.fuel#1 -/
  obtain ⟨i_B_X12_leaderBy_2_1, i_B_X12_leaderBy_2_2, i_B_X12_leaderBy_2_3⟩ := hI
  unfold B_X12_leaderBy_2
  refine wp_ck (z_r32_i.mpr ⟨(by omega) /- z_r32.lo z2#1 -/, (by omega) /- z_r32.hi z2#1 -/⟩) ?_
  refine wp_ck (z_r32_i.mpr ⟨(by omega) /- z_r32.lo i_p0_seats#1 -/, (by omega) /- z_r32.hi i_p0_seats#1 -/⟩) ?_
  refine wp_if (fun c1 => ?_) (fun c1 => ?_)
  ·
    refine wp_some ?_
    try dsimp only
    all_goals exact ⟨(by omega) /- post1#1 -/, (by exact hd_ (Or.inl ⟨rfl, fun c a b d => i_B_X12_leaderBy_2_3 c a (by omega) d⟩)) /- post2#1 -/⟩
  ·
    refine wp_ck (z_r32_i.mpr ⟨(by omega) /- z_r32.lo x1#1 -/, (by omega) /- z_r32.hi x1#1 -/⟩) ?_
    refine wp_if (fun c2 => ?_) (fun c2 => ?_)
    ·
      refine wp_bndE (fun z10 hz10 => ?_)
      exact ih_B_X12_leaderBy_2 _ _ _ _ ⟨(by omega) /- B_X12_leaderBy_2.inv1#1 -/, (by omega) /- B_X12_leaderBy_2.inv2#1 -/, (by intro c a b d; by_cases e : c = z2; (exfalso; omega); exact i_B_X12_leaderBy_2_3 c a (by omega) d) /- B_X12_leaderBy_2.inv3#1 -/⟩ (by omega) /- B_X12_leaderBy_2.dec#1 -/
    ·
      refine wp_bd4 (s_X12_coupBy _ _ _ _ _ _ _ _ _ i_p0_stirs v_sd (by omega) /- pre X12_coupBy.1#1 -/ (by omega) /- pre X12_coupBy.2#1 -/ (by omega) /- pre X12_coupBy.3#1 -/ (by omega) /- pre X12_coupBy.4#1 -/ (by exact h5) /- pre X12_coupBy.5#1 -/ (by exact h6) /- pre X12_coupBy.6#1 -/ (by omega) /- pre X12_coupBy.7#1 -/ (by omega) /- pre X12_coupBy.8#1 -/ (by omega) /- pre X12_coupBy.9#1 -/ (by omega) /- pre X12_coupBy.10#1 -/ (by omega) /- pre X12_coupBy.11#1 -/ (by omega) /- pre X12_coupBy.12#1 -/ (by exact h11) /- pre X12_coupBy.13#1 -/) (fun z11 w12 w13 w14 q_X12_coupBy_1 => ?_)
      try dsimp only at q_X12_coupBy_1
      obtain ⟨q_X12_coupBy_1_1, q_X12_coupBy_1_2⟩ := q_X12_coupBy_1
      refine wp_ck (z_r32_i.mpr ⟨(by omega) /- z_r32.lo z11#1 -/, (by omega) /- z_r32.hi z11#1 -/⟩) ?_
      refine wp_if (fun c3 => ?_) (fun c3 => ?_)
      ·
        refine wp_bndE (fun z16 hz16 => ?_)
        exact ih_B_X12_leaderBy_2 _ _ _ _ ⟨(by omega) /- B_X12_leaderBy_2.inv1#2 -/, (by omega) /- B_X12_leaderBy_2.inv2#2 -/, (by intro c a b d; by_cases e : c = z2; (rw [e]; intro h; obtain ⟨t, ht, hb⟩ := (lead_ex h1 h2 hsp (by omega) (by omega)).mp h; rcases hid q_X12_coupBy_1_2 with hq | hq; exact hq.2 t ht.1 ht.2 hb; omega); exact i_B_X12_leaderBy_2_3 c a (by omega) d) /- B_X12_leaderBy_2.inv3#2 -/⟩ (by omega) /- B_X12_leaderBy_2.dec#2 -/
      ·
        refine wp_some ?_
        try dsimp only
        all_goals exact ⟨(by omega) /- post1#2 -/, (by rcases hid q_X12_coupBy_1_2 with hq | hq; omega; exact hd_ (Or.inr ⟨by omega, by omega, (lead_ex h1 h2 hsp (by omega) (by omega)).mpr ⟨_, ⟨by omega, hq.1.2⟩, hq.2.1⟩, i_B_X12_leaderBy_2_3⟩)) /- post2#2 -/⟩

set_option maxHeartbeats 1000000 in
theorem s_X12_coup (i_p0_seats : Int) (i_p0_stirs : Int) (v_p0_st : (Int → Int)) (v_p0_brings : (Int → Int)) (v_p0_places : (Int → Int)) (v_p0_bowls : (Int → Int)) (v_p0_has : (Int → Int)) (x1 : Int) (x2 : Int) (x3 : Int) (h1 : -2147483648 ≤ x1) (h2 : x1 < 2147483648) (h3 : -2147483648 ≤ x2) (h4 : x2 < 2147483648) (h5 : -2147483648 ≤ x3) (h6 : x3 < 2147483648) (h7 : 2 ≤ i_p0_seats) (h8 : i_p0_seats ≤ 7) (h9 : 0 ≤ i_p0_stirs) (h10 : i_p0_stirs ≤ 5) (h11 : rowsM i_p0_seats i_p0_stirs v_p0_brings) (h12 : okM i_p0_seats v_p0_st) : wp (f_X12_coup i_p0_seats i_p0_stirs v_p0_st v_p0_brings v_p0_places v_p0_bowls v_p0_has x1 x2 x3) (fun o => (-4 ≤ o.1 ∧ o.1 < 128) ∧ (Hid (¬ ((0 ≤ x1 ∧ x1 < i_p0_seats) ∧ (0 ≤ x2 ∧ x2 < i_p0_stirs) ∧ (x3 = 0 ∨ x3 = 1)) → o.1 = -1)) ∧ (Hid (((0 ≤ x1 ∧ x1 < i_p0_seats) ∧ (0 ≤ x2 ∧ x2 < i_p0_stirs) ∧ (x3 = 0 ∨ x3 = 1)) → ∃ w, stirdP i_p0_seats (fun i => v_p0_brings (7 * x2 + i)) v_p0_st w ∧ coupQ i_p0_seats (fun j => v_p0_st (9 + j)) (fun j => v_p0_st (16 + j)) w x1 x3 o.1))) := by
  unfold f_X12_coup
  have hsp : ∀ j, 0 ≤ j → j < i_p0_seats → 0 ≤ (fun j => v_p0_st (16 + j)) j := fun j a b => by (have := okM_s h12 j a (by omega); show 0 ≤ v_p0_st (16 + j); omega)
  refine wp_bd1 (s_X12_isSeat _ _ (by omega) /- pre X12_isSeat.1#1 -/ (by omega) /- pre X12_isSeat.2#1 -/ (by omega) /- pre X12_isSeat.3#1 -/ (by omega) /- pre X12_isSeat.4#1 -/) (fun z1 q_X12_isSeat_1 => ?_)
  try dsimp only at q_X12_isSeat_1
  refine wp_ck (z_r32_i.mpr ⟨(by omega) /- z_r32.lo z1#1 -/, (by omega) /- z_r32.hi z1#1 -/⟩) ?_
  refine wp_if (fun c1 => ?_) (fun c1 => ?_)
  ·
    refine wp_some ?_
    try dsimp only
    all_goals exact ⟨(by omega) /- post1#1 -/, (by unfold Hid; intro _; rfl) /- post2#1 -/, (by unfold Hid; intro h; exfalso; (first | omega | (split at q_X12_isSeat_1 <;> omega) | (split at q_X12_isStir_1 <;> omega) | (split at q_X12_isTold_1 <;> omega))) /- post3#1 -/⟩
  ·
    have hs1 : 0 ≤ x1 ∧ x1 < i_p0_seats := by split at q_X12_isSeat_1 <;> omega
    clear q_X12_isSeat_1
    refine wp_bd1 (s_X12_isStir _ _ (by omega) /- pre X12_isStir.1#1 -/ (by omega) /- pre X12_isStir.2#1 -/ (by omega) /- pre X12_isStir.3#1 -/ (by omega) /- pre X12_isStir.4#1 -/) (fun z3 q_X12_isStir_1 => ?_)
    try dsimp only at q_X12_isStir_1
    refine wp_ck (z_r32_i.mpr ⟨(by omega) /- z_r32.lo z3#1 -/, (by omega) /- z_r32.hi z3#1 -/⟩) ?_
    refine wp_if (fun c2 => ?_) (fun c2 => ?_)
    ·
      refine wp_some ?_
      try dsimp only
      all_goals exact ⟨(by omega) /- post1#2 -/, (by unfold Hid; intro _; rfl) /- post2#2 -/, (by unfold Hid; intro h; exfalso; (first | omega | (split at q_X12_isSeat_1 <;> omega) | (split at q_X12_isStir_1 <;> omega) | (split at q_X12_isTold_1 <;> omega))) /- post3#2 -/⟩
    ·
      have hs2 : 0 ≤ x2 ∧ x2 < i_p0_stirs := by split at q_X12_isStir_1 <;> omega
      clear q_X12_isStir_1
      refine wp_bd1 (s_X12_isTold _ (by omega) /- pre X12_isTold.1#1 -/ (by omega) /- pre X12_isTold.2#1 -/) (fun z5 q_X12_isTold_1 => ?_)
      try dsimp only at q_X12_isTold_1
      refine wp_ck (z_r32_i.mpr ⟨(by omega) /- z_r32.lo z5#1 -/, (by omega) /- z_r32.hi z5#1 -/⟩) ?_
      refine wp_if (fun c3 => ?_) (fun c3 => ?_)
      ·
        refine wp_some ?_
        try dsimp only
        all_goals exact ⟨(by omega) /- post1#3 -/, (by unfold Hid; intro _; rfl) /- post2#3 -/, (by unfold Hid; intro h; exfalso; (first | omega | (split at q_X12_isSeat_1 <;> omega) | (split at q_X12_isStir_1 <;> omega) | (split at q_X12_isTold_1 <;> omega))) /- post3#3 -/⟩
      ·
        have hs3 : x3 = 0 ∨ x3 = 1 := by split at q_X12_isTold_1 <;> omega
        clear q_X12_isTold_1
        refine wp_bd4 (s_X12_leaderBy _ _ _ _ _ _ _ _ i_p0_stirs (sdf i_p0_seats (fun i => v_p0_brings (7 * x2 + i)) v_p0_st) (by omega) /- pre X12_leaderBy.1#1 -/ (by omega) /- pre X12_leaderBy.2#1 -/ (by omega) /- pre X12_leaderBy.3#1 -/ (by omega) /- pre X12_leaderBy.4#1 -/ (by exact h11) /- pre X12_leaderBy.5#1 -/ (by exact h12) /- pre X12_leaderBy.6#1 -/ (by omega) /- pre X12_leaderBy.7#1 -/ (by omega) /- pre X12_leaderBy.8#1 -/ (by omega) /- pre X12_leaderBy.9#1 -/ (by omega) /- pre X12_leaderBy.10#1 -/ (by exact sdf_ok (h11 x2 hs2.1 hs2.2)) /- pre X12_leaderBy.11#1 -/) (fun z7 w8 w9 w10 q_X12_leaderBy_1 => ?_)
        try dsimp only at q_X12_leaderBy_1
        obtain ⟨q_X12_leaderBy_1_1, q_X12_leaderBy_1_2⟩ := q_X12_leaderBy_1
        refine wp_bnd ?_
        refine wp_ck (z_r32_i.mpr ⟨(by omega) /- z_r32.lo z11#1 -/, (by omega) /- z_r32.hi z11#1 -/⟩) ?_
        refine wp_if (fun c4 => ?_) (fun c4 => ?_)
        ·
          refine wp_some ?_
          try dsimp only
          all_goals exact ⟨(by omega) /- post1#4 -/, (by unfold Hid; intro h; exact absurd ⟨hs1, hs2, hs3⟩ h) /- post2#4 -/, (by unfold Hid; intro _; rcases hid q_X12_leaderBy_1_2 with hq | hq; exact ⟨_, sdf_ok (h11 x2 hs2.1 hs2.2), Or.inl ⟨rfl, hq.2⟩⟩; omega) /- post3#4 -/⟩
        ·
          refine wp_ck (z_r32_i.mpr ⟨(by omega) /- z_r32.lo x3#1 -/, (by omega) /- z_r32.hi x3#1 -/⟩) ?_
          refine wp_if (fun c5 => ?_) (fun c5 => ?_)
          ·
            refine wp_some ?_
            try dsimp only
            all_goals exact ⟨(by omega) /- post1#5 -/, (by unfold Hid; intro h; exact absurd ⟨hs1, hs2, hs3⟩ h) /- post2#5 -/, (by unfold Hid; intro _; rcases hid q_X12_leaderBy_1_2 with hq | hq; omega; exact ⟨_, sdf_ok (h11 x2 hs2.1 hs2.2), Or.inr ⟨_, hq.1, hq.2.1, hq.2.2.1, hq.2.2.2, Or.inl ⟨by omega, rfl⟩⟩⟩) /- post3#5 -/⟩
          ·
            refine wp_bd4 (s_X12_coupBy _ _ _ _ _ _ _ _ _ i_p0_stirs (sdf i_p0_seats (fun i => v_p0_brings (7 * x2 + i)) v_p0_st) (by omega) /- pre X12_coupBy.1#1 -/ (by omega) /- pre X12_coupBy.2#1 -/ (by omega) /- pre X12_coupBy.3#1 -/ (by omega) /- pre X12_coupBy.4#1 -/ (by exact h11) /- pre X12_coupBy.5#1 -/ (by exact h12) /- pre X12_coupBy.6#1 -/ (by omega) /- pre X12_coupBy.7#1 -/ (by omega) /- pre X12_coupBy.8#1 -/ (by omega) /- pre X12_coupBy.9#1 -/ (by omega) /- pre X12_coupBy.10#1 -/ (by omega) /- pre X12_coupBy.11#1 -/ (by omega) /- pre X12_coupBy.12#1 -/ (by exact sdf_ok (h11 x2 hs2.1 hs2.2)) /- pre X12_coupBy.13#1 -/) (fun z14 w15 w16 w17 q_X12_coupBy_1 => ?_)
            try dsimp only at q_X12_coupBy_1
            obtain ⟨q_X12_coupBy_1_1, q_X12_coupBy_1_2⟩ := q_X12_coupBy_1
            refine wp_some ?_
            try dsimp only
            all_goals exact ⟨(by omega) /- post1#6 -/, (by unfold Hid; intro h; exact absurd ⟨hs1, hs2, hs3⟩ h) /- post2#6 -/, (by unfold Hid; intro _; rcases hid q_X12_leaderBy_1_2 with hq | hq; omega; rcases hid q_X12_coupBy_1_2 with hp | hp; (exfalso; obtain ⟨t, ht, hb⟩ := (lead_ex h7 h8 hsp hq.1.1 hq.1.2).mp hq.2.2.1; exact hp.2 t ht.1 ht.2 hb); exact ⟨_, sdf_ok (h11 x2 hs2.1 hs2.2), Or.inr ⟨_, hq.1, hq.2.1, hq.2.2.1, hq.2.2.2, Or.inr ⟨by omega, by omega, hp.2.1, hp.2.2⟩⟩⟩) /- post3#6 -/⟩

set_option maxHeartbeats 1000000 in
theorem s_X12_firm (i_p0_seats : Int) (i_p0_stirs : Int) (v_p0_st : (Int → Int)) (v_p0_brings : (Int → Int)) (v_p0_places : (Int → Int)) (v_p0_bowls : (Int → Int)) (v_p0_has : (Int → Int)) (x1 : Int) (h1 : -2147483648 ≤ x1) (h2 : x1 < 2147483648) (h3 : 2 ≤ i_p0_seats) (h4 : i_p0_seats ≤ 7) (h5 : 0 ≤ i_p0_stirs) (h6 : i_p0_stirs ≤ 5) (h7 : rowsM i_p0_seats i_p0_stirs v_p0_brings) (h8 : okM i_p0_seats v_p0_st) : wp (f_X12_firm i_p0_seats i_p0_stirs v_p0_st v_p0_brings v_p0_places v_p0_bowls v_p0_has x1) (fun o => (Hid (¬ (0 ≤ x1 ∧ x1 < i_p0_stirs) → o.1 = -1)) ∧ (Hid ((0 ≤ x1 ∧ x1 < i_p0_stirs) → ∃ w, stirdP i_p0_seats (fun i => v_p0_brings (7 * x1 + i)) v_p0_st w ∧ o.1 = bitsOf (fun k => ∀ c, 0 ≤ c → c < i_p0_seats → ¬ c = k → ¬ leadP i_p0_seats (fun j => v_p0_st (9 + j)) (fun j => v_p0_st (16 + j)) w c k) i_p0_seats.toNat))) := by
  unfold f_X12_firm
  refine wp_bd1 (s_X12_isStir _ _ (by omega) /- pre X12_isStir.1#1 -/ (by omega) /- pre X12_isStir.2#1 -/ (by omega) /- pre X12_isStir.3#1 -/ (by omega) /- pre X12_isStir.4#1 -/) (fun z1 q_X12_isStir_1 => ?_)
  try dsimp only at q_X12_isStir_1
  refine wp_ck (z_r32_i.mpr ⟨(by omega) /- z_r32.lo z1#1 -/, (by omega) /- z_r32.hi z1#1 -/⟩) ?_
  refine wp_if (fun c1 => ?_) (fun c1 => ?_)
  ·
    refine wp_some ?_
    try dsimp only
    all_goals exact ⟨(by unfold Hid; intro _; rfl) /- post1#1 -/, (by unfold Hid; intro h; exfalso; (split at q_X12_isStir_1 <;> omega)) /- post2#1 -/⟩
  ·
    have hs2 : 0 ≤ x1 ∧ x1 < i_p0_stirs := by split at q_X12_isStir_1 <;> omega
    clear q_X12_isStir_1
    refine wp_bnd ?_
    refine wp_bnd ?_
    refine wp_lq5 (fun (z5 : Int) (z6 : Int) (w7 : (Int → Int)) (w8 : (Int → Int)) (w9 : (Int → Int)) => (0 ≤ z5) ∧ (z5 ≤ i_p0_seats) ∧ (z6 = bitsOf (fun k => ∀ c, 0 ≤ c → c < i_p0_seats → ¬ c = k → ¬ leadP i_p0_seats (fun j => v_p0_st (9 + j)) (fun j => v_p0_st (16 + j)) (sdf i_p0_seats (fun i => v_p0_brings (7 * x1 + i)) v_p0_st) c k) z5.toNat)) (fun (z5 : Int) (z6 : Int) (w7 : (Int → Int)) (w8 : (Int → Int)) (w9 : (Int → Int)) => (i_p0_seats - z5).toNat) (fun again14 z5 z6 w7 w8 w9 hI ih_B_X12_firm_14 => ?_) 1000 _ _ _ _ _ ⟨(by omega) /- B_X12_firm_14.init1#1 -/, (by omega) /- B_X12_firm_14.init2#1 -/, (by rfl) /- B_X12_firm_14.init3#1 -/⟩ (by omega) /- B_X12_firm_14.fuel#1 -/
    obtain ⟨i_B_X12_firm_14_1, i_B_X12_firm_14_2, i_B_X12_firm_14_3⟩ := hI
    unfold B_X12_firm_14
    refine wp_ck (z_r32_i.mpr ⟨(by omega) /- z_r32.lo z5#1 -/, (by omega) /- z_r32.hi z5#1 -/⟩) ?_
    refine wp_ck (z_r32_i.mpr ⟨(by omega) /- z_r32.lo i_p0_seats#1 -/, (by omega) /- z_r32.hi i_p0_seats#1 -/⟩) ?_
    refine wp_if (fun c2 => ?_) (fun c2 => ?_)
    ·
      refine wp_some ?_
      try dsimp only
      all_goals exact ⟨(by unfold Hid; intro h; exact absurd hs2 h) /- post1#2 -/, (by unfold Hid; intro _; exact ⟨_, sdf_ok (h7 x1 hs2.1 hs2.2), by rw [i_B_X12_firm_14_3]; congr 1; omega⟩) /- post2#2 -/⟩
    ·
      refine wp_bd4 (s_X12_leaderBy _ _ _ _ _ _ _ _ i_p0_stirs (sdf i_p0_seats (fun i => v_p0_brings (7 * x1 + i)) v_p0_st) (by omega) /- pre X12_leaderBy.1#1 -/ (by omega) /- pre X12_leaderBy.2#1 -/ (by omega) /- pre X12_leaderBy.3#1 -/ (by omega) /- pre X12_leaderBy.4#1 -/ (by exact h7) /- pre X12_leaderBy.5#1 -/ (by exact h8) /- pre X12_leaderBy.6#1 -/ (by omega) /- pre X12_leaderBy.7#1 -/ (by omega) /- pre X12_leaderBy.8#1 -/ (by omega) /- pre X12_leaderBy.9#1 -/ (by omega) /- pre X12_leaderBy.10#1 -/ (by exact sdf_ok (h7 x1 hs2.1 hs2.2)) /- pre X12_leaderBy.11#1 -/) (fun z13 w14 w15 w16 q_X12_leaderBy_1 => ?_)
      try dsimp only at q_X12_leaderBy_1
      obtain ⟨q_X12_leaderBy_1_1, q_X12_leaderBy_1_2⟩ := q_X12_leaderBy_1
      refine wp_ck (z_r32_i.mpr ⟨(by omega) /- z_r32.lo z13#1 -/, (by omega) /- z_r32.hi z13#1 -/⟩) ?_
      refine wp_jn ?_
      refine wp_if (fun c3 => ?_) (fun c3 => ?_)
      ·
        refine wp_bd1 (s_X12_flag _ (by omega) /- pre X12_flag.1#1 -/) (fun z21 q_X12_flag_1 => ?_)
        try dsimp only at q_X12_flag_1
        refine wp_bndE (fun z22 hz22 => ?_)
        refine wp_bndE (fun z23 hz23 => ?_)
        exact ih_B_X12_firm_14 _ _ _ _ _ ⟨(by omega) /- B_X12_firm_14.inv1#1 -/, (by omega) /- B_X12_firm_14.inv2#1 -/, (by first | (rw [hz23, bits_tz i_B_X12_firm_14_1 (by show ∀ c, _; rcases hid q_X12_leaderBy_1_2 with hq | hq; exact hq.2; omega), ← i_B_X12_firm_14_3, hz22, q_X12_flag_1]) | (have hb := bits_rng (fun k => ∀ c, 0 ≤ c → c < i_p0_seats → ¬ c = k → ¬ leadP i_p0_seats (fun j => v_p0_st (9 + j)) (fun j => v_p0_st (16 + j)) (sdf i_p0_seats (fun i => v_p0_brings (7 * x1 + i)) v_p0_st) c k) z5.toNat (by omega); rw [hz23, bits_fz i_B_X12_firm_14_1 (by show ¬ ∀ c, _; intro hh; rcases hid q_X12_leaderBy_1_2 with hq | hq; omega; exact hh _ hq.1.1 hq.1.2 hq.2.1 hq.2.2.1), hz22, q_X12_flag_1, shl0, or0 (by omega) (by omega)]; exact i_B_X12_firm_14_3)) /- B_X12_firm_14.inv3#1 -/⟩ (by omega) /- B_X12_firm_14.dec#1 -/
      ·
        refine wp_bd1 (s_X12_flag _ (by omega) /- pre X12_flag.1#2 -/) (fun z21 q_X12_flag_2 => ?_)
        try dsimp only at q_X12_flag_2
        refine wp_bndE (fun z22 hz22 => ?_)
        refine wp_bndE (fun z23 hz23 => ?_)
        exact ih_B_X12_firm_14 _ _ _ _ _ ⟨(by omega) /- B_X12_firm_14.inv1#2 -/, (by omega) /- B_X12_firm_14.inv2#2 -/, (by first | (rw [hz23, bits_tz i_B_X12_firm_14_1 (by show ∀ c, _; rcases hid q_X12_leaderBy_1_2 with hq | hq; exact hq.2; omega), ← i_B_X12_firm_14_3, hz22, q_X12_flag_2]) | (have hb := bits_rng (fun k => ∀ c, 0 ≤ c → c < i_p0_seats → ¬ c = k → ¬ leadP i_p0_seats (fun j => v_p0_st (9 + j)) (fun j => v_p0_st (16 + j)) (sdf i_p0_seats (fun i => v_p0_brings (7 * x1 + i)) v_p0_st) c k) z5.toNat (by omega); rw [hz23, bits_fz i_B_X12_firm_14_1 (by show ¬ ∀ c, _; intro hh; rcases hid q_X12_leaderBy_1_2 with hq | hq; omega; exact hh _ hq.1.1 hq.1.2 hq.2.1 hq.2.2.1), hz22, q_X12_flag_2, shl0, or0 (by omega) (by omega)]; exact i_B_X12_firm_14_3)) /- B_X12_firm_14.inv3#2 -/⟩ (by omega) /- B_X12_firm_14.dec#2 -/
