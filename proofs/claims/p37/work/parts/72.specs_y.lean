def chs (n : Int) : Nat → Int
  | 0 => 1
  | j + 1 => chs n j * (n - (j : Int)) / ((j : Int) + 1)
theorem chs_r {n z : Int} (h0 : 0 ≤ n) (h1 : n ≤ 12) (h2 : 0 ≤ z) (h3 : z ≤ 13) : 0 ≤ chs n z.toNat ∧ chs n z.toNat ≤ 924 := by
  have : ∀ m : Nat, m < 13 → ∀ j : Nat, j < 14 → 0 ≤ chs (m : Int) j ∧ chs (m : Int) j ≤ 924 := by decide +kernel
  have e := this n.toNat (by omega) z.toNat (by omega)
  rw [Int.toNat_of_nonneg h0] at e
  exact e
theorem chs_s {n z : Int} (h : 0 ≤ z) : chs n (z + 1).toNat = chs n z.toNat * (n - z) / (z + 1) := by
  rw [show (z + 1).toNat = z.toNat + 1 from by omega]
  show chs n z.toNat * (n - ((z.toNat : Nat) : Int)) / (((z.toNat : Nat) : Int) + 1) = _
  rw [show ((z.toNat : Nat) : Int) = z from by omega]
def unP (n k : Int) (st : Int → Int) : Prop := (0 ≤ st 7 ∧ st 7 < n) ∧ (0 ≤ st 8 ∧ st 8 < n) ∧ (∀ j, 0 ≤ j → j < 7 → 0 ≤ st j ∧ st j ≤ 9) ∧ (∀ j, 0 ≤ j → j < n → 0 ≤ st (23 + j) ∧ st (23 + j) ≤ 9 * k)
theorem unP_day {n k : Int} {row st st2 : Int → Int} (h2 : 2 ≤ n) (h7 : n ≤ 7) (hr : perm n row) (h : unP n k st) (d : dayP n row (fun k => st (9 + k)) (st 7) (st 8) (st 30) (vw st 0) (vw st 23) (st2 7) (st2 8) (st2 30) (vw st2 0) (vw st2 23)) : unP n (k + 1) st2 := by
  obtain ⟨a1, a2, a3, a4⟩ := h
  obtain ⟨d1, d2, d3, d4, d5, d6, d7⟩ := d
  have hp : ∀ j, 0 ≤ j → j < 7 → 0 ≤ st2 j ∧ st2 j ≤ 9 := by
    intro j a b
    by_cases c : j < n
    · obtain ⟨i, hi, e⟩ := perm_sur hr a c
      have q := d4 i hi.1 hi.2
      rw [e, vw_in0 a b, vw_in0 hi.1 (by omega)] at q
      rw [q]
      exact a3 i hi.1 (by omega)
    · have q := d5 j (by omega)
      rw [vw_in0 a b, vw_in0 a b] at q
      rw [q]
      exact a3 j a b
  refine ⟨by rw [d1]; exact hr.1 _ a1.1 a1.2, ⟨d2.1, d2.2.1⟩, hp, fun j a b => ?_⟩
  have q := d6 j a b
  have r := plc_rng (n := n) (k := st 8) (f := st (9 + st 8)) (p := j) (by omega)
  have w := a4 j a b
  dsimp only at q
  rw [vw_in a (by omega), vw_in a (by omega), vw_in0 r.1 (by omega)] at q
  have t := hp _ r.1 (by omega)
  omega
theorem bpw {b e : Int} (h1 : 1 ≤ b) (h5 : b ≤ 5) (h0 : e ≤ 3) : (1 ≤ b ^ e.toNat ∧ b ^ e.toNat ≤ 125) ∧ (b ^ e.toNat ≤ 1 → b ^ (e - 1).toNat = 1) ∧ (¬ b ^ e.toNat ≤ 1 → b ^ e.toNat / b = b ^ (e - 1).toNat) := by
  have : ∀ m : Nat, m < 6 → 1 ≤ m → ∀ j : Nat, j < 4 → (1 ≤ (m : Int) ^ j ∧ (m : Int) ^ j ≤ 125) ∧ ((m : Int) ^ j ≤ 1 → (m : Int) ^ (j - 1) = 1) ∧ (¬ (m : Int) ^ j ≤ 1 → (m : Int) ^ j / (m : Int) = (m : Int) ^ (j - 1)) := by decide +kernel
  have q := this b.toNat (by omega) (by omega) e.toNat (by omega)
  rw [Int.toNat_of_nonneg (by omega), show e.toNat - 1 = (e - 1).toNat from by omega] at q
  exact q
theorem lst_n0 {SP : Int → Int} {m : Int} (e : m = 0) : lst SP (m + 1) m (SP m) := by
  subst e
  exact ⟨by omega, rfl, fun i a b => by omega, fun i a b => by rw [show i = 0 from by omega]; exact Int.le_refl _⟩
theorem lvs_sp {n s k0 b0 D i k b : Int} {F : Int → Int} {A : Int → Int → Int} {P0 po su : Int → Int} {l : Nat} (hn : 1 ≤ n) (e : l = D.toNat) (h : lvs n F A P0 k0 b0 (dgt s D i) l k b po su) : spr n su = spi n s F A P0 k0 b0 D i := by
  subst e
  unfold spi
  exact spr_ext hn h.2.2.2
theorem lvs_day {n m t k0 b0 : Int} {st b w w2 P0 d : Int → Int} {l : Nat} (h2 : 2 ≤ n) (h7 : n ≤ 7) (hr : rowsM n m b) (t0 : 0 ≤ t) (t1 : t < m) (et : d (l : Int) = t) (hf : ∀ k, 0 ≤ k → k < 7 → w (9 + k) = st (9 + k)) (hb : 0 ≤ w 7 ∧ w 7 < n) (hk : 0 ≤ w 8 ∧ w 8 < n) (h : lvs n (clF n (fun k => st (9 + k))) (clA n m (fun y x => b (7 * y + x))) P0 k0 b0 d l (w 8) (w 7) w (fun p => w (23 + p))) (dp : dayP n (fun i => b (7 * t + i)) (fun k => w (9 + k)) (w 7) (w 8) (w 30) (vw w 0) (vw w 23) (w2 7) (w2 8) (w2 30) (vw w2 0) (vw w2 23)) : lvs n (clF n (fun k => st (9 + k))) (clA n m (fun y x => b (7 * y + x))) P0 k0 b0 d (l + 1) (w2 8) (w2 7) w2 (fun p => w2 (23 + p)) := by
  obtain ⟨d1, d2, d3, d4, d5, d6, d7⟩ := dp
  have ef := hf (w 8) hk.1 (by omega)
  refine lvs_s (by omega) ?_ h ?_ ?_ ?_ ?_
  · rw [et]; exact clA_perm t0 t1 (hr t t0 t1)
  · rw [et, clA_in t0 t1 hb.1 hb.2]; exact d1
  · rw [clF_in hk.1 hk.2]
    refine ⟨⟨d2.1, d2.2.1⟩, ?_⟩
    have e := d2.2.2
    dsimp only at e
    rw [ef] at e
    exact e
  · intro i a c
    have q := rowM_use hr t0 t1 (i := i) a c
    have e := d4 i a c
    dsimp only at e
    rw [vw_in0 q.1 (by omega), vw_in0 a (by omega)] at e
    rw [et, clA_in t0 t1 a c]
    exact e
  · intro p a c
    have q := plc_rng (n := n) (k := w 8) (f := st (9 + w 8)) (p := p) (by omega)
    have e := d6 p a c
    dsimp only at e
    rw [ef, vw_in a (by omega), vw_in a (by omega), vw_in0 q.1 (by omega)] at e
    rw [clF_in hk.1 hk.2]
    exact e
set_option maxHeartbeats 1000000 in
theorem s_X12_blind (i_p0_seats : Int) (x1 : Int) (x2 : Int) (x3 : Int) (h1 : -2147483648 ≤ x1) (h2 : x1 < 2147483648) (h3 : -2147483648 ≤ x2) (h4 : x2 < 2147483648) (h5 : -2147483648 ≤ x3) (h6 : x3 < 2147483648) (h7 : 2 ≤ i_p0_seats) (h8 : i_p0_seats ≤ 7) : wp (f_X12_blind i_p0_seats x1 x2 x3) (fun o => (Hid (¬ ((1 ≤ x2 ∧ x2 ≤ 12) ∧ (0 ≤ x1 ∧ x1 ≤ x2) ∧ (x3 = 0 ∨ x3 = 1)) → o = -1)) ∧ (Hid (((1 ≤ x2 ∧ x2 ≤ 12) ∧ (0 ≤ x1 ∧ x1 ≤ x2) ∧ (x3 = 0 ∨ x3 = 1)) → o = if x3 = 0 then (sumTo (fun j => if x1 ≤ j then chs x2 j.toNat * (i_p0_seats - 1) ^ (x2 - j).toNat else 0) (x2 + 1).toNat) / gz (i_p0_seats ^ x2.toNat) (sumTo (fun j => if x1 ≤ j then chs x2 j.toNat * (i_p0_seats - 1) ^ (x2 - j).toNat else 0) (x2 + 1).toNat) else (i_p0_seats ^ x2.toNat) / gz (i_p0_seats ^ x2.toNat) (sumTo (fun j => if x1 ≤ j then chs x2 j.toNat * (i_p0_seats - 1) ^ (x2 - j).toNat else 0) (x2 + 1).toNat)))) := by
  unfold f_X12_blind
  refine wp_ck (z_r32_i.mpr ⟨(by omega) /- z_r32.lo x2#1 -/, (by omega) /- z_r32.hi x2#1 -/⟩) ?_
  refine wp_bd1 (s_X12_in _ _ _ (by omega) /- pre X12_in.1#1 -/ (by omega) /- pre X12_in.2#1 -/ (by omega) /- pre X12_in.3#1 -/ (by omega) /- pre X12_in.4#1 -/ (by omega) /- pre X12_in.5#1 -/ (by omega) /- pre X12_in.6#1 -/) (fun z2 q_X12_in_1 => ?_)
  try dsimp only at q_X12_in_1
  refine wp_ck (z_r32_i.mpr ⟨(by omega) /- z_r32.lo z2#1 -/, (by omega) /- z_r32.hi z2#1 -/⟩) ?_
  refine wp_if (fun c1 => ?_) (fun c1 => ?_)
  ·
    have hn : ¬ (1 ≤ x2 ∧ x2 ≤ 12) := by split at q_X12_in_1 <;> omega
    clear q_X12_in_1
    refine wp_some ?_
    try dsimp only
    all_goals exact ⟨(by unfold Hid; intro _; rfl) /- post1#1 -/, (by unfold Hid; intro h; exact absurd h.1 hn) /- post2#1 -/⟩
  ·
    have hn : 1 ≤ x2 ∧ x2 ≤ 12 := by split at q_X12_in_1 <;> omega
    clear q_X12_in_1
    refine wp_ck (z_r32_i.mpr ⟨(by omega) /- z_r32.lo x1#1 -/, (by omega) /- z_r32.hi x1#1 -/⟩) ?_
    refine wp_bd1 (s_X12_in _ _ _ (by omega) /- pre X12_in.1#2 -/ (by omega) /- pre X12_in.2#2 -/ (by omega) /- pre X12_in.3#2 -/ (by omega) /- pre X12_in.4#2 -/ (by omega) /- pre X12_in.5#2 -/ (by omega) /- pre X12_in.6#2 -/) (fun z5 q_X12_in_2 => ?_)
    try dsimp only at q_X12_in_2
    refine wp_ck (z_r32_i.mpr ⟨(by omega) /- z_r32.lo z5#1 -/, (by omega) /- z_r32.hi z5#1 -/⟩) ?_
    refine wp_if (fun c2 => ?_) (fun c2 => ?_)
    ·
      have hm : ¬ (0 ≤ x1 ∧ x1 ≤ x2) := by split at q_X12_in_2 <;> omega
      clear q_X12_in_2
      refine wp_some ?_
      try dsimp only
      all_goals exact ⟨(by unfold Hid; intro _; rfl) /- post1#2 -/, (by unfold Hid; intro h; exact absurd h.2.1 hm) /- post2#2 -/⟩
    ·
      have hm : 0 ≤ x1 ∧ x1 ≤ x2 := by split at q_X12_in_2 <;> omega
      clear q_X12_in_2
      refine wp_bd1 (s_X12_isTold _ (by omega) /- pre X12_isTold.1#1 -/ (by omega) /- pre X12_isTold.2#1 -/) (fun z7 q_X12_isTold_1 => ?_)
      try dsimp only at q_X12_isTold_1
      refine wp_ck (z_r32_i.mpr ⟨(by omega) /- z_r32.lo z7#1 -/, (by omega) /- z_r32.hi z7#1 -/⟩) ?_
      refine wp_if (fun c3 => ?_) (fun c3 => ?_)
      ·
        have hw : ¬ (x3 = 0 ∨ x3 = 1) := by split at q_X12_isTold_1 <;> omega
        clear q_X12_isTold_1
        refine wp_some ?_
        try dsimp only
        all_goals exact ⟨(by unfold Hid; intro _; rfl) /- post1#3 -/, (by unfold Hid; intro h; exact absurd h.2.2 hw) /- post2#3 -/⟩
      ·
        have hw : (x3 = 0 ∨ x3 = 1) := by split at q_X12_isTold_1 <;> omega
        clear q_X12_isTold_1
        refine wp_bnd ?_
        refine wp_bnd ?_
        refine wp_bnd ?_
        refine wp_jn ?_
        refine wp_lq3 (fun (z17 : Int) (z18 : Int) (z19 : Int) => (0 ≤ z17) ∧ (z17 ≤ x2 + 1) ∧ (z18 = chs x2 z17.toNat) ∧ (0 ≤ z19 ∧ z19 ≤ z17 * 12789349373724) ∧ (Hid (z19 = sumTo (fun j => if x1 ≤ j then chs x2 j.toNat * (i_p0_seats - 1) ^ (x2 - j).toNat else 0) z17.toNat))) (fun (z17 : Int) (z18 : Int) (z19 : Int) => (x2 + 1 - z17).toNat) (fun again43 z17 z18 z19 hI ih_B_X12_blind_43 => ?_) 1000 _ _ _ ⟨(by omega) /- B_X12_blind_43.init1#1 -/, (by omega) /- B_X12_blind_43.init2#1 -/, (by rfl) /- B_X12_blind_43.init3#1 -/, (by omega) /- B_X12_blind_43.init4#1 -/, (by exact hd_ rfl) /- B_X12_blind_43.init5#1 -/⟩ (by omega) /- B_X12_blind_43.fuel#1 -/
        obtain ⟨i_B_X12_blind_43_1, i_B_X12_blind_43_2, i_B_X12_blind_43_3, i_B_X12_blind_43_4, i_B_X12_blind_43_5⟩ := hI
        unfold B_X12_blind_43
        have hch := chs_r (n := x2) (z := z17) (by omega) (by omega) (by omega) (by omega)
        rw [← i_B_X12_blind_43_3] at hch
        have hm0 := fun (h : z17 ≤ x2) => Int.mul_nonneg hch.1 (show 0 ≤ x2 - z17 by omega)
        have hm1 := fun (h : z17 ≤ x2) => Int.mul_le_mul hch.2 (show x2 - z17 ≤ 12 by omega) (by omega) (by decide)
        refine wp_ck (z_r32_i.mpr ⟨(by omega) /- z_r32.lo z17#1 -/, (by omega) /- z_r32.hi z17#1 -/⟩) ?_
        refine wp_if (fun c4 => ?_) (fun c4 => ?_)
        ·
          refine wp_ck (z_r32_i.mpr ⟨(by omega) /- z_r32.lo i_p0_seats#1 -/, (by omega) /- z_r32.hi i_p0_seats#1 -/⟩) ?_
          refine wp_bd1 (s_X12_power _ _ (by omega) /- pre X12_power.1#1 -/ (by omega) /- pre X12_power.2#1 -/ (by omega) /- pre X12_power.3#1 -/ (by omega) /- pre X12_power.4#1 -/) (fun z15 q_X12_power_1 => ?_)
          try dsimp only at q_X12_power_1
          have hpb := powb_r (b := i_p0_seats) (z := x2) (by omega) (by omega) (by omega) (by omega)
          have hpp := powb_p (b := i_p0_seats) (z := x2) (by omega) (by omega) (by omega) (by omega)
          rw [← q_X12_power_1] at hpb hpp
          refine wp_bd1 (s_X12_lowest _ _ _ (by omega) /- pre X12_lowest.1#1 -/ (by omega) /- pre X12_lowest.2#1 -/ (by omega) /- pre X12_lowest.3#1 -/ (by omega) /- pre X12_lowest.4#1 -/ (by omega) /- pre X12_lowest.5#1 -/ (by omega) /- pre X12_lowest.6#1 -/) (fun z16 q_X12_lowest_1 => ?_)
          try dsimp only at q_X12_lowest_1
          refine wp_some ?_
          try dsimp only
          all_goals exact ⟨(by unfold Hid; intro h; exact absurd ⟨hn, hm, hw⟩ h) /- post1#4 -/, (by unfold Hid; intro _; rw [hid q_X12_lowest_1, q_X12_power_1, hid i_B_X12_blind_43_5, show z17.toNat = (x2 + 1).toNat from by omega]) /- post2#4 -/⟩
        ·
          refine wp_jn ?_
          refine wp_if (fun c5 => ?_) (fun c5 => ?_)
          ·
            refine wp_bndE (fun z25 hz25 => ?_)
            refine wp_ck (z_r32_i.mpr ⟨(by omega) /- z_r32.lo (x2 - z17)#1 -/, (by omega) /- z_r32.hi (x2 - z17)#1 -/⟩) ?_
            refine wp_ck (z_r32_i.mpr ⟨(by omega) /- z_r32.lo (z17 + (1 : Int))#1 -/, (by omega) /- z_r32.hi (z17 + (1 : Int))#1 -/⟩) ?_
            refine wp_ck (w_dv_i.mpr ⟨⟨⟨(by have := hm0 (by omega); have := hm1 (by omega); omega) /- dv.0 (z18 * (x2 - z17))#1 -/, (by have := hm0 (by omega); have := hm1 (by omega); omega) /- dv.1 (z18 * (x2 - z17))#1 -/⟩, (by have := hm0 (by omega); have := hm1 (by omega); omega) /- dv.2 (z18 * (x2 - z17))#1 -/⟩, (by have := hm0 (by omega); have := hm1 (by omega); omega) /- dv.3 (z18 * (x2 - z17))#1 -/⟩) ?_
            refine wp_bndE (fun z28 hz28 => ?_)
            refine wp_bndE (fun z29 hz29 => ?_)
            exact ih_B_X12_blind_43 _ _ _ ⟨(by omega) /- B_X12_blind_43.inv1#1 -/, (by omega) /- B_X12_blind_43.inv2#1 -/, (by first | (subst hz29 hz28; rw [chs_s i_B_X12_blind_43_1, ← i_B_X12_blind_43_3])) /- B_X12_blind_43.inv3#1 -/, (by omega) /- B_X12_blind_43.inv4#1 -/, (by unfold Hid; subst hz29 hz25; rw [sum_s (by omega), ← hid i_B_X12_blind_43_5, if_neg (by omega)]) /- B_X12_blind_43.inv5#1 -/⟩ (by omega) /- B_X12_blind_43.dec#1 -/
          ·
            refine wp_ck (z_r32_i.mpr ⟨(by omega) /- z_r32.lo i_p0_seats#2 -/, (by omega) /- z_r32.hi i_p0_seats#2 -/⟩) ?_
            refine wp_bd1 (s_X12_power _ _ (by omega) /- pre X12_power.1#2 -/ (by omega) /- pre X12_power.2#2 -/ (by omega) /- pre X12_power.3#2 -/ (by omega) /- pre X12_power.4#2 -/) (fun z31 q_X12_power_2 => ?_)
            try dsimp only at q_X12_power_2
            have hpb := powb_r (b := i_p0_seats - 1) (z := x2 - z17) (by omega) (by omega) (by omega) (by omega)
            rw [← q_X12_power_2] at hpb
            have hm2 := Int.mul_nonneg hch.1 hpb.1
            have hm3 := Int.mul_le_mul hch.2 hpb.2 hpb.1 (show (0 : Int) ≤ 924 by decide)
            refine wp_bndE (fun z25 hz25 => ?_)
            refine wp_ck (z_r32_i.mpr ⟨(by omega) /- z_r32.lo (x2 - z17)#2 -/, (by omega) /- z_r32.hi (x2 - z17)#2 -/⟩) ?_
            refine wp_ck (z_r32_i.mpr ⟨(by omega) /- z_r32.lo (z17 + (1 : Int))#2 -/, (by omega) /- z_r32.hi (z17 + (1 : Int))#2 -/⟩) ?_
            refine wp_ck (w_dv_i.mpr ⟨⟨⟨(by have := hm0 (by omega); have := hm1 (by omega); omega) /- dv.0 (z18 * (x2 - z17))#2 -/, (by have := hm0 (by omega); have := hm1 (by omega); omega) /- dv.1 (z18 * (x2 - z17))#2 -/⟩, (by have := hm0 (by omega); have := hm1 (by omega); omega) /- dv.2 (z18 * (x2 - z17))#2 -/⟩, (by have := hm0 (by omega); have := hm1 (by omega); omega) /- dv.3 (z18 * (x2 - z17))#2 -/⟩) ?_
            refine wp_bndE (fun z28 hz28 => ?_)
            refine wp_bndE (fun z29 hz29 => ?_)
            exact ih_B_X12_blind_43 _ _ _ ⟨(by omega) /- B_X12_blind_43.inv1#2 -/, (by omega) /- B_X12_blind_43.inv2#2 -/, (by first | (subst hz29 hz28; rw [chs_s i_B_X12_blind_43_1, ← i_B_X12_blind_43_3])) /- B_X12_blind_43.inv3#2 -/, (by omega) /- B_X12_blind_43.inv4#2 -/, (by unfold Hid; subst hz29 hz25; rw [sum_s (by omega), ← hid i_B_X12_blind_43_5, if_pos (by omega), q_X12_power_2, i_B_X12_blind_43_3]) /- B_X12_blind_43.inv5#2 -/⟩ (by omega) /- B_X12_blind_43.dec#2 -/

set_option maxHeartbeats 4000000 in
theorem s_X12_unlikeBy (i_p0_seats : Int) (i_p0_stirs : Int) (v_p0_st : (Int → Int)) (v_p0_brings : (Int → Int)) (v_p0_places : (Int → Int)) (v_p0_stirred : (Int → Int)) (x1 : Int) (x2 : Int) (h1 : 2 ≤ i_p0_seats) (h2 : i_p0_seats ≤ 7) (h3 : 1 ≤ i_p0_stirs) (h4 : i_p0_stirs ≤ 5) (h5 : rowsM i_p0_seats i_p0_stirs v_p0_brings) (h6 : okM i_p0_seats v_p0_st) (h7 : 0 ≤ x1) (h8 : x1 < 2147483648) (h9 : 1 ≤ x2) (h10 : x2 ≤ 4) : wp (f_X12_unlikeBy i_p0_seats i_p0_stirs v_p0_st v_p0_brings v_p0_places v_p0_stirred x1 x2) (fun o => (-100 ≤ o.1 ∧ o.1 ≤ 100) ∧ (∀ j, 0 ≤ j → j < 114 → o.2.1 j = v_p0_st j) ∧ (Hid (o.1 = spi i_p0_seats i_p0_stirs (clF i_p0_seats (fun k => v_p0_st (9 + k))) (clA i_p0_seats i_p0_stirs (fun y b => v_p0_brings (7 * y + b))) (clF i_p0_seats v_p0_st) (v_p0_st 8) (v_p0_st 7) x2 x1))) := by
  unfold f_X12_unlikeBy
  have ho1 := okM_1 h6
  refine wp_bd1 (s_X12_copies _ _ _ (by omega) /- pre X12_copies.1#1 -/ (by omega) /- pre X12_copies.2#1 -/ (by omega) /- pre X12_copies.3#1 -/ (by omega) /- pre X12_copies.4#1 -/ (by omega) /- pre X12_copies.5#1 -/) (fun w1 q_X12_copies_1 => ?_)
  try dsimp only at q_X12_copies_1
  obtain ⟨q_X12_copies_1_1, q_X12_copies_1_2⟩ := q_X12_copies_1
  refine wp_bnd ?_
  refine wp_jn ?_
  refine wp_lq2 (fun (z60 : Int) (w61 : (Int → Int)) => (0 ≤ z60) ∧ (z60 ≤ i_p0_seats) ∧ (∀ j, (j < 23 ∨ 30 ≤ j) → w61 j = w1 j) ∧ (∀ j, 0 ≤ j → j < z60 → w61 (23 + j) = 0)) (fun (z60 : Int) (w61 : (Int → Int)) => (i_p0_seats - z60).toNat) (fun again9 z60 w61 hI ih_B_X12_unlikeBy_9 => ?_) 1000 _ _ ⟨(by omega) /- B_X12_unlikeBy_9.init1#1 -/, (by omega) /- B_X12_unlikeBy_9.init2#1 -/, (by intro j _; rfl) /- B_X12_unlikeBy_9.init3#1 -/, (by intro j; omega) /- B_X12_unlikeBy_9.init4#1 -/⟩ (by omega) /- B_X12_unlikeBy_9.fuel#1 -/
  obtain ⟨i_B_X12_unlikeBy_9_1, i_B_X12_unlikeBy_9_2, i_B_X12_unlikeBy_9_3, i_B_X12_unlikeBy_9_4⟩ := hI
  unfold B_X12_unlikeBy_9
  refine wp_ck (z_r32_i.mpr ⟨(by omega) /- z_r32.lo z60#1 -/, (by omega) /- z_r32.hi z60#1 -/⟩) ?_
  refine wp_ck (z_r32_i.mpr ⟨(by omega) /- z_r32.lo i_p0_seats#1 -/, (by omega) /- z_r32.hi i_p0_seats#1 -/⟩) ?_
  refine wp_if (fun c1 => ?_) (fun c1 => ?_)
  ·
    refine wp_bnd ?_
    refine wp_bnd ?_
    refine wp_jn ?_
    have hw0 : ∀ j, 0 ≤ j → j < 38 → w1 j = v_p0_st j := fun j a b => q_X12_copies_1_2 j (by omega)
    refine wp_lq2 (fun (z53 : Int) (z54 : Int) => (1 ≤ z53) ∧ (z53 ≤ x2) ∧ (z54 = i_p0_stirs ^ (z53 - 1).toNat)) (fun (z53 : Int) (z54 : Int) => (x2 - z53).toNat) (fun again38 z53 z54 hI ih_B_X12_unlikeBy_38 => ?_) 1000 _ _ ⟨(by omega) /- B_X12_unlikeBy_38.init1#1 -/, (by omega) /- B_X12_unlikeBy_38.init2#1 -/, (by exact (Int.pow_zero _).symm) /- B_X12_unlikeBy_38.init3#1 -/⟩ (by omega) /- B_X12_unlikeBy_38.fuel#1 -/
    obtain ⟨i_B_X12_unlikeBy_38_1, i_B_X12_unlikeBy_38_2, i_B_X12_unlikeBy_38_3⟩ := hI
    unfold B_X12_unlikeBy_38
    refine wp_ck (z_r32_i.mpr ⟨(by omega) /- z_r32.lo z53#1 -/, (by omega) /- z_r32.hi z53#1 -/⟩) ?_
    refine wp_ck (z_r32_i.mpr ⟨(by omega) /- z_r32.lo x2#1 -/, (by omega) /- z_r32.hi x2#1 -/⟩) ?_
    refine wp_if (fun c2 => ?_) (fun c2 => ?_)
    ·
      refine wp_bnd ?_
      refine wp_jn ?_
      refine wp_lq5 (fun (z37 : Int) (z38 : Int) (w39 : (Int → Int)) (w40 : (Int → Int)) (w41 : (Int → Int)) => (0 ≤ z37) ∧ (z37 ≤ x2) ∧ (z38 = i_p0_stirs ^ (x2 - 1 - z37).toNat) ∧ (unP i_p0_seats z37 w39) ∧ (∀ j, 38 ≤ j → w39 j = w1 j) ∧ (Hid (lvs i_p0_seats (clF i_p0_seats (fun k => v_p0_st (9 + k))) (clA i_p0_seats i_p0_stirs (fun y b => v_p0_brings (7 * y + b))) (clF i_p0_seats v_p0_st) (v_p0_st 8) (v_p0_st 7) (dgt i_p0_stirs x2 x1) z37.toNat (w39 8) (w39 7) w39 (fun p => w39 (23 + p)))) ∧ (∀ k, 0 ≤ k → k < 7 → w39 (9 + k) = v_p0_st (9 + k))) (fun (z37 : Int) (z38 : Int) (w39 : (Int → Int)) (w40 : (Int → Int)) (w41 : (Int → Int)) => (x2 - z37).toNat) (fun again60 z37 z38 w39 w40 w41 hI ih_B_X12_unlikeBy_60 => ?_) 1000 _ _ _ _ _ ⟨(by omega) /- B_X12_unlikeBy_60.init1#1 -/, (by omega) /- B_X12_unlikeBy_60.init2#1 -/, (by rw [i_B_X12_unlikeBy_38_3]; congr 2; omega) /- B_X12_unlikeBy_60.init3#1 -/, (by refine ⟨by rw [i_B_X12_unlikeBy_9_3 7 (by omega), hw0 7 (by omega) (by omega)]; omega, by rw [i_B_X12_unlikeBy_9_3 8 (by omega), hw0 8 (by omega) (by omega)]; omega, fun j a b => by rw [i_B_X12_unlikeBy_9_3 j (by omega), hw0 j (by omega) (by omega)]; exact okM_p h6 j a b, fun j a b => by rw [i_B_X12_unlikeBy_9_4 j a (by omega)]; omega⟩) /- B_X12_unlikeBy_60.init4#1 -/, (by intro j a; exact i_B_X12_unlikeBy_9_3 j (by omega)) /- B_X12_unlikeBy_60.init5#1 -/, (by unfold Hid; rw [show (0 : Int).toNat = 0 from rfl, i_B_X12_unlikeBy_9_3 8 (by omega), hw0 8 (by omega) (by omega), i_B_X12_unlikeBy_9_3 7 (by omega), hw0 7 (by omega) (by omega)]; exact lvs_0 (fun q a b => by rw [clF_in a b, i_B_X12_unlikeBy_9_3 q (by omega), hw0 q a (by omega)]) (fun p a b => i_B_X12_unlikeBy_9_4 p a (by omega))) /- B_X12_unlikeBy_60.init6#1 -/, (by intro k a b; rw [i_B_X12_unlikeBy_9_3 _ (by omega), hw0 _ (by omega) (by omega)]) /- B_X12_unlikeBy_60.init7#1 -/⟩ (by omega) /- B_X12_unlikeBy_60.fuel#1 -/
      obtain ⟨i_B_X12_unlikeBy_60_1, i_B_X12_unlikeBy_60_2, i_B_X12_unlikeBy_60_3, i_B_X12_unlikeBy_60_4, i_B_X12_unlikeBy_60_5, i_B_X12_unlikeBy_60_6, i_B_X12_unlikeBy_60_7⟩ := hI
      unfold B_X12_unlikeBy_60
      have hbp := bpw (b := i_p0_stirs) (e := x2 - 1 - z37) (by omega) (by omega) (by omega)
      rw [← i_B_X12_unlikeBy_60_3] at hbp
      have hun := i_B_X12_unlikeBy_60_4
      have hq0 := Int.ediv_nonneg h7 (show 0 ≤ z38 by omega)
      have hq1 := Int.ediv_le_self z38 h7
      have hr0 : 0 ≤ x1 / z38 % i_p0_stirs := rg_lo (by omega)
      have hr1 : x1 / z38 % i_p0_stirs < i_p0_stirs := rg_hi (by omega)
      have hu1 := hun.1
      have hu2 := hun.2.1
      refine wp_ck (z_r32_i.mpr ⟨(by omega) /- z_r32.lo z37#1 -/, (by omega) /- z_r32.hi z37#1 -/⟩) ?_
      refine wp_ck (z_r32_i.mpr ⟨(by omega) /- z_r32.lo x2#2 -/, (by omega) /- z_r32.hi x2#2 -/⟩) ?_
      refine wp_if (fun c3 => ?_) (fun c3 => ?_)
      ·
        refine wp_ck (z_ix_i.mpr ⟨⟨(by omega) /- ix.lo (23 : Int)#1 -/, (by omega) /- ix.hi (23 : Int)#1 -/⟩, (by omega) /- ix.big (23 : Int)#1 -/⟩) ?_
        refine wp_bndE (fun z14 hz14 => ?_)
        refine wp_ck (z_ix_i.mpr ⟨⟨(by omega) /- ix.lo (23 : Int)#2 -/, (by omega) /- ix.hi (23 : Int)#2 -/⟩, (by omega) /- ix.big (23 : Int)#2 -/⟩) ?_
        refine wp_bndE (fun z15 hz15 => ?_)
        refine wp_bnd ?_
        refine wp_jn ?_
        have hue := hun.2.2.2
        have hsl := hd_ (lvs_sp (D := x2) (show (1 : Int) ≤ i_p0_seats by omega) (show z37.toNat = x2.toNat by omega) (hid i_B_X12_unlikeBy_60_6))
        refine wp_lq3 (fun (z21 : Int) (z22 : Int) (z23 : Int) => (1 ≤ z21) ∧ (z21 ≤ i_p0_seats) ∧ (0 ≤ z22 ∧ z22 ≤ 36) ∧ (0 ≤ z23 ∧ z23 ≤ 36) ∧ (Hid (z23 = mxU (fun p => w39 (23 + p)) (z21 - 1).toNat)) ∧ (Hid (z22 = mnU (fun p => w39 (23 + p)) (z21 - 1).toNat))) (fun (z21 : Int) (z22 : Int) (z23 : Int) => (i_p0_seats - z21).toNat) (fun again121 z21 z22 z23 hI ih_B_X12_unlikeBy_121 => ?_) 1000 _ _ _ ⟨(by omega) /- B_X12_unlikeBy_121.init1#1 -/, (by omega) /- B_X12_unlikeBy_121.init2#1 -/, (by have := hue 0 (by omega) (by omega); rw [show (23 : Int) + 0 = 23 from rfl] at this; omega) /- B_X12_unlikeBy_121.init3#1 -/, (by have := hue 0 (by omega) (by omega); rw [show (23 : Int) + 0 = 23 from rfl] at this; omega) /- B_X12_unlikeBy_121.init4#1 -/, (by unfold Hid; rw [show ((1 : Int) - 1).toNat = 0 from rfl]; show _ = w39 (23 + 0); rw [show (23 : Int) + 0 = 23 from rfl]; first | assumption | rfl) /- B_X12_unlikeBy_121.init5#1 -/, (by unfold Hid; rw [show ((1 : Int) - 1).toNat = 0 from rfl]; show _ = w39 (23 + 0); rw [show (23 : Int) + 0 = 23 from rfl]; first | assumption | rfl) /- B_X12_unlikeBy_121.init6#1 -/⟩ (by omega) /- B_X12_unlikeBy_121.fuel#1 -/
        obtain ⟨i_B_X12_unlikeBy_121_1, i_B_X12_unlikeBy_121_2, i_B_X12_unlikeBy_121_3, i_B_X12_unlikeBy_121_4, i_B_X12_unlikeBy_121_5, i_B_X12_unlikeBy_121_6⟩ := hI
        unfold B_X12_unlikeBy_121
        have hux := fun (h : z21 < i_p0_seats) => hue z21 (by omega) h
        refine wp_ck (z_r32_i.mpr ⟨(by omega) /- z_r32.lo z21#1 -/, (by omega) /- z_r32.hi z21#1 -/⟩) ?_
        refine wp_ck (z_r32_i.mpr ⟨(by omega) /- z_r32.lo i_p0_seats#2 -/, (by omega) /- z_r32.hi i_p0_seats#2 -/⟩) ?_
        refine wp_if (fun c4 => ?_) (fun c4 => ?_)
        ·
          refine wp_bd1 (s_X12_copies _ _ _ (by omega) /- pre X12_copies.1#2 -/ (by omega) /- pre X12_copies.2#2 -/ (by omega) /- pre X12_copies.3#2 -/ (by omega) /- pre X12_copies.4#2 -/ (by omega) /- pre X12_copies.5#2 -/) (fun w20 q_X12_copies_2 => ?_)
          try dsimp only at q_X12_copies_2
          obtain ⟨q_X12_copies_2_1, q_X12_copies_2_2⟩ := q_X12_copies_2
          refine wp_some ?_
          try dsimp only
          all_goals exact ⟨(by omega) /- post1#1 -/, (by 
                                        intro j a b
                                        by_cases c : j < 38
                                        · have e := q_X12_copies_2_1 j a c
                                          rw [show (0 : Int) + j = j from by omega] at e
                                          rw [e, i_B_X12_unlikeBy_60_5 _ (by omega), q_X12_copies_1_1 j a c, show (0 : Int) + j = j from by omega]
                                        · rw [q_X12_copies_2_2 j (by omega), i_B_X12_unlikeBy_60_5 j (by omega), q_X12_copies_1_2 j (by omega)]) /- post2#1 -/, (by unfold Hid; rw [← hid hsl]; unfold spr; rw [hid i_B_X12_unlikeBy_121_5, hid i_B_X12_unlikeBy_121_6, show i_p0_seats = z21 from by omega]) /- post3#1 -/⟩
        ·
          refine wp_ck (z_ix_i.mpr ⟨⟨(by omega) /- ix.lo ((23 : Int) + z21)#1 -/, (by omega) /- ix.hi ((23 : Int) + z21)#1 -/⟩, (by omega) /- ix.big ((23 : Int) + z21)#1 -/⟩) ?_
          refine wp_ck (z_r32_i.mpr ⟨(by omega) /- z_r32.lo (w10 ((23 : Int) + z21))#1 -/, (by omega) /- z_r32.hi (w10 ((23 : Int) + z21))#1 -/⟩) ?_
          refine wp_ck (z_r32_i.mpr ⟨(by omega) /- z_r32.lo z23#1 -/, (by omega) /- z_r32.hi z23#1 -/⟩) ?_
          refine wp_jn ?_
          refine wp_if (fun c5 => ?_) (fun c5 => ?_)
          ·
            refine wp_bnd ?_
            refine wp_ck (z_ix_i.mpr ⟨⟨(by omega) /- ix.lo ((23 : Int) + z21)#2 -/, (by omega) /- ix.hi ((23 : Int) + z21)#2 -/⟩, (by omega) /- ix.big ((23 : Int) + z21)#2 -/⟩) ?_
            refine wp_ck (z_r32_i.mpr ⟨(by omega) /- z_r32.lo z22#1 -/, (by omega) /- z_r32.hi z22#1 -/⟩) ?_
            refine wp_if (fun c6 => ?_) (fun c6 => ?_)
            ·
              refine wp_bnd ?_
              refine wp_bndE (fun z34 hz34 => ?_)
              exact ih_B_X12_unlikeBy_121 _ _ _ ⟨(by omega) /- B_X12_unlikeBy_121.inv1#1 -/, (by omega) /- B_X12_unlikeBy_121.inv2#1 -/, (by omega) /- B_X12_unlikeBy_121.inv3#1 -/, (by omega) /- B_X12_unlikeBy_121.inv4#1 -/, (by unfold Hid; (first | rw [hz34, mxU_s i_B_X12_unlikeBy_121_1, ← hid i_B_X12_unlikeBy_121_5] | rw [hz36, mxU_s i_B_X12_unlikeBy_121_1, ← hid i_B_X12_unlikeBy_121_5]); show _ = max z23 (w39 (23 + z21)); omega) /- B_X12_unlikeBy_121.inv5#1 -/, (by unfold Hid; (first | rw [hz34, mnU_s i_B_X12_unlikeBy_121_1, ← hid i_B_X12_unlikeBy_121_6] | rw [hz36, mnU_s i_B_X12_unlikeBy_121_1, ← hid i_B_X12_unlikeBy_121_6]); show _ = min z22 (w39 (23 + z21)); omega) /- B_X12_unlikeBy_121.inv6#1 -/⟩ (by omega) /- B_X12_unlikeBy_121.dec#1 -/
            ·
              refine wp_ck (z_ix_i.mpr ⟨⟨(by omega) /- ix.lo ((23 : Int) + z21)#3 -/, (by omega) /- ix.hi ((23 : Int) + z21)#3 -/⟩, (by omega) /- ix.big ((23 : Int) + z21)#3 -/⟩) ?_
              refine wp_bndE (fun z35 hz35 => ?_)
              refine wp_bndE (fun z36 hz36 => ?_)
              exact ih_B_X12_unlikeBy_121 _ _ _ ⟨(by omega) /- B_X12_unlikeBy_121.inv1#2 -/, (by omega) /- B_X12_unlikeBy_121.inv2#2 -/, (by omega) /- B_X12_unlikeBy_121.inv3#2 -/, (by omega) /- B_X12_unlikeBy_121.inv4#2 -/, (by unfold Hid; (first | rw [hz34, mxU_s i_B_X12_unlikeBy_121_1, ← hid i_B_X12_unlikeBy_121_5] | rw [hz36, mxU_s i_B_X12_unlikeBy_121_1, ← hid i_B_X12_unlikeBy_121_5]); show _ = max z23 (w39 (23 + z21)); omega) /- B_X12_unlikeBy_121.inv5#2 -/, (by unfold Hid; (first | rw [hz34, mnU_s i_B_X12_unlikeBy_121_1, ← hid i_B_X12_unlikeBy_121_6] | rw [hz36, mnU_s i_B_X12_unlikeBy_121_1, ← hid i_B_X12_unlikeBy_121_6]); show _ = min z22 (w39 (23 + z21)); omega) /- B_X12_unlikeBy_121.inv6#2 -/⟩ (by omega) /- B_X12_unlikeBy_121.dec#2 -/
          ·
            refine wp_ck (z_ix_i.mpr ⟨⟨(by omega) /- ix.lo ((23 : Int) + z21)#4 -/, (by omega) /- ix.hi ((23 : Int) + z21)#4 -/⟩, (by omega) /- ix.big ((23 : Int) + z21)#4 -/⟩) ?_
            refine wp_bnd ?_
            refine wp_ck (z_ix_i.mpr ⟨⟨(by omega) /- ix.lo ((23 : Int) + z21)#5 -/, (by omega) /- ix.hi ((23 : Int) + z21)#5 -/⟩, (by omega) /- ix.big ((23 : Int) + z21)#5 -/⟩) ?_
            refine wp_ck (z_r32_i.mpr ⟨(by omega) /- z_r32.lo z22#2 -/, (by omega) /- z_r32.hi z22#2 -/⟩) ?_
            refine wp_if (fun c7 => ?_) (fun c7 => ?_)
            ·
              refine wp_bnd ?_
              refine wp_bndE (fun z34 hz34 => ?_)
              exact ih_B_X12_unlikeBy_121 _ _ _ ⟨(by omega) /- B_X12_unlikeBy_121.inv1#3 -/, (by omega) /- B_X12_unlikeBy_121.inv2#3 -/, (by omega) /- B_X12_unlikeBy_121.inv3#3 -/, (by omega) /- B_X12_unlikeBy_121.inv4#3 -/, (by unfold Hid; (first | rw [hz34, mxU_s i_B_X12_unlikeBy_121_1, ← hid i_B_X12_unlikeBy_121_5] | rw [hz36, mxU_s i_B_X12_unlikeBy_121_1, ← hid i_B_X12_unlikeBy_121_5]); show _ = max z23 (w39 (23 + z21)); omega) /- B_X12_unlikeBy_121.inv5#3 -/, (by unfold Hid; (first | rw [hz34, mnU_s i_B_X12_unlikeBy_121_1, ← hid i_B_X12_unlikeBy_121_6] | rw [hz36, mnU_s i_B_X12_unlikeBy_121_1, ← hid i_B_X12_unlikeBy_121_6]); show _ = min z22 (w39 (23 + z21)); omega) /- B_X12_unlikeBy_121.inv6#3 -/⟩ (by omega) /- B_X12_unlikeBy_121.dec#3 -/
            ·
              refine wp_ck (z_ix_i.mpr ⟨⟨(by omega) /- ix.lo ((23 : Int) + z21)#6 -/, (by omega) /- ix.hi ((23 : Int) + z21)#6 -/⟩, (by omega) /- ix.big ((23 : Int) + z21)#6 -/⟩) ?_
              refine wp_bndE (fun z35 hz35 => ?_)
              refine wp_bndE (fun z36 hz36 => ?_)
              exact ih_B_X12_unlikeBy_121 _ _ _ ⟨(by omega) /- B_X12_unlikeBy_121.inv1#4 -/, (by omega) /- B_X12_unlikeBy_121.inv2#4 -/, (by omega) /- B_X12_unlikeBy_121.inv3#4 -/, (by omega) /- B_X12_unlikeBy_121.inv4#4 -/, (by unfold Hid; (first | rw [hz34, mxU_s i_B_X12_unlikeBy_121_1, ← hid i_B_X12_unlikeBy_121_5] | rw [hz36, mxU_s i_B_X12_unlikeBy_121_1, ← hid i_B_X12_unlikeBy_121_5]); show _ = max z23 (w39 (23 + z21)); omega) /- B_X12_unlikeBy_121.inv5#4 -/, (by unfold Hid; (first | rw [hz34, mnU_s i_B_X12_unlikeBy_121_1, ← hid i_B_X12_unlikeBy_121_6] | rw [hz36, mnU_s i_B_X12_unlikeBy_121_1, ← hid i_B_X12_unlikeBy_121_6]); show _ = min z22 (w39 (23 + z21)); omega) /- B_X12_unlikeBy_121.inv6#4 -/⟩ (by omega) /- B_X12_unlikeBy_121.dec#4 -/
      ·
        refine wp_ck (z_dv_i.mpr ⟨⟨⟨(by omega) /- dv.0 x1#1 -/, (by omega) /- dv.1 x1#1 -/⟩, (by omega) /- dv.2 x1#1 -/⟩, (by omega) /- dv.3 x1#1 -/⟩) ?_
        refine wp_ck (z_dv_i.mpr ⟨⟨⟨(by omega) /- dv.0 (x1 / z38)#1 -/, (by omega) /- dv.1 (x1 / z38)#1 -/⟩, (by omega) /- dv.2 (x1 / z38)#1 -/⟩, (by omega) /- dv.3 (x1 / z38)#1 -/⟩) ?_
        refine wp_bd3 (s_X12_goesDay _ _ _ _ _ _ i_p0_stirs (by omega) /- pre X12_goesDay.1#1 -/ (by omega) /- pre X12_goesDay.2#1 -/ (by omega) /- pre X12_goesDay.3#1 -/ (by omega) /- pre X12_goesDay.4#1 -/ (by exact h5) /- pre X12_goesDay.5#1 -/ (by omega) /- pre X12_goesDay.6#1 -/ (by omega) /- pre X12_goesDay.7#1 -/ (by omega) /- pre X12_goesDay.8#1 -/ (by omega) /- pre X12_goesDay.9#1 -/ (by omega) /- pre X12_goesDay.10#1 -/ (by omega) /- pre X12_goesDay.11#1 -/) (fun w45 w46 w47 q_X12_goesDay_1 => ?_)
        try dsimp only at q_X12_goesDay_1
        obtain ⟨q_X12_goesDay_1_1, q_X12_goesDay_1_2⟩ := q_X12_goesDay_1
        have hud := unP_day h1 h2 (h5 _ hr0 hr1) hun q_X12_goesDay_1_1
        have hls := hd_ (lvs_day (st := v_p0_st) h1 h2 h5 hr0 hr1 (by rw [show ((z37.toNat : Nat) : Int) = z37 from by omega]; unfold dgt; rw [← i_B_X12_unlikeBy_60_3]) i_B_X12_unlikeBy_60_7 hu1 hu2 (hid i_B_X12_unlikeBy_60_6) q_X12_goesDay_1_1)
        refine wp_ck (z_r32_i.mpr ⟨(by omega) /- z_r32.lo z38#1 -/, (by omega) /- z_r32.hi z38#1 -/⟩) ?_
        refine wp_if (fun c8 => ?_) (fun c8 => ?_)
        ·
          refine wp_bnd ?_
          refine wp_bndE (fun z50 hz50 => ?_)
          exact ih_B_X12_unlikeBy_60 _ _ _ _ _ ⟨(by omega) /- B_X12_unlikeBy_60.inv1#1 -/, (by omega) /- B_X12_unlikeBy_60.inv2#1 -/, (by subst hz50; rw [show x2 - 1 - (z37 + 1) = x2 - 1 - z37 - 1 from by omega]; exact (hbp.2.1 (by assumption)).symm) /- B_X12_unlikeBy_60.inv3#1 -/, (by first | (subst hz50; exact hud) | (subst hz52; exact hud)) /- B_X12_unlikeBy_60.inv4#1 -/, (by intro j a; rw [q_X12_goesDay_1_2 j (by omega)]; exact i_B_X12_unlikeBy_60_5 j a) /- B_X12_unlikeBy_60.inv5#1 -/, (by unfold Hid; first | (rw [show z50.toNat = z37.toNat + 1 from by omega]; exact hid hls) | (rw [show z52.toNat = z37.toNat + 1 from by omega]; exact hid hls)) /- B_X12_unlikeBy_60.inv6#1 -/, (by intro k a b; rw [q_X12_goesDay_1_2 _ (by omega)]; exact i_B_X12_unlikeBy_60_7 k a b) /- B_X12_unlikeBy_60.inv7#1 -/⟩ (by omega) /- B_X12_unlikeBy_60.dec#1 -/
        ·
          refine wp_ck (z_dv_i.mpr ⟨⟨⟨(by omega) /- dv.0 z38#1 -/, (by omega) /- dv.1 z38#1 -/⟩, (by omega) /- dv.2 z38#1 -/⟩, (by omega) /- dv.3 z38#1 -/⟩) ?_
          refine wp_bndE (fun z51 hz51 => ?_)
          refine wp_bndE (fun z52 hz52 => ?_)
          exact ih_B_X12_unlikeBy_60 _ _ _ _ _ ⟨(by omega) /- B_X12_unlikeBy_60.inv1#2 -/, (by omega) /- B_X12_unlikeBy_60.inv2#2 -/, (by subst hz52 hz51; rw [show x2 - 1 - (z37 + 1) = x2 - 1 - z37 - 1 from by omega]; exact hbp.2.2 (by assumption)) /- B_X12_unlikeBy_60.inv3#2 -/, (by first | (subst hz50; exact hud) | (subst hz52; exact hud)) /- B_X12_unlikeBy_60.inv4#2 -/, (by intro j a; rw [q_X12_goesDay_1_2 j (by omega)]; exact i_B_X12_unlikeBy_60_5 j a) /- B_X12_unlikeBy_60.inv5#2 -/, (by unfold Hid; first | (rw [show z50.toNat = z37.toNat + 1 from by omega]; exact hid hls) | (rw [show z52.toNat = z37.toNat + 1 from by omega]; exact hid hls)) /- B_X12_unlikeBy_60.inv6#2 -/, (by intro k a b; rw [q_X12_goesDay_1_2 _ (by omega)]; exact i_B_X12_unlikeBy_60_7 k a b) /- B_X12_unlikeBy_60.inv7#2 -/⟩ (by omega) /- B_X12_unlikeBy_60.dec#2 -/
    ·
      refine wp_bndE (fun z58 hz58 => ?_)
      refine wp_bndE (fun z59 hz59 => ?_)
      exact ih_B_X12_unlikeBy_38 _ _ ⟨(by omega) /- B_X12_unlikeBy_38.inv1#1 -/, (by omega) /- B_X12_unlikeBy_38.inv2#1 -/, (by subst hz58 hz59; rw [show z53 + 1 - 1 = z53 - 1 + 1 from by omega, pow_step (by omega), ← i_B_X12_unlikeBy_38_3]) /- B_X12_unlikeBy_38.inv3#1 -/⟩ (by omega) /- B_X12_unlikeBy_38.dec#1 -/
  ·
    refine wp_ck (z_ix_i.mpr ⟨⟨(by omega) /- ix.lo ((23 : Int) + z60)#1 -/, (by omega) /- ix.hi ((23 : Int) + z60)#1 -/⟩, (by omega) /- ix.big ((23 : Int) + z60)#1 -/⟩) ?_
    refine wp_bnd ?_
    refine wp_bndE (fun z66 hz66 => ?_)
    exact ih_B_X12_unlikeBy_9 _ _ ⟨(by omega) /- B_X12_unlikeBy_9.inv1#1 -/, (by omega) /- B_X12_unlikeBy_9.inv2#1 -/, (by intro j a; rw [z_up_n _ _ (by omega)]; exact i_B_X12_unlikeBy_9_3 j a) /- B_X12_unlikeBy_9.inv3#1 -/, (by intro j a b; rw [z_up_a]; split; rfl; exact i_B_X12_unlikeBy_9_4 j a (by omega)) /- B_X12_unlikeBy_9.inv4#1 -/⟩ (by omega) /- B_X12_unlikeBy_9.dec#1 -/

set_option maxHeartbeats 4000000 in
theorem s_X12_fair (i_p0_seats : Int) (i_p0_stirs : Int) (v_p0_st : (Int → Int)) (v_p0_brings : (Int → Int)) (v_p0_places : (Int → Int)) (v_p0_stirred : (Int → Int)) (v_p0_bestRow : (Int → Int)) (x1 : Int) (x2 : Int) (h1 : -2147483648 ≤ x1) (h2 : x1 < 2147483648) (h3 : -2147483648 ≤ x2) (h4 : x2 < 2147483648) (h5 : 2 ≤ i_p0_seats) (h6 : i_p0_seats ≤ 7) (h7 : 0 ≤ i_p0_stirs) (h8 : i_p0_stirs ≤ 5) (h9 : rowsM i_p0_seats i_p0_stirs v_p0_brings) (h10 : okM i_p0_seats v_p0_st) : wp (f_X12_fair i_p0_seats i_p0_stirs v_p0_st v_p0_brings v_p0_places v_p0_stirred v_p0_bestRow x1 x2) (fun o => (∀ j, 0 ≤ j → j < 114 → o.2.1 j = v_p0_st j) ∧ (Hid (¬ ((1 ≤ x1 ∧ x1 ≤ 4) ∧ (x2 = 0 ∨ (10 ≤ x2 ∧ x2 ≤ 13))) → o.1 = -1)) ∧ (Hid (((1 ≤ x1 ∧ x1 ≤ 4) ∧ (x2 = 0 ∨ (10 ≤ x2 ∧ x2 ≤ 13))) → i_p0_stirs = 0 → o.1 = -2)) ∧ (Hid (((1 ≤ x1 ∧ x1 ≤ 4) ∧ (x2 = 0 ∨ (10 ≤ x2 ∧ x2 ≤ 13))) → ¬ i_p0_stirs = 0 → 10 + x1 ≤ x2 → o.1 = -4)) ∧ (Hid (((1 ≤ x1 ∧ x1 ≤ 4) ∧ (x2 = 0 ∨ (10 ≤ x2 ∧ x2 ≤ 13))) → ¬ i_p0_stirs = 0 → x2 < 10 + x1 → ∃ b l, lst (spi i_p0_seats i_p0_stirs (clF i_p0_seats (fun k => v_p0_st (9 + k))) (clA i_p0_seats i_p0_stirs (fun y b => v_p0_brings (7 * y + b))) (clF i_p0_seats v_p0_st) (v_p0_st 8) (v_p0_st 7) x1) (i_p0_stirs ^ x1.toNat) b l ∧ o.1 = if x2 = 0 then l else dgt i_p0_stirs x1 b (x2 - 10)))) := by
  unfold f_X12_fair
  refine wp_ck (z_r32_i.mpr ⟨(by omega) /- z_r32.lo x1#1 -/, (by omega) /- z_r32.hi x1#1 -/⟩) ?_
  refine wp_bd1 (s_X12_in _ _ _ (by omega) /- pre X12_in.1#1 -/ (by omega) /- pre X12_in.2#1 -/ (by omega) /- pre X12_in.3#1 -/ (by omega) /- pre X12_in.4#1 -/ (by omega) /- pre X12_in.5#1 -/ (by omega) /- pre X12_in.6#1 -/) (fun z2 q_X12_in_1 => ?_)
  try dsimp only at q_X12_in_1
  refine wp_ck (z_r32_i.mpr ⟨(by omega) /- z_r32.lo z2#1 -/, (by omega) /- z_r32.hi z2#1 -/⟩) ?_
  refine wp_if (fun c1 => ?_) (fun c1 => ?_)
  ·
    have hn : ¬ (1 ≤ x1 ∧ x1 ≤ 4) := by split at q_X12_in_1 <;> omega
    clear q_X12_in_1
    refine wp_some ?_
    try dsimp only
    all_goals exact ⟨(by first | exact fun _ _ _ => rfl | exact i_B_X12_fair_76_5) /- post1#1 -/, (by unfold Hid; intro _; rfl) /- post2#1 -/, (by unfold Hid; intro h _; exfalso; omega) /- post3#1 -/, (by unfold Hid; intro h _ _; exfalso; omega) /- post4#1 -/, (by unfold Hid; intro h _ _; exfalso; omega) /- post5#1 -/⟩
  ·
    have hn : 1 ≤ x1 ∧ x1 ≤ 4 := by split at q_X12_in_1 <;> omega
    clear q_X12_in_1
    refine wp_ck (z_r32_i.mpr ⟨(by omega) /- z_r32.lo x2#1 -/, (by omega) /- z_r32.hi x2#1 -/⟩) ?_
    refine wp_jnP0 (x2 = 0 ∨ (10 ≤ x2 ∧ x2 ≤ 13)) (fun pJ5 => ?_) (fun J5 hJ5 => ?_)
    ·
      refine wp_ck (z_r32_i.mpr ⟨(by omega) /- z_r32.lo i_p0_stirs#1 -/, (by omega) /- z_r32.hi i_p0_stirs#1 -/⟩) ?_
      refine wp_if (fun c2 => ?_) (fun c2 => ?_)
      ·
        refine wp_some ?_
        try dsimp only
        all_goals exact ⟨(by first | exact fun _ _ _ => rfl | exact i_B_X12_fair_76_5) /- post1#2 -/, (by unfold Hid; intro h; exfalso; omega) /- post2#2 -/, (by unfold Hid; intro _ _; rfl) /- post3#2 -/, (by unfold Hid; intro _ h; exact absurd (by assumption) h) /- post4#2 -/, (by unfold Hid; intro _ h; exact absurd (by assumption) h) /- post5#2 -/⟩
      ·
        refine wp_ck (z_r32_i.mpr ⟨(by omega) /- z_r32.lo (x2 - (10 : Int))#1 -/, (by omega) /- z_r32.hi (x2 - (10 : Int))#1 -/⟩) ?_
        refine wp_if (fun c3 => ?_) (fun c3 => ?_)
        ·
          refine wp_bd1 (s_X12_power _ _ (by omega) /- pre X12_power.1#1 -/ (by omega) /- pre X12_power.2#1 -/ (by omega) /- pre X12_power.3#1 -/ (by omega) /- pre X12_power.4#1 -/) (fun z8 q_X12_power_1 => ?_)
          try dsimp only at q_X12_power_1
          have hpw := pow54 (b := i_p0_stirs) (e := x1) (by omega) (by omega) (by omega) (by omega)
          rw [← q_X12_power_1] at hpw
          refine wp_bnd ?_
          refine wp_bnd ?_
          refine wp_bnd ?_
          refine wp_bnd ?_
          refine wp_jn ?_
          refine wp_lq6 (fun (z30 : Int) (z31 : Int) (z32 : Int) (w33 : (Int → Int)) (w34 : (Int → Int)) (w35 : (Int → Int)) => (0 ≤ z30) ∧ (z30 ≤ z8) ∧ (-1000 ≤ z31 ∧ z31 ≤ 1000000) ∧ (0 ≤ z32 ∧ z32 < 1000) ∧ (∀ j, 0 ≤ j → j < 114 → w33 j = v_p0_st j) ∧ (Hid ((z30 = 0 ∧ z31 = 1000000 ∧ z32 = 0) ∨ lst (spi i_p0_seats i_p0_stirs (clF i_p0_seats (fun k => v_p0_st (9 + k))) (clA i_p0_seats i_p0_stirs (fun y b => v_p0_brings (7 * y + b))) (clF i_p0_seats v_p0_st) (v_p0_st 8) (v_p0_st 7) x1) z30 z32 z31))) (fun (z30 : Int) (z31 : Int) (z32 : Int) (w33 : (Int → Int)) (w34 : (Int → Int)) (w35 : (Int → Int)) => (z8 - z30).toNat) (fun again76 z30 z31 z32 w33 w34 w35 hI ih_B_X12_fair_76 => ?_) 1000 _ _ _ _ _ _ ⟨(by omega) /- B_X12_fair_76.init1#1 -/, (by omega) /- B_X12_fair_76.init2#1 -/, (by omega) /- B_X12_fair_76.init3#1 -/, (by omega) /- B_X12_fair_76.init4#1 -/, (by intro j _ _; rfl) /- B_X12_fair_76.init5#1 -/, (by unfold Hid; left; exact ⟨rfl, rfl, rfl⟩) /- B_X12_fair_76.init6#1 -/⟩ (by omega) /- B_X12_fair_76.fuel#1 -/
          obtain ⟨i_B_X12_fair_76_1, i_B_X12_fair_76_2, i_B_X12_fair_76_3, i_B_X12_fair_76_4, i_B_X12_fair_76_5, i_B_X12_fair_76_6⟩ := hI
          unfold B_X12_fair_76
          refine wp_ck (z_r32_i.mpr ⟨(by omega) /- z_r32.lo z30#1 -/, (by omega) /- z_r32.hi z30#1 -/⟩) ?_
          refine wp_ck (z_r32_i.mpr ⟨(by omega) /- z_r32.lo z9#1 -/, (by omega) /- z_r32.hi z9#1 -/⟩) ?_
          refine wp_if (fun c4 => ?_) (fun c4 => ?_)
          ·
            refine wp_bndE (fun z19 hz19 => ?_)
            refine wp_jn ?_
            have hls : Hid (lst (spi i_p0_seats i_p0_stirs (clF i_p0_seats (fun k => v_p0_st (9 + k))) (clA i_p0_seats i_p0_stirs (fun y b => v_p0_brings (7 * y + b))) (clF i_p0_seats v_p0_st) (v_p0_st 8) (v_p0_st 7) x1) (i_p0_stirs ^ x1.toNat) z32 z31) := by
              rcases hid i_B_X12_fair_76_6 with o | o
              · exfalso; omega
              · rw [← q_X12_power_1, show z8 = z30 from by omega]; exact o
            refine wp_lq3 (fun (z22 : Int) (z23 : Int) (w24 : (Int → Int)) => (-1 ≤ z22) ∧ (z22 < x1) ∧ (0 ≤ z23 ∧ z23 < 1000) ∧ (Hid (z23 = z32 / i_p0_stirs ^ (x1 - 1 - z22).toNat)) ∧ (∀ j, z22 < j → j < x1 → w24 j = dgt i_p0_stirs x1 z32 j)) (fun (z22 : Int) (z23 : Int) (w24 : (Int → Int)) => (z22 + 1).toNat) (fun again134 z22 z23 w24 hI ih_B_X12_fair_134 => ?_) 1000 _ _ _ ⟨(by omega) /- B_X12_fair_134.init1#1 -/, (by omega) /- B_X12_fair_134.init2#1 -/, (by omega) /- B_X12_fair_134.init3#1 -/, (by unfold Hid; rw [hz19, show (x1 - 1 - (x1 - 1)).toNat = 0 from by omega, Int.pow_zero, Int.ediv_one]) /- B_X12_fair_134.init4#1 -/, (by intro j; omega) /- B_X12_fair_134.init5#1 -/⟩ (by omega) /- B_X12_fair_134.fuel#1 -/
            obtain ⟨i_B_X12_fair_134_1, i_B_X12_fair_134_2, i_B_X12_fair_134_3, i_B_X12_fair_134_4, i_B_X12_fair_134_5⟩ := hI
            unfold B_X12_fair_134
            have hq0 := Int.ediv_nonneg i_B_X12_fair_134_3.1 (show 0 ≤ i_p0_stirs by omega)
            have hq1 := Int.ediv_le_self i_p0_stirs i_B_X12_fair_134_3.1
            refine wp_ck (z_r32_i.mpr ⟨(by omega) /- z_r32.lo z22#1 -/, (by omega) /- z_r32.hi z22#1 -/⟩) ?_
            refine wp_if (fun c5 => ?_) (fun c5 => ?_)
            ·
              refine wp_if (fun c6 => ?_) (fun c6 => ?_)
              ·
                refine wp_some ?_
                try dsimp only
                all_goals exact ⟨(by first | exact fun _ _ _ => rfl | exact i_B_X12_fair_76_5) /- post1#3 -/, (by unfold Hid; intro h; exfalso; omega) /- post2#3 -/, (by unfold Hid; intro _ h; exact absurd h (by assumption)) /- post3#3 -/, (by unfold Hid; intro _ _ h; exfalso; omega) /- post4#3 -/, (by unfold Hid; intro _ _ _; exact ⟨_, _, hid hls, by rw [if_pos (by assumption)]⟩) /- post5#3 -/⟩
              ·
                refine wp_ck (z_ix_i.mpr ⟨⟨(by omega) /- ix.lo (x2 - (10 : Int))#1 -/, (by omega) /- ix.hi (x2 - (10 : Int))#1 -/⟩, (by omega) /- ix.big (x2 - (10 : Int))#1 -/⟩) ?_
                refine wp_some ?_
                try dsimp only
                all_goals exact ⟨(by first | exact fun _ _ _ => rfl | exact i_B_X12_fair_76_5) /- post1#4 -/, (by unfold Hid; intro h; exfalso; omega) /- post2#4 -/, (by unfold Hid; intro _ h; exact absurd h (by assumption)) /- post3#4 -/, (by unfold Hid; intro _ _ h; exfalso; omega) /- post4#4 -/, (by unfold Hid; intro _ _ _; refine ⟨_, _, hid hls, ?_⟩; rw [if_neg (by assumption)]; exact i_B_X12_fair_134_5 _ (by omega) (by omega)) /- post5#4 -/⟩
            ·
              refine wp_ck (z_dv_i.mpr ⟨⟨⟨(by omega) /- dv.0 z23#1 -/, (by omega) /- dv.1 z23#1 -/⟩, (by omega) /- dv.2 z23#1 -/⟩, (by omega) /- dv.3 z23#1 -/⟩) ?_
              refine wp_ck (z_ix_i.mpr ⟨⟨(by omega) /- ix.lo z22#1 -/, (by omega) /- ix.hi z22#1 -/⟩, (by omega) /- ix.big z22#1 -/⟩) ?_
              refine wp_bnd ?_
              refine wp_ck (z_dv_i.mpr ⟨⟨⟨(by omega) /- dv.0 z23#2 -/, (by omega) /- dv.1 z23#2 -/⟩, (by omega) /- dv.2 z23#2 -/⟩, (by omega) /- dv.3 z23#2 -/⟩) ?_
              refine wp_bndE (fun z28 hz28 => ?_)
              refine wp_bndE (fun z29 hz29 => ?_)
              exact ih_B_X12_fair_134 _ _ _ ⟨(by omega) /- B_X12_fair_134.inv1#1 -/, (by omega) /- B_X12_fair_134.inv2#1 -/, (by omega) /- B_X12_fair_134.inv3#1 -/, (by unfold Hid; rw [hz28, hz29, hid i_B_X12_fair_134_4, show (x1 - 1 - (z22 + -1)).toNat = (x1 - 1 - z22).toNat + 1 from by omega, Int.pow_succ, Int.ediv_ediv_of_nonneg (show 0 ≤ i_p0_stirs ^ (x1 - 1 - z22).toNat from by have := (bpw (b := i_p0_stirs) (e := x1 - 1 - z22) (by omega) (by omega) (by omega)).1; omega)]) /- B_X12_fair_134.inv4#1 -/, (by intro j a b; rw [z_up_a]; split; (rename_i e; rw [e, hid i_B_X12_fair_134_4]; rfl); exact i_B_X12_fair_134_5 j (by omega) b) /- B_X12_fair_134.inv5#1 -/⟩ (by omega) /- B_X12_fair_134.dec#1 -/
          ·
            have hok : okM i_p0_seats w33 := okM_cp (c := 0) (by simpa using h10) (fun j a b => by rw [i_B_X12_fair_76_5 j a (by omega), show (0 : Int) + j = j from by omega])
            refine wp_bd4 (s_X12_unlikeBy _ _ _ _ _ _ _ _ (by omega) /- pre X12_unlikeBy.1#1 -/ (by omega) /- pre X12_unlikeBy.2#1 -/ (by omega) /- pre X12_unlikeBy.3#1 -/ (by omega) /- pre X12_unlikeBy.4#1 -/ (by exact h9) /- pre X12_unlikeBy.5#1 -/ (by exact hok) /- pre X12_unlikeBy.6#1 -/ (by omega) /- pre X12_unlikeBy.7#1 -/ (by omega) /- pre X12_unlikeBy.8#1 -/ (by omega) /- pre X12_unlikeBy.9#1 -/ (by omega) /- pre X12_unlikeBy.10#1 -/) (fun z39 w40 w41 w42 q_X12_unlikeBy_1 => ?_)
            try dsimp only at q_X12_unlikeBy_1
            obtain ⟨q_X12_unlikeBy_1_1, q_X12_unlikeBy_1_2, q_X12_unlikeBy_1_3⟩ := q_X12_unlikeBy_1
            have hsm : Hid (z39 = (spi i_p0_seats i_p0_stirs (clF i_p0_seats (fun k => v_p0_st (9 + k))) (clA i_p0_seats i_p0_stirs (fun y b => v_p0_brings (7 * y + b))) (clF i_p0_seats v_p0_st) (v_p0_st 8) (v_p0_st 7) x1) z30) := hd_ (by rw [hid q_X12_unlikeBy_1_3, clF_e (f := fun k => w33 (9 + k)) (g := fun k => v_p0_st (9 + k)) (fun k a b => i_B_X12_fair_76_5 (9 + k) (by omega) (by omega)), clF_e (f := w33) (g := v_p0_st) (fun k a b => i_B_X12_fair_76_5 k a (by omega)), i_B_X12_fair_76_5 8 (by omega) (by omega), i_B_X12_fair_76_5 7 (by omega) (by omega)])
            refine wp_bnd ?_
            refine wp_ck (z_r32_i.mpr ⟨(by omega) /- z_r32.lo z43#1 -/, (by omega) /- z_r32.hi z43#1 -/⟩) ?_
            refine wp_ck (z_r32_i.mpr ⟨(by omega) /- z_r32.lo z31#1 -/, (by omega) /- z_r32.hi z31#1 -/⟩) ?_
            refine wp_jn ?_
            refine wp_if (fun c7 => ?_) (fun c7 => ?_)
            ·
              refine wp_bnd ?_
              refine wp_if (fun c8 => ?_) (fun c8 => ?_)
              ·
                refine wp_bnd ?_
                refine wp_bndE (fun z50 hz50 => ?_)
                exact ih_B_X12_fair_76 _ _ _ _ _ _ ⟨(by omega) /- B_X12_fair_76.inv1#1 -/, (by omega) /- B_X12_fair_76.inv2#1 -/, (by omega) /- B_X12_fair_76.inv3#1 -/, (by omega) /- B_X12_fair_76.inv4#1 -/, (by intro j a b; rw [q_X12_unlikeBy_1_2 j a b]; exact i_B_X12_fair_76_5 j a b) /- B_X12_fair_76.inv5#1 -/, (by 
                                        unfold Hid
                                        first
                                        | (exfalso; omega)
                                        | (rw [hz50]
                                           right
                                           rcases hid i_B_X12_fair_76_6 with o | o
                                           · exfalso; omega
                                           · exact lst_old o (by rw [← hid hsm]; omega))
                                        | (rw [hz52]
                                           right
                                           rcases hid i_B_X12_fair_76_6 with o | o
                                           · rw [hid hsm]; exact lst_n0 o.1
                                           · have w := lst_new o i_B_X12_fair_76_1 (by rw [← hid hsm]; omega)
                                             rw [← hid hsm] at w
                                             exact w)) /- B_X12_fair_76.inv6#1 -/⟩ (by omega) /- B_X12_fair_76.dec#1 -/
              ·
                refine wp_bnd ?_
                refine wp_bndE (fun z52 hz52 => ?_)
                exact ih_B_X12_fair_76 _ _ _ _ _ _ ⟨(by omega) /- B_X12_fair_76.inv1#2 -/, (by omega) /- B_X12_fair_76.inv2#2 -/, (by omega) /- B_X12_fair_76.inv3#2 -/, (by omega) /- B_X12_fair_76.inv4#2 -/, (by intro j a b; rw [q_X12_unlikeBy_1_2 j a b]; exact i_B_X12_fair_76_5 j a b) /- B_X12_fair_76.inv5#2 -/, (by 
                                        unfold Hid
                                        first
                                        | (exfalso; omega)
                                        | (rw [hz50]
                                           right
                                           rcases hid i_B_X12_fair_76_6 with o | o
                                           · exfalso; omega
                                           · exact lst_old o (by rw [← hid hsm]; omega))
                                        | (rw [hz52]
                                           right
                                           rcases hid i_B_X12_fair_76_6 with o | o
                                           · rw [hid hsm]; exact lst_n0 o.1
                                           · have w := lst_new o i_B_X12_fair_76_1 (by rw [← hid hsm]; omega)
                                             rw [← hid hsm] at w
                                             exact w)) /- B_X12_fair_76.inv6#2 -/⟩ (by omega) /- B_X12_fair_76.dec#2 -/
            ·
              refine wp_bnd ?_
              refine wp_if (fun c9 => ?_) (fun c9 => ?_)
              ·
                refine wp_bnd ?_
                refine wp_bndE (fun z50 hz50 => ?_)
                exact ih_B_X12_fair_76 _ _ _ _ _ _ ⟨(by omega) /- B_X12_fair_76.inv1#3 -/, (by omega) /- B_X12_fair_76.inv2#3 -/, (by omega) /- B_X12_fair_76.inv3#3 -/, (by omega) /- B_X12_fair_76.inv4#3 -/, (by intro j a b; rw [q_X12_unlikeBy_1_2 j a b]; exact i_B_X12_fair_76_5 j a b) /- B_X12_fair_76.inv5#3 -/, (by 
                                        unfold Hid
                                        first
                                        | (exfalso; omega)
                                        | (rw [hz50]
                                           right
                                           rcases hid i_B_X12_fair_76_6 with o | o
                                           · exfalso; omega
                                           · exact lst_old o (by rw [← hid hsm]; omega))
                                        | (rw [hz52]
                                           right
                                           rcases hid i_B_X12_fair_76_6 with o | o
                                           · rw [hid hsm]; exact lst_n0 o.1
                                           · have w := lst_new o i_B_X12_fair_76_1 (by rw [← hid hsm]; omega)
                                             rw [← hid hsm] at w
                                             exact w)) /- B_X12_fair_76.inv6#3 -/⟩ (by omega) /- B_X12_fair_76.dec#3 -/
              ·
                refine wp_bnd ?_
                refine wp_bndE (fun z52 hz52 => ?_)
                exact ih_B_X12_fair_76 _ _ _ _ _ _ ⟨(by omega) /- B_X12_fair_76.inv1#4 -/, (by omega) /- B_X12_fair_76.inv2#4 -/, (by omega) /- B_X12_fair_76.inv3#4 -/, (by omega) /- B_X12_fair_76.inv4#4 -/, (by intro j a b; rw [q_X12_unlikeBy_1_2 j a b]; exact i_B_X12_fair_76_5 j a b) /- B_X12_fair_76.inv5#4 -/, (by 
                                        unfold Hid
                                        first
                                        | (exfalso; omega)
                                        | (rw [hz50]
                                           right
                                           rcases hid i_B_X12_fair_76_6 with o | o
                                           · exfalso; omega
                                           · exact lst_old o (by rw [← hid hsm]; omega))
                                        | (rw [hz52]
                                           right
                                           rcases hid i_B_X12_fair_76_6 with o | o
                                           · rw [hid hsm]; exact lst_n0 o.1
                                           · have w := lst_new o i_B_X12_fair_76_1 (by rw [← hid hsm]; omega)
                                             rw [← hid hsm] at w
                                             exact w)) /- B_X12_fair_76.inv6#4 -/⟩ (by omega) /- B_X12_fair_76.dec#4 -/
        ·
          refine wp_some ?_
          try dsimp only
          all_goals exact ⟨(by first | exact fun _ _ _ => rfl | exact i_B_X12_fair_76_5) /- post1#5 -/, (by unfold Hid; intro h; exfalso; omega) /- post2#5 -/, (by unfold Hid; intro _ h; exact absurd h (by assumption)) /- post3#5 -/, (by unfold Hid; intro _ _ _; rfl) /- post4#5 -/, (by unfold Hid; intro _ _ h; exfalso; omega) /- post5#5 -/⟩
    refine wp_if (fun c10 => ?_) (fun c10 => ?_)
    ·
      exact hJ5  (by omega) /- to J5#1 -/
    ·
      refine wp_bd1 (s_X12_in _ _ _ (by omega) /- pre X12_in.1#2 -/ (by omega) /- pre X12_in.2#2 -/ (by omega) /- pre X12_in.3#2 -/ (by omega) /- pre X12_in.4#2 -/ (by omega) /- pre X12_in.5#2 -/ (by omega) /- pre X12_in.6#2 -/) (fun z53 q_X12_in_2 => ?_)
      try dsimp only at q_X12_in_2
      refine wp_ck (z_r32_i.mpr ⟨(by omega) /- z_r32.lo z53#1 -/, (by omega) /- z_r32.hi z53#1 -/⟩) ?_
      refine wp_if (fun c11 => ?_) (fun c11 => ?_)
      ·
        refine wp_some ?_
        try dsimp only
        all_goals exact ⟨(by first | exact fun _ _ _ => rfl | exact i_B_X12_fair_76_5) /- post1#6 -/, (by unfold Hid; intro _; rfl) /- post2#6 -/, (by unfold Hid; intro h _; exfalso; split at q_X12_in_2 <;> omega) /- post3#6 -/, (by unfold Hid; intro h _ _; exfalso; split at q_X12_in_2 <;> omega) /- post4#6 -/, (by unfold Hid; intro h _ _; exfalso; split at q_X12_in_2 <;> omega) /- post5#6 -/⟩
      ·
        exact hJ5  (by omega) /- to J5#2 -/
