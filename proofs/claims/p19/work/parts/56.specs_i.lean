def servP (n : Int) (f pl : Int → Int) : Prop := ∀ k p, 0 ≤ k → k < n → 0 ≤ p → p < n → pl (k * 7 + p) = plc n k (f k) p
def servH (n : Int) (f ho : Int → Int) : Prop := ∀ k p, 0 ≤ k → k < n → 0 ≤ p → p < n → ho (k * 7 + plc n k (f k) p) = p
theorem hold_use {n k q : Int} {f ho : Int → Int} (h : servH n f ho) (hn : 0 < n) (h0 : 0 ≤ k) (h1 : k < n) (h2 : 0 ≤ q) (h3 : q < n) : (0 ≤ ho (k * 7 + q) ∧ ho (k * 7 + q) < n) ∧ plc n k (f k) (ho (k * 7 + q)) = q := by
  obtain ⟨p, hp, e⟩ := plc_sur (n := n) (k := k) (f := f k) hn h2 h3
  have := h k p h0 h1 hp.1 hp.2
  rw [e] at this
  rw [this]
  exact ⟨hp, e⟩
theorem place_use {n k p : Int} {f pl : Int → Int} (h : servP n f pl) (hn : 0 < n) (h0 : 0 ≤ k) (h1 : k < n) (h2 : 0 ≤ p) (h3 : p < n) : 0 ≤ pl (k * 7 + p) ∧ pl (k * 7 + p) < n := by
  rw [h k p h0 h1 h2 h3]
  exact plc_rng hn
theorem row_use {n s r i : Int} {a : Int → Int} (h : rows n s a) (h0 : 0 ≤ r) (h1 : r < s) (h2 : 0 ≤ i) (h3 : i < n) : 0 ≤ a (r * 7 + i) ∧ a (r * 7 + i) < n := (h r h0 h1).1 i h2 h3
theorem bits_rng (P : Int → Prop) : ∀ m : Nat, m ≤ 7 → 0 ≤ bitsOf P m ∧ bitsOf P m < 128 := by
  intro m
  induction m with
  | zero => intro _; exact ⟨Int.le_refl _, by show (0 : Int) < 128; decide⟩
  | succ m ih =>
    intro h
    have a := ih (by omega)
    by_cases c : P (m : Int)
    · rw [bits_t c]; exact or7z a.1 a.2 (by omega) (by omega)
    · rw [bits_f c]; exact a
theorem or5 : ∀ a : Nat, a < 32 → ∀ b : Nat, b < 5 → 0 ≤ z_or (a : Int) (z_shl 1 (b : Int)) ∧ z_or (a : Int) (z_shl 1 (b : Int)) < 32 := by decide +kernel
theorem bits_rng5 (P : Int → Prop) : ∀ m : Nat, m ≤ 5 → 0 ≤ bitsOf P m ∧ bitsOf P m < 32 := by
  intro m
  induction m with
  | zero => intro _; exact ⟨Int.le_refl _, by show (0 : Int) < 32; decide⟩
  | succ m ih =>
    intro h
    have a := ih (by omega)
    by_cases c : P (m : Int)
    · rw [bits_t c]
      have e := or5 (bitsOf P m).toNat (by omega) m (by omega)
      rw [Int.toNat_of_nonneg a.1] at e
      exact e
    · rw [bits_f c]; exact a
theorem sum_up {f : Int → Int} {i v : Int} (h0 : 0 ≤ i) : ∀ m : Nat, sumTo (z_up f i v) m = if i < (m : Int) then sumTo f m - f i + v else sumTo f m := by
  intro m
  induction m with
  | zero => rw [if_neg (by omega)]; rfl
  | succ m ih =>
    show sumTo (z_up f i v) m + z_up f i v (m : Int) = _
    rw [ih]
    show _ = if i < ((m + 1 : Nat) : Int) then sumTo f m + f (m : Int) - f i + v else sumTo f m + f (m : Int)
    by_cases c : i < (m : Int)
    · rw [if_pos c, if_pos (by omega), z_up_n _ _ (by omega)]; omega
    · rw [if_neg c]
      by_cases d : i = (m : Int)
      · rw [if_pos (by omega), d, z_up_s]; omega
      · rw [if_neg (by omega), z_up_n _ _ (by omega)]
theorem sum_mono {f : Int → Int} {m : Nat} (h : ∀ j, 0 ≤ j → j < (m : Int) → 0 ≤ f j) : ∀ a : Nat, a ≤ m → sumTo f a ≤ sumTo f m := by
  intro a ha
  have : ∀ d : Nat, a + d ≤ m → sumTo f a ≤ sumTo f (a + d) := by
    intro d
    induction d with
    | zero => intro _; exact Int.le_refl _
    | succ d ih =>
      intro hd
      have := ih (by omega)
      have := h ((a + d : Nat) : Int) (by omega) (by omega)
      show sumTo f a ≤ sumTo f (a + d) + f ((a + d : Nat) : Int)
      omega
  have := this (m - a) (by omega)
  rw [show a + (m - a) = m from by omega] at this
  exact this
theorem sum_0 {f : Int → Int} : ∀ m : Nat, (∀ j, 0 ≤ j → j < (m : Int) → 0 ≤ f j) → 0 ≤ sumTo f m := by
  intro m
  induction m with
  | zero => intro _; exact Int.le_refl _
  | succ m ih =>
    intro h
    have := ih (fun j a b => h j a (by omega))
    have := h (m : Int) (by omega) (by omega)
    show 0 ≤ sumTo f m + f (m : Int)
    omega
theorem sum_one {f : Int → Int} {m : Nat} (h : ∀ j, 0 ≤ j → j < (m : Int) → 0 ≤ f j) {i : Int} (h0 : 0 ≤ i) (h1 : i < (m : Int)) : f i ≤ sumTo f m := by
  have a := sum_mono h (i.toNat + 1) (by omega)
  have b := sum_0 (f := f) i.toNat (fun j p q => h j p (by omega))
  have c : sumTo f (i.toNat + 1) = sumTo f i.toNat + f ((i.toNat : Nat) : Int) := rfl
  rw [Int.toNat_of_nonneg h0] at c
  omega
theorem sum_fill0 {V : Int → Int} : ∀ m : Nat, m ≤ 49 → sumTo (z_fill V 49 0) m = 0 := by
  intro m
  induction m with
  | zero => intro _; rfl
  | succ m ih =>
    intro h
    show sumTo _ m + z_fill V 49 0 (m : Int) = 0
    rw [ih (by omega), z_fill_in (by omega) (by omega)]; rfl
theorem sum_ext {f g : Int → Int} : ∀ m : Nat, (∀ j, 0 ≤ j → j < (m : Int) → f j = g j) → sumTo f m = sumTo g m := by
  intro m
  induction m with
  | zero => intro _; rfl
  | succ m ih =>
    intro h
    show sumTo f m + f (m : Int) = sumTo g m + g (m : Int)
    rw [ih (fun j a b => h j a (by omega)), h (m : Int) (by omega) (by omega)]
theorem cmp_0 {x : Int} : z_cmp x 0 = 0 ↔ x = 0 := by
  unfold z_cmp
  split
  · omega
  · split <;> omega
def popc (x : Int) : Int := bt x 0 + bt x 1 + bt x 2 + bt x 3 + bt x 4
theorem popc_r (x : Int) : 0 ≤ popc x ∧ popc x ≤ 5 := by
  unfold popc
  have a := bt01 x 0
  have b := bt01 x 1
  have c := bt01 x 2
  have d := bt01 x 3
  have e := bt01 x 4
  omega
def bcx (x : Int) : Int :=
  let z1 := x - z_and (z_ushr x 1) 1431655765
  let z2 := z_and z1 858993459 + z_and (z_ushr z1 2) 858993459
  let z3 := z_and (z2 + z_ushr z2 4) 252645135
  let z4 := z3 + z_ushr z3 8
  let z5 := z4 + z_ushr z4 16
  z_and z5 63
theorem bcx_e : ∀ x : Nat, x < 32 → bcx (x : Int) = popc (x : Int) := by decide +kernel
theorem bcx_z {x : Int} (h0 : 0 ≤ x) (h1 : x < 32) : bcx x = popc x := by
  have e := bcx_e x.toNat (by omega)
  rw [Int.toNat_of_nonneg h0] at e
  exact e
/-- who holds a bowl -/
noncomputable def hol (n k f q : Int) : Int := Classical.epsilon (fun p => (0 ≤ p ∧ p < n) ∧ plc n k f p = q)
theorem hol_eq {n k f p q : Int} (hn : 0 < n) (h0 : 0 ≤ p) (h1 : p < n) (h : plc n k f p = q) : p = hol n k f q := by
  have e : (0 ≤ hol n k f q ∧ hol n k f q < n) ∧ plc n k f (hol n k f q) = q := Classical.epsilon_spec (p := fun p => (0 ≤ p ∧ p < n) ∧ plc n k f p = q) ⟨p, ⟨h0, h1⟩, h⟩
  exact plc_inj hn h0 h1 e.1.1 e.1.2 (by rw [h, e.2])
theorem hol_rng {n k f q : Int} (hn : 0 < n) (h0 : 0 ≤ q) (h1 : q < n) : 0 ≤ hol n k f q ∧ hol n k f q < n := by
  obtain ⟨p, hp, e⟩ := plc_sur (n := n) (k := k) (f := f) hn h0 h1
  rw [← hol_eq hn hp.1 hp.2 e]
  exact hp
/-- what stir r brings of v from king k, bone b to k2, b2 -/
noncomputable def ltm (n : Int) (fr : Int → Int) (A : Int → Int → Int) (same v k b k2 b2 : Int) : Int → Int := fun r => if (hol n k (fr k) (A r b) = k2 ∧ A r b = b2) ∧ (k2 = k ∨ same = 0) then v else 0
theorem ltm_at {n same v k b k2 b2 r p h : Int} {fr : Int → Int} {A : Int → Int → Int} (e1 : p = A r b) (e2 : h = hol n k (fr k) p) : ltm n fr A same v k b k2 b2 r = if (h = k2 ∧ p = b2) ∧ (k2 = k ∨ same = 0) then v else 0 := by
  unfold ltm
  rw [← e1, ← e2]
theorem ltm_0 {n same k b k2 b2 : Int} {fr : Int → Int} {A : Int → Int → Int} : ∀ m : Nat, sumTo (ltm n fr A same 0 k b k2 b2) m = 0 := by
  intro m
  induction m with
  | zero => rfl
  | succ m ih =>
    show sumTo _ m + ltm n fr A same 0 k b k2 b2 (m : Int) = 0
    rw [ih]
    unfold ltm
    split <;> rfl
/-- rows of i stirs from king k0, bone b0 to k, b (same 1: with the same king all the way) -/
noncomputable def lck (n s : Int) (fr : Int → Int) (A : Int → Int → Int) (same k0 b0 : Int) : Nat → Int → Int → Int
  | 0, k, b => if k = k0 ∧ b = b0 then 1 else 0
  | i + 1, k2, b2 => sumTo (fun k => sumTo (fun b => sumTo (ltm n fr A same (lck n s fr A same k0 b0 i k b) k b k2 b2) s.toNat) n.toNat) n.toNat
set_option maxHeartbeats 1000000 in
theorem s_X5_bitOf (x0 : Int) (x1 : Int) (h1 : 0 ≤ x0) (h2 : x0 < 7) (h3 : 0 ≤ x1) (h4 : x1 < 7) : wp (f_X5_bitOf x0 x1) (fun o => (o = w_shl 1 (x0 * 7 + x1))) := by
  unfold f_X5_bitOf
  refine wp_some ?_
  try dsimp only
  all_goals exact (by rfl) /- post1#1 -/

set_option maxHeartbeats 1000000 in
theorem s_X5_pairsOfKing (i_p0_kitchen_rules_seats : Int) (x1 : Int) (h1 : 2 ≤ i_p0_kitchen_rules_seats) (h2 : i_p0_kitchen_rules_seats ≤ 7) (h3 : 0 ≤ x1) (h4 : x1 < i_p0_kitchen_rules_seats) : wp (f_X5_pairsOfKing i_p0_kitchen_rules_seats x1) (fun o => True) := by
  unfold f_X5_pairsOfKing
  refine wp_bnd ?_
  refine wp_bnd ?_
  refine wp_lq2 (fun (z3 : Int) (z4 : Int) => (0 ≤ z3) ∧ (z3 ≤ i_p0_kitchen_rules_seats)) (fun (z3 : Int) (z4 : Int) => (i_p0_kitchen_rules_seats - z3).toNat) (fun again5 z3 z4 hI ih_B_X5_pairsOfKing_5 => ?_) 1000 _ _ ⟨(by omega) /- B_X5_pairsOfKing_5.init1#1 -/, (by omega) /- B_X5_pairsOfKing_5.init2#1 -/⟩ (by omega) /- B_X5_pairsOfKing_5.fuel#1 -/
  obtain ⟨i_B_X5_pairsOfKing_5_1, i_B_X5_pairsOfKing_5_2⟩ := hI
  unfold B_X5_pairsOfKing_5
  refine wp_ck (z_r32_i.mpr ⟨(by omega) /- z_r32.lo z3#1 -/, (by omega) /- z_r32.hi z3#1 -/⟩) ?_
  refine wp_ck (z_r32_i.mpr ⟨(by omega) /- z_r32.lo i_p0_kitchen_rules_seats#1 -/, (by omega) /- z_r32.hi i_p0_kitchen_rules_seats#1 -/⟩) ?_
  refine wp_if (fun c1 => ?_) (fun c1 => ?_)
  ·
    exact wp_some trivial
  ·
    refine wp_bd1 (s_X5_bitOf _ _ (by omega) /- pre X5_bitOf.1#1 -/ (by omega) /- pre X5_bitOf.2#1 -/ (by omega) /- pre X5_bitOf.3#1 -/ (by omega) /- pre X5_bitOf.4#1 -/) (fun z8 q_X5_bitOf_1 => ?_)
    try dsimp only at q_X5_bitOf_1
    refine wp_bndE (fun z9 hz9 => ?_)
    refine wp_bndE (fun z10 hz10 => ?_)
    exact ih_B_X5_pairsOfKing_5 _ _ ⟨(by omega) /- B_X5_pairsOfKing_5.inv1#1 -/, (by omega) /- B_X5_pairsOfKing_5.inv2#1 -/⟩ (by omega) /- B_X5_pairsOfKing_5.dec#1 -/

set_option maxHeartbeats 1000000 in
theorem s_X5_allPairs (i_p0_kitchen_rules_seats : Int) (h1 : 2 ≤ i_p0_kitchen_rules_seats) (h2 : i_p0_kitchen_rules_seats ≤ 7) : wp (f_X5_allPairs i_p0_kitchen_rules_seats) (fun o => True) := by
  unfold f_X5_allPairs
  refine wp_bnd ?_
  refine wp_bnd ?_
  refine wp_lq2 (fun (z3 : Int) (z4 : Int) => (0 ≤ z3) ∧ (z3 ≤ i_p0_kitchen_rules_seats)) (fun (z3 : Int) (z4 : Int) => (i_p0_kitchen_rules_seats - z3).toNat) (fun again4 z3 z4 hI ih_B_X5_allPairs_4 => ?_) 1000 _ _ ⟨(by omega) /- B_X5_allPairs_4.init1#1 -/, (by omega) /- B_X5_allPairs_4.init2#1 -/⟩ (by omega) /- B_X5_allPairs_4.fuel#1 -/
  obtain ⟨i_B_X5_allPairs_4_1, i_B_X5_allPairs_4_2⟩ := hI
  unfold B_X5_allPairs_4
  refine wp_ck (z_r32_i.mpr ⟨(by omega) /- z_r32.lo z3#1 -/, (by omega) /- z_r32.hi z3#1 -/⟩) ?_
  refine wp_ck (z_r32_i.mpr ⟨(by omega) /- z_r32.lo i_p0_kitchen_rules_seats#1 -/, (by omega) /- z_r32.hi i_p0_kitchen_rules_seats#1 -/⟩) ?_
  refine wp_if (fun c1 => ?_) (fun c1 => ?_)
  ·
    exact wp_some trivial
  ·
    refine wp_bd1 (s_X5_pairsOfKing _ _ (by omega) /- pre X5_pairsOfKing.1#1 -/ (by omega) /- pre X5_pairsOfKing.2#1 -/ (by omega) /- pre X5_pairsOfKing.3#1 -/ (by omega) /- pre X5_pairsOfKing.4#1 -/) (fun z8 q_X5_pairsOfKing_1 => ?_)
    refine wp_bndE (fun z9 hz9 => ?_)
    refine wp_bndE (fun z10 hz10 => ?_)
    exact ih_B_X5_allPairs_4 _ _ ⟨(by omega) /- B_X5_allPairs_4.inv1#1 -/, (by omega) /- B_X5_allPairs_4.inv2#1 -/⟩ (by omega) /- B_X5_allPairs_4.dec#1 -/

set_option maxHeartbeats 1000000 in
theorem s_X5_firstStirInto (i_p0_kitchen_rules_stirs : Int) (v_p0_kitchen_rules_after : (Int → Int)) (v_p0_kitchen_holders : (Int → Int)) (x1 : Int) (x3 : Int) (x4 : Int) (x5 : Int) (v_fr : Int → Int) (n : Int) (h1 : 2 ≤ n) (h2 : n ≤ 7) (h3 : 0 ≤ i_p0_kitchen_rules_stirs) (h4 : i_p0_kitchen_rules_stirs ≤ 5) (h5 : rows n i_p0_kitchen_rules_stirs v_p0_kitchen_rules_after) (h6 : servH n v_fr v_p0_kitchen_holders) (h7 : 0 ≤ x3) (h8 : x3 < n) (h9 : 0 ≤ x4) (h10 : x4 < n) (h11 : -2147483648 ≤ x5) (h12 : x5 < 2147483648) : wp (f_X5_firstStirInto i_p0_kitchen_rules_stirs v_p0_kitchen_rules_after v_p0_kitchen_holders x1 x3 x4 x5) (fun o => (o = -4 ∨ (0 ≤ o ∧ o < i_p0_kitchen_rules_stirs))) := by
  unfold f_X5_firstStirInto
  refine wp_bnd ?_
  refine wp_lq1 (fun (z2 : Int) => (0 ≤ z2) ∧ (z2 ≤ i_p0_kitchen_rules_stirs)) (fun (z2 : Int) => (i_p0_kitchen_rules_stirs - z2).toNat) (fun again3 z2 hI ih_B_X5_firstStirInto_3 => ?_) 1000 _ ⟨(by omega) /- B_X5_firstStirInto_3.init1#1 -/, (by omega) /- B_X5_firstStirInto_3.init2#1 -/⟩ (by omega) /- B_X5_firstStirInto_3.fuel#1 -/
  obtain ⟨i_B_X5_firstStirInto_3_1, i_B_X5_firstStirInto_3_2⟩ := hI
  unfold B_X5_firstStirInto_3
  refine wp_ck (z_r32_i.mpr ⟨(by omega) /- z_r32.lo z2#1 -/, (by omega) /- z_r32.hi z2#1 -/⟩) ?_
  refine wp_ck (z_r32_i.mpr ⟨(by omega) /- z_r32.lo i_p0_kitchen_rules_stirs#1 -/, (by omega) /- z_r32.hi i_p0_kitchen_rules_stirs#1 -/⟩) ?_
  refine wp_if (fun c1 => ?_) (fun c1 => ?_)
  ·
    refine wp_some ?_
    try dsimp only
    all_goals exact (by omega) /- post1#1 -/
  ·
    refine wp_bd1 (s_X6_placeAfter _ _ _ (by omega) /- pre X6_placeAfter.1#1 -/ (by omega) /- pre X6_placeAfter.2#1 -/ (by omega) /- pre X6_placeAfter.3#1 -/ (by omega) /- pre X6_placeAfter.4#1 -/) (fun z6 q_X6_placeAfter_1 => ?_)
    try dsimp only at q_X6_placeAfter_1
    have hra := row_use h5 i_B_X5_firstStirInto_3_1 (by omega) h9 h10
    rw [← q_X6_placeAfter_1] at hra
    refine wp_bnd ?_
    refine wp_bd1 (s_X2_holderOf _ _ _ (by omega) /- pre X2_holderOf.1#1 -/ (by omega) /- pre X2_holderOf.2#1 -/ (by omega) /- pre X2_holderOf.3#1 -/ (by omega) /- pre X2_holderOf.4#1 -/) (fun z8 q_X2_holderOf_1 => ?_)
    try dsimp only at q_X2_holderOf_1
    have hho := (hold_use h6 (by omega) h7 h8 hra.1 hra.2).1
    rw [← q_X2_holderOf_1] at hho
    refine wp_bnd ?_
    refine wp_ck (z_r32_i.mpr ⟨(by omega) /- z_r32.lo z9#1 -/, (by omega) /- z_r32.hi z9#1 -/⟩) ?_
    refine wp_ck (z_r32_i.mpr ⟨(by omega) /- z_r32.lo x3#1 -/, (by omega) /- z_r32.hi x3#1 -/⟩) ?_
    refine wp_jn ?_
    refine wp_if (fun c2 => ?_) (fun c2 => ?_)
    ·
      refine wp_bd1 (s_X5_bitOf _ _ (by omega) /- pre X5_bitOf.1#1 -/ (by omega) /- pre X5_bitOf.2#1 -/ (by omega) /- pre X5_bitOf.3#1 -/ (by omega) /- pre X5_bitOf.4#1 -/) (fun z13 q_X5_bitOf_1 => ?_)
      try dsimp only at q_X5_bitOf_1
      refine wp_ck (z_r64_t _) ?_
      refine wp_ck (z_r32_cmp _ _) ?_
      refine wp_if (fun c3 => ?_) (fun c3 => ?_)
      ·
        refine wp_bndE (fun z16 hz16 => ?_)
        exact ih_B_X5_firstStirInto_3 _ ⟨(by omega) /- B_X5_firstStirInto_3.inv1#1 -/, (by omega) /- B_X5_firstStirInto_3.inv2#1 -/⟩ (by omega) /- B_X5_firstStirInto_3.dec#1 -/
      ·
        refine wp_some ?_
        try dsimp only
        all_goals exact (by omega) /- post1#2 -/
    ·
      refine wp_ck (z_r32_i.mpr ⟨(by omega) /- z_r32.lo x5#1 -/, (by omega) /- z_r32.hi x5#1 -/⟩) ?_
      refine wp_if (fun c4 => ?_) (fun c4 => ?_)
      ·
        refine wp_bd1 (s_X5_bitOf _ _ (by omega) /- pre X5_bitOf.1#2 -/ (by omega) /- pre X5_bitOf.2#2 -/ (by omega) /- pre X5_bitOf.3#2 -/ (by omega) /- pre X5_bitOf.4#2 -/) (fun z13 q_X5_bitOf_2 => ?_)
        try dsimp only at q_X5_bitOf_2
        refine wp_ck (z_r64_t _) ?_
        refine wp_ck (z_r32_cmp _ _) ?_
        refine wp_if (fun c5 => ?_) (fun c5 => ?_)
        ·
          refine wp_bndE (fun z16 hz16 => ?_)
          exact ih_B_X5_firstStirInto_3 _ ⟨(by omega) /- B_X5_firstStirInto_3.inv1#2 -/, (by omega) /- B_X5_firstStirInto_3.inv2#2 -/⟩ (by omega) /- B_X5_firstStirInto_3.dec#2 -/
        ·
          refine wp_some ?_
          try dsimp only
          all_goals exact (by omega) /- post1#3 -/
      ·
        refine wp_bndE (fun z18 hz18 => ?_)
        exact ih_B_X5_firstStirInto_3 _ ⟨(by omega) /- B_X5_firstStirInto_3.inv1#3 -/, (by omega) /- B_X5_firstStirInto_3.inv2#3 -/⟩ (by omega) /- B_X5_firstStirInto_3.dec#3 -/

set_option maxHeartbeats 1000000 in
theorem s_X5_pairsBefore (i_p0_kitchen_rules_seats : Int) (i_p0_kitchen_rules_stirs : Int) (v_p0_kitchen_rules_after : (Int → Int)) (v_p0_kitchen_holders : (Int → Int)) (x1 : Int) (x3 : Int) (v_fr : Int → Int) (h1 : 2 ≤ i_p0_kitchen_rules_seats) (h2 : i_p0_kitchen_rules_seats ≤ 7) (h3 : 0 ≤ i_p0_kitchen_rules_stirs) (h4 : i_p0_kitchen_rules_stirs ≤ 5) (h5 : rows i_p0_kitchen_rules_seats i_p0_kitchen_rules_stirs v_p0_kitchen_rules_after) (h6 : servH i_p0_kitchen_rules_seats v_fr v_p0_kitchen_holders) (h7 : -2147483648 ≤ x3) (h8 : x3 < 2147483648) : wp (f_X5_pairsBefore i_p0_kitchen_rules_seats i_p0_kitchen_rules_stirs v_p0_kitchen_rules_after v_p0_kitchen_holders x1 x3) (fun o => True) := by
  unfold f_X5_pairsBefore
  refine wp_bnd ?_
  refine wp_bnd ?_
  refine wp_lq2 (fun (z3 : Int) (z4 : Int) => (0 ≤ z3) ∧ (z3 ≤ i_p0_kitchen_rules_seats)) (fun (z3 : Int) (z4 : Int) => (i_p0_kitchen_rules_seats - z3).toNat) (fun again6 z3 z4 hI ih_B_X5_pairsBefore_6 => ?_) 1000 _ _ ⟨(by omega) /- B_X5_pairsBefore_6.init1#1 -/, (by omega) /- B_X5_pairsBefore_6.init2#1 -/⟩ (by omega) /- B_X5_pairsBefore_6.fuel#1 -/
  obtain ⟨i_B_X5_pairsBefore_6_1, i_B_X5_pairsBefore_6_2⟩ := hI
  unfold B_X5_pairsBefore_6
  refine wp_ck (z_r32_i.mpr ⟨(by omega) /- z_r32.lo z3#1 -/, (by omega) /- z_r32.hi z3#1 -/⟩) ?_
  refine wp_ck (z_r32_i.mpr ⟨(by omega) /- z_r32.lo i_p0_kitchen_rules_seats#1 -/, (by omega) /- z_r32.hi i_p0_kitchen_rules_seats#1 -/⟩) ?_
  refine wp_if (fun c1 => ?_) (fun c1 => ?_)
  ·
    exact wp_some trivial
  ·
    refine wp_bnd ?_
    refine wp_lq2 (fun (z9 : Int) (z10 : Int) => (0 ≤ z9) ∧ (z9 ≤ i_p0_kitchen_rules_seats)) (fun (z9 : Int) (z10 : Int) => (i_p0_kitchen_rules_seats - z9).toNat) (fun again24 z9 z10 hI ih_B_X5_pairsBefore_24 => ?_) 1000 _ _ ⟨(by omega) /- B_X5_pairsBefore_24.init1#1 -/, (by omega) /- B_X5_pairsBefore_24.init2#1 -/⟩ (by omega) /- B_X5_pairsBefore_24.fuel#1 -/
    obtain ⟨i_B_X5_pairsBefore_24_1, i_B_X5_pairsBefore_24_2⟩ := hI
    unfold B_X5_pairsBefore_24
    refine wp_ck (z_r32_i.mpr ⟨(by omega) /- z_r32.lo z9#1 -/, (by omega) /- z_r32.hi z9#1 -/⟩) ?_
    refine wp_if (fun c2 => ?_) (fun c2 => ?_)
    ·
      refine wp_bndE (fun z13 hz13 => ?_)
      exact ih_B_X5_pairsBefore_6 _ _ ⟨(by omega) /- B_X5_pairsBefore_6.inv1#1 -/, (by omega) /- B_X5_pairsBefore_6.inv2#1 -/⟩ (by omega) /- B_X5_pairsBefore_6.dec#1 -/
    ·
      refine wp_bd1 (s_X5_firstStirInto _ _ _ _ _ _ _ v_fr i_p0_kitchen_rules_seats (by omega) /- pre X5_firstStirInto.1#1 -/ (by omega) /- pre X5_firstStirInto.2#1 -/ (by omega) /- pre X5_firstStirInto.3#1 -/ (by omega) /- pre X5_firstStirInto.4#1 -/ (by exact h5) /- pre X5_firstStirInto.5#1 -/ (by exact h6) /- pre X5_firstStirInto.6#1 -/ (by omega) /- pre X5_firstStirInto.7#1 -/ (by omega) /- pre X5_firstStirInto.8#1 -/ (by omega) /- pre X5_firstStirInto.9#1 -/ (by omega) /- pre X5_firstStirInto.10#1 -/ (by omega) /- pre X5_firstStirInto.11#1 -/ (by omega) /- pre X5_firstStirInto.12#1 -/) (fun z14 q_X5_firstStirInto_1 => ?_)
      try dsimp only at q_X5_firstStirInto_1
      refine wp_ck (z_r32_i.mpr ⟨(by omega) /- z_r32.lo z14#1 -/, (by omega) /- z_r32.hi z14#1 -/⟩) ?_
      refine wp_if (fun c3 => ?_) (fun c3 => ?_)
      ·
        refine wp_bndE (fun z16 hz16 => ?_)
        exact ih_B_X5_pairsBefore_24 _ _ ⟨(by omega) /- B_X5_pairsBefore_24.inv1#1 -/, (by omega) /- B_X5_pairsBefore_24.inv2#1 -/⟩ (by omega) /- B_X5_pairsBefore_24.dec#1 -/
      ·
        refine wp_bd1 (s_X5_bitOf _ _ (by omega) /- pre X5_bitOf.1#1 -/ (by omega) /- pre X5_bitOf.2#1 -/ (by omega) /- pre X5_bitOf.3#1 -/ (by omega) /- pre X5_bitOf.4#1 -/) (fun z17 q_X5_bitOf_1 => ?_)
        try dsimp only at q_X5_bitOf_1
        refine wp_bndE (fun z18 hz18 => ?_)
        refine wp_bndE (fun z19 hz19 => ?_)
        exact ih_B_X5_pairsBefore_24 _ _ ⟨(by omega) /- B_X5_pairsBefore_24.inv1#2 -/, (by omega) /- B_X5_pairsBefore_24.inv2#2 -/⟩ (by omega) /- B_X5_pairsBefore_24.dec#2 -/

set_option maxHeartbeats 1000000 in
theorem s_X5_isGoodNow (i_p0_kitchen_state_bone : Int) (i_p0_kitchen_state_king : Int) (v_p0_good : (Int → Int)) (x1 : Int) (h1 : 0 ≤ i_p0_kitchen_state_bone) (h2 : i_p0_kitchen_state_bone < 7) (h3 : 0 ≤ i_p0_kitchen_state_king) (h4 : i_p0_kitchen_state_king < 7) (h5 : 0 ≤ x1) (h6 : x1 < 11) : wp (f_X5_isGoodNow i_p0_kitchen_state_bone i_p0_kitchen_state_king v_p0_good x1) (fun o => (o = 0 ∨ o = 1)) := by
  unfold f_X5_isGoodNow
  refine wp_ck (z_ix_i.mpr ⟨⟨(by omega) /- ix.lo x1#1 -/, (by omega) /- ix.hi x1#1 -/⟩, (by omega) /- ix.big x1#1 -/⟩) ?_
  refine wp_bd1 (s_X5_bitOf _ _ (by omega) /- pre X5_bitOf.1#1 -/ (by omega) /- pre X5_bitOf.2#1 -/ (by omega) /- pre X5_bitOf.3#1 -/ (by omega) /- pre X5_bitOf.4#1 -/) (fun z1 q_X5_bitOf_1 => ?_)
  try dsimp only at q_X5_bitOf_1
  refine wp_ck (z_r64_t _) ?_
  refine wp_ck (z_r32_cmp _ _) ?_
  refine wp_if (fun c1 => ?_) (fun c1 => ?_)
  ·
    refine wp_some ?_
    try dsimp only
    all_goals exact (by omega) /- post1#1 -/
  ·
    refine wp_some ?_
    try dsimp only
    all_goals exact (by omega) /- post1#2 -/

set_option maxHeartbeats 1000000 in
theorem s_X5_tellRow (i_p0_kitchen_rules_stirs : Int) (v_p0_kitchen_rules_after : (Int → Int)) (i_p0_kitchen_state_bone : Int) (i_p0_kitchen_state_king : Int) (v_p0_kitchen_holders : (Int → Int)) (v_p0_good : (Int → Int)) (v_p0_row : (Int → Int)) (x1 : Int) (x2 : Int) (v_fr : Int → Int) (n : Int) (h1 : 2 ≤ n) (h2 : n ≤ 7) (h3 : 0 ≤ i_p0_kitchen_rules_stirs) (h4 : i_p0_kitchen_rules_stirs ≤ 5) (h5 : rows n i_p0_kitchen_rules_stirs v_p0_kitchen_rules_after) (h6 : servH n v_fr v_p0_kitchen_holders) (h7 : 0 ≤ i_p0_kitchen_state_bone) (h8 : i_p0_kitchen_state_bone < n) (h9 : 0 ≤ i_p0_kitchen_state_king) (h10 : i_p0_kitchen_state_king < n) (h11 : 0 ≤ x1) (h12 : x1 ≤ 10) (h13 : -2147483648 ≤ x2) (h14 : x2 < 2147483648) : wp (f_X5_tellRow i_p0_kitchen_rules_stirs v_p0_kitchen_rules_after i_p0_kitchen_state_bone i_p0_kitchen_state_king v_p0_kitchen_holders v_p0_good v_p0_row x1 x2) (fun o => (∀ j, 0 ≤ j → j < 10 → (-4 ≤ v_p0_row j ∧ v_p0_row j < 5) → -4 ≤ o j ∧ o j < 5)) := by
  unfold f_X5_tellRow
  refine wp_bnd ?_
  refine wp_bnd ?_
  refine wp_bnd ?_
  refine wp_lq4 (fun (z4 : Int) (z5 : Int) (z6 : Int) (w7 : (Int → Int)) => (0 ≤ z4) ∧ (z4 ≤ x1) ∧ (0 ≤ z5 ∧ z5 < n) ∧ (0 ≤ z6 ∧ z6 < n) ∧ (∀ j, 0 ≤ j → j < 10 → (-4 ≤ v_p0_row j ∧ v_p0_row j < 5) → -4 ≤ w7 j ∧ w7 j < 5)) (fun (z4 : Int) (z5 : Int) (z6 : Int) (w7 : (Int → Int)) => (x1 - z4).toNat) (fun again26 z4 z5 z6 w7 hI ih_B_X5_tellRow_26 => ?_) 1000 _ _ _ _ ⟨(by omega) /- B_X5_tellRow_26.init1#1 -/, (by omega) /- B_X5_tellRow_26.init2#1 -/, (by omega) /- B_X5_tellRow_26.init3#1 -/, (by omega) /- B_X5_tellRow_26.init4#1 -/, (by intro j _ _ h; exact h) /- B_X5_tellRow_26.init5#1 -/⟩ (by omega) /- B_X5_tellRow_26.fuel#1 -/
  obtain ⟨i_B_X5_tellRow_26_1, i_B_X5_tellRow_26_2, i_B_X5_tellRow_26_3, i_B_X5_tellRow_26_4, i_B_X5_tellRow_26_5⟩ := hI
  unfold B_X5_tellRow_26
  refine wp_ck (z_r32_i.mpr ⟨(by omega) /- z_r32.lo z4#1 -/, (by omega) /- z_r32.hi z4#1 -/⟩) ?_
  refine wp_ck (z_r32_i.mpr ⟨(by omega) /- z_r32.lo x1#1 -/, (by omega) /- z_r32.hi x1#1 -/⟩) ?_
  refine wp_if (fun c1 => ?_) (fun c1 => ?_)
  ·
    refine wp_some ?_
    try dsimp only
    all_goals exact (by exact i_B_X5_tellRow_26_5) /- post1#1 -/
  ·
    refine wp_ck (z_ix_i.mpr ⟨⟨(by omega) /- ix.lo ((x1 - (1 : Int)) - z4)#1 -/, (by omega) /- ix.hi ((x1 - (1 : Int)) - z4)#1 -/⟩, (by omega) /- ix.big ((x1 - (1 : Int)) - z4)#1 -/⟩) ?_
    refine wp_bd1 (s_X5_firstStirInto _ _ _ _ _ _ _ v_fr n (by omega) /- pre X5_firstStirInto.1#1 -/ (by omega) /- pre X5_firstStirInto.2#1 -/ (by omega) /- pre X5_firstStirInto.3#1 -/ (by omega) /- pre X5_firstStirInto.4#1 -/ (by exact h5) /- pre X5_firstStirInto.5#1 -/ (by exact h6) /- pre X5_firstStirInto.6#1 -/ (by omega) /- pre X5_firstStirInto.7#1 -/ (by omega) /- pre X5_firstStirInto.8#1 -/ (by omega) /- pre X5_firstStirInto.9#1 -/ (by omega) /- pre X5_firstStirInto.10#1 -/ (by omega) /- pre X5_firstStirInto.11#1 -/ (by omega) /- pre X5_firstStirInto.12#1 -/) (fun z11 q_X5_firstStirInto_1 => ?_)
    try dsimp only at q_X5_firstStirInto_1
    refine wp_bnd ?_
    refine wp_bd1 (s_X6_hasStir _ _ (by omega) /- pre X6_hasStir.1#1 -/ (by omega) /- pre X6_hasStir.2#1 -/ (by omega) /- pre X6_hasStir.3#1 -/ (by omega) /- pre X6_hasStir.4#1 -/) (fun z13 q_X6_hasStir_1 => ?_)
    try dsimp only at q_X6_hasStir_1
    refine wp_ck (z_r32_i.mpr ⟨(by omega) /- z_r32.lo z13#1 -/, (by omega) /- z_r32.hi z13#1 -/⟩) ?_
    refine wp_if (fun c2 => ?_) (fun c2 => ?_)
    ·
      refine wp_some ?_
      try dsimp only
      all_goals exact (by exact i_B_X5_tellRow_26_5) /- post1#2 -/
    ·
      refine wp_ck (z_ix_i.mpr ⟨⟨(by omega) /- ix.lo z4#1 -/, (by omega) /- ix.hi z4#1 -/⟩, (by omega) /- ix.big z4#1 -/⟩) ?_
      refine wp_bnd ?_
      have hst : 0 ≤ z11 ∧ z11 < i_p0_kitchen_rules_stirs := by split at q_X6_hasStir_1 <;> omega
      clear q_X6_hasStir_1
      refine wp_bd1 (s_X6_placeAfter _ _ _ (by omega) /- pre X6_placeAfter.1#1 -/ (by omega) /- pre X6_placeAfter.2#1 -/ (by omega) /- pre X6_placeAfter.3#1 -/ (by omega) /- pre X6_placeAfter.4#1 -/) (fun z16 q_X6_placeAfter_1 => ?_)
      try dsimp only at q_X6_placeAfter_1
      have hra := row_use h5 hst.1 hst.2 i_B_X5_tellRow_26_3.1 i_B_X5_tellRow_26_3.2
      rw [← q_X6_placeAfter_1] at hra
      refine wp_bnd ?_
      refine wp_bd1 (s_X2_holderOf _ _ _ (by omega) /- pre X2_holderOf.1#1 -/ (by omega) /- pre X2_holderOf.2#1 -/ (by omega) /- pre X2_holderOf.3#1 -/ (by omega) /- pre X2_holderOf.4#1 -/) (fun z18 q_X2_holderOf_1 => ?_)
      try dsimp only at q_X2_holderOf_1
      have hho := (hold_use h6 (by omega) i_B_X5_tellRow_26_4.1 i_B_X5_tellRow_26_4.2 hra.1 hra.2).1
      rw [← q_X2_holderOf_1] at hho
      refine wp_bnd ?_
      refine wp_bndE (fun z20 hz20 => ?_)
      exact ih_B_X5_tellRow_26 _ _ _ _ ⟨(by omega) /- B_X5_tellRow_26.inv1#1 -/, (by omega) /- B_X5_tellRow_26.inv2#1 -/, (by omega) /- B_X5_tellRow_26.inv3#1 -/, (by omega) /- B_X5_tellRow_26.inv4#1 -/, (by intro j a b c; rw [z_up_a]; split; omega; exact i_B_X5_tellRow_26_5 j a b c) /- B_X5_tellRow_26.inv5#1 -/⟩ (by omega) /- B_X5_tellRow_26.dec#1 -/

set_option maxHeartbeats 1000000 in
theorem s_X5_planReign (i_p0_kitchen_rules_seats : Int) (i_p0_kitchen_rules_stirs : Int) (v_p0_kitchen_rules_after : (Int → Int)) (i_p0_kitchen_state_bone : Int) (i_p0_kitchen_state_king : Int) (v_p0_kitchen_state_friends : (Int → Int)) (v_p0_kitchen_places : (Int → Int)) (v_p0_kitchen_holders : (Int → Int)) (v_p0_good : (Int → Int)) (v_p0_row : (Int → Int)) (x1 : Int) (h1 : 2 ≤ i_p0_kitchen_rules_seats) (h2 : i_p0_kitchen_rules_seats ≤ 7) (h3 : 0 ≤ i_p0_kitchen_rules_stirs) (h4 : i_p0_kitchen_rules_stirs ≤ 5) (h5 : rows i_p0_kitchen_rules_seats i_p0_kitchen_rules_stirs v_p0_kitchen_rules_after) (h6 : 0 ≤ i_p0_kitchen_state_bone) (h7 : i_p0_kitchen_state_bone < i_p0_kitchen_rules_seats) (h8 : 0 ≤ i_p0_kitchen_state_king) (h9 : i_p0_kitchen_state_king < i_p0_kitchen_rules_seats) (h10 : 1 ≤ x1) (h11 : x1 ≤ 10) (h12 : ∀ j, 0 ≤ j → j < 10 → -4 ≤ v_p0_row j ∧ v_p0_row j < 5) : wp (f_X5_planReign i_p0_kitchen_rules_seats i_p0_kitchen_rules_stirs v_p0_kitchen_rules_after i_p0_kitchen_state_bone i_p0_kitchen_state_king v_p0_kitchen_state_friends v_p0_kitchen_places v_p0_kitchen_holders v_p0_good v_p0_row x1) (fun o => (0 ≤ o.1 ∧ o.1 ≤ 10) ∧ (∀ j, 0 ≤ j → j < 10 → -4 ≤ o.2.2.2.2 j ∧ o.2.2.2.2 j < 5)) := by
  unfold f_X5_planReign
  refine wp_bd2 (s_X2_serveAllKings _ _ _ _ (by omega) /- pre X2_serveAllKings.1#1 -/ (by omega) /- pre X2_serveAllKings.2#1 -/) (fun w1 w2 q_X2_serveAllKings_1 => ?_)
  try dsimp only at q_X2_serveAllKings_1
  obtain ⟨q_X2_serveAllKings_1_1, q_X2_serveAllKings_1_2⟩ := q_X2_serveAllKings_1
  refine wp_bd1 (s_X5_allPairs _ (by omega) /- pre X5_allPairs.1#1 -/ (by omega) /- pre X5_allPairs.2#1 -/) (fun z3 q_X5_allPairs_1 => ?_)
  refine wp_ck (z_ix_i.mpr ⟨⟨(by omega) /- ix.lo (0 : Int)#1 -/, (by omega) /- ix.hi (0 : Int)#1 -/⟩, (by omega) /- ix.big (0 : Int)#1 -/⟩) ?_
  refine wp_bnd ?_
  refine wp_bnd ?_
  refine wp_bnd ?_
  refine wp_jn ?_
  refine wp_lq3 (fun (z11 : Int) (z12 : Int) (w13 : (Int → Int)) => (1 ≤ z11) ∧ (z11 ≤ x1 + 1) ∧ (0 ≤ z12) ∧ (z12 ≤ x1)) (fun (z11 : Int) (z12 : Int) (w13 : (Int → Int)) => (x1 + 1 - z11).toNat) (fun again21 z11 z12 w13 hI ih_B_X5_planReign_21 => ?_) 1000 _ _ _ ⟨(by omega) /- B_X5_planReign_21.init1#1 -/, (by omega) /- B_X5_planReign_21.init2#1 -/, (by omega) /- B_X5_planReign_21.init3#1 -/, (by omega) /- B_X5_planReign_21.init4#1 -/⟩ (by omega) /- B_X5_planReign_21.fuel#1 -/
  obtain ⟨i_B_X5_planReign_21_1, i_B_X5_planReign_21_2, i_B_X5_planReign_21_3, i_B_X5_planReign_21_4⟩ := hI
  unfold B_X5_planReign_21
  refine wp_ck (z_r32_i.mpr ⟨(by omega) /- z_r32.lo z11#1 -/, (by omega) /- z_r32.hi z11#1 -/⟩) ?_
  refine wp_ck (z_r32_i.mpr ⟨(by omega) /- z_r32.lo x1#1 -/, (by omega) /- z_r32.hi x1#1 -/⟩) ?_
  refine wp_if (fun c1 => ?_) (fun c1 => ?_)
  ·
    refine wp_bd1 (s_X5_tellRow _ _ _ _ _ _ _ _ _ v_p0_kitchen_state_friends i_p0_kitchen_rules_seats (by omega) /- pre X5_tellRow.1#1 -/ (by omega) /- pre X5_tellRow.2#1 -/ (by omega) /- pre X5_tellRow.3#1 -/ (by omega) /- pre X5_tellRow.4#1 -/ (by exact h5) /- pre X5_tellRow.5#1 -/ (by exact q_X2_serveAllKings_1_2) /- pre X5_tellRow.6#1 -/ (by omega) /- pre X5_tellRow.7#1 -/ (by omega) /- pre X5_tellRow.8#1 -/ (by omega) /- pre X5_tellRow.9#1 -/ (by omega) /- pre X5_tellRow.10#1 -/ (by omega) /- pre X5_tellRow.11#1 -/ (by omega) /- pre X5_tellRow.12#1 -/ (by omega) /- pre X5_tellRow.13#1 -/ (by omega) /- pre X5_tellRow.14#1 -/) (fun w10 q_X5_tellRow_1 => ?_)
    try dsimp only at q_X5_tellRow_1
    refine wp_some ?_
    try dsimp only
    all_goals exact ⟨(by omega) /- post1#1 -/, (by intro j a b; exact q_X5_tellRow_1 j a b (h12 j a b)) /- post2#1 -/⟩
  ·
    refine wp_ck (z_ix_i.mpr ⟨⟨(by omega) /- ix.lo (z11 - (1 : Int))#1 -/, (by omega) /- ix.hi (z11 - (1 : Int))#1 -/⟩, (by omega) /- ix.big (z11 - (1 : Int))#1 -/⟩) ?_
    refine wp_bd1 (s_X5_pairsBefore _ _ _ _ _ _ v_p0_kitchen_state_friends (by omega) /- pre X5_pairsBefore.1#1 -/ (by omega) /- pre X5_pairsBefore.2#1 -/ (by omega) /- pre X5_pairsBefore.3#1 -/ (by omega) /- pre X5_pairsBefore.4#1 -/ (by exact h5) /- pre X5_pairsBefore.5#1 -/ (by exact q_X2_serveAllKings_1_2) /- pre X5_pairsBefore.6#1 -/ (by omega) /- pre X5_pairsBefore.7#1 -/ (by omega) /- pre X5_pairsBefore.8#1 -/) (fun z17 q_X5_pairsBefore_1 => ?_)
    refine wp_ck (z_ix_i.mpr ⟨⟨(by omega) /- ix.lo z11#1 -/, (by omega) /- ix.hi z11#1 -/⟩, (by omega) /- ix.big z11#1 -/⟩) ?_
    refine wp_bnd ?_
    refine wp_bd1 (s_X5_isGoodNow _ _ _ _ (by omega) /- pre X5_isGoodNow.1#1 -/ (by omega) /- pre X5_isGoodNow.2#1 -/ (by omega) /- pre X5_isGoodNow.3#1 -/ (by omega) /- pre X5_isGoodNow.4#1 -/ (by omega) /- pre X5_isGoodNow.5#1 -/ (by omega) /- pre X5_isGoodNow.6#1 -/) (fun z19 q_X5_isGoodNow_1 => ?_)
    try dsimp only at q_X5_isGoodNow_1
    refine wp_ck (z_r32_i.mpr ⟨(by omega) /- z_r32.lo z19#1 -/, (by omega) /- z_r32.hi z19#1 -/⟩) ?_
    refine wp_if (fun c2 => ?_) (fun c2 => ?_)
    ·
      refine wp_bndE (fun z21 hz21 => ?_)
      exact ih_B_X5_planReign_21 _ _ _ ⟨(by omega) /- B_X5_planReign_21.inv1#1 -/, (by omega) /- B_X5_planReign_21.inv2#1 -/, (by omega) /- B_X5_planReign_21.inv3#1 -/, (by omega) /- B_X5_planReign_21.inv4#1 -/⟩ (by omega) /- B_X5_planReign_21.dec#1 -/
    ·
      refine wp_bnd ?_
      refine wp_bndE (fun z23 hz23 => ?_)
      exact ih_B_X5_planReign_21 _ _ _ ⟨(by omega) /- B_X5_planReign_21.inv1#2 -/, (by omega) /- B_X5_planReign_21.inv2#2 -/, (by omega) /- B_X5_planReign_21.inv3#2 -/, (by omega) /- B_X5_planReign_21.inv4#2 -/⟩ (by omega) /- B_X5_planReign_21.dec#2 -/

set_option maxHeartbeats 1000000 in
theorem s_X5_planRaise (i_p0_kitchen_rules_seats : Int) (i_p0_kitchen_rules_stirs : Int) (v_p0_kitchen_rules_after : (Int → Int)) (i_p0_kitchen_state_bone : Int) (i_p0_kitchen_state_king : Int) (v_p0_kitchen_state_friends : (Int → Int)) (v_p0_kitchen_places : (Int → Int)) (v_p0_kitchen_holders : (Int → Int)) (v_p0_good : (Int → Int)) (v_p0_row : (Int → Int)) (x1 : Int) (h1 : 2 ≤ i_p0_kitchen_rules_seats) (h2 : i_p0_kitchen_rules_seats ≤ 7) (h3 : 0 ≤ i_p0_kitchen_rules_stirs) (h4 : i_p0_kitchen_rules_stirs ≤ 5) (h5 : rows i_p0_kitchen_rules_seats i_p0_kitchen_rules_stirs v_p0_kitchen_rules_after) (h6 : 0 ≤ i_p0_kitchen_state_bone) (h7 : i_p0_kitchen_state_bone < i_p0_kitchen_rules_seats) (h8 : 0 ≤ i_p0_kitchen_state_king) (h9 : i_p0_kitchen_state_king < i_p0_kitchen_rules_seats) (h10 : 0 ≤ x1) (h11 : x1 < i_p0_kitchen_rules_seats) (h12 : ∀ j, 0 ≤ j → j < 10 → -4 ≤ v_p0_row j ∧ v_p0_row j < 5) : wp (f_X5_planRaise i_p0_kitchen_rules_seats i_p0_kitchen_rules_stirs v_p0_kitchen_rules_after i_p0_kitchen_state_bone i_p0_kitchen_state_king v_p0_kitchen_state_friends v_p0_kitchen_places v_p0_kitchen_holders v_p0_good v_p0_row x1) (fun o => (-4 ≤ o.1 ∧ o.1 ≤ 10) ∧ (∀ j, 0 ≤ j → j < 10 → -4 ≤ o.2.2.2.2 j ∧ o.2.2.2.2 j < 5)) := by
  unfold f_X5_planRaise
  refine wp_bd2 (s_X2_serveAllKings _ _ _ _ (by omega) /- pre X2_serveAllKings.1#1 -/ (by omega) /- pre X2_serveAllKings.2#1 -/) (fun w1 w2 q_X2_serveAllKings_1 => ?_)
  try dsimp only at q_X2_serveAllKings_1
  obtain ⟨q_X2_serveAllKings_1_1, q_X2_serveAllKings_1_2⟩ := q_X2_serveAllKings_1
  refine wp_bd1 (s_X5_pairsOfKing _ _ (by omega) /- pre X5_pairsOfKing.1#1 -/ (by omega) /- pre X5_pairsOfKing.2#1 -/ (by omega) /- pre X5_pairsOfKing.3#1 -/ (by omega) /- pre X5_pairsOfKing.4#1 -/) (fun z3 q_X5_pairsOfKing_1 => ?_)
  refine wp_ck (z_ix_i.mpr ⟨⟨(by omega) /- ix.lo (0 : Int)#1 -/, (by omega) /- ix.hi (0 : Int)#1 -/⟩, (by omega) /- ix.big (0 : Int)#1 -/⟩) ?_
  refine wp_bnd ?_
  refine wp_bnd ?_
  refine wp_jn ?_
  refine wp_lq2 (fun (z10 : Int) (w11 : (Int → Int)) => (0 ≤ z10) ∧ (z10 ≤ 11)) (fun (z10 : Int) (w11 : (Int → Int)) => (11 - z10).toNat) (fun again20 z10 w11 hI ih_B_X5_planRaise_20 => ?_) 1000 _ _ ⟨(by omega) /- B_X5_planRaise_20.init1#1 -/, (by omega) /- B_X5_planRaise_20.init2#1 -/⟩ (by omega) /- B_X5_planRaise_20.fuel#1 -/
  obtain ⟨i_B_X5_planRaise_20_1, i_B_X5_planRaise_20_2⟩ := hI
  unfold B_X5_planRaise_20
  refine wp_ck (z_r32_i.mpr ⟨(by omega) /- z_r32.lo z10#1 -/, (by omega) /- z_r32.hi z10#1 -/⟩) ?_
  refine wp_if (fun c1 => ?_) (fun c1 => ?_)
  ·
    refine wp_some ?_
    try dsimp only
    all_goals exact ⟨(by omega) /- post1#1 -/, (by first | exact h12 | (intro j a b; exact q_X5_tellRow_1 j a b (h12 j a b)) | (intro j a b; exact q_X5_tellRow_2 j a b (h12 j a b))) /- post2#1 -/⟩
  ·
    refine wp_if (fun c2 => ?_) (fun c2 => ?_)
    ·
      refine wp_bd1 (s_X5_isGoodNow _ _ _ _ (by omega) /- pre X5_isGoodNow.1#1 -/ (by omega) /- pre X5_isGoodNow.2#1 -/ (by omega) /- pre X5_isGoodNow.3#1 -/ (by omega) /- pre X5_isGoodNow.4#1 -/ (by omega) /- pre X5_isGoodNow.5#1 -/ (by omega) /- pre X5_isGoodNow.6#1 -/) (fun z14 q_X5_isGoodNow_1 => ?_)
      try dsimp only at q_X5_isGoodNow_1
      refine wp_ck (z_r32_i.mpr ⟨(by omega) /- z_r32.lo z14#1 -/, (by omega) /- z_r32.hi z14#1 -/⟩) ?_
      refine wp_if (fun c3 => ?_) (fun c3 => ?_)
      ·
        refine wp_bndE (fun z16 hz16 => ?_)
        exact ih_B_X5_planRaise_20 _ _ ⟨(by omega) /- B_X5_planRaise_20.inv1#1 -/, (by omega) /- B_X5_planRaise_20.inv2#1 -/⟩ (by omega) /- B_X5_planRaise_20.dec#1 -/
      ·
        refine wp_bd1 (s_X5_tellRow _ _ _ _ _ _ _ _ _ v_p0_kitchen_state_friends i_p0_kitchen_rules_seats (by omega) /- pre X5_tellRow.1#1 -/ (by omega) /- pre X5_tellRow.2#1 -/ (by omega) /- pre X5_tellRow.3#1 -/ (by omega) /- pre X5_tellRow.4#1 -/ (by exact h5) /- pre X5_tellRow.5#1 -/ (by exact q_X2_serveAllKings_1_2) /- pre X5_tellRow.6#1 -/ (by omega) /- pre X5_tellRow.7#1 -/ (by omega) /- pre X5_tellRow.8#1 -/ (by omega) /- pre X5_tellRow.9#1 -/ (by omega) /- pre X5_tellRow.10#1 -/ (by omega) /- pre X5_tellRow.11#1 -/ (by omega) /- pre X5_tellRow.12#1 -/ (by omega) /- pre X5_tellRow.13#1 -/ (by omega) /- pre X5_tellRow.14#1 -/) (fun w9 q_X5_tellRow_1 => ?_)
        try dsimp only at q_X5_tellRow_1
        refine wp_some ?_
        try dsimp only
        all_goals exact ⟨(by omega) /- post1#2 -/, (by first | exact h12 | (intro j a b; exact q_X5_tellRow_1 j a b (h12 j a b)) | (intro j a b; exact q_X5_tellRow_2 j a b (h12 j a b))) /- post2#2 -/⟩
    ·
      refine wp_ck (z_ix_i.mpr ⟨⟨(by omega) /- ix.lo (z10 - (1 : Int))#1 -/, (by omega) /- ix.hi (z10 - (1 : Int))#1 -/⟩, (by omega) /- ix.big (z10 - (1 : Int))#1 -/⟩) ?_
      refine wp_bd1 (s_X5_pairsBefore _ _ _ _ _ _ v_p0_kitchen_state_friends (by omega) /- pre X5_pairsBefore.1#1 -/ (by omega) /- pre X5_pairsBefore.2#1 -/ (by omega) /- pre X5_pairsBefore.3#1 -/ (by omega) /- pre X5_pairsBefore.4#1 -/ (by exact h5) /- pre X5_pairsBefore.5#1 -/ (by exact q_X2_serveAllKings_1_2) /- pre X5_pairsBefore.6#1 -/ (by omega) /- pre X5_pairsBefore.7#1 -/ (by omega) /- pre X5_pairsBefore.8#1 -/) (fun z17 q_X5_pairsBefore_1 => ?_)
      refine wp_ck (z_ix_i.mpr ⟨⟨(by omega) /- ix.lo z10#1 -/, (by omega) /- ix.hi z10#1 -/⟩, (by omega) /- ix.big z10#1 -/⟩) ?_
      refine wp_bnd ?_
      refine wp_bd1 (s_X5_isGoodNow _ _ _ _ (by omega) /- pre X5_isGoodNow.1#2 -/ (by omega) /- pre X5_isGoodNow.2#2 -/ (by omega) /- pre X5_isGoodNow.3#2 -/ (by omega) /- pre X5_isGoodNow.4#2 -/ (by omega) /- pre X5_isGoodNow.5#2 -/ (by omega) /- pre X5_isGoodNow.6#2 -/) (fun z19 q_X5_isGoodNow_2 => ?_)
      try dsimp only at q_X5_isGoodNow_2
      refine wp_ck (z_r32_i.mpr ⟨(by omega) /- z_r32.lo z19#1 -/, (by omega) /- z_r32.hi z19#1 -/⟩) ?_
      refine wp_if (fun c4 => ?_) (fun c4 => ?_)
      ·
        refine wp_bndE (fun z21 hz21 => ?_)
        exact ih_B_X5_planRaise_20 _ _ ⟨(by omega) /- B_X5_planRaise_20.inv1#2 -/, (by omega) /- B_X5_planRaise_20.inv2#2 -/⟩ (by omega) /- B_X5_planRaise_20.dec#2 -/
      ·
        refine wp_bd1 (s_X5_tellRow _ _ _ _ _ _ _ _ _ v_p0_kitchen_state_friends i_p0_kitchen_rules_seats (by omega) /- pre X5_tellRow.1#2 -/ (by omega) /- pre X5_tellRow.2#2 -/ (by omega) /- pre X5_tellRow.3#2 -/ (by omega) /- pre X5_tellRow.4#2 -/ (by exact h5) /- pre X5_tellRow.5#2 -/ (by exact q_X2_serveAllKings_1_2) /- pre X5_tellRow.6#2 -/ (by omega) /- pre X5_tellRow.7#2 -/ (by omega) /- pre X5_tellRow.8#2 -/ (by omega) /- pre X5_tellRow.9#2 -/ (by omega) /- pre X5_tellRow.10#2 -/ (by omega) /- pre X5_tellRow.11#2 -/ (by omega) /- pre X5_tellRow.12#2 -/ (by omega) /- pre X5_tellRow.13#2 -/ (by omega) /- pre X5_tellRow.14#2 -/) (fun w9 q_X5_tellRow_2 => ?_)
        try dsimp only at q_X5_tellRow_2
        refine wp_some ?_
        try dsimp only
        all_goals exact ⟨(by omega) /- post1#3 -/, (by first | exact h12 | (intro j a b; exact q_X5_tellRow_1 j a b (h12 j a b)) | (intro j a b; exact q_X5_tellRow_2 j a b (h12 j a b))) /- post2#3 -/⟩
