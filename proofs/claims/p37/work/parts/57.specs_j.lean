theorem pow_step {b : Int} {z : Int} (h : 0 ≤ z) : b ^ (z + 1).toNat = b ^ z.toNat * b := by
  rw [show (z + 1).toNat = z.toNat + 1 from by omega, Int.pow_succ]
theorem pow5_r {z : Int} (h0 : 0 ≤ z) (h1 : z ≤ 10) : 1 ≤ (5 : Int) ^ z.toNat ∧ (5 : Int) ^ z.toNat ≤ 9765625 := by
  have : ∀ k : Nat, k ≤ 10 → 1 ≤ (5 : Int) ^ k ∧ (5 : Int) ^ k ≤ 9765625 := by decide +kernel
  exact this z.toNat (by omega)
theorem powb_r {b z : Int} (hb0 : 0 ≤ b) (hb : b ≤ 7) (h0 : 0 ≤ z) (h1 : z ≤ 12) : 0 ≤ b ^ z.toNat ∧ b ^ z.toNat ≤ 13841287201 := by
  have : ∀ c : Nat, c ≤ 7 → ∀ k : Nat, k ≤ 12 → 0 ≤ ((c : Int)) ^ k ∧ ((c : Int)) ^ k ≤ 13841287201 := by decide +kernel
  have e := this b.toNat (by omega) z.toNat (by omega)
  rw [Int.toNat_of_nonneg hb0] at e
  exact e
theorem powb_p {b z : Int} (hb0 : 1 ≤ b) (hb : b ≤ 7) (h0 : 0 ≤ z) (h1 : z ≤ 12) : 1 ≤ b ^ z.toNat := by
  have : ∀ c : Nat, c ≤ 7 → 1 ≤ c → ∀ k : Nat, k ≤ 12 → 1 ≤ ((c : Int)) ^ k := by decide +kernel
  have e := this b.toNat (by omega) (by omega) z.toNat (by omega)
  rw [Int.toNat_of_nonneg (by omega)] at e
  exact e
theorem pow7_r {z : Int} (h0 : 0 ≤ z) (h1 : z ≤ 12) : 1 ≤ (7 : Int) ^ z.toNat ∧ (7 : Int) ^ z.toNat ≤ 13841287201 := by
  have : ∀ k : Nat, k ≤ 12 → 1 ≤ (7 : Int) ^ k ∧ (7 : Int) ^ k ≤ 13841287201 := by decide +kernel
  exact this z.toNat (by omega)
theorem mul5 {z v : Int} (h0 : 0 ≤ v) (h1 : z ≤ 5) : z * v ≤ 5 * v := Int.mul_le_mul_of_nonneg_right h1 h0
/-- how many powers of two lie under b, of the first k -/
def lgs (b : Nat) : Nat → Nat
  | 0 => 0
  | k + 1 => lgs b k + (if 2 ^ k ≤ b then 1 else 0)
theorem lgs_le (b : Nat) : ∀ k, lgs b k ≤ k := by
  intro k
  induction k with
  | zero => exact Nat.le_refl _
  | succ k ih =>
    show lgs b k + (if 2 ^ k ≤ b then 1 else 0) ≤ k + 1
    split <;> omega
theorem lgs_sh {a b : Nat} (h : 2 * a ≤ b) (h1 : 1 ≤ b) : ∀ k, lgs a k + 1 ≤ lgs b (k + 1) := by
  intro k
  induction k with
  | zero =>
    show 0 + 1 ≤ 0 + (if 2 ^ 0 ≤ b then 1 else 0)
    rw [if_pos (by simpa using h1)]
    exact Nat.le_refl _
  | succ k ih =>
    show lgs a k + (if 2 ^ k ≤ a then 1 else 0) + 1 ≤ lgs b (k + 1) + (if 2 ^ (k + 1) ≤ b then 1 else 0)
    by_cases c : 2 ^ k ≤ a
    · rw [if_pos c, if_pos (by rw [Nat.pow_succ]; omega)]
      omega
    · rw [if_neg c]
      omega
theorem lgs_lt {a b : Nat} (h : 2 * a ≤ b) (h1 : 1 ≤ b) (h2 : a < 2 ^ 127) : lgs a 128 < lgs b 128 := by
  have e : lgs a (127 + 1) = lgs a 127 := by
    show lgs a 127 + (if 2 ^ 127 ≤ a then 1 else 0) = lgs a 127
    rw [if_neg (by omega), Nat.add_zero]
  have := lgs_sh h h1 127
  show lgs a (127 + 1) < lgs b (127 + 1)
  omega
def eum (y x : Int) : Nat := 2 * lgs (x * y).toNat 128 + (if x < y then 1 else 0)
theorem eum_le (y x : Int) : eum y x < 1000 := by
  have := lgs_le (x * y).toNat 128
  unfold eum
  split <;> omega
theorem eum_dec {x y : Int} (hx : 0 ≤ x) (hy : 0 < y) (bx : x < 4611686018427387904) (b : y < 4611686018427387904) : eum (x % y) y < eum y x := by
  have r0 : 0 ≤ x % y := Int.emod_nonneg _ (by omega)
  have r1 : x % y < y := Int.emod_lt_of_pos _ hy
  unfold eum
  rw [if_neg (show ¬ y < x % y by omega)]
  by_cases c : x < y
  · rw [if_pos c, Int.emod_eq_of_lt hx c, Int.mul_comm]
    omega
  · rw [if_neg c]
    have q : 2 * (x % y) ≤ x := by
      have e := Int.mul_ediv_add_emod x y
      have d : 1 ≤ x / y := Int.le_ediv_of_mul_le hy (by omega)
      have m : y * 1 ≤ y * (x / y) := Int.mul_le_mul_of_nonneg_left d (by omega)
      omega
    have p : y * (2 * (x % y)) ≤ y * x := Int.mul_le_mul_of_nonneg_left q (by omega)
    have p1 : y * (2 * (x % y)) = 2 * (y * (x % y)) := by rw [Int.mul_left_comm]
    have n0 : 0 ≤ y * (x % y) := Int.mul_nonneg (by omega) r0
    have n1 : 1 * 1 ≤ y * x := Int.mul_le_mul (by omega) (by omega) (by omega) (by omega)
    have n2 : y * (x % y) < 4611686018427387904 * 4611686018427387904 := Int.lt_of_lt_of_le (Int.mul_lt_mul_of_pos_left r1 hy) (Int.mul_le_mul (by omega) (by omega) (by omega) (by decide))
    have l := lgs_lt (a := (y * (x % y)).toNat) (b := (x * y).toNat) (by rw [Int.mul_comm x y]; omega) (by rw [Int.mul_comm x y]; omega) (by omega)
    omega
theorem lgs_bd {b m : Nat} (h : b < 2 ^ m) : ∀ k, lgs b k ≤ m := by
  intro k
  induction k with
  | zero => exact Nat.zero_le _
  | succ k ih =>
    show lgs b k + (if 2 ^ k ≤ b then 1 else 0) ≤ m
    by_cases c : 2 ^ k ≤ b
    · rw [if_pos c]
      have hk : k < m := by
        rcases Nat.lt_or_ge k m with d | d
        · exact d
        · have := Nat.pow_le_pow_right (show 0 < 2 by decide) d
          omega
      have := lgs_le b k
      omega
    · rw [if_neg c]; omega
theorem eum_bd {x y : Int} (hx : 0 ≤ x) (hy : 0 ≤ y) (bx : x < 1099511627776) (b : y < 1099511627776) : eum y x ≤ 161 := by
  have p : x * y ≤ 1099511627775 * 1099511627775 := Int.mul_le_mul (by omega) (by omega) hy (by decide)
  have p0 : 0 ≤ x * y := Int.mul_nonneg hx hy
  have := lgs_bd (b := (x * y).toNat) (m := 80) (by omega) 128
  unfold eum
  split <;> omega
/-- the greatest common divisor -/
def gz (x y : Int) : Int := ((Nat.gcd x.toNat y.toNat : Nat) : Int)
theorem gz_step {x y : Int} (hx : 0 ≤ x) (hy : 0 ≤ y) : gz y (x % y) = gz x y := by
  unfold gz
  rw [Int.toNat_emod hx hy, Nat.gcd_comm, ← Nat.gcd_rec, Nat.gcd_comm]
theorem gz_0 {x : Int} (hx : 0 ≤ x) : gz x 0 = x := by
  unfold gz
  rw [show (0 : Int).toNat = 0 from rfl, Nat.gcd_zero_right]
  omega
theorem gz_comm (x y : Int) : gz x y = gz y x := by
  unfold gz
  rw [Nat.gcd_comm]
/-- tries with finds: of n tries, each with c misses, those with j finds -/
def tfn (c : Int) : Nat → Int → Int
  | 0, j => if j = 0 then 1 else 0
  | n + 1, j => if j = 0 then tfn c n 0 * c else tfn c n j * c + tfn c n (j - 1)
theorem tfn_0 {c : Int} : ∀ (n : Nat) {j : Int}, (n : Int) < j → tfn c n j = 0 := by
  intro n
  induction n with
  | zero => intro j h; show (if j = 0 then (1 : Int) else 0) = 0; rw [if_neg (by omega)]
  | succ n ih =>
    intro j h
    show (if j = 0 then tfn c n 0 * c else tfn c n j * c + tfn c n (j - 1)) = 0
    rw [if_neg (by omega), ih (by omega), ih (by omega), Int.zero_mul]
    rfl
theorem tfn_s {c z j : Int} (h : 1 ≤ z) (hj : ¬ j = 0) : tfn c z.toNat j = tfn c (z - 1).toNat j * c + tfn c (z - 1).toNat (j - 1) := by
  rw [show z.toNat = (z - 1).toNat + 1 from by omega]
  show (if j = 0 then _ else _) = _
  rw [if_neg hj]
theorem tfn_z {c z : Int} (h : 1 ≤ z) : tfn c z.toNat 0 = tfn c (z - 1).toNat 0 * c := by
  rw [show z.toNat = (z - 1).toNat + 1 from by omega]
  rfl
theorem sum_zero {f : Int → Int} {n : Int} (h : ∀ j, 0 ≤ j → j < n → f j = 0) : sumTo f n.toNat = 0 := by
  have q : ∀ m : Nat, (m : Int) ≤ n → sumTo f m = 0 := by
    intro m
    induction m with
    | zero => intro _; rfl
    | succ m ih =>
      intro hm
      show sumTo f m + f (m : Int) = 0
      rw [ih (by omega), h (m : Int) (by omega) (by omega)]
      rfl
  by_cases c : 0 ≤ n
  · exact q _ (by omega)
  · rw [show n.toNat = 0 from by omega]
    rfl
/-- the kings that were seen, and where the bone must have lain -/
def hk (k0 : Int) (seen : Int → Int) (i : Int) : Int := if i = 0 then k0 else seen (i - 1)
def hb (n k0 b0 : Int) (fr seen : Int → Int) (i : Int) : Int := if i = 0 then b0 else plc n (hk k0 seen (i - 1)) (fr (hk k0 seen (i - 1))) (seen (i - 1))
theorem hk_s {k0 i : Int} {seen : Int → Int} (h : 0 ≤ i) : hk k0 seen (i + 1) = seen i := by
  unfold hk
  rw [if_neg (by omega), show i + 1 - 1 = i from by omega]
theorem hb_s {n k0 b0 i : Int} {fr seen : Int → Int} (h : 0 ≤ i) : hb n k0 b0 fr seen (i + 1) = plc n (hk k0 seen i) (fr (hk k0 seen i)) (seen i) := by
  unfold hb
  rw [if_neg (by omega), show i + 1 - 1 = i from by omega]
noncomputable def fitq (n s k0 b0 : Int) (fr seen : Int → Int) (A : Int → Int → Int) (i : Int) : Int := bitsOf (fun t => A t (hb n k0 b0 fr seen i) = hb n k0 b0 fr seen (i + 1)) s.toNat
def prodTo (f : Int → Int) : Nat → Int
  | 0 => 1
  | j + 1 => prodTo f j * f (j : Int)
theorem prod_s {f : Int → Int} {z : Int} (h : 0 ≤ z) : prodTo f (z + 1).toNat = prodTo f z.toNat * f z := by
  rw [show (z + 1).toNat = z.toNat + 1 from by omega]
  show prodTo f z.toNat * f ((z.toNat : Nat) : Int) = _
  rw [Int.toNat_of_nonneg h]
noncomputable def prq (n s k0 b0 : Int) (fr seen : Int → Int) (A : Int → Int → Int) (m : Nat) : Int := prodTo (fun i => popc (fitq n s k0 b0 fr seen A i)) m
theorem bt_z (t : Int) (h0 : 0 ≤ t) (h1 : t < 32) : bt 0 t = 0 := by
  rw [bt_bb h0 h1, show bb 0 t.toNat = false from kb_0 _]
  rfl
theorem bt_bits {P : Int → Prop} {t : Int} (h0 : 0 ≤ t) (h1 : t < 32) : ∀ m : Nat, m < 32 → (bt (bitsOf P m) t = 0 ↔ ¬ (t < (m : Int) ∧ P t)) := by
  intro m
  induction m with
  | zero =>
    intro _
    refine ⟨fun _ z => by omega, fun _ => ?_⟩
    exact bt_z t h0 h1
  | succ m ih =>
    intro hm
    have q := ih (by omega)
    by_cases c : P (m : Int)
    · rw [bits_t c, bt_or h0 h1 (by omega) (by omega), q]
      constructor
      · rintro ⟨a, b⟩ ⟨d, e⟩
        exact b ⟨by omega, e⟩
      · intro a
        refine ⟨fun e => a ⟨by omega, by rw [e]; exact c⟩, fun e => a ⟨by omega, e.2⟩⟩
    · rw [bits_f c, q]
      constructor
      · rintro a ⟨d, e⟩
        by_cases f : t = (m : Int)
        · rw [f] at e; exact c e
        · exact a ⟨by omega, e⟩
      · intro a e
        exact a ⟨by omega, e.2⟩
set_option maxHeartbeats 1000000 in
theorem s_X3_begin (i_p0_kitchen_rules_seats : Int) (i_p0_kitchen_state_bone : Int) (i_p0_kitchen_state_king : Int) (v_p0_kitchen_state_friends : (Int → Int)) (v_p0_kitchen_places : (Int → Int)) (v_p0_kitchen_holders : (Int → Int)) (v_p0_rows : (Int → Int)) (h1 : 2 ≤ i_p0_kitchen_rules_seats) (h2 : i_p0_kitchen_rules_seats ≤ 7) (h3 : 0 ≤ i_p0_kitchen_state_bone) (h4 : i_p0_kitchen_state_bone < i_p0_kitchen_rules_seats) (h5 : 0 ≤ i_p0_kitchen_state_king) (h6 : i_p0_kitchen_state_king < i_p0_kitchen_rules_seats) : wp (f_X3_begin i_p0_kitchen_rules_seats i_p0_kitchen_state_bone i_p0_kitchen_state_king v_p0_kitchen_state_friends v_p0_kitchen_places v_p0_kitchen_holders v_p0_rows) (fun o => (servP i_p0_kitchen_rules_seats v_p0_kitchen_state_friends o.1) ∧ (servH i_p0_kitchen_rules_seats v_p0_kitchen_state_friends o.2.1) ∧ (o.2.2 = z_up (z_fill v_p0_rows 49 0) (i_p0_kitchen_state_king * 7 + i_p0_kitchen_state_bone) 1)) := by
  unfold f_X3_begin
  refine wp_bd2 (s_X2_serveAllKings _ _ _ _ (by omega) /- pre X2_serveAllKings.1#1 -/ (by omega) /- pre X2_serveAllKings.2#1 -/) (fun w1 w2 q_X2_serveAllKings_1 => ?_)
  try dsimp only at q_X2_serveAllKings_1
  obtain ⟨q_X2_serveAllKings_1_1, q_X2_serveAllKings_1_2⟩ := q_X2_serveAllKings_1
  refine wp_bd1 (s_J7_fill_d0a16 _ _ _ (by decide) /- pre J7_fill_d0a16.1#1 -/) (fun w3 q_J7_fill_d0a16_1 => ?_)
  try dsimp only at q_J7_fill_d0a16_1
  refine wp_ck (z_ix_i.mpr ⟨⟨(by omega) /- ix.lo ((i_p0_kitchen_state_king * (7 : Int)) + i_p0_kitchen_state_bone)#1 -/, (by omega) /- ix.hi ((i_p0_kitchen_state_king * (7 : Int)) + i_p0_kitchen_state_bone)#1 -/⟩, (by omega) /- ix.big ((i_p0_kitchen_state_king * (7 : Int)) + i_p0_kitchen_state_bone)#1 -/⟩) ?_
  refine wp_bnd ?_
  refine wp_some ?_
  try dsimp only
  all_goals exact ⟨(by exact q_X2_serveAllKings_1_1) /- post1#1 -/, (by exact q_X2_serveAllKings_1_2) /- post2#1 -/, (by rw [q_J7_fill_d0a16_1]; rfl) /- post3#1 -/⟩

set_option maxHeartbeats 1000000 in
theorem s_X3_goOnFrom (i_p0_kitchen_rules_stirs : Int) (v_p0_kitchen_rules_after : (Int → Int)) (v_p0_kitchen_holders : (Int → Int)) (v_p0_rows : (Int → Int)) (v_p0_later : (Int → Int)) (x1 : Int) (x2 : Int) (x3 : Int) (v_fr : Int → Int) (n : Int) (h1 : 2 ≤ n) (h2 : n ≤ 7) (h3 : 0 ≤ i_p0_kitchen_rules_stirs) (h4 : i_p0_kitchen_rules_stirs ≤ 5) (h5 : rows n i_p0_kitchen_rules_stirs v_p0_kitchen_rules_after) (h6 : servH n v_fr v_p0_kitchen_holders) (h7 : 0 ≤ x1) (h8 : x1 < n) (h9 : 0 ≤ x2) (h10 : x2 < n) (h11 : -2147483648 ≤ x3) (h12 : x3 < 2147483648) (h13 : 0 ≤ v_p0_rows (x1 * 7 + x2)) (h14 : ∀ j, 0 ≤ j → j < 49 → 0 ≤ v_p0_later j) : wp (f_X3_goOnFrom i_p0_kitchen_rules_stirs v_p0_kitchen_rules_after v_p0_kitchen_holders v_p0_rows v_p0_later x1 x2 x3) (fun o => (∀ j, 0 ≤ j → j < 49 → 0 ≤ o j) ∧ (sumTo o 49 ≤ sumTo v_p0_later 49 + 5 * v_p0_rows (x1 * 7 + x2)) ∧ (∀ k2 b2, 0 ≤ k2 → k2 < 7 → 0 ≤ b2 → b2 < 7 → o (k2 * 7 + b2) = v_p0_later (k2 * 7 + b2) + sumTo (ltm n v_fr (fun y b => v_p0_kitchen_rules_after (y * 7 + b)) x3 (v_p0_rows (x1 * 7 + x2)) x1 x2 k2 b2) i_p0_kitchen_rules_stirs.toNat)) := by
  unfold f_X3_goOnFrom
  refine wp_bnd ?_
  refine wp_lq2 (fun (z2 : Int) (w3 : (Int → Int)) => (0 ≤ z2) ∧ (z2 ≤ i_p0_kitchen_rules_stirs) ∧ (∀ j, 0 ≤ j → j < 49 → 0 ≤ w3 j) ∧ (sumTo w3 49 ≤ sumTo v_p0_later 49 + z2 * v_p0_rows (x1 * 7 + x2)) ∧ (∀ k2 b2, 0 ≤ k2 → k2 < 7 → 0 ≤ b2 → b2 < 7 → w3 (k2 * 7 + b2) = v_p0_later (k2 * 7 + b2) + sumTo (ltm n v_fr (fun y b => v_p0_kitchen_rules_after (y * 7 + b)) x3 (v_p0_rows (x1 * 7 + x2)) x1 x2 k2 b2) z2.toNat)) (fun (z2 : Int) (w3 : (Int → Int)) => (i_p0_kitchen_rules_stirs - z2).toNat) (fun again3 z2 w3 hI ih_B_X3_goOnFrom_3 => ?_) 1000 _ _ ⟨(by omega) /- B_X3_goOnFrom_3.init1#1 -/, (by omega) /- B_X3_goOnFrom_3.init2#1 -/, (by exact h14) /- B_X3_goOnFrom_3.init3#1 -/, (by rw [Int.zero_mul]; omega) /- B_X3_goOnFrom_3.init4#1 -/, (by intro k2 b2 _ _ _ _; show _ = _ + (0 : Int); rw [Int.add_zero]) /- B_X3_goOnFrom_3.init5#1 -/⟩ (by omega) /- B_X3_goOnFrom_3.fuel#1 -/
  obtain ⟨i_B_X3_goOnFrom_3_1, i_B_X3_goOnFrom_3_2, i_B_X3_goOnFrom_3_3, i_B_X3_goOnFrom_3_4, i_B_X3_goOnFrom_3_5⟩ := hI
  unfold B_X3_goOnFrom_3
  refine wp_ck (z_r32_i.mpr ⟨(by omega) /- z_r32.lo z2#1 -/, (by omega) /- z_r32.hi z2#1 -/⟩) ?_
  refine wp_ck (z_r32_i.mpr ⟨(by omega) /- z_r32.lo i_p0_kitchen_rules_stirs#1 -/, (by omega) /- z_r32.hi i_p0_kitchen_rules_stirs#1 -/⟩) ?_
  refine wp_if (fun c1 => ?_) (fun c1 => ?_)
  ·
    refine wp_some ?_
    try dsimp only
    all_goals exact ⟨(by exact i_B_X3_goOnFrom_3_3) /- post1#1 -/, (by have := mul5 (z := z2) h13 (by omega); omega) /- post2#1 -/, (by intro k2 b2 a b c d; rw [i_B_X3_goOnFrom_3_5 k2 b2 a b c d, show z2.toNat = i_p0_kitchen_rules_stirs.toNat from by omega]) /- post3#1 -/⟩
  ·
    refine wp_bd1 (s_X6_placeAfter _ _ _ (by omega) /- pre X6_placeAfter.1#1 -/ (by omega) /- pre X6_placeAfter.2#1 -/ (by omega) /- pre X6_placeAfter.3#1 -/ (by omega) /- pre X6_placeAfter.4#1 -/) (fun z7 q_X6_placeAfter_1 => ?_)
    try dsimp only at q_X6_placeAfter_1
    have hra := row_use h5 i_B_X3_goOnFrom_3_1 (by omega) h9 h10
    rw [← q_X6_placeAfter_1] at hra
    refine wp_bnd ?_
    refine wp_bd1 (s_X2_holderOf _ _ _ (by omega) /- pre X2_holderOf.1#1 -/ (by omega) /- pre X2_holderOf.2#1 -/ (by omega) /- pre X2_holderOf.3#1 -/ (by omega) /- pre X2_holderOf.4#1 -/) (fun z9 q_X2_holderOf_1 => ?_)
    try dsimp only at q_X2_holderOf_1
    have hho := (hold_use h6 (by omega) h7 h8 hra.1 hra.2).1
    rw [← q_X2_holderOf_1] at hho
    have hhe := hol_eq (n := n) (k := x1) (f := v_fr x1) (by omega) hho.1 hho.2 (show plc n x1 (v_fr x1) z9 = z7 by rw [q_X2_holderOf_1]; exact (hold_use h6 (by omega) h7 h8 hra.1 hra.2).2)
    have hsu := sum_up (f := w3) (i := z9 * 7 + z7) (v := w3 (z9 * 7 + z7) + v_p0_rows (x1 * 7 + x2)) (by omega) 49
    rw [if_pos (by omega)] at hsu
    have hmu : (z2 + 1) * v_p0_rows (x1 * 7 + x2) = z2 * v_p0_rows (x1 * 7 + x2) + v_p0_rows (x1 * 7 + x2) := by rw [Int.add_mul, Int.one_mul]
    refine wp_bnd ?_
    refine wp_ck (z_r32_i.mpr ⟨(by omega) /- z_r32.lo z10#1 -/, (by omega) /- z_r32.hi z10#1 -/⟩) ?_
    refine wp_ck (z_r32_i.mpr ⟨(by omega) /- z_r32.lo x1#1 -/, (by omega) /- z_r32.hi x1#1 -/⟩) ?_
    refine wp_jn ?_
    refine wp_if (fun c2 => ?_) (fun c2 => ?_)
    ·
      refine wp_ck (z_ix_i.mpr ⟨⟨(by omega) /- ix.lo ((z10 * (7 : Int)) + z8)#1 -/, (by omega) /- ix.hi ((z10 * (7 : Int)) + z8)#1 -/⟩, (by omega) /- ix.big ((z10 * (7 : Int)) + z8)#1 -/⟩) ?_
      refine wp_ck (z_ix_i.mpr ⟨⟨(by omega) /- ix.lo ((x1 * (7 : Int)) + x2)#1 -/, (by omega) /- ix.hi ((x1 * (7 : Int)) + x2)#1 -/⟩, (by omega) /- ix.big ((x1 * (7 : Int)) + x2)#1 -/⟩) ?_
      refine wp_ck (z_ix_i.mpr ⟨⟨(by omega) /- ix.lo ((z10 * (7 : Int)) + z8)#2 -/, (by omega) /- ix.hi ((z10 * (7 : Int)) + z8)#2 -/⟩, (by omega) /- ix.big ((z10 * (7 : Int)) + z8)#2 -/⟩) ?_
      refine wp_bnd ?_
      refine wp_bndE (fun z15 hz15 => ?_)
      exact ih_B_X3_goOnFrom_3 _ _ ⟨(by omega) /- B_X3_goOnFrom_3.inv1#1 -/, (by omega) /- B_X3_goOnFrom_3.inv2#1 -/, (by first | exact i_B_X3_goOnFrom_3_3 | (intro j a b; rw [z_up_a]; split; have := i_B_X3_goOnFrom_3_3 (z9 * 7 + z7) (by omega) (by omega); omega; exact i_B_X3_goOnFrom_3_3 j a b)) /- B_X3_goOnFrom_3.inv3#1 -/, (by first | (rw [hz15, hmu]; omega) | (rw [hz17, hmu]; omega)) /- B_X3_goOnFrom_3.inv4#1 -/, (by 
                                        intro k2 b2 a b c d
                                        have w := i_B_X3_goOnFrom_3_5 k2 b2 a b c d
                                        rw [hz15, sum_s i_B_X3_goOnFrom_3_1, ltm_at (p := z7) (h := z9) q_X6_placeAfter_1 hhe, z_up_a]
                                        by_cases e : k2 * 7 + b2 = z9 * 7 + z7
                                        · rw [if_pos e, if_pos (by omega), ← e, w]; omega
                                        · rw [if_neg e, if_neg (by omega), w]; omega) /- B_X3_goOnFrom_3.inv5#1 -/⟩ (by omega) /- B_X3_goOnFrom_3.dec#1 -/
    ·
      refine wp_ck (z_r32_i.mpr ⟨(by omega) /- z_r32.lo x3#1 -/, (by omega) /- z_r32.hi x3#1 -/⟩) ?_
      refine wp_if (fun c3 => ?_) (fun c3 => ?_)
      ·
        refine wp_ck (z_ix_i.mpr ⟨⟨(by omega) /- ix.lo ((z10 * (7 : Int)) + z8)#3 -/, (by omega) /- ix.hi ((z10 * (7 : Int)) + z8)#3 -/⟩, (by omega) /- ix.big ((z10 * (7 : Int)) + z8)#3 -/⟩) ?_
        refine wp_ck (z_ix_i.mpr ⟨⟨(by omega) /- ix.lo ((x1 * (7 : Int)) + x2)#2 -/, (by omega) /- ix.hi ((x1 * (7 : Int)) + x2)#2 -/⟩, (by omega) /- ix.big ((x1 * (7 : Int)) + x2)#2 -/⟩) ?_
        refine wp_ck (z_ix_i.mpr ⟨⟨(by omega) /- ix.lo ((z10 * (7 : Int)) + z8)#4 -/, (by omega) /- ix.hi ((z10 * (7 : Int)) + z8)#4 -/⟩, (by omega) /- ix.big ((z10 * (7 : Int)) + z8)#4 -/⟩) ?_
        refine wp_bnd ?_
        refine wp_bndE (fun z15 hz15 => ?_)
        exact ih_B_X3_goOnFrom_3 _ _ ⟨(by omega) /- B_X3_goOnFrom_3.inv1#2 -/, (by omega) /- B_X3_goOnFrom_3.inv2#2 -/, (by first | exact i_B_X3_goOnFrom_3_3 | (intro j a b; rw [z_up_a]; split; have := i_B_X3_goOnFrom_3_3 (z9 * 7 + z7) (by omega) (by omega); omega; exact i_B_X3_goOnFrom_3_3 j a b)) /- B_X3_goOnFrom_3.inv3#2 -/, (by first | (rw [hz15, hmu]; omega) | (rw [hz17, hmu]; omega)) /- B_X3_goOnFrom_3.inv4#2 -/, (by 
                                        intro k2 b2 a b c d
                                        have w := i_B_X3_goOnFrom_3_5 k2 b2 a b c d
                                        rw [hz15, sum_s i_B_X3_goOnFrom_3_1, ltm_at (p := z7) (h := z9) q_X6_placeAfter_1 hhe, z_up_a]
                                        by_cases e : k2 * 7 + b2 = z9 * 7 + z7
                                        · rw [if_pos e, if_pos (by omega), ← e, w]; omega
                                        · rw [if_neg e, if_neg (by omega), w]; omega) /- B_X3_goOnFrom_3.inv5#2 -/⟩ (by omega) /- B_X3_goOnFrom_3.dec#2 -/
      ·
        refine wp_bndE (fun z17 hz17 => ?_)
        exact ih_B_X3_goOnFrom_3 _ _ ⟨(by omega) /- B_X3_goOnFrom_3.inv1#3 -/, (by omega) /- B_X3_goOnFrom_3.inv2#3 -/, (by first | exact i_B_X3_goOnFrom_3_3 | (intro j a b; rw [z_up_a]; split; have := i_B_X3_goOnFrom_3_3 (z9 * 7 + z7) (by omega) (by omega); omega; exact i_B_X3_goOnFrom_3_3 j a b)) /- B_X3_goOnFrom_3.inv3#3 -/, (by first | (rw [hz15, hmu]; omega) | (rw [hz17, hmu]; omega)) /- B_X3_goOnFrom_3.inv4#3 -/, (by 
                                        intro k2 b2 a b c d
                                        have w := i_B_X3_goOnFrom_3_5 k2 b2 a b c d
                                        rw [hz17, sum_s i_B_X3_goOnFrom_3_1, ltm_at (p := z7) (h := z9) q_X6_placeAfter_1 hhe, if_neg (by omega), w]; omega) /- B_X3_goOnFrom_3.inv5#3 -/⟩ (by omega) /- B_X3_goOnFrom_3.dec#3 -/

set_option maxHeartbeats 1000000 in
theorem s_X3_goOn (i_p0_kitchen_rules_seats : Int) (i_p0_kitchen_rules_stirs : Int) (v_p0_kitchen_rules_after : (Int → Int)) (v_p0_kitchen_holders : (Int → Int)) (v_p0_rows : (Int → Int)) (v_p0_later : (Int → Int)) (x1 : Int) (v_fr : Int → Int) (h1 : 2 ≤ i_p0_kitchen_rules_seats) (h2 : i_p0_kitchen_rules_seats ≤ 7) (h3 : 0 ≤ i_p0_kitchen_rules_stirs) (h4 : i_p0_kitchen_rules_stirs ≤ 5) (h5 : rows i_p0_kitchen_rules_seats i_p0_kitchen_rules_stirs v_p0_kitchen_rules_after) (h6 : servH i_p0_kitchen_rules_seats v_fr v_p0_kitchen_holders) (h7 : -2147483648 ≤ x1) (h8 : x1 < 2147483648) (h9 : ∀ j, 0 ≤ j → j < 49 → 0 ≤ v_p0_rows j) (h10 : sumTo v_p0_rows 49 ≤ 1000000000000000) : wp (f_X3_goOn i_p0_kitchen_rules_seats i_p0_kitchen_rules_stirs v_p0_kitchen_rules_after v_p0_kitchen_holders v_p0_rows v_p0_later x1) (fun o => (∀ j, 0 ≤ j → j < 49 → 0 ≤ o.1 j) ∧ (sumTo o.1 49 ≤ 5 * sumTo v_p0_rows 49) ∧ (∀ k2 b2, 0 ≤ k2 → k2 < 7 → 0 ≤ b2 → b2 < 7 → o.1 (k2 * 7 + b2) = sumTo (fun k => sumTo (fun b => sumTo (ltm i_p0_kitchen_rules_seats v_fr (fun y b => v_p0_kitchen_rules_after (y * 7 + b)) x1 (v_p0_rows (k * 7 + b)) k b k2 b2) i_p0_kitchen_rules_stirs.toNat) i_p0_kitchen_rules_seats.toNat) i_p0_kitchen_rules_seats.toNat)) := by
  unfold f_X3_goOn
  refine wp_bd1 (s_J7_fill_d0a16 _ _ _ (by decide) /- pre J7_fill_d0a16.1#1 -/) (fun w1 q_J7_fill_d0a16_1 => ?_)
  try dsimp only at q_J7_fill_d0a16_1
  refine wp_bnd ?_
  refine wp_jn ?_
  refine wp_lq2 (fun (z6 : Int) (w7 : (Int → Int)) => (0 ≤ z6) ∧ (z6 ≤ i_p0_kitchen_rules_seats) ∧ (∀ j, 0 ≤ j → j < 49 → 0 ≤ w7 j) ∧ (sumTo w7 49 ≤ 5 * sumTo v_p0_rows (z6 * 7).toNat) ∧ (∀ k2 b2, 0 ≤ k2 → k2 < 7 → 0 ≤ b2 → b2 < 7 → w7 (k2 * 7 + b2) = sumTo (fun k => sumTo (fun b => sumTo (ltm i_p0_kitchen_rules_seats v_fr (fun y b => v_p0_kitchen_rules_after (y * 7 + b)) x1 (v_p0_rows (k * 7 + b)) k b k2 b2) i_p0_kitchen_rules_stirs.toNat) i_p0_kitchen_rules_seats.toNat) z6.toNat)) (fun (z6 : Int) (w7 : (Int → Int)) => (i_p0_kitchen_rules_seats - z6).toNat) (fun again10 z6 w7 hI ih_B_X3_goOn_10 => ?_) 1000 _ _ ⟨(by omega) /- B_X3_goOn_10.init1#1 -/, (by omega) /- B_X3_goOn_10.init2#1 -/, (by intro j a b; rw [q_J7_fill_d0a16_1, show ((49 : Nat) : Int) = 49 from rfl, z_fill_in a b]; decide) /- B_X3_goOn_10.init3#1 -/, (by rw [q_J7_fill_d0a16_1]; exact Int.le_of_eq (sum_fill0 49 (by decide))) /- B_X3_goOn_10.init4#1 -/, (by intro k2 b2 a b c d; rw [q_J7_fill_d0a16_1, show ((49 : Nat) : Int) = 49 from rfl, z_fill_in (by omega) (by omega)]; rfl) /- B_X3_goOn_10.init5#1 -/⟩ (by omega) /- B_X3_goOn_10.fuel#1 -/
  obtain ⟨i_B_X3_goOn_10_1, i_B_X3_goOn_10_2, i_B_X3_goOn_10_3, i_B_X3_goOn_10_4, i_B_X3_goOn_10_5⟩ := hI
  unfold B_X3_goOn_10
  refine wp_ck (z_r32_i.mpr ⟨(by omega) /- z_r32.lo z6#1 -/, (by omega) /- z_r32.hi z6#1 -/⟩) ?_
  refine wp_ck (z_r32_i.mpr ⟨(by omega) /- z_r32.lo i_p0_kitchen_rules_seats#1 -/, (by omega) /- z_r32.hi i_p0_kitchen_rules_seats#1 -/⟩) ?_
  refine wp_if (fun c1 => ?_) (fun c1 => ?_)
  ·
    refine wp_ck (z_cp_i.mpr ⟨⟨⟨(by omega) /- cp.0 (0 : Int)#1 -/, (by omega) /- cp.1 (0 : Int)#1 -/⟩, (by omega) /- cp.2 (0 : Int)#1 -/⟩, (by omega) /- cp.3 (0 : Int)#1 -/⟩) ?_
    refine wp_ck (z_cp_i.mpr ⟨⟨⟨(by omega) /- cp.0 (0 : Int)#2 -/, (by omega) /- cp.1 (0 : Int)#2 -/⟩, (by omega) /- cp.2 (0 : Int)#2 -/⟩, (by omega) /- cp.3 (0 : Int)#2 -/⟩) ?_
    refine wp_bnd ?_
    refine wp_some ?_
    try dsimp only
    all_goals exact ⟨(by intro j a b; rw [z_cpy_in a b]; exact i_B_X3_goOn_10_3 j a b) /- post1#1 -/, (by rw [sum_ext (f := z_cpy w7 v_p0_rows 0 0 49) (g := w7) 49 (fun j a b => z_cpy_in a b)]; have := sum_mono (f := v_p0_rows) (m := 49) h9 (z6 * 7).toNat (by omega); omega) /- post2#1 -/, (by intro k2 b2 a b c d; rw [z_cpy_in (by omega) (by omega), i_B_X3_goOn_10_5 k2 b2 a b c d, show z6.toNat = i_p0_kitchen_rules_seats.toNat from by omega]) /- post3#1 -/⟩
  ·
    refine wp_bnd ?_
    refine wp_lq2 (fun (z12 : Int) (w13 : (Int → Int)) => (0 ≤ z12) ∧ (z12 ≤ i_p0_kitchen_rules_seats) ∧ (∀ j, 0 ≤ j → j < 49 → 0 ≤ w13 j) ∧ (sumTo w13 49 ≤ 5 * sumTo v_p0_rows (z6 * 7 + z12).toNat) ∧ (∀ k2 b2, 0 ≤ k2 → k2 < 7 → 0 ≤ b2 → b2 < 7 → w13 (k2 * 7 + b2) = sumTo (fun k => sumTo (fun b => sumTo (ltm i_p0_kitchen_rules_seats v_fr (fun y b => v_p0_kitchen_rules_after (y * 7 + b)) x1 (v_p0_rows (k * 7 + b)) k b k2 b2) i_p0_kitchen_rules_stirs.toNat) i_p0_kitchen_rules_seats.toNat) z6.toNat + sumTo (fun b => sumTo (ltm i_p0_kitchen_rules_seats v_fr (fun y b => v_p0_kitchen_rules_after (y * 7 + b)) x1 (v_p0_rows (z6 * 7 + b)) z6 b k2 b2) i_p0_kitchen_rules_stirs.toNat) z12.toNat)) (fun (z12 : Int) (w13 : (Int → Int)) => (i_p0_kitchen_rules_seats - z12).toNat) (fun again26 z12 w13 hI ih_B_X3_goOn_26 => ?_) 1000 _ _ ⟨(by omega) /- B_X3_goOn_26.init1#1 -/, (by omega) /- B_X3_goOn_26.init2#1 -/, (by exact i_B_X3_goOn_10_3) /- B_X3_goOn_26.init3#1 -/, (by rw [show z6 * 7 + 0 = z6 * 7 from by omega]; exact i_B_X3_goOn_10_4) /- B_X3_goOn_26.init4#1 -/, (by intro k2 b2 a b c d; rw [i_B_X3_goOn_10_5 k2 b2 a b c d]; show _ = _ + (0 : Int); rw [Int.add_zero]) /- B_X3_goOn_26.init5#1 -/⟩ (by omega) /- B_X3_goOn_26.fuel#1 -/
    obtain ⟨i_B_X3_goOn_26_1, i_B_X3_goOn_26_2, i_B_X3_goOn_26_3, i_B_X3_goOn_26_4, i_B_X3_goOn_26_5⟩ := hI
    unfold B_X3_goOn_26
    refine wp_ck (z_r32_i.mpr ⟨(by omega) /- z_r32.lo z12#1 -/, (by omega) /- z_r32.hi z12#1 -/⟩) ?_
    refine wp_if (fun c2 => ?_) (fun c2 => ?_)
    ·
      refine wp_bndE (fun z16 hz16 => ?_)
      exact ih_B_X3_goOn_10 _ _ ⟨(by omega) /- B_X3_goOn_10.inv1#1 -/, (by omega) /- B_X3_goOn_10.inv2#1 -/, (by exact i_B_X3_goOn_26_3) /- B_X3_goOn_10.inv3#1 -/, (by have := sum_mono (f := v_p0_rows) (m := ((z6 + 1) * 7).toNat) (fun j a b => h9 j a (by omega)) (z6 * 7 + z12).toNat (by omega); subst hz16; omega) /- B_X3_goOn_10.inv4#1 -/, (by intro k2 b2 a b c d; rw [hz16, sum_s i_B_X3_goOn_10_1, i_B_X3_goOn_26_5 k2 b2 a b c d, show z12.toNat = i_p0_kitchen_rules_seats.toNat from by omega]) /- B_X3_goOn_10.inv5#1 -/⟩ (by omega) /- B_X3_goOn_10.dec#1 -/
    ·
      have hro := h9 (z6 * 7 + z12) (by omega) (by omega)
      have hrs := sum_one (m := 49) h9 (i := z6 * 7 + z12) (by omega) (by omega)
      have hss := sum_s (f := v_p0_rows) (z := z6 * 7 + z12) (by omega)
      refine wp_ck (z_ix_i.mpr ⟨⟨(by omega) /- ix.lo ((z6 * (7 : Int)) + z12)#1 -/, (by omega) /- ix.hi ((z6 * (7 : Int)) + z12)#1 -/⟩, (by omega) /- ix.big ((z6 * (7 : Int)) + z12)#1 -/⟩) ?_
      refine wp_ck (z_r64_i.mpr ⟨(by omega) /- z_r64.lo (v_p0_rows ((z6 * (7 : Int)) + z12))#1 -/, (by omega) /- z_r64.hi (v_p0_rows ((z6 * (7 : Int)) + z12))#1 -/⟩) ?_
      refine wp_ck (z_r32_cmp _ _) ?_
      refine wp_if (fun c3 => ?_) (fun c3 => ?_)
      ·
        refine wp_bndE (fun z19 hz19 => ?_)
        exact ih_B_X3_goOn_26 _ _ ⟨(by omega) /- B_X3_goOn_26.inv1#1 -/, (by omega) /- B_X3_goOn_26.inv2#1 -/, (by first | exact i_B_X3_goOn_26_3 | exact q_X3_goOnFrom_1_1) /- B_X3_goOn_26.inv3#1 -/, (by subst hz19; rw [show z6 * 7 + (z12 + 1) = z6 * 7 + z12 + 1 from by omega, hss]; omega) /- B_X3_goOn_26.inv4#1 -/, (by intro k2 b2 a b c d; have hz0 : v_p0_rows (z6 * 7 + z12) = 0 := cmp_0.mp (by assumption); rw [hz19, sum_s i_B_X3_goOn_26_1, i_B_X3_goOn_26_5 k2 b2 a b c d, hz0, ltm_0]; omega) /- B_X3_goOn_26.inv5#1 -/⟩ (by omega) /- B_X3_goOn_26.dec#1 -/
      ·
        refine wp_bd1 (s_X3_goOnFrom _ _ _ _ _ _ _ _ v_fr i_p0_kitchen_rules_seats (by omega) /- pre X3_goOnFrom.1#1 -/ (by omega) /- pre X3_goOnFrom.2#1 -/ (by omega) /- pre X3_goOnFrom.3#1 -/ (by omega) /- pre X3_goOnFrom.4#1 -/ (by exact h5) /- pre X3_goOnFrom.5#1 -/ (by exact h6) /- pre X3_goOnFrom.6#1 -/ (by omega) /- pre X3_goOnFrom.7#1 -/ (by omega) /- pre X3_goOnFrom.8#1 -/ (by omega) /- pre X3_goOnFrom.9#1 -/ (by omega) /- pre X3_goOnFrom.10#1 -/ (by omega) /- pre X3_goOnFrom.11#1 -/ (by omega) /- pre X3_goOnFrom.12#1 -/ (by omega) /- pre X3_goOnFrom.13#1 -/ (by exact i_B_X3_goOn_26_3) /- pre X3_goOnFrom.14#1 -/) (fun w20 q_X3_goOnFrom_1 => ?_)
        try dsimp only at q_X3_goOnFrom_1
        obtain ⟨q_X3_goOnFrom_1_1, q_X3_goOnFrom_1_2, q_X3_goOnFrom_1_3⟩ := q_X3_goOnFrom_1
        refine wp_bndE (fun z21 hz21 => ?_)
        exact ih_B_X3_goOn_26 _ _ ⟨(by omega) /- B_X3_goOn_26.inv1#2 -/, (by omega) /- B_X3_goOn_26.inv2#2 -/, (by first | exact i_B_X3_goOn_26_3 | exact q_X3_goOnFrom_1_1) /- B_X3_goOn_26.inv3#2 -/, (by subst hz21; rw [show z6 * 7 + (z12 + 1) = z6 * 7 + z12 + 1 from by omega, hss]; omega) /- B_X3_goOn_26.inv4#2 -/, (by intro k2 b2 a b c d; rw [hz21, sum_s i_B_X3_goOn_26_1, q_X3_goOnFrom_1_3 k2 b2 a b c d, i_B_X3_goOn_26_5 k2 b2 a b c d]; omega) /- B_X3_goOn_26.inv5#2 -/⟩ (by omega) /- B_X3_goOn_26.dec#2 -/

set_option maxHeartbeats 1000000 in
theorem s_X3_rowsWithKing (i_p0_kitchen_rules_seats : Int) (v_p0_rows : (Int → Int)) (x1 : Int) (h1 : 2 ≤ i_p0_kitchen_rules_seats) (h2 : i_p0_kitchen_rules_seats ≤ 7) (h3 : 0 ≤ x1) (h4 : x1 < i_p0_kitchen_rules_seats) (h5 : ∀ j, 0 ≤ j → j < 49 → 0 ≤ v_p0_rows j) : wp (f_X3_rowsWithKing i_p0_kitchen_rules_seats v_p0_rows x1) (fun o => (o = sumTo (fun j => v_p0_rows (x1 * 7 + j)) i_p0_kitchen_rules_seats.toNat)) := by
  unfold f_X3_rowsWithKing
  refine wp_bnd ?_
  refine wp_bnd ?_
  refine wp_lq2 (fun (z3 : Int) (z4 : Int) => (0 ≤ z3) ∧ (z3 ≤ i_p0_kitchen_rules_seats) ∧ (z4 = sumTo (fun j => v_p0_rows (x1 * 7 + j)) z3.toNat)) (fun (z3 : Int) (z4 : Int) => (i_p0_kitchen_rules_seats - z3).toNat) (fun again5 z3 z4 hI ih_B_X3_rowsWithKing_5 => ?_) 1000 _ _ ⟨(by omega) /- B_X3_rowsWithKing_5.init1#1 -/, (by omega) /- B_X3_rowsWithKing_5.init2#1 -/, (by rfl) /- B_X3_rowsWithKing_5.init3#1 -/⟩ (by omega) /- B_X3_rowsWithKing_5.fuel#1 -/
  obtain ⟨i_B_X3_rowsWithKing_5_1, i_B_X3_rowsWithKing_5_2, i_B_X3_rowsWithKing_5_3⟩ := hI
  unfold B_X3_rowsWithKing_5
  refine wp_ck (z_r32_i.mpr ⟨(by omega) /- z_r32.lo z3#1 -/, (by omega) /- z_r32.hi z3#1 -/⟩) ?_
  refine wp_ck (z_r32_i.mpr ⟨(by omega) /- z_r32.lo i_p0_kitchen_rules_seats#1 -/, (by omega) /- z_r32.hi i_p0_kitchen_rules_seats#1 -/⟩) ?_
  refine wp_if (fun c1 => ?_) (fun c1 => ?_)
  ·
    refine wp_some ?_
    try dsimp only
    all_goals exact (by rw [i_B_X3_rowsWithKing_5_3]; congr 1; omega) /- post1#1 -/
  ·
    refine wp_ck (z_ix_i.mpr ⟨⟨(by omega) /- ix.lo ((x1 * (7 : Int)) + z3)#1 -/, (by omega) /- ix.hi ((x1 * (7 : Int)) + z3)#1 -/⟩, (by omega) /- ix.big ((x1 * (7 : Int)) + z3)#1 -/⟩) ?_
    refine wp_bndE (fun z8 hz8 => ?_)
    refine wp_bndE (fun z9 hz9 => ?_)
    exact ih_B_X3_rowsWithKing_5 _ _ ⟨(by omega) /- B_X3_rowsWithKing_5.inv1#1 -/, (by omega) /- B_X3_rowsWithKing_5.inv2#1 -/, (by subst hz8 hz9; rw [sum_s i_B_X3_rowsWithKing_5_1, ← i_B_X3_rowsWithKing_5_3]) /- B_X3_rowsWithKing_5.inv3#1 -/⟩ (by omega) /- B_X3_rowsWithKing_5.dec#1 -/

set_option maxHeartbeats 1000000 in
theorem s_X3_rowsToCrown (i_p0_kitchen_rules_seats : Int) (i_p0_kitchen_rules_stirs : Int) (v_p0_kitchen_rules_after : (Int → Int)) (i_p0_kitchen_state_bone : Int) (i_p0_kitchen_state_king : Int) (v_p0_kitchen_state_friends : (Int → Int)) (v_p0_kitchen_places : (Int → Int)) (v_p0_kitchen_holders : (Int → Int)) (v_p0_rows : (Int → Int)) (v_p0_later : (Int → Int)) (x1 : Int) (x2 : Int) (h1 : 2 ≤ i_p0_kitchen_rules_seats) (h2 : i_p0_kitchen_rules_seats ≤ 7) (h3 : 0 ≤ i_p0_kitchen_rules_stirs) (h4 : i_p0_kitchen_rules_stirs ≤ 5) (h5 : rows i_p0_kitchen_rules_seats i_p0_kitchen_rules_stirs v_p0_kitchen_rules_after) (h6 : 0 ≤ i_p0_kitchen_state_bone) (h7 : i_p0_kitchen_state_bone < i_p0_kitchen_rules_seats) (h8 : 0 ≤ i_p0_kitchen_state_king) (h9 : i_p0_kitchen_state_king < i_p0_kitchen_rules_seats) (h10 : 0 ≤ x2) (h11 : x2 ≤ 10) (h12 : 0 ≤ x1) (h13 : x1 < i_p0_kitchen_rules_seats) : wp (f_X3_rowsToCrown i_p0_kitchen_rules_seats i_p0_kitchen_rules_stirs v_p0_kitchen_rules_after i_p0_kitchen_state_bone i_p0_kitchen_state_king v_p0_kitchen_state_friends v_p0_kitchen_places v_p0_kitchen_holders v_p0_rows v_p0_later x1 x2) (fun o => (0 ≤ o.1 ∧ o.1 ≤ 100000000) ∧ (Hid (o.1 = sumTo (fun b => lck i_p0_kitchen_rules_seats i_p0_kitchen_rules_stirs v_p0_kitchen_state_friends (fun y b => v_p0_kitchen_rules_after (y * 7 + b)) 0 i_p0_kitchen_state_king i_p0_kitchen_state_bone x2.toNat x1 b) i_p0_kitchen_rules_seats.toNat))) := by
  unfold f_X3_rowsToCrown
  refine wp_bd3 (s_X3_begin _ _ _ _ _ _ _ (by omega) /- pre X3_begin.1#1 -/ (by omega) /- pre X3_begin.2#1 -/ (by omega) /- pre X3_begin.3#1 -/ (by omega) /- pre X3_begin.4#1 -/ (by omega) /- pre X3_begin.5#1 -/ (by omega) /- pre X3_begin.6#1 -/) (fun w1 w2 w3 q_X3_begin_1 => ?_)
  try dsimp only at q_X3_begin_1
  obtain ⟨q_X3_begin_1_1, q_X3_begin_1_2, q_X3_begin_1_3⟩ := q_X3_begin_1
  refine wp_bnd ?_
  refine wp_jn ?_
  refine wp_lq3 (fun (z9 : Int) (w10 : (Int → Int)) (w11 : (Int → Int)) => (0 ≤ z9) ∧ (z9 ≤ x2) ∧ (∀ j, 0 ≤ j → j < 49 → 0 ≤ w10 j) ∧ (sumTo w10 49 ≤ (5 : Int) ^ z9.toNat) ∧ (∀ k b, 0 ≤ k → k < i_p0_kitchen_rules_seats → 0 ≤ b → b < i_p0_kitchen_rules_seats → w10 (k * 7 + b) = lck i_p0_kitchen_rules_seats i_p0_kitchen_rules_stirs v_p0_kitchen_state_friends (fun y b => v_p0_kitchen_rules_after (y * 7 + b)) 0 i_p0_kitchen_state_king i_p0_kitchen_state_bone z9.toNat k b)) (fun (z9 : Int) (w10 : (Int → Int)) (w11 : (Int → Int)) => (x2 - z9).toNat) (fun again6 z9 w10 w11 hI ih_B_X3_rowsToCrown_6 => ?_) 1000 _ _ _ ⟨(by omega) /- B_X3_rowsToCrown_6.init1#1 -/, (by omega) /- B_X3_rowsToCrown_6.init2#1 -/, (by intro j a b; rw [q_X3_begin_1_3, z_up_a]; split; decide; rw [z_fill_in a b]; decide) /- B_X3_rowsToCrown_6.init3#1 -/, (by rw [q_X3_begin_1_3, sum_up (by omega), if_pos (by omega), sum_fill0 49 (by decide), z_fill_in (by omega) (by omega)]; decide) /- B_X3_rowsToCrown_6.init4#1 -/, (by intro k b k0 k1 b0 b1; rw [q_X3_begin_1_3, z_up_a]; show _ = if k = i_p0_kitchen_state_king ∧ b = i_p0_kitchen_state_bone then (1 : Int) else 0; by_cases e : k = i_p0_kitchen_state_king ∧ b = i_p0_kitchen_state_bone; (rw [if_pos e, if_pos (by omega)]); (rw [if_neg e, if_neg (by omega), z_fill_in (by omega) (by omega)])) /- B_X3_rowsToCrown_6.init5#1 -/⟩ (by omega) /- B_X3_rowsToCrown_6.fuel#1 -/
  obtain ⟨i_B_X3_rowsToCrown_6_1, i_B_X3_rowsToCrown_6_2, i_B_X3_rowsToCrown_6_3, i_B_X3_rowsToCrown_6_4, i_B_X3_rowsToCrown_6_5⟩ := hI
  unfold B_X3_rowsToCrown_6
  have hp5 := pow5_r i_B_X3_rowsToCrown_6_1 (by omega)
  refine wp_ck (z_r32_i.mpr ⟨(by omega) /- z_r32.lo z9#1 -/, (by omega) /- z_r32.hi z9#1 -/⟩) ?_
  refine wp_ck (z_r32_i.mpr ⟨(by omega) /- z_r32.lo x2#1 -/, (by omega) /- z_r32.hi x2#1 -/⟩) ?_
  refine wp_if (fun c1 => ?_) (fun c1 => ?_)
  ·
    refine wp_bd1 (s_X3_rowsWithKing _ _ _ (by omega) /- pre X3_rowsWithKing.1#1 -/ (by omega) /- pre X3_rowsWithKing.2#1 -/ (by omega) /- pre X3_rowsWithKing.3#1 -/ (by omega) /- pre X3_rowsWithKing.4#1 -/ (by exact i_B_X3_rowsToCrown_6_3) /- pre X3_rowsWithKing.5#1 -/) (fun z8 q_X3_rowsWithKing_1 => ?_)
    try dsimp only at q_X3_rowsWithKing_1
    have hsr := sum_rng (f := fun j => w10 (x1 * 7 + j)) (b := 9765625) (by decide) i_p0_kitchen_rules_seats.toNat (fun j a b => ⟨i_B_X3_rowsToCrown_6_3 _ (by omega) (by omega), Int.le_trans (sum_one (m := 49) i_B_X3_rowsToCrown_6_3 (by omega) (by omega)) (by omega)⟩)
    refine wp_some ?_
    try dsimp only
    all_goals exact ⟨(by rw [q_X3_rowsWithKing_1]; omega) /- post1#1 -/, (by unfold Hid; rw [q_X3_rowsWithKing_1]; exact sum_ext _ (fun b u v => by rw [i_B_X3_rowsToCrown_6_5 _ b (by omega) (by omega) u (by omega), show z9 = x2 from by omega])) /- post2#1 -/⟩
  ·
    refine wp_bd2 (s_X3_goOn _ _ _ _ _ _ _ v_p0_kitchen_state_friends (by omega) /- pre X3_goOn.1#1 -/ (by omega) /- pre X3_goOn.2#1 -/ (by omega) /- pre X3_goOn.3#1 -/ (by omega) /- pre X3_goOn.4#1 -/ (by exact h5) /- pre X3_goOn.5#1 -/ (by exact q_X3_begin_1_2) /- pre X3_goOn.6#1 -/ (by omega) /- pre X3_goOn.7#1 -/ (by omega) /- pre X3_goOn.8#1 -/ (by exact i_B_X3_rowsToCrown_6_3) /- pre X3_goOn.9#1 -/ (by omega) /- pre X3_goOn.10#1 -/) (fun w15 w16 q_X3_goOn_1 => ?_)
    try dsimp only at q_X3_goOn_1
    obtain ⟨q_X3_goOn_1_1, q_X3_goOn_1_2, q_X3_goOn_1_3⟩ := q_X3_goOn_1
    refine wp_bndE (fun z17 hz17 => ?_)
    exact ih_B_X3_rowsToCrown_6 _ _ _ ⟨(by omega) /- B_X3_rowsToCrown_6.inv1#1 -/, (by omega) /- B_X3_rowsToCrown_6.inv2#1 -/, (by exact q_X3_goOn_1_1) /- B_X3_rowsToCrown_6.inv3#1 -/, (by subst hz17; rw [pow_step i_B_X3_rowsToCrown_6_1]; omega) /- B_X3_rowsToCrown_6.inv4#1 -/, (by 
                                        intro k2 b2 k0 k1 b0 b1
                                        subst hz17
                                        rw [show (z9 + 1).toNat = z9.toNat + 1 from by omega, q_X3_goOn_1_3 k2 b2 k0 (by omega) b0 (by omega)]
                                        show sumTo _ _ = sumTo _ _
                                        refine sum_ext _ (fun k a c => sum_ext _ (fun b u v => ?_))
                                        rw [i_B_X3_rowsToCrown_6_5 k b a (by omega) u (by omega)]) /- B_X3_rowsToCrown_6.inv5#1 -/⟩ (by omega) /- B_X3_rowsToCrown_6.dec#1 -/

set_option maxHeartbeats 1000000 in
theorem s_X3_rowsOfReign (i_p0_kitchen_rules_seats : Int) (i_p0_kitchen_rules_stirs : Int) (v_p0_kitchen_rules_after : (Int → Int)) (i_p0_kitchen_state_bone : Int) (i_p0_kitchen_state_king : Int) (v_p0_kitchen_state_friends : (Int → Int)) (v_p0_kitchen_places : (Int → Int)) (v_p0_kitchen_holders : (Int → Int)) (v_p0_rows : (Int → Int)) (v_p0_later : (Int → Int)) (x1 : Int) (h1 : 2 ≤ i_p0_kitchen_rules_seats) (h2 : i_p0_kitchen_rules_seats ≤ 7) (h3 : 0 ≤ i_p0_kitchen_rules_stirs) (h4 : i_p0_kitchen_rules_stirs ≤ 5) (h5 : rows i_p0_kitchen_rules_seats i_p0_kitchen_rules_stirs v_p0_kitchen_rules_after) (h6 : 0 ≤ i_p0_kitchen_state_bone) (h7 : i_p0_kitchen_state_bone < i_p0_kitchen_rules_seats) (h8 : 0 ≤ i_p0_kitchen_state_king) (h9 : i_p0_kitchen_state_king < i_p0_kitchen_rules_seats) (h10 : 0 ≤ x1) (h11 : x1 ≤ 10) : wp (f_X3_rowsOfReign i_p0_kitchen_rules_seats i_p0_kitchen_rules_stirs v_p0_kitchen_rules_after i_p0_kitchen_state_bone i_p0_kitchen_state_king v_p0_kitchen_state_friends v_p0_kitchen_places v_p0_kitchen_holders v_p0_rows v_p0_later x1) (fun o => (0 ≤ o.1 ∧ o.1 ≤ 100000000) ∧ (Hid (o.1 = sumTo (fun b => lck i_p0_kitchen_rules_seats i_p0_kitchen_rules_stirs v_p0_kitchen_state_friends (fun y b => v_p0_kitchen_rules_after (y * 7 + b)) 1 i_p0_kitchen_state_king i_p0_kitchen_state_bone x1.toNat i_p0_kitchen_state_king b) i_p0_kitchen_rules_seats.toNat))) := by
  unfold f_X3_rowsOfReign
  refine wp_bd3 (s_X3_begin _ _ _ _ _ _ _ (by omega) /- pre X3_begin.1#1 -/ (by omega) /- pre X3_begin.2#1 -/ (by omega) /- pre X3_begin.3#1 -/ (by omega) /- pre X3_begin.4#1 -/ (by omega) /- pre X3_begin.5#1 -/ (by omega) /- pre X3_begin.6#1 -/) (fun w1 w2 w3 q_X3_begin_1 => ?_)
  try dsimp only at q_X3_begin_1
  obtain ⟨q_X3_begin_1_1, q_X3_begin_1_2, q_X3_begin_1_3⟩ := q_X3_begin_1
  refine wp_bnd ?_
  refine wp_jn ?_
  refine wp_lq3 (fun (z9 : Int) (w10 : (Int → Int)) (w11 : (Int → Int)) => (0 ≤ z9) ∧ (z9 ≤ x1) ∧ (∀ j, 0 ≤ j → j < 49 → 0 ≤ w10 j) ∧ (sumTo w10 49 ≤ (5 : Int) ^ z9.toNat) ∧ (∀ k b, 0 ≤ k → k < i_p0_kitchen_rules_seats → 0 ≤ b → b < i_p0_kitchen_rules_seats → w10 (k * 7 + b) = lck i_p0_kitchen_rules_seats i_p0_kitchen_rules_stirs v_p0_kitchen_state_friends (fun y b => v_p0_kitchen_rules_after (y * 7 + b)) 1 i_p0_kitchen_state_king i_p0_kitchen_state_bone z9.toNat k b)) (fun (z9 : Int) (w10 : (Int → Int)) (w11 : (Int → Int)) => (x1 - z9).toNat) (fun again6 z9 w10 w11 hI ih_B_X3_rowsOfReign_6 => ?_) 1000 _ _ _ ⟨(by omega) /- B_X3_rowsOfReign_6.init1#1 -/, (by omega) /- B_X3_rowsOfReign_6.init2#1 -/, (by intro j a b; rw [q_X3_begin_1_3, z_up_a]; split; decide; rw [z_fill_in a b]; decide) /- B_X3_rowsOfReign_6.init3#1 -/, (by rw [q_X3_begin_1_3, sum_up (by omega), if_pos (by omega), sum_fill0 49 (by decide), z_fill_in (by omega) (by omega)]; decide) /- B_X3_rowsOfReign_6.init4#1 -/, (by intro k b k0 k1 b0 b1; rw [q_X3_begin_1_3, z_up_a]; show _ = if k = i_p0_kitchen_state_king ∧ b = i_p0_kitchen_state_bone then (1 : Int) else 0; by_cases e : k = i_p0_kitchen_state_king ∧ b = i_p0_kitchen_state_bone; (rw [if_pos e, if_pos (by omega)]); (rw [if_neg e, if_neg (by omega), z_fill_in (by omega) (by omega)])) /- B_X3_rowsOfReign_6.init5#1 -/⟩ (by omega) /- B_X3_rowsOfReign_6.fuel#1 -/
  obtain ⟨i_B_X3_rowsOfReign_6_1, i_B_X3_rowsOfReign_6_2, i_B_X3_rowsOfReign_6_3, i_B_X3_rowsOfReign_6_4, i_B_X3_rowsOfReign_6_5⟩ := hI
  unfold B_X3_rowsOfReign_6
  have hp5 := pow5_r i_B_X3_rowsOfReign_6_1 (by omega)
  refine wp_ck (z_r32_i.mpr ⟨(by omega) /- z_r32.lo z9#1 -/, (by omega) /- z_r32.hi z9#1 -/⟩) ?_
  refine wp_ck (z_r32_i.mpr ⟨(by omega) /- z_r32.lo x1#1 -/, (by omega) /- z_r32.hi x1#1 -/⟩) ?_
  refine wp_if (fun c1 => ?_) (fun c1 => ?_)
  ·
    refine wp_bd1 (s_X3_rowsWithKing _ _ _ (by omega) /- pre X3_rowsWithKing.1#1 -/ (by omega) /- pre X3_rowsWithKing.2#1 -/ (by omega) /- pre X3_rowsWithKing.3#1 -/ (by omega) /- pre X3_rowsWithKing.4#1 -/ (by exact i_B_X3_rowsOfReign_6_3) /- pre X3_rowsWithKing.5#1 -/) (fun z8 q_X3_rowsWithKing_1 => ?_)
    try dsimp only at q_X3_rowsWithKing_1
    have hsr := sum_rng (f := fun j => w10 (i_p0_kitchen_state_king * 7 + j)) (b := 9765625) (by decide) i_p0_kitchen_rules_seats.toNat (fun j a b => ⟨i_B_X3_rowsOfReign_6_3 _ (by omega) (by omega), Int.le_trans (sum_one (m := 49) i_B_X3_rowsOfReign_6_3 (by omega) (by omega)) (by omega)⟩)
    refine wp_some ?_
    try dsimp only
    all_goals exact ⟨(by rw [q_X3_rowsWithKing_1]; omega) /- post1#1 -/, (by unfold Hid; rw [q_X3_rowsWithKing_1]; exact sum_ext _ (fun b u v => by rw [i_B_X3_rowsOfReign_6_5 _ b (by omega) (by omega) u (by omega), show z9 = x1 from by omega])) /- post2#1 -/⟩
  ·
    refine wp_bd2 (s_X3_goOn _ _ _ _ _ _ _ v_p0_kitchen_state_friends (by omega) /- pre X3_goOn.1#1 -/ (by omega) /- pre X3_goOn.2#1 -/ (by omega) /- pre X3_goOn.3#1 -/ (by omega) /- pre X3_goOn.4#1 -/ (by exact h5) /- pre X3_goOn.5#1 -/ (by exact q_X3_begin_1_2) /- pre X3_goOn.6#1 -/ (by omega) /- pre X3_goOn.7#1 -/ (by omega) /- pre X3_goOn.8#1 -/ (by exact i_B_X3_rowsOfReign_6_3) /- pre X3_goOn.9#1 -/ (by omega) /- pre X3_goOn.10#1 -/) (fun w15 w16 q_X3_goOn_1 => ?_)
    try dsimp only at q_X3_goOn_1
    obtain ⟨q_X3_goOn_1_1, q_X3_goOn_1_2, q_X3_goOn_1_3⟩ := q_X3_goOn_1
    refine wp_bndE (fun z17 hz17 => ?_)
    exact ih_B_X3_rowsOfReign_6 _ _ _ ⟨(by omega) /- B_X3_rowsOfReign_6.inv1#1 -/, (by omega) /- B_X3_rowsOfReign_6.inv2#1 -/, (by exact q_X3_goOn_1_1) /- B_X3_rowsOfReign_6.inv3#1 -/, (by subst hz17; rw [pow_step i_B_X3_rowsOfReign_6_1]; omega) /- B_X3_rowsOfReign_6.inv4#1 -/, (by 
                                        intro k2 b2 k0 k1 b0 b1
                                        subst hz17
                                        rw [show (z9 + 1).toNat = z9.toNat + 1 from by omega, q_X3_goOn_1_3 k2 b2 k0 (by omega) b0 (by omega)]
                                        show sumTo _ _ = sumTo _ _
                                        refine sum_ext _ (fun k a c => sum_ext _ (fun b u v => ?_))
                                        rw [i_B_X3_rowsOfReign_6_5 k b a (by omega) u (by omega)]) /- B_X3_rowsOfReign_6.inv5#1 -/⟩ (by omega) /- B_X3_rowsOfReign_6.dec#1 -/

set_option maxHeartbeats 2000000 in
theorem s_X3_triesWithFinds (i_p0_kitchen_rules_seats : Int) (v_p0_finds : (Int → Int)) (x1 : Int) (x2 : Int) (h1 : 2 ≤ i_p0_kitchen_rules_seats) (h2 : i_p0_kitchen_rules_seats ≤ 7) (h3 : 0 ≤ x1) (h4 : x1 ≤ x2) (h5 : 1 ≤ x2) (h6 : x2 ≤ 12) : wp (f_X3_triesWithFinds i_p0_kitchen_rules_seats v_p0_finds x1 x2) (fun o => (0 ≤ o.1 ∧ o.1 ≤ 1000000000000) ∧ (Hid (o.1 = sumTo (fun j => if x1 ≤ j then tfn (i_p0_kitchen_rules_seats - 1) x2.toNat j else 0) (x2 + 1).toNat))) := by
  unfold f_X3_triesWithFinds
  refine wp_bd1 (s_J7_fill_d0a16 _ _ _ (by decide) /- pre J7_fill_d0a16.1#1 -/) (fun w1 q_J7_fill_d0a16_1 => ?_)
  try dsimp only at q_J7_fill_d0a16_1
  refine wp_ck (z_ix_i.mpr ⟨⟨(by omega) /- ix.lo (0 : Int)#1 -/, (by omega) /- ix.hi (0 : Int)#1 -/⟩, (by omega) /- ix.big (0 : Int)#1 -/⟩) ?_
  refine wp_bnd ?_
  refine wp_bnd ?_
  refine wp_jn ?_
  refine wp_lq2 (fun (z15 : Int) (w16 : (Int → Int)) => (1 ≤ z15) ∧ (z15 ≤ x2 + 1) ∧ (∀ j, 0 ≤ j → j < 13 → 0 ≤ w16 j ∧ w16 j ≤ (7 : Int) ^ (z15 - 1).toNat) ∧ (∀ j, 0 ≤ j → j < 13 → w16 j = tfn (i_p0_kitchen_rules_seats - 1) (z15 - 1).toNat j)) (fun (z15 : Int) (w16 : (Int → Int)) => (x2 + 1 - z15).toNat) (fun again17 z15 w16 hI ih_B_X3_triesWithFinds_17 => ?_) 1000 _ _ ⟨(by omega) /- B_X3_triesWithFinds_17.init1#1 -/, (by omega) /- B_X3_triesWithFinds_17.init2#1 -/, (by intro j a b; rw [q_J7_fill_d0a16_1, show ((13 : Nat) : Int) = 13 from rfl, z_up_a]; split; decide; rw [z_fill_in a b]; decide) /- B_X3_triesWithFinds_17.init3#1 -/, (by intro j a b; rw [q_J7_fill_d0a16_1, show ((13 : Nat) : Int) = 13 from rfl, z_up_a]; show _ = if j = 0 then (1 : Int) else 0; split; rfl; rw [z_fill_in a b]) /- B_X3_triesWithFinds_17.init4#1 -/⟩ (by omega) /- B_X3_triesWithFinds_17.fuel#1 -/
  obtain ⟨i_B_X3_triesWithFinds_17_1, i_B_X3_triesWithFinds_17_2, i_B_X3_triesWithFinds_17_3, i_B_X3_triesWithFinds_17_4⟩ := hI
  unfold B_X3_triesWithFinds_17
  have hp7 := pow7_r (z := z15 - 1) (by omega) (by omega)
  refine wp_ck (z_r32_i.mpr ⟨(by omega) /- z_r32.lo z15#1 -/, (by omega) /- z_r32.hi z15#1 -/⟩) ?_
  refine wp_ck (z_r32_i.mpr ⟨(by omega) /- z_r32.lo x2#1 -/, (by omega) /- z_r32.hi x2#1 -/⟩) ?_
  refine wp_if (fun c1 => ?_) (fun c1 => ?_)
  ·
    refine wp_bnd ?_
    refine wp_bnd ?_
    refine wp_lq2 (fun (z8 : Int) (z9 : Int) => (x1 ≤ z8) ∧ (z8 ≤ x2 + 1) ∧ (0 ≤ z9) ∧ (z9 ≤ 13841287201 * z8) ∧ (Hid (z9 = sumTo (fun j => if x1 ≤ j then tfn (i_p0_kitchen_rules_seats - 1) x2.toNat j else 0) z8.toNat))) (fun (z8 : Int) (z9 : Int) => (x2 + 1 - z8).toNat) (fun again107 z8 z9 hI ih_B_X3_triesWithFinds_107 => ?_) 1000 _ _ ⟨(by omega) /- B_X3_triesWithFinds_107.init1#1 -/, (by omega) /- B_X3_triesWithFinds_107.init2#1 -/, (by omega) /- B_X3_triesWithFinds_107.init3#1 -/, (by omega) /- B_X3_triesWithFinds_107.init4#1 -/, (by unfold Hid; exact (sum_zero (fun j a b => if_neg (by omega))).symm) /- B_X3_triesWithFinds_107.init5#1 -/⟩ (by omega) /- B_X3_triesWithFinds_107.fuel#1 -/
    obtain ⟨i_B_X3_triesWithFinds_107_1, i_B_X3_triesWithFinds_107_2, i_B_X3_triesWithFinds_107_3, i_B_X3_triesWithFinds_107_4, i_B_X3_triesWithFinds_107_5⟩ := hI
    unfold B_X3_triesWithFinds_107
    have hw := fun (h : z8 ≤ x2) => i_B_X3_triesWithFinds_17_3 z8 (by omega) (by omega)
    refine wp_ck (z_r32_i.mpr ⟨(by omega) /- z_r32.lo z8#1 -/, (by omega) /- z_r32.hi z8#1 -/⟩) ?_
    refine wp_ck (z_r32_i.mpr ⟨(by omega) /- z_r32.lo x2#2 -/, (by omega) /- z_r32.hi x2#2 -/⟩) ?_
    refine wp_if (fun c2 => ?_) (fun c2 => ?_)
    ·
      refine wp_some ?_
      try dsimp only
      all_goals exact ⟨(by omega) /- post1#1 -/, (by unfold Hid; rw [hid i_B_X3_triesWithFinds_107_5]; congr 1; omega) /- post2#1 -/⟩
    ·
      refine wp_ck (z_ix_i.mpr ⟨⟨(by omega) /- ix.lo z8#1 -/, (by omega) /- ix.hi z8#1 -/⟩, (by omega) /- ix.big z8#1 -/⟩) ?_
      refine wp_bndE (fun z13 hz13 => ?_)
      refine wp_bndE (fun z14 hz14 => ?_)
      exact ih_B_X3_triesWithFinds_107 _ _ ⟨(by omega) /- B_X3_triesWithFinds_107.inv1#1 -/, (by omega) /- B_X3_triesWithFinds_107.inv2#1 -/, (by omega) /- B_X3_triesWithFinds_107.inv3#1 -/, (by omega) /- B_X3_triesWithFinds_107.inv4#1 -/, (by unfold Hid; subst hz13 hz14; rw [sum_s (by omega), ← hid i_B_X3_triesWithFinds_107_5, if_pos (by omega), i_B_X3_triesWithFinds_17_4 z8 (by omega) (by omega)]; congr 4; omega) /- B_X3_triesWithFinds_107.inv5#1 -/⟩ (by omega) /- B_X3_triesWithFinds_107.dec#1 -/
  ·
    refine wp_bnd ?_
    refine wp_jn ?_
    refine wp_lq2 (fun (z26 : Int) (w27 : (Int → Int)) => (0 ≤ z26) ∧ (z26 ≤ z15) ∧ (∀ j, 0 ≤ j → j < 13 → 0 ≤ w27 j ∧ w27 j ≤ 7 * (7 : Int) ^ (z15 - 1).toNat) ∧ (∀ j, 0 ≤ j → j ≤ z26 → 0 ≤ w27 j ∧ w27 j ≤ (7 : Int) ^ (z15 - 1).toNat) ∧ (∀ j, z26 < j → j < 13 → w27 j = tfn (i_p0_kitchen_rules_seats - 1) z15.toNat j) ∧ (∀ j, 0 ≤ j → j ≤ z26 → w27 j = tfn (i_p0_kitchen_rules_seats - 1) (z15 - 1).toNat j)) (fun (z26 : Int) (w27 : (Int → Int)) => z26.toNat) (fun again25 z26 w27 hI ih_B_X3_triesWithFinds_25 => ?_) 1000 _ _ ⟨(by omega) /- B_X3_triesWithFinds_25.init1#1 -/, (by omega) /- B_X3_triesWithFinds_25.init2#1 -/, (by intro j a b; have := i_B_X3_triesWithFinds_17_3 j a b; omega) /- B_X3_triesWithFinds_25.init3#1 -/, (by intro j a b; exact i_B_X3_triesWithFinds_17_3 j a (by omega)) /- B_X3_triesWithFinds_25.init4#1 -/, (by intro j a b; rw [i_B_X3_triesWithFinds_17_4 j (by omega) b, tfn_0 _ (by omega), tfn_0 _ (by omega)]) /- B_X3_triesWithFinds_25.init5#1 -/, (by intro j a b; exact i_B_X3_triesWithFinds_17_4 j a (by omega)) /- B_X3_triesWithFinds_25.init6#1 -/⟩ (by omega) /- B_X3_triesWithFinds_25.fuel#1 -/
    obtain ⟨i_B_X3_triesWithFinds_25_1, i_B_X3_triesWithFinds_25_2, i_B_X3_triesWithFinds_25_3, i_B_X3_triesWithFinds_25_4, i_B_X3_triesWithFinds_25_5, i_B_X3_triesWithFinds_25_6⟩ := hI
    unfold B_X3_triesWithFinds_25
    refine wp_ck (z_r32_i.mpr ⟨(by omega) /- z_r32.lo z26#1 -/, (by omega) /- z_r32.hi z26#1 -/⟩) ?_
    refine wp_if (fun c3 => ?_) (fun c3 => ?_)
    ·
      refine wp_ck (z_ix_i.mpr ⟨⟨(by omega) /- ix.lo (0 : Int)#2 -/, (by omega) /- ix.hi (0 : Int)#2 -/⟩, (by omega) /- ix.big (0 : Int)#2 -/⟩) ?_
      refine wp_ck (z_r32_i.mpr ⟨(by omega) /- z_r32.lo (i_p0_kitchen_rules_seats - (1 : Int))#1 -/, (by omega) /- z_r32.hi (i_p0_kitchen_rules_seats - (1 : Int))#1 -/⟩) ?_
      refine wp_ck (z_ix_i.mpr ⟨⟨(by omega) /- ix.lo (0 : Int)#3 -/, (by omega) /- ix.hi (0 : Int)#3 -/⟩, (by omega) /- ix.big (0 : Int)#3 -/⟩) ?_
      refine wp_bnd ?_
      refine wp_bndE (fun z25 hz25 => ?_)
      exact ih_B_X3_triesWithFinds_17 _ _ ⟨(by omega) /- B_X3_triesWithFinds_17.inv1#1 -/, (by omega) /- B_X3_triesWithFinds_17.inv2#1 -/, (by 
                                        have e1 := i_B_X3_triesWithFinds_25_4 0 (by omega) (by omega)
                                        have m0 : 0 ≤ w27 0 * (i_p0_kitchen_rules_seats - 1) := Int.mul_nonneg e1.1 (by omega)
                                        have m1 : w27 0 * (i_p0_kitchen_rules_seats - 1) ≤ (7 : Int) ^ (z15 - 1).toNat * 6 := Int.mul_le_mul e1.2 (by omega) (by omega) (by omega)
                                        intro j a b
                                        subst hz25
                                        rw [show z15 + 1 - 1 = (z15 - 1) + 1 from by omega, pow_step (by omega), z_up_a]; split
                                        · omega
                                        · have := i_B_X3_triesWithFinds_25_3 j a b; omega) /- B_X3_triesWithFinds_17.inv3#1 -/, (by intro j a b; subst hz25; rw [show z15 + 1 - 1 = z15 from by omega, z_up_a]; split; (rename_i e; rw [e, tfn_z (by omega), i_B_X3_triesWithFinds_25_6 0 (by omega) (by omega)]); exact i_B_X3_triesWithFinds_25_5 j (by omega) b) /- B_X3_triesWithFinds_17.inv4#1 -/⟩ (by omega) /- B_X3_triesWithFinds_17.dec#1 -/
    ·
      refine wp_ck (z_ix_i.mpr ⟨⟨(by omega) /- ix.lo z26#1 -/, (by omega) /- ix.hi z26#1 -/⟩, (by omega) /- ix.big z26#1 -/⟩) ?_
      refine wp_ck (z_r32_i.mpr ⟨(by omega) /- z_r32.lo (i_p0_kitchen_rules_seats - (1 : Int))#2 -/, (by omega) /- z_r32.hi (i_p0_kitchen_rules_seats - (1 : Int))#2 -/⟩) ?_
      refine wp_ck (z_ix_i.mpr ⟨⟨(by omega) /- ix.lo (z26 - (1 : Int))#1 -/, (by omega) /- ix.hi (z26 - (1 : Int))#1 -/⟩, (by omega) /- ix.big (z26 - (1 : Int))#1 -/⟩) ?_
      refine wp_ck (z_ix_i.mpr ⟨⟨(by omega) /- ix.lo z26#2 -/, (by omega) /- ix.hi z26#2 -/⟩, (by omega) /- ix.big z26#2 -/⟩) ?_
      refine wp_bnd ?_
      refine wp_bndE (fun z32 hz32 => ?_)
      exact ih_B_X3_triesWithFinds_25 _ _ ⟨(by omega) /- B_X3_triesWithFinds_25.inv1#1 -/, (by omega) /- B_X3_triesWithFinds_25.inv2#1 -/, (by 
                                        have e1 := i_B_X3_triesWithFinds_25_4 z26 (by omega) (by omega)
                                        have e2 := i_B_X3_triesWithFinds_25_4 (z26 - 1) (by omega) (by omega)
                                        have m0 : 0 ≤ w27 z26 * (i_p0_kitchen_rules_seats - 1) := Int.mul_nonneg e1.1 (by omega)
                                        have m1 : w27 z26 * (i_p0_kitchen_rules_seats - 1) ≤ (7 : Int) ^ (z15 - 1).toNat * 6 := Int.mul_le_mul e1.2 (by omega) (by omega) (by omega)
                                        intro j a b; rw [z_up_a]; split
                                        · omega
                                        · exact i_B_X3_triesWithFinds_25_3 j a b) /- B_X3_triesWithFinds_25.inv3#1 -/, (by intro j a b; rw [z_up_n _ _ (by omega)]; exact i_B_X3_triesWithFinds_25_4 j a (by omega)) /- B_X3_triesWithFinds_25.inv4#1 -/, (by intro j a b; rw [z_up_a]; split; (rename_i e; rw [e, tfn_s (by omega) (by omega), i_B_X3_triesWithFinds_25_6 z26 (by omega) (by omega), i_B_X3_triesWithFinds_25_6 (z26 - 1) (by omega) (by omega)]); exact i_B_X3_triesWithFinds_25_5 j (by omega) b) /- B_X3_triesWithFinds_25.inv5#1 -/, (by intro j a b; rw [z_up_n _ _ (by omega)]; exact i_B_X3_triesWithFinds_25_6 j a (by omega)) /- B_X3_triesWithFinds_25.inv6#1 -/⟩ (by omega) /- B_X3_triesWithFinds_25.dec#1 -/

set_option maxHeartbeats 1000000 in
theorem s_X3_power (x0 : Int) (x1 : Int) (h1 : 0 ≤ x0) (h2 : x0 ≤ 7) (h3 : 0 ≤ x1) (h4 : x1 ≤ 12) : wp (f_X3_power x0 x1) (fun o => (o = x0 ^ x1.toNat)) := by
  unfold f_X3_power
  refine wp_bnd ?_
  refine wp_bnd ?_
  refine wp_lq2 (fun (z3 : Int) (z4 : Int) => (0 ≤ z3) ∧ (z3 ≤ x1) ∧ (z4 = x0 ^ z3.toNat)) (fun (z3 : Int) (z4 : Int) => (x1 - z3).toNat) (fun again5 z3 z4 hI ih_B_X3_power_5 => ?_) 1000 _ _ ⟨(by omega) /- B_X3_power_5.init1#1 -/, (by omega) /- B_X3_power_5.init2#1 -/, (by exact (Int.pow_zero x0).symm) /- B_X3_power_5.init3#1 -/⟩ (by omega) /- B_X3_power_5.fuel#1 -/
  obtain ⟨i_B_X3_power_5_1, i_B_X3_power_5_2, i_B_X3_power_5_3⟩ := hI
  unfold B_X3_power_5
  refine wp_ck (z_r32_i.mpr ⟨(by omega) /- z_r32.lo z3#1 -/, (by omega) /- z_r32.hi z3#1 -/⟩) ?_
  refine wp_ck (z_r32_i.mpr ⟨(by omega) /- z_r32.lo x1#1 -/, (by omega) /- z_r32.hi x1#1 -/⟩) ?_
  refine wp_if (fun c1 => ?_) (fun c1 => ?_)
  ·
    refine wp_some ?_
    try dsimp only
    all_goals exact (by rw [i_B_X3_power_5_3]; congr 1; omega) /- post1#1 -/
  ·
    refine wp_ck (z_r32_i.mpr ⟨(by omega) /- z_r32.lo x0#1 -/, (by omega) /- z_r32.hi x0#1 -/⟩) ?_
    refine wp_bndE (fun z9 hz9 => ?_)
    refine wp_bndE (fun z10 hz10 => ?_)
    exact ih_B_X3_power_5 _ _ ⟨(by omega) /- B_X3_power_5.inv1#1 -/, (by omega) /- B_X3_power_5.inv2#1 -/, (by subst hz9 hz10; rw [pow_step i_B_X3_power_5_1, ← i_B_X3_power_5_3]) /- B_X3_power_5.inv3#1 -/⟩ (by omega) /- B_X3_power_5.dec#1 -/

set_option maxHeartbeats 1000000 in
theorem s_X3_greatestDivisor (x0 : Int) (x2 : Int) (h1 : 0 ≤ x0) (h2 : x0 < 1099511627776) (h3 : 0 < x2) (h4 : x2 < 1099511627776) : wp (f_X3_greatestDivisor x0 x2) (fun o => (0 < o ∧ o < 4611686018427387904) ∧ (o = gz x0 x2)) := by
  unfold f_X3_greatestDivisor
  refine wp_bnd ?_
  refine wp_bnd ?_
  refine wp_bnd ?_
  refine wp_lq3 (fun (z4 : Int) (z5 : Int) (z6 : Int) => (0 ≤ z4) ∧ (z4 ≤ 200) ∧ (0 ≤ z5 ∧ z5 < 4611686018427387904) ∧ (0 ≤ z6 ∧ z6 < 4611686018427387904) ∧ (0 < z6 ∨ 0 < z5) ∧ (0 < z4 → 0 < z6) ∧ (Hid (gz z6 z5 = gz x0 x2)) ∧ ((eum z5 z6 : Int) + z4 ≤ 161)) (fun (z4 : Int) (z5 : Int) (z6 : Int) => (200 - z4).toNat) (fun again9 z4 z5 z6 hI ih_B_X3_greatestDivisor_9 => ?_) 1000 _ _ _ ⟨(by omega) /- B_X3_greatestDivisor_9.init1#1 -/, (by omega) /- B_X3_greatestDivisor_9.init2#1 -/, (by omega) /- B_X3_greatestDivisor_9.init3#1 -/, (by omega) /- B_X3_greatestDivisor_9.init4#1 -/, (by omega) /- B_X3_greatestDivisor_9.init5#1 -/, (by omega) /- B_X3_greatestDivisor_9.init6#1 -/, (by exact hd_ rfl) /- B_X3_greatestDivisor_9.init7#1 -/, (by have := eum_bd (x := x0) (y := x2) h1 (by omega) h2 h4; omega) /- B_X3_greatestDivisor_9.init8#1 -/⟩ (by omega) /- B_X3_greatestDivisor_9.fuel#1 -/
  obtain ⟨i_B_X3_greatestDivisor_9_1, i_B_X3_greatestDivisor_9_2, i_B_X3_greatestDivisor_9_3, i_B_X3_greatestDivisor_9_4, i_B_X3_greatestDivisor_9_5, i_B_X3_greatestDivisor_9_6, i_B_X3_greatestDivisor_9_7, i_B_X3_greatestDivisor_9_8⟩ := hI
  unfold B_X3_greatestDivisor_9
  refine wp_ck (z_r32_i.mpr ⟨(by omega) /- z_r32.lo z4#1 -/, (by omega) /- z_r32.hi z4#1 -/⟩) ?_
  refine wp_if (fun c1 => ?_) (fun c1 => ?_)
  ·
    refine wp_some ?_
    try dsimp only
    all_goals exact ⟨(by omega) /- post1#1 -/, (by exfalso; omega) /- post2#1 -/⟩
  ·
    refine wp_ck (z_r64_i.mpr ⟨(by omega) /- z_r64.lo z5#1 -/, (by omega) /- z_r64.hi z5#1 -/⟩) ?_
    refine wp_ck (z_r32_cmp _ _) ?_
    refine wp_if (fun c2 => ?_) (fun c2 => ?_)
    ·
      have hc0 := cmp_0.mp c2
      refine wp_some ?_
      try dsimp only
      all_goals exact ⟨(by omega) /- post1#2 -/, (by rw [← hid i_B_X3_greatestDivisor_9_7, hc0, gz_0 (by omega)]) /- post2#2 -/⟩
    ·
      have hc0 : ¬ z5 = 0 := fun h => c2 (cmp_0.mpr h)
      have hm0 : 0 ≤ z6 % z5 := rg_lo (by omega)
      have hm1 : z6 % z5 < z5 := rg_hi (by omega)
      refine wp_ck (w_dv_i.mpr ⟨⟨⟨(by omega) /- dv.0 z6#1 -/, (by omega) /- dv.1 z6#1 -/⟩, (by omega) /- dv.2 z6#1 -/⟩, (by omega) /- dv.3 z6#1 -/⟩) ?_
      refine wp_bndE (fun z11 hz11 => ?_)
      refine wp_bnd ?_
      refine wp_bnd ?_
      refine wp_bndE (fun z14 hz14 => ?_)
      exact ih_B_X3_greatestDivisor_9 _ _ _ ⟨(by omega) /- B_X3_greatestDivisor_9.inv1#1 -/, (by omega) /- B_X3_greatestDivisor_9.inv2#1 -/, (by omega) /- B_X3_greatestDivisor_9.inv3#1 -/, (by omega) /- B_X3_greatestDivisor_9.inv4#1 -/, (by omega) /- B_X3_greatestDivisor_9.inv5#1 -/, (by omega) /- B_X3_greatestDivisor_9.inv6#1 -/, (by subst hz11; unfold Hid; rw [gz_step (by omega) (by omega)]; exact i_B_X3_greatestDivisor_9_7) /- B_X3_greatestDivisor_9.inv7#1 -/, (by subst hz11; have := eum_dec (x := z6) (y := z5) (by omega) (by omega) (by omega) (by omega); omega) /- B_X3_greatestDivisor_9.inv8#1 -/⟩ (by omega) /- B_X3_greatestDivisor_9.dec#1 -/

set_option maxHeartbeats 1000000 in
theorem s_X3_part (x0 : Int) (x2 : Int) (x4 : Int) (h1 : 0 ≤ x0) (h2 : x0 < 1099511627776) (h3 : 0 < x2) (h4 : x2 < 1099511627776) (h5 : x4 = 0 ∨ x4 = 1) : wp (f_X3_part x0 x2 x4) (fun o => (-9223372036854775808 ≤ o ∧ o < 9223372036854775808) ∧ (Hid (o = if x4 = 0 then x0 / gz x0 x2 else x2 / gz x0 x2))) := by
  unfold f_X3_part
  refine wp_bd1 (s_X3_greatestDivisor _ _ (by omega) /- pre X3_greatestDivisor.1#1 -/ (by omega) /- pre X3_greatestDivisor.2#1 -/ (by omega) /- pre X3_greatestDivisor.3#1 -/ (by omega) /- pre X3_greatestDivisor.4#1 -/) (fun z1 q_X3_greatestDivisor_1 => ?_)
  try dsimp only at q_X3_greatestDivisor_1
  obtain ⟨q_X3_greatestDivisor_1_1, q_X3_greatestDivisor_1_2⟩ := q_X3_greatestDivisor_1
  refine wp_bnd ?_
  refine wp_ck (z_r64_i.mpr ⟨(by omega) /- z_r64.lo z2#1 -/, (by omega) /- z_r64.hi z2#1 -/⟩) ?_
  refine wp_ck (z_r32_cmp _ _) ?_
  refine wp_if (fun c1 => ?_) (fun c1 => ?_)
  ·
    have hc0 := cmp_0.mp c1
    refine wp_ck (z_r32_i.mpr ⟨(by omega) /- z_r32.lo x4#1 -/, (by omega) /- z_r32.hi x4#1 -/⟩) ?_
    refine wp_some ?_
    try dsimp only
    all_goals exact ⟨(by omega) /- post1#1 -/, (by exfalso; omega) /- post2#1 -/⟩
  ·
    refine wp_ck (z_r32_i.mpr ⟨(by omega) /- z_r32.lo x4#2 -/, (by omega) /- z_r32.hi x4#2 -/⟩) ?_
    refine wp_if (fun c2 => ?_) (fun c2 => ?_)
    ·
      refine wp_ck (w_dv_i.mpr ⟨⟨⟨(by omega) /- dv.0 x0#1 -/, (by omega) /- dv.1 x0#1 -/⟩, (by omega) /- dv.2 x0#1 -/⟩, (by omega) /- dv.3 x0#1 -/⟩) ?_
      refine wp_some ?_
      try dsimp only
      all_goals exact ⟨(by have a := Int.ediv_nonneg h1 (show 0 ≤ z1 by omega); have b := Int.ediv_le_self z1 h1; omega) /- post1#2 -/, (by unfold Hid; rw [if_pos (by assumption), ← q_X3_greatestDivisor_1_2]) /- post2#2 -/⟩
    ·
      refine wp_ck (w_dv_i.mpr ⟨⟨⟨(by omega) /- dv.0 x2#1 -/, (by omega) /- dv.1 x2#1 -/⟩, (by omega) /- dv.2 x2#1 -/⟩, (by omega) /- dv.3 x2#1 -/⟩) ?_
      refine wp_some ?_
      try dsimp only
      all_goals exact ⟨(by have a := Int.ediv_nonneg (show 0 ≤ x2 by omega) (show 0 ≤ z1 by omega); have b := Int.ediv_le_self z1 (show 0 ≤ x2 by omega); omega) /- post1#3 -/, (by unfold Hid; rw [if_neg (by assumption), ← q_X3_greatestDivisor_1_2]) /- post2#3 -/⟩

set_option maxHeartbeats 1000000 in
theorem s_X4_stirsBringing (i_p0_kitchen_rules_stirs : Int) (v_p0_kitchen_rules_after : (Int → Int)) (x1 : Int) (x2 : Int) (n : Int) (h1 : 2 ≤ n) (h2 : n ≤ 7) (h3 : 0 ≤ i_p0_kitchen_rules_stirs) (h4 : i_p0_kitchen_rules_stirs ≤ 5) (h5 : rows n i_p0_kitchen_rules_stirs v_p0_kitchen_rules_after) (h6 : 0 ≤ x1) (h7 : x1 < n) (h8 : -2147483648 ≤ x2) (h9 : x2 < 2147483648) : wp (f_X4_stirsBringing i_p0_kitchen_rules_stirs v_p0_kitchen_rules_after x1 x2) (fun o => (o = bitsOf (fun t => v_p0_kitchen_rules_after (t * 7 + x1) = x2) i_p0_kitchen_rules_stirs.toNat)) := by
  unfold f_X4_stirsBringing
  refine wp_bnd ?_
  refine wp_bnd ?_
  refine wp_lq2 (fun (z3 : Int) (z4 : Int) => (0 ≤ z3) ∧ (z3 ≤ i_p0_kitchen_rules_stirs) ∧ (z4 = bitsOf (fun t => v_p0_kitchen_rules_after (t * 7 + x1) = x2) z3.toNat)) (fun (z3 : Int) (z4 : Int) => (i_p0_kitchen_rules_stirs - z3).toNat) (fun again5 z3 z4 hI ih_B_X4_stirsBringing_5 => ?_) 1000 _ _ ⟨(by omega) /- B_X4_stirsBringing_5.init1#1 -/, (by omega) /- B_X4_stirsBringing_5.init2#1 -/, (by rfl) /- B_X4_stirsBringing_5.init3#1 -/⟩ (by omega) /- B_X4_stirsBringing_5.fuel#1 -/
  obtain ⟨i_B_X4_stirsBringing_5_1, i_B_X4_stirsBringing_5_2, i_B_X4_stirsBringing_5_3⟩ := hI
  unfold B_X4_stirsBringing_5
  refine wp_ck (z_r32_i.mpr ⟨(by omega) /- z_r32.lo z3#1 -/, (by omega) /- z_r32.hi z3#1 -/⟩) ?_
  refine wp_ck (z_r32_i.mpr ⟨(by omega) /- z_r32.lo i_p0_kitchen_rules_stirs#1 -/, (by omega) /- z_r32.hi i_p0_kitchen_rules_stirs#1 -/⟩) ?_
  refine wp_if (fun c1 => ?_) (fun c1 => ?_)
  ·
    refine wp_some ?_
    try dsimp only
    all_goals exact (by rw [i_B_X4_stirsBringing_5_3]; congr 1; omega) /- post1#1 -/
  ·
    refine wp_bd1 (s_X6_placeAfter _ _ _ (by omega) /- pre X6_placeAfter.1#1 -/ (by omega) /- pre X6_placeAfter.2#1 -/ (by omega) /- pre X6_placeAfter.3#1 -/ (by omega) /- pre X6_placeAfter.4#1 -/) (fun z8 q_X6_placeAfter_1 => ?_)
    try dsimp only at q_X6_placeAfter_1
    have hra := row_use h5 i_B_X4_stirsBringing_5_1 (by omega) h6 h7
    rw [← q_X6_placeAfter_1] at hra
    refine wp_ck (z_r32_i.mpr ⟨(by omega) /- z_r32.lo z8#1 -/, (by omega) /- z_r32.hi z8#1 -/⟩) ?_
    refine wp_ck (z_r32_i.mpr ⟨(by omega) /- z_r32.lo x2#1 -/, (by omega) /- z_r32.hi x2#1 -/⟩) ?_
    refine wp_if (fun c2 => ?_) (fun c2 => ?_)
    ·
      refine wp_bndE (fun z12 hz12 => ?_)
      refine wp_bndE (fun z13 hz13 => ?_)
      exact ih_B_X4_stirsBringing_5 _ _ ⟨(by omega) /- B_X4_stirsBringing_5.inv1#1 -/, (by omega) /- B_X4_stirsBringing_5.inv2#1 -/, (by first | (rw [hz12, bits_fz i_B_X4_stirsBringing_5_1 (by show ¬ _ = _; omega)]; exact i_B_X4_stirsBringing_5_3) | (rw [hz10, bits_fz i_B_X4_stirsBringing_5_1 (by show ¬ _ = _; omega)]; exact i_B_X4_stirsBringing_5_3) | (rw [hz12, bits_tz i_B_X4_stirsBringing_5_1 (by show _ = _; omega), ← i_B_X4_stirsBringing_5_3]; omega) | (rw [hz11, bits_tz i_B_X4_stirsBringing_5_1 (by show _ = _; omega), ← i_B_X4_stirsBringing_5_3]; omega) | (rw [hz13, bits_tz i_B_X4_stirsBringing_5_1 (by show _ = _; omega), ← i_B_X4_stirsBringing_5_3]; omega) | (rw [hz11, bits_fz i_B_X4_stirsBringing_5_1 (by show ¬ _ = _; omega)]; exact i_B_X4_stirsBringing_5_3)) /- B_X4_stirsBringing_5.inv3#1 -/⟩ (by omega) /- B_X4_stirsBringing_5.dec#1 -/
    ·
      refine wp_bndE (fun z11 hz11 => ?_)
      exact ih_B_X4_stirsBringing_5 _ _ ⟨(by omega) /- B_X4_stirsBringing_5.inv1#2 -/, (by omega) /- B_X4_stirsBringing_5.inv2#2 -/, (by first | (rw [hz12, bits_fz i_B_X4_stirsBringing_5_1 (by show ¬ _ = _; omega)]; exact i_B_X4_stirsBringing_5_3) | (rw [hz10, bits_fz i_B_X4_stirsBringing_5_1 (by show ¬ _ = _; omega)]; exact i_B_X4_stirsBringing_5_3) | (rw [hz12, bits_tz i_B_X4_stirsBringing_5_1 (by show _ = _; omega), ← i_B_X4_stirsBringing_5_3]; omega) | (rw [hz11, bits_tz i_B_X4_stirsBringing_5_1 (by show _ = _; omega), ← i_B_X4_stirsBringing_5_3]; omega) | (rw [hz13, bits_tz i_B_X4_stirsBringing_5_1 (by show _ = _; omega), ← i_B_X4_stirsBringing_5_3]; omega) | (rw [hz11, bits_fz i_B_X4_stirsBringing_5_1 (by show ¬ _ = _; omega)]; exact i_B_X4_stirsBringing_5_3)) /- B_X4_stirsBringing_5.inv3#2 -/⟩ (by omega) /- B_X4_stirsBringing_5.dec#2 -/

set_option maxHeartbeats 1000000 in
theorem s_J6_bitCount_0f7a4 (x0 : Int) (h1 : 0 ≤ x0) (h2 : x0 < 32) : wp (f_J6_bitCount_0f7a4 x0) (fun o => (o = popc x0)) := by
  unfold f_J6_bitCount_0f7a4
  refine wp_bndE (fun z1 hz1 => ?_)
  refine wp_bndE (fun z2 hz2 => ?_)
  refine wp_bndE (fun z3 hz3 => ?_)
  refine wp_bndE (fun z4 hz4 => ?_)
  refine wp_bndE (fun z5 hz5 => ?_)
  refine wp_some ?_
  try dsimp only
  all_goals exact (by subst hz5 hz4 hz3 hz2 hz1; exact bcx_z h1 h2) /- post1#1 -/

set_option maxHeartbeats 1000000 in
theorem s_X4_howMany (i_p0_kitchen_rules_seats : Int) (i_p0_kitchen_rules_stirs : Int) (v_p0_kitchen_rules_after : (Int → Int)) (i_p0_kitchen_state_seenDays : Int) (i_p0_kitchen_state_bone : Int) (i_p0_kitchen_state_king : Int) (v_p0_kitchen_state_friends : (Int → Int)) (v_p0_kitchen_state_seen : (Int → Int)) (v_p0_kitchen_places : (Int → Int)) (v_p0_kitchen_holders : (Int → Int)) (v_p0_fitting : (Int → Int)) (h1 : 2 ≤ i_p0_kitchen_rules_seats) (h2 : i_p0_kitchen_rules_seats ≤ 7) (h3 : 0 ≤ i_p0_kitchen_rules_stirs) (h4 : i_p0_kitchen_rules_stirs ≤ 5) (h5 : rows i_p0_kitchen_rules_seats i_p0_kitchen_rules_stirs v_p0_kitchen_rules_after) (h6 : 0 ≤ i_p0_kitchen_state_bone) (h7 : i_p0_kitchen_state_bone < i_p0_kitchen_rules_seats) (h8 : 0 ≤ i_p0_kitchen_state_king) (h9 : i_p0_kitchen_state_king < i_p0_kitchen_rules_seats) (h10 : 0 ≤ i_p0_kitchen_state_seenDays) (h11 : i_p0_kitchen_state_seenDays ≤ 6) (h12 : ∀ j, 0 ≤ j → j < i_p0_kitchen_state_seenDays → 0 ≤ v_p0_kitchen_state_seen j ∧ v_p0_kitchen_state_seen j < i_p0_kitchen_rules_seats) : wp (f_X4_howMany i_p0_kitchen_rules_seats i_p0_kitchen_rules_stirs v_p0_kitchen_rules_after i_p0_kitchen_state_seenDays i_p0_kitchen_state_bone i_p0_kitchen_state_king v_p0_kitchen_state_friends v_p0_kitchen_state_seen v_p0_kitchen_places v_p0_kitchen_holders v_p0_fitting) (fun o => (0 ≤ o.1 ∧ o.1 ≤ 9765625) ∧ (∀ j, 0 ≤ j → j < i_p0_kitchen_state_seenDays → 0 ≤ o.2.2.2 j ∧ o.2.2.2 j < 32) ∧ (o.1 = prq i_p0_kitchen_rules_seats i_p0_kitchen_rules_stirs i_p0_kitchen_state_king i_p0_kitchen_state_bone v_p0_kitchen_state_friends v_p0_kitchen_state_seen (fun y b => v_p0_kitchen_rules_after (y * 7 + b)) i_p0_kitchen_state_seenDays.toNat) ∧ (∀ j, 0 ≤ j → j < i_p0_kitchen_state_seenDays → o.2.2.2 j = fitq i_p0_kitchen_rules_seats i_p0_kitchen_rules_stirs i_p0_kitchen_state_king i_p0_kitchen_state_bone v_p0_kitchen_state_friends v_p0_kitchen_state_seen (fun y b => v_p0_kitchen_rules_after (y * 7 + b)) j)) := by
  unfold f_X4_howMany
  refine wp_bnd ?_
  refine wp_bnd ?_
  refine wp_bnd ?_
  refine wp_bnd ?_
  refine wp_lq7 (fun (z5 : Int) (z6 : Int) (z7 : Int) (z8 : Int) (w9 : (Int → Int)) (w10 : (Int → Int)) (w11 : (Int → Int)) => (0 ≤ z5) ∧ (z5 ≤ i_p0_kitchen_state_seenDays) ∧ (0 ≤ z6 ∧ z6 < i_p0_kitchen_rules_seats) ∧ (0 ≤ z7 ∧ z7 < i_p0_kitchen_rules_seats) ∧ (0 ≤ z8) ∧ (z8 ≤ (5 : Int) ^ z5.toNat) ∧ (∀ j, 0 ≤ j → j < z5 → 0 ≤ w11 j ∧ w11 j < 32) ∧ (z7 = hk i_p0_kitchen_state_king v_p0_kitchen_state_seen z5) ∧ (z6 = hb i_p0_kitchen_rules_seats i_p0_kitchen_state_king i_p0_kitchen_state_bone v_p0_kitchen_state_friends v_p0_kitchen_state_seen z5) ∧ (z8 = prq i_p0_kitchen_rules_seats i_p0_kitchen_rules_stirs i_p0_kitchen_state_king i_p0_kitchen_state_bone v_p0_kitchen_state_friends v_p0_kitchen_state_seen (fun y b => v_p0_kitchen_rules_after (y * 7 + b)) z5.toNat) ∧ (∀ j, 0 ≤ j → j < z5 → w11 j = fitq i_p0_kitchen_rules_seats i_p0_kitchen_rules_stirs i_p0_kitchen_state_king i_p0_kitchen_state_bone v_p0_kitchen_state_friends v_p0_kitchen_state_seen (fun y b => v_p0_kitchen_rules_after (y * 7 + b)) j)) (fun (z5 : Int) (z6 : Int) (z7 : Int) (z8 : Int) (w9 : (Int → Int)) (w10 : (Int → Int)) (w11 : (Int → Int)) => (i_p0_kitchen_state_seenDays - z5).toNat) (fun again27 z5 z6 z7 z8 w9 w10 w11 hI ih_B_X4_howMany_27 => ?_) 1000 _ _ _ _ _ _ _ ⟨(by omega) /- B_X4_howMany_27.init1#1 -/, (by omega) /- B_X4_howMany_27.init2#1 -/, (by omega) /- B_X4_howMany_27.init3#1 -/, (by omega) /- B_X4_howMany_27.init4#1 -/, (by omega) /- B_X4_howMany_27.init5#1 -/, (by decide) /- B_X4_howMany_27.init6#1 -/, (by intro j; omega) /- B_X4_howMany_27.init7#1 -/, (by rfl) /- B_X4_howMany_27.init8#1 -/, (by rfl) /- B_X4_howMany_27.init9#1 -/, (by rfl) /- B_X4_howMany_27.init10#1 -/, (by intro j; omega) /- B_X4_howMany_27.init11#1 -/⟩ (by omega) /- B_X4_howMany_27.fuel#1 -/
  obtain ⟨i_B_X4_howMany_27_1, i_B_X4_howMany_27_2, i_B_X4_howMany_27_3, i_B_X4_howMany_27_4, i_B_X4_howMany_27_5, i_B_X4_howMany_27_6, i_B_X4_howMany_27_7, i_B_X4_howMany_27_8, i_B_X4_howMany_27_9, i_B_X4_howMany_27_10, i_B_X4_howMany_27_11⟩ := hI
  unfold B_X4_howMany_27
  have hp5 := pow5_r i_B_X4_howMany_27_1 (by omega)
  refine wp_ck (z_r32_i.mpr ⟨(by omega) /- z_r32.lo z5#1 -/, (by omega) /- z_r32.hi z5#1 -/⟩) ?_
  refine wp_ck (z_r32_i.mpr ⟨(by omega) /- z_r32.lo i_p0_kitchen_state_seenDays#1 -/, (by omega) /- z_r32.hi i_p0_kitchen_state_seenDays#1 -/⟩) ?_
  refine wp_if (fun c1 => ?_) (fun c1 => ?_)
  ·
    refine wp_some ?_
    try dsimp only
    all_goals exact ⟨(by omega) /- post1#1 -/, (by intro j a b; exact i_B_X4_howMany_27_7 j a (by omega)) /- post2#1 -/, (by rw [i_B_X4_howMany_27_10]; congr 1; omega) /- post3#1 -/, (by intro j a b; exact i_B_X4_howMany_27_11 j a (by omega)) /- post4#1 -/⟩
  ·
    refine wp_ck (z_ix_i.mpr ⟨⟨(by omega) /- ix.lo z5#1 -/, (by omega) /- ix.hi z5#1 -/⟩, (by omega) /- ix.big z5#1 -/⟩) ?_
    refine wp_bndE (fun z15 hz15 => ?_)
    have hse := h12 z5 (by omega) (by omega)
    refine wp_bd2 (s_X2_serve _ _ _ _ _ (by omega) /- pre X2_serve.1#1 -/ (by omega) /- pre X2_serve.2#1 -/ (by omega) /- pre X2_serve.3#1 -/ (by omega) /- pre X2_serve.4#1 -/) (fun w16 w17 q_X2_serve_1 => ?_)
    try dsimp only at q_X2_serve_1
    obtain ⟨q_X2_serve_1_1, q_X2_serve_1_2, q_X2_serve_1_3, q_X2_serve_1_4⟩ := q_X2_serve_1
    refine wp_bd1 (s_X2_placeOf _ _ _ (by omega) /- pre X2_placeOf.1#1 -/ (by omega) /- pre X2_placeOf.2#1 -/ (by omega) /- pre X2_placeOf.3#1 -/ (by omega) /- pre X2_placeOf.4#1 -/) (fun z18 q_X2_placeOf_1 => ?_)
    try dsimp only at q_X2_placeOf_1
    rw [q_X2_serve_1_1 z15 (by omega) (by omega)] at q_X2_placeOf_1
    have hpr := plc_rng (n := i_p0_kitchen_rules_seats) (k := z7) (f := v_p0_kitchen_state_friends z7) (p := z15) (by omega)
    have hhb : z18 = hb i_p0_kitchen_rules_seats i_p0_kitchen_state_king i_p0_kitchen_state_bone v_p0_kitchen_state_friends v_p0_kitchen_state_seen (z5 + 1) := by rw [hb_s i_B_X4_howMany_27_1, ← i_B_X4_howMany_27_8, ← hz15]; exact q_X2_placeOf_1
    refine wp_bnd ?_
    refine wp_bd1 (s_X4_stirsBringing _ _ _ _ i_p0_kitchen_rules_seats (by omega) /- pre X4_stirsBringing.1#1 -/ (by omega) /- pre X4_stirsBringing.2#1 -/ (by omega) /- pre X4_stirsBringing.3#1 -/ (by omega) /- pre X4_stirsBringing.4#1 -/ (by exact h5) /- pre X4_stirsBringing.5#1 -/ (by omega) /- pre X4_stirsBringing.6#1 -/ (by omega) /- pre X4_stirsBringing.7#1 -/ (by omega) /- pre X4_stirsBringing.8#1 -/ (by omega) /- pre X4_stirsBringing.9#1 -/) (fun z20 q_X4_stirsBringing_1 => ?_)
    try dsimp only at q_X4_stirsBringing_1
    have hfit : z20 = fitq i_p0_kitchen_rules_seats i_p0_kitchen_rules_stirs i_p0_kitchen_state_king i_p0_kitchen_state_bone v_p0_kitchen_state_friends v_p0_kitchen_state_seen (fun y b => v_p0_kitchen_rules_after (y * 7 + b)) z5 := by rw [q_X4_stirsBringing_1]; unfold fitq; rw [← i_B_X4_howMany_27_9, ← hhb]
    have hb5 := bits_rng5 (fun t => v_p0_kitchen_rules_after (t * 7 + z6) = z18) i_p0_kitchen_rules_stirs.toNat (by omega)
    rw [← q_X4_stirsBringing_1] at hb5
    refine wp_ck (z_ix_i.mpr ⟨⟨(by omega) /- ix.lo z5#2 -/, (by omega) /- ix.hi z5#2 -/⟩, (by omega) /- ix.big z5#2 -/⟩) ?_
    refine wp_bnd ?_
    refine wp_ck (z_ix_i.mpr ⟨⟨(by omega) /- ix.lo z5#3 -/, (by omega) /- ix.hi z5#3 -/⟩, (by omega) /- ix.big z5#3 -/⟩) ?_
    refine wp_bd1 (s_J6_bitCount_0f7a4 _ (by rw [z_up_s]; omega) /- pre J6_bitCount_0f7a4.1#1 -/ (by rw [z_up_s]; omega) /- pre J6_bitCount_0f7a4.2#1 -/) (fun z22 q_J6_bitCount_0f7a4_1 => ?_)
    try dsimp only at q_J6_bitCount_0f7a4_1
    have hpc := popc_r (z_up w11 z5 z20 z5)
    rw [← q_J6_bitCount_0f7a4_1] at hpc
    refine wp_bndE (fun z23 hz23 => ?_)
    refine wp_bnd ?_
    refine wp_bnd ?_
    refine wp_bndE (fun z26 hz26 => ?_)
    exact ih_B_X4_howMany_27 _ _ _ _ _ _ _ ⟨(by omega) /- B_X4_howMany_27.inv1#1 -/, (by omega) /- B_X4_howMany_27.inv2#1 -/, (by omega) /- B_X4_howMany_27.inv3#1 -/, (by omega) /- B_X4_howMany_27.inv4#1 -/, (by rw [hz23]; exact Int.mul_nonneg i_B_X4_howMany_27_5 hpc.1) /- B_X4_howMany_27.inv5#1 -/, (by rw [hz23, hz26, pow_step i_B_X4_howMany_27_1]; exact Int.mul_le_mul i_B_X4_howMany_27_6 hpc.2 hpc.1 (by omega)) /- B_X4_howMany_27.inv6#1 -/, (by intro j a b; rw [z_up_a]; split; exact hb5; exact i_B_X4_howMany_27_7 j a (by omega)) /- B_X4_howMany_27.inv7#1 -/, (by rw [hz26, hk_s i_B_X4_howMany_27_1]; exact hz15) /- B_X4_howMany_27.inv8#1 -/, (by rw [hz26]; exact hhb) /- B_X4_howMany_27.inv9#1 -/, (by rw [hz23, hz26]; unfold prq; rw [prod_s i_B_X4_howMany_27_1, q_J6_bitCount_0f7a4_1, z_up_s, hfit]; rw [i_B_X4_howMany_27_10]; rfl) /- B_X4_howMany_27.inv10#1 -/, (by intro j a b; rw [z_up_a]; split; (rename_i e; rw [e]; exact hfit); exact i_B_X4_howMany_27_11 j a (by omega)) /- B_X4_howMany_27.inv11#1 -/⟩ (by omega) /- B_X4_howMany_27.dec#1 -/

set_option maxHeartbeats 1000000 in
theorem s_X4_stirsOfDay (i_p0_kitchen_rules_seats : Int) (i_p0_kitchen_rules_stirs : Int) (v_p0_kitchen_rules_after : (Int → Int)) (i_p0_kitchen_state_seenDays : Int) (i_p0_kitchen_state_bone : Int) (i_p0_kitchen_state_king : Int) (v_p0_kitchen_state_friends : (Int → Int)) (v_p0_kitchen_state_seen : (Int → Int)) (v_p0_kitchen_places : (Int → Int)) (v_p0_kitchen_holders : (Int → Int)) (v_p0_fitting : (Int → Int)) (x1 : Int) (h1 : 2 ≤ i_p0_kitchen_rules_seats) (h2 : i_p0_kitchen_rules_seats ≤ 7) (h3 : 0 ≤ i_p0_kitchen_rules_stirs) (h4 : i_p0_kitchen_rules_stirs ≤ 5) (h5 : rows i_p0_kitchen_rules_seats i_p0_kitchen_rules_stirs v_p0_kitchen_rules_after) (h6 : 0 ≤ i_p0_kitchen_state_bone) (h7 : i_p0_kitchen_state_bone < i_p0_kitchen_rules_seats) (h8 : 0 ≤ i_p0_kitchen_state_king) (h9 : i_p0_kitchen_state_king < i_p0_kitchen_rules_seats) (h10 : 0 ≤ i_p0_kitchen_state_seenDays) (h11 : i_p0_kitchen_state_seenDays ≤ 6) (h12 : ∀ j, 0 ≤ j → j < i_p0_kitchen_state_seenDays → 0 ≤ v_p0_kitchen_state_seen j ∧ v_p0_kitchen_state_seen j < i_p0_kitchen_rules_seats) (h13 : -2147483648 ≤ x1) (h14 : x1 < 2147483648) : wp (f_X4_stirsOfDay i_p0_kitchen_rules_seats i_p0_kitchen_rules_stirs v_p0_kitchen_rules_after i_p0_kitchen_state_seenDays i_p0_kitchen_state_bone i_p0_kitchen_state_king v_p0_kitchen_state_friends v_p0_kitchen_state_seen v_p0_kitchen_places v_p0_kitchen_holders v_p0_fitting x1) (fun o => (0 ≤ o.1 ∧ o.1 < 32) ∧ (Hid (o.1 = (if (0 ≤ x1 ∧ x1 < i_p0_kitchen_state_seenDays) ∧ 0 < prq i_p0_kitchen_rules_seats i_p0_kitchen_rules_stirs i_p0_kitchen_state_king i_p0_kitchen_state_bone v_p0_kitchen_state_friends v_p0_kitchen_state_seen (fun y b => v_p0_kitchen_rules_after (y * 7 + b)) i_p0_kitchen_state_seenDays.toNat then fitq i_p0_kitchen_rules_seats i_p0_kitchen_rules_stirs i_p0_kitchen_state_king i_p0_kitchen_state_bone v_p0_kitchen_state_friends v_p0_kitchen_state_seen (fun y b => v_p0_kitchen_rules_after (y * 7 + b)) x1 else 0)))) := by
  unfold f_X4_stirsOfDay
  refine wp_ck (z_r32_i.mpr ⟨(by omega) /- z_r32.lo x1#1 -/, (by omega) /- z_r32.hi x1#1 -/⟩) ?_
  refine wp_jn ?_
  refine wp_jn ?_
  refine wp_if (fun c1 => ?_) (fun c1 => ?_)
  ·
    refine wp_bnd ?_
    refine wp_ck (z_r32_i.mpr ⟨(by omega) /- z_r32.lo z4#1 -/, (by omega) /- z_r32.hi z4#1 -/⟩) ?_
    refine wp_if (fun c2 => ?_) (fun c2 => ?_)
    ·
      refine wp_some ?_
      try dsimp only
      all_goals exact ⟨(by first | omega | (have := q_X4_howMany_1_2 x1 (by omega) (by omega); omega) | (have := q_X4_howMany_2_2 x1 (by omega) (by omega); omega)| (have := q_X4_howMany_3_2 x1 (by omega) (by omega); omega)) /- post1#1 -/, (by unfold Hid; first | (exfalso; omega) | (rw [if_neg (by omega)]; done) | (rw [if_neg (by rw [← q_X4_howMany_1_3]; omega)]; done) | (rw [if_pos ⟨by omega, by rw [← q_X4_howMany_1_3]; omega⟩]; exact q_X4_howMany_1_4 x1 (by omega) (by omega)) | (rw [if_neg (by rw [← q_X4_howMany_2_3]; omega)]; done) | (rw [if_pos ⟨by omega, by rw [← q_X4_howMany_2_3]; omega⟩]; exact q_X4_howMany_2_4 x1 (by omega) (by omega)) | (rw [if_neg (by rw [← q_X4_howMany_3_3]; omega)]; done) | (rw [if_pos ⟨by omega, by rw [← q_X4_howMany_3_3]; omega⟩]; exact q_X4_howMany_3_4 x1 (by omega) (by omega))) /- post2#1 -/⟩
    ·
      refine wp_bd4 (s_X4_howMany _ _ _ _ _ _ _ _ _ _ _ (by first | omega | exact h5 | exact h12) /- pre X4_howMany.1#1 -/ (by first | omega | exact h5 | exact h12) /- pre X4_howMany.2#1 -/ (by first | omega | exact h5 | exact h12) /- pre X4_howMany.3#1 -/ (by first | omega | exact h5 | exact h12) /- pre X4_howMany.4#1 -/ (by first | omega | exact h5 | exact h12) /- pre X4_howMany.5#1 -/ (by first | omega | exact h5 | exact h12) /- pre X4_howMany.6#1 -/ (by first | omega | exact h5 | exact h12) /- pre X4_howMany.7#1 -/ (by first | omega | exact h5 | exact h12) /- pre X4_howMany.8#1 -/ (by first | omega | exact h5 | exact h12) /- pre X4_howMany.9#1 -/ (by first | omega | exact h5 | exact h12) /- pre X4_howMany.10#1 -/ (by first | omega | exact h5 | exact h12) /- pre X4_howMany.11#1 -/ (by first | omega | exact h5 | exact h12) /- pre X4_howMany.12#1 -/) (fun z6 w7 w8 w9 q_X4_howMany_1 => ?_)
      try dsimp only at q_X4_howMany_1
      obtain ⟨q_X4_howMany_1_1, q_X4_howMany_1_2, q_X4_howMany_1_3, q_X4_howMany_1_4⟩ := q_X4_howMany_1
      refine wp_ck (z_r32_i.mpr ⟨(by omega) /- z_r32.lo z6#1 -/, (by omega) /- z_r32.hi z6#1 -/⟩) ?_
      refine wp_if (fun c3 => ?_) (fun c3 => ?_)
      ·
        refine wp_some ?_
        try dsimp only
        all_goals exact ⟨(by first | omega | (have := q_X4_howMany_1_2 x1 (by omega) (by omega); omega) | (have := q_X4_howMany_2_2 x1 (by omega) (by omega); omega)| (have := q_X4_howMany_3_2 x1 (by omega) (by omega); omega)) /- post1#2 -/, (by unfold Hid; first | (exfalso; omega) | (rw [if_neg (by omega)]; done) | (rw [if_neg (by rw [← q_X4_howMany_1_3]; omega)]; done) | (rw [if_pos ⟨by omega, by rw [← q_X4_howMany_1_3]; omega⟩]; exact q_X4_howMany_1_4 x1 (by omega) (by omega)) | (rw [if_neg (by rw [← q_X4_howMany_2_3]; omega)]; done) | (rw [if_pos ⟨by omega, by rw [← q_X4_howMany_2_3]; omega⟩]; exact q_X4_howMany_2_4 x1 (by omega) (by omega)) | (rw [if_neg (by rw [← q_X4_howMany_3_3]; omega)]; done) | (rw [if_pos ⟨by omega, by rw [← q_X4_howMany_3_3]; omega⟩]; exact q_X4_howMany_3_4 x1 (by omega) (by omega))) /- post2#2 -/⟩
      ·
        refine wp_ck (z_ix_i.mpr ⟨⟨(by omega) /- ix.lo x1#1 -/, (by omega) /- ix.hi x1#1 -/⟩, (by omega) /- ix.big x1#1 -/⟩) ?_
        refine wp_some ?_
        try dsimp only
        all_goals exact ⟨(by first | omega | (have := q_X4_howMany_1_2 x1 (by omega) (by omega); omega) | (have := q_X4_howMany_2_2 x1 (by omega) (by omega); omega)| (have := q_X4_howMany_3_2 x1 (by omega) (by omega); omega)) /- post1#3 -/, (by unfold Hid; first | (exfalso; omega) | (rw [if_neg (by omega)]; done) | (rw [if_neg (by rw [← q_X4_howMany_1_3]; omega)]; done) | (rw [if_pos ⟨by omega, by rw [← q_X4_howMany_1_3]; omega⟩]; exact q_X4_howMany_1_4 x1 (by omega) (by omega)) | (rw [if_neg (by rw [← q_X4_howMany_2_3]; omega)]; done) | (rw [if_pos ⟨by omega, by rw [← q_X4_howMany_2_3]; omega⟩]; exact q_X4_howMany_2_4 x1 (by omega) (by omega)) | (rw [if_neg (by rw [← q_X4_howMany_3_3]; omega)]; done) | (rw [if_pos ⟨by omega, by rw [← q_X4_howMany_3_3]; omega⟩]; exact q_X4_howMany_3_4 x1 (by omega) (by omega))) /- post2#3 -/⟩
  ·
    refine wp_ck (z_r32_i.mpr ⟨(by omega) /- z_r32.lo i_p0_kitchen_state_seenDays#1 -/, (by omega) /- z_r32.hi i_p0_kitchen_state_seenDays#1 -/⟩) ?_
    refine wp_if (fun c4 => ?_) (fun c4 => ?_)
    ·
      refine wp_bnd ?_
      refine wp_ck (z_r32_i.mpr ⟨(by omega) /- z_r32.lo z4#2 -/, (by omega) /- z_r32.hi z4#2 -/⟩) ?_
      refine wp_if (fun c5 => ?_) (fun c5 => ?_)
      ·
        refine wp_some ?_
        try dsimp only
        all_goals exact ⟨(by first | omega | (have := q_X4_howMany_1_2 x1 (by omega) (by omega); omega) | (have := q_X4_howMany_2_2 x1 (by omega) (by omega); omega)| (have := q_X4_howMany_3_2 x1 (by omega) (by omega); omega)) /- post1#4 -/, (by unfold Hid; first | (exfalso; omega) | (rw [if_neg (by omega)]; done) | (rw [if_neg (by rw [← q_X4_howMany_1_3]; omega)]; done) | (rw [if_pos ⟨by omega, by rw [← q_X4_howMany_1_3]; omega⟩]; exact q_X4_howMany_1_4 x1 (by omega) (by omega)) | (rw [if_neg (by rw [← q_X4_howMany_2_3]; omega)]; done) | (rw [if_pos ⟨by omega, by rw [← q_X4_howMany_2_3]; omega⟩]; exact q_X4_howMany_2_4 x1 (by omega) (by omega)) | (rw [if_neg (by rw [← q_X4_howMany_3_3]; omega)]; done) | (rw [if_pos ⟨by omega, by rw [← q_X4_howMany_3_3]; omega⟩]; exact q_X4_howMany_3_4 x1 (by omega) (by omega))) /- post2#4 -/⟩
      ·
        refine wp_bd4 (s_X4_howMany _ _ _ _ _ _ _ _ _ _ _ (by first | omega | exact h5 | exact h12) /- pre X4_howMany.1#2 -/ (by first | omega | exact h5 | exact h12) /- pre X4_howMany.2#2 -/ (by first | omega | exact h5 | exact h12) /- pre X4_howMany.3#2 -/ (by first | omega | exact h5 | exact h12) /- pre X4_howMany.4#2 -/ (by first | omega | exact h5 | exact h12) /- pre X4_howMany.5#2 -/ (by first | omega | exact h5 | exact h12) /- pre X4_howMany.6#2 -/ (by first | omega | exact h5 | exact h12) /- pre X4_howMany.7#2 -/ (by first | omega | exact h5 | exact h12) /- pre X4_howMany.8#2 -/ (by first | omega | exact h5 | exact h12) /- pre X4_howMany.9#2 -/ (by first | omega | exact h5 | exact h12) /- pre X4_howMany.10#2 -/ (by first | omega | exact h5 | exact h12) /- pre X4_howMany.11#2 -/ (by first | omega | exact h5 | exact h12) /- pre X4_howMany.12#2 -/) (fun z6 w7 w8 w9 q_X4_howMany_2 => ?_)
        try dsimp only at q_X4_howMany_2
        obtain ⟨q_X4_howMany_2_1, q_X4_howMany_2_2, q_X4_howMany_2_3, q_X4_howMany_2_4⟩ := q_X4_howMany_2
        refine wp_ck (z_r32_i.mpr ⟨(by omega) /- z_r32.lo z6#2 -/, (by omega) /- z_r32.hi z6#2 -/⟩) ?_
        refine wp_if (fun c6 => ?_) (fun c6 => ?_)
        ·
          refine wp_some ?_
          try dsimp only
          all_goals exact ⟨(by first | omega | (have := q_X4_howMany_1_2 x1 (by omega) (by omega); omega) | (have := q_X4_howMany_2_2 x1 (by omega) (by omega); omega)| (have := q_X4_howMany_3_2 x1 (by omega) (by omega); omega)) /- post1#5 -/, (by unfold Hid; first | (exfalso; omega) | (rw [if_neg (by omega)]; done) | (rw [if_neg (by rw [← q_X4_howMany_1_3]; omega)]; done) | (rw [if_pos ⟨by omega, by rw [← q_X4_howMany_1_3]; omega⟩]; exact q_X4_howMany_1_4 x1 (by omega) (by omega)) | (rw [if_neg (by rw [← q_X4_howMany_2_3]; omega)]; done) | (rw [if_pos ⟨by omega, by rw [← q_X4_howMany_2_3]; omega⟩]; exact q_X4_howMany_2_4 x1 (by omega) (by omega)) | (rw [if_neg (by rw [← q_X4_howMany_3_3]; omega)]; done) | (rw [if_pos ⟨by omega, by rw [← q_X4_howMany_3_3]; omega⟩]; exact q_X4_howMany_3_4 x1 (by omega) (by omega))) /- post2#5 -/⟩
        ·
          refine wp_ck (z_ix_i.mpr ⟨⟨(by omega) /- ix.lo x1#2 -/, (by omega) /- ix.hi x1#2 -/⟩, (by omega) /- ix.big x1#2 -/⟩) ?_
          refine wp_some ?_
          try dsimp only
          all_goals exact ⟨(by first | omega | (have := q_X4_howMany_1_2 x1 (by omega) (by omega); omega) | (have := q_X4_howMany_2_2 x1 (by omega) (by omega); omega)| (have := q_X4_howMany_3_2 x1 (by omega) (by omega); omega)) /- post1#6 -/, (by unfold Hid; first | (exfalso; omega) | (rw [if_neg (by omega)]; done) | (rw [if_neg (by rw [← q_X4_howMany_1_3]; omega)]; done) | (rw [if_pos ⟨by omega, by rw [← q_X4_howMany_1_3]; omega⟩]; exact q_X4_howMany_1_4 x1 (by omega) (by omega)) | (rw [if_neg (by rw [← q_X4_howMany_2_3]; omega)]; done) | (rw [if_pos ⟨by omega, by rw [← q_X4_howMany_2_3]; omega⟩]; exact q_X4_howMany_2_4 x1 (by omega) (by omega)) | (rw [if_neg (by rw [← q_X4_howMany_3_3]; omega)]; done) | (rw [if_pos ⟨by omega, by rw [← q_X4_howMany_3_3]; omega⟩]; exact q_X4_howMany_3_4 x1 (by omega) (by omega))) /- post2#6 -/⟩
    ·
      refine wp_bnd ?_
      refine wp_ck (z_r32_i.mpr ⟨(by omega) /- z_r32.lo z4#3 -/, (by omega) /- z_r32.hi z4#3 -/⟩) ?_
      refine wp_if (fun c7 => ?_) (fun c7 => ?_)
      ·
        refine wp_some ?_
        try dsimp only
        all_goals exact ⟨(by first | omega | (have := q_X4_howMany_1_2 x1 (by omega) (by omega); omega) | (have := q_X4_howMany_2_2 x1 (by omega) (by omega); omega)| (have := q_X4_howMany_3_2 x1 (by omega) (by omega); omega)) /- post1#7 -/, (by unfold Hid; first | (exfalso; omega) | (rw [if_neg (by omega)]; done) | (rw [if_neg (by rw [← q_X4_howMany_1_3]; omega)]; done) | (rw [if_pos ⟨by omega, by rw [← q_X4_howMany_1_3]; omega⟩]; exact q_X4_howMany_1_4 x1 (by omega) (by omega)) | (rw [if_neg (by rw [← q_X4_howMany_2_3]; omega)]; done) | (rw [if_pos ⟨by omega, by rw [← q_X4_howMany_2_3]; omega⟩]; exact q_X4_howMany_2_4 x1 (by omega) (by omega)) | (rw [if_neg (by rw [← q_X4_howMany_3_3]; omega)]; done) | (rw [if_pos ⟨by omega, by rw [← q_X4_howMany_3_3]; omega⟩]; exact q_X4_howMany_3_4 x1 (by omega) (by omega))) /- post2#7 -/⟩
      ·
        refine wp_bd4 (s_X4_howMany _ _ _ _ _ _ _ _ _ _ _ (by first | omega | exact h5 | exact h12) /- pre X4_howMany.1#3 -/ (by first | omega | exact h5 | exact h12) /- pre X4_howMany.2#3 -/ (by first | omega | exact h5 | exact h12) /- pre X4_howMany.3#3 -/ (by first | omega | exact h5 | exact h12) /- pre X4_howMany.4#3 -/ (by first | omega | exact h5 | exact h12) /- pre X4_howMany.5#3 -/ (by first | omega | exact h5 | exact h12) /- pre X4_howMany.6#3 -/ (by first | omega | exact h5 | exact h12) /- pre X4_howMany.7#3 -/ (by first | omega | exact h5 | exact h12) /- pre X4_howMany.8#3 -/ (by first | omega | exact h5 | exact h12) /- pre X4_howMany.9#3 -/ (by first | omega | exact h5 | exact h12) /- pre X4_howMany.10#3 -/ (by first | omega | exact h5 | exact h12) /- pre X4_howMany.11#3 -/ (by first | omega | exact h5 | exact h12) /- pre X4_howMany.12#3 -/) (fun z6 w7 w8 w9 q_X4_howMany_3 => ?_)
        try dsimp only at q_X4_howMany_3
        obtain ⟨q_X4_howMany_3_1, q_X4_howMany_3_2, q_X4_howMany_3_3, q_X4_howMany_3_4⟩ := q_X4_howMany_3
        refine wp_ck (z_r32_i.mpr ⟨(by omega) /- z_r32.lo z6#3 -/, (by omega) /- z_r32.hi z6#3 -/⟩) ?_
        refine wp_if (fun c8 => ?_) (fun c8 => ?_)
        ·
          refine wp_some ?_
          try dsimp only
          all_goals exact ⟨(by first | omega | (have := q_X4_howMany_1_2 x1 (by omega) (by omega); omega) | (have := q_X4_howMany_2_2 x1 (by omega) (by omega); omega)| (have := q_X4_howMany_3_2 x1 (by omega) (by omega); omega)) /- post1#8 -/, (by unfold Hid; first | (exfalso; omega) | (rw [if_neg (by omega)]; done) | (rw [if_neg (by rw [← q_X4_howMany_1_3]; omega)]; done) | (rw [if_pos ⟨by omega, by rw [← q_X4_howMany_1_3]; omega⟩]; exact q_X4_howMany_1_4 x1 (by omega) (by omega)) | (rw [if_neg (by rw [← q_X4_howMany_2_3]; omega)]; done) | (rw [if_pos ⟨by omega, by rw [← q_X4_howMany_2_3]; omega⟩]; exact q_X4_howMany_2_4 x1 (by omega) (by omega)) | (rw [if_neg (by rw [← q_X4_howMany_3_3]; omega)]; done) | (rw [if_pos ⟨by omega, by rw [← q_X4_howMany_3_3]; omega⟩]; exact q_X4_howMany_3_4 x1 (by omega) (by omega))) /- post2#8 -/⟩
        ·
          refine wp_ck (z_ix_i.mpr ⟨⟨(by omega) /- ix.lo x1#3 -/, (by omega) /- ix.hi x1#3 -/⟩, (by omega) /- ix.big x1#3 -/⟩) ?_
          refine wp_some ?_
          try dsimp only
          all_goals exact ⟨(by first | omega | (have := q_X4_howMany_1_2 x1 (by omega) (by omega); omega) | (have := q_X4_howMany_2_2 x1 (by omega) (by omega); omega)| (have := q_X4_howMany_3_2 x1 (by omega) (by omega); omega)) /- post1#9 -/, (by unfold Hid; first | (exfalso; omega) | (rw [if_neg (by omega)]; done) | (rw [if_neg (by rw [← q_X4_howMany_1_3]; omega)]; done) | (rw [if_pos ⟨by omega, by rw [← q_X4_howMany_1_3]; omega⟩]; exact q_X4_howMany_1_4 x1 (by omega) (by omega)) | (rw [if_neg (by rw [← q_X4_howMany_2_3]; omega)]; done) | (rw [if_pos ⟨by omega, by rw [← q_X4_howMany_2_3]; omega⟩]; exact q_X4_howMany_2_4 x1 (by omega) (by omega)) | (rw [if_neg (by rw [← q_X4_howMany_3_3]; omega)]; done) | (rw [if_pos ⟨by omega, by rw [← q_X4_howMany_3_3]; omega⟩]; exact q_X4_howMany_3_4 x1 (by omega) (by omega))) /- post2#9 -/⟩

set_option maxHeartbeats 1000000 in
theorem s_X4_firstStirOfDay (i_p0_kitchen_rules_seats : Int) (i_p0_kitchen_rules_stirs : Int) (v_p0_kitchen_rules_after : (Int → Int)) (i_p0_kitchen_state_seenDays : Int) (i_p0_kitchen_state_bone : Int) (i_p0_kitchen_state_king : Int) (v_p0_kitchen_state_friends : (Int → Int)) (v_p0_kitchen_state_seen : (Int → Int)) (v_p0_kitchen_places : (Int → Int)) (v_p0_kitchen_holders : (Int → Int)) (v_p0_fitting : (Int → Int)) (x1 : Int) (h1 : 2 ≤ i_p0_kitchen_rules_seats) (h2 : i_p0_kitchen_rules_seats ≤ 7) (h3 : 0 ≤ i_p0_kitchen_rules_stirs) (h4 : i_p0_kitchen_rules_stirs ≤ 5) (h5 : rows i_p0_kitchen_rules_seats i_p0_kitchen_rules_stirs v_p0_kitchen_rules_after) (h6 : 0 ≤ i_p0_kitchen_state_bone) (h7 : i_p0_kitchen_state_bone < i_p0_kitchen_rules_seats) (h8 : 0 ≤ i_p0_kitchen_state_king) (h9 : i_p0_kitchen_state_king < i_p0_kitchen_rules_seats) (h10 : 0 ≤ i_p0_kitchen_state_seenDays) (h11 : i_p0_kitchen_state_seenDays ≤ 6) (h12 : ∀ j, 0 ≤ j → j < i_p0_kitchen_state_seenDays → 0 ≤ v_p0_kitchen_state_seen j ∧ v_p0_kitchen_state_seen j < i_p0_kitchen_rules_seats) (h13 : -2147483648 ≤ x1) (h14 : x1 < 2147483648) : wp (f_X4_firstStirOfDay i_p0_kitchen_rules_seats i_p0_kitchen_rules_stirs v_p0_kitchen_rules_after i_p0_kitchen_state_seenDays i_p0_kitchen_state_bone i_p0_kitchen_state_king v_p0_kitchen_state_friends v_p0_kitchen_state_seen v_p0_kitchen_places v_p0_kitchen_holders v_p0_fitting x1) (fun o => (-4 ≤ o.1 ∧ o.1 < 5) ∧ (Hid (fstq i_p0_kitchen_rules_stirs (fun t => ¬ bt (if (0 ≤ x1 ∧ x1 < i_p0_kitchen_state_seenDays) ∧ 0 < prq i_p0_kitchen_rules_seats i_p0_kitchen_rules_stirs i_p0_kitchen_state_king i_p0_kitchen_state_bone v_p0_kitchen_state_friends v_p0_kitchen_state_seen (fun y b => v_p0_kitchen_rules_after (y * 7 + b)) i_p0_kitchen_state_seenDays.toNat then fitq i_p0_kitchen_rules_seats i_p0_kitchen_rules_stirs i_p0_kitchen_state_king i_p0_kitchen_state_bone v_p0_kitchen_state_friends v_p0_kitchen_state_seen (fun y b => v_p0_kitchen_rules_after (y * 7 + b)) x1 else 0) t = 0) o.1))) := by
  unfold f_X4_firstStirOfDay
  refine wp_bd4 (s_X4_stirsOfDay _ _ _ _ _ _ _ _ _ _ _ _ (by first | omega | exact h5 | exact h12) /- pre X4_stirsOfDay.1#1 -/ (by first | omega | exact h5 | exact h12) /- pre X4_stirsOfDay.2#1 -/ (by first | omega | exact h5 | exact h12) /- pre X4_stirsOfDay.3#1 -/ (by first | omega | exact h5 | exact h12) /- pre X4_stirsOfDay.4#1 -/ (by first | omega | exact h5 | exact h12) /- pre X4_stirsOfDay.5#1 -/ (by first | omega | exact h5 | exact h12) /- pre X4_stirsOfDay.6#1 -/ (by first | omega | exact h5 | exact h12) /- pre X4_stirsOfDay.7#1 -/ (by first | omega | exact h5 | exact h12) /- pre X4_stirsOfDay.8#1 -/ (by first | omega | exact h5 | exact h12) /- pre X4_stirsOfDay.9#1 -/ (by first | omega | exact h5 | exact h12) /- pre X4_stirsOfDay.10#1 -/ (by first | omega | exact h5 | exact h12) /- pre X4_stirsOfDay.11#1 -/ (by first | omega | exact h5 | exact h12) /- pre X4_stirsOfDay.12#1 -/ (by first | omega | exact h5 | exact h12) /- pre X4_stirsOfDay.13#1 -/ (by first | omega | exact h5 | exact h12) /- pre X4_stirsOfDay.14#1 -/) (fun z1 w2 w3 w4 q_X4_stirsOfDay_1 => ?_)
  try dsimp only at q_X4_stirsOfDay_1
  obtain ⟨q_X4_stirsOfDay_1_1, q_X4_stirsOfDay_1_2⟩ := q_X4_stirsOfDay_1
  refine wp_bnd ?_
  refine wp_bnd ?_
  refine wp_lq1 (fun (z7 : Int) => (0 ≤ z7) ∧ (z7 ≤ i_p0_kitchen_rules_stirs) ∧ (∀ t, 0 ≤ t → t < z7 → bt z1 t = 0)) (fun (z7 : Int) => (i_p0_kitchen_rules_stirs - z7).toNat) (fun again8 z7 hI ih_B_X4_firstStirOfDay_8 => ?_) 1000 _ ⟨(by first | omega | exact h5 | exact h12) /- B_X4_firstStirOfDay_8.init1#1 -/, (by first | omega | exact h5 | exact h12) /- B_X4_firstStirOfDay_8.init2#1 -/, (by intro t; omega) /- B_X4_firstStirOfDay_8.init3#1 -/⟩ (by omega) /- B_X4_firstStirOfDay_8.fuel#1 -/
  obtain ⟨i_B_X4_firstStirOfDay_8_1, i_B_X4_firstStirOfDay_8_2, i_B_X4_firstStirOfDay_8_3⟩ := hI
  unfold B_X4_firstStirOfDay_8
  refine wp_ck (z_r32_i.mpr ⟨(by omega) /- z_r32.lo z7#1 -/, (by omega) /- z_r32.hi z7#1 -/⟩) ?_
  refine wp_ck (z_r32_i.mpr ⟨(by omega) /- z_r32.lo i_p0_kitchen_rules_stirs#1 -/, (by omega) /- z_r32.hi i_p0_kitchen_rules_stirs#1 -/⟩) ?_
  refine wp_if (fun c1 => ?_) (fun c1 => ?_)
  ·
    refine wp_some ?_
    try dsimp only
    all_goals exact ⟨(by first | omega | exact h5 | exact h12) /- post1#1 -/, (by unfold Hid; rw [← hid q_X4_stirsOfDay_1_2]; exact Or.inl ⟨rfl, fun t a b => fun h => h (i_B_X4_firstStirOfDay_8_3 t a (by omega))⟩) /- post2#1 -/⟩
  ·
    refine wp_ck (z_r32_t _) ?_
    refine wp_if (fun c2 => ?_) (fun c2 => ?_)
    ·
      refine wp_bndE (fun z12 hz12 => ?_)
      exact ih_B_X4_firstStirOfDay_8 _ ⟨(by first | omega | exact h5 | exact h12) /- B_X4_firstStirOfDay_8.inv1#1 -/, (by first | omega | exact h5 | exact h12) /- B_X4_firstStirOfDay_8.inv2#1 -/, (by intro t a b; by_cases e : t = z7; (rw [e]; assumption); exact i_B_X4_firstStirOfDay_8_3 t a (by omega)) /- B_X4_firstStirOfDay_8.inv3#1 -/⟩ (by omega) /- B_X4_firstStirOfDay_8.dec#1 -/
    ·
      refine wp_some ?_
      try dsimp only
      all_goals exact ⟨(by first | omega | exact h5 | exact h12) /- post1#2 -/, (by unfold Hid; rw [← hid q_X4_stirsOfDay_1_2]; exact Or.inr ⟨⟨by omega, by omega⟩, by assumption, fun t a b => fun h => h (i_B_X4_firstStirOfDay_8_3 t a b)⟩) /- post2#2 -/⟩
