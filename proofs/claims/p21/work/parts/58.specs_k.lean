/-- the pot as it is stirred by a row -/
def stirdP (n : Int) (row p st : Int → Int) : Prop := ∀ i, 0 ≤ i → i < n → st (row i) = p i
theorem stird_rng {n : Int} {row p st : Int → Int} (hr : perm n row) (h : stirdP n row p st) (hn : n ≤ 7) (hp : ∀ j, 0 ≤ j → j < 7 → 0 ≤ p j ∧ p j ≤ 9) {q : Int} (h0 : 0 ≤ q) (h1 : q < n) : 0 ≤ st q ∧ st q ≤ 9 := by
  obtain ⟨i, hi, e⟩ := perm_sur hr h0 h1
  rw [← e, h i hi.1 hi.2]
  exact hp i hi.1 (by omega)
/-- who rises, were c king and not k -/
def riseP (n : Int) (f st : Int → Int) (c k : Int) : Int → Prop := fun p => st (plc n k (f k) p) < st (plc n c (f c) p)
def spS (sp : Int → Int) (band : Int) : Int → Int := fun p => if bt band p = 0 then 0 else sp p
def enoughP (n : Int) (sp : Int → Int) (band : Int) : Prop := sumTo sp n.toNat < sumTo (spS sp band) n.toNat * 2
def leadP (n : Int) (f sp st : Int → Int) (c k : Int) : Prop := ¬ bt (bitsOf (riseP n f st c k) n.toNat) c = 0 ∧ enoughP n sp (bitsOf (riseP n f st c k) n.toNat)
def lvlOK (n : Int) (pots sums kings bones : Int → Int) (l : Int) : Prop := (0 ≤ kings l ∧ kings l < n) ∧ (0 ≤ bones l ∧ bones l < n) ∧ (∀ q, 0 ≤ q → q < n → 0 ≤ pots (l * 7 + q) ∧ pots (l * 7 + q) ≤ 9) ∧ (∀ q, 0 ≤ q → q < n → 0 ≤ sums (l * 7 + q) ∧ sums (l * 7 + q) ≤ 9 * l)
theorem shl_n {n : Int} (h2 : 2 ≤ n) (h7 : n ≤ 7) : 4 ≤ z_shl 1 n ∧ z_shl 1 n ≤ 128 := by
  have : ∀ k : Nat, k < 8 → 2 ≤ k → 4 ≤ z_shl 1 (k : Int) ∧ z_shl 1 (k : Int) ≤ 128 := by decide +kernel
  have e := this n.toNat (by omega) (by omega)
  rw [Int.toNat_of_nonneg (by omega)] at e
  exact e
/-- a band of risers, one among them, that is enough -/
def bandP (n : Int) (sp : Int → Int) (G : Int → Prop) (c b : Int) : Prop := (∀ p, 0 ≤ p → p < n → ¬ bt b p = 0 → G p) ∧ ¬ bt b c = 0 ∧ enoughP n sp b
theorem smle {f g : Int → Int} : ∀ m : Nat, (∀ j, 0 ≤ j → j < (m : Int) → f j ≤ g j) → sumTo f m ≤ sumTo g m := by
  intro m
  induction m with
  | zero => intro _; exact Int.le_refl _
  | succ m ih =>
    intro h
    have a := ih (fun j u v => h j u (by omega))
    have b := h (m : Int) (by omega) (by omega)
    show sumTo f m + f (m : Int) ≤ sumTo g m + g (m : Int)
    omega
theorem spS_mono {n : Int} {sp : Int → Int} {a b : Int} (hs : ∀ j, 0 ≤ j → j < n → 0 ≤ sp j) (h : ∀ p, 0 ≤ p → p < n → ¬ bt a p = 0 → ¬ bt b p = 0) (e : enoughP n sp a) : enoughP n sp b := by
  unfold enoughP at e ⊢
  have : sumTo (spS sp a) n.toNat ≤ sumTo (spS sp b) n.toNat := by
    refine smle n.toNat (fun j u v => ?_)
    have hj := hs j u (by omega)
    unfold spS
    by_cases c : bt a j = 0
    · rw [if_pos c]
      split
      · exact Int.le_refl _
      · exact hj
    · rw [if_neg c, if_neg (h j u (by omega) c)]
      exact Int.le_refl _
  omega
theorem bits_pw : ∀ a : Nat, a < 128 → ∀ m : Nat, m < 7 → (a : Int) < z_shl 1 (m : Int) → 0 ≤ z_or (a : Int) (z_shl 1 (m : Int)) ∧ z_or (a : Int) (z_shl 1 (m : Int)) < z_shl 1 ((m + 1 : Nat) : Int) := by decide +kernel
theorem shl_mn : ∀ m : Nat, m < 7 → z_shl 1 (m : Int) ≤ z_shl 1 ((m + 1 : Nat) : Int) ∧ z_shl 1 ((m + 1 : Nat) : Int) ≤ 128 := by decide +kernel
theorem bits_lt (P : Int → Prop) : ∀ m : Nat, m ≤ 7 → 0 ≤ bitsOf P m ∧ bitsOf P m < z_shl 1 (m : Int) := by
  intro m
  induction m with
  | zero =>
    intro _
    have : (0 : Int) < z_shl 1 ((0 : Nat) : Int) := by decide +kernel
    exact ⟨Int.le_refl _, this⟩
  | succ m ih =>
    intro h
    have a := ih (by omega)
    have b := shl_mn m (by omega)
    by_cases c : P (m : Int)
    · rw [bits_t c]
      have e := bits_pw (bitsOf P m).toNat (by omega) m (by omega) (by omega)
      rw [Int.toNat_of_nonneg a.1] at e
      exact e
    · rw [bits_f c]
      exact ⟨a.1, by omega⟩
theorem lead_b {n : Int} {f sp st : Int → Int} {c k : Int} (h7 : n ≤ 7) (h : leadP n f sp st c k) : bandP n sp (riseP n f st c k) c (bitsOf (riseP n f st c k) n.toNat) :=
  ⟨fun p u v w => Classical.byContradiction fun z => w ((bt_bits u (by omega) n.toNat (by omega)).mpr (fun y => z y.2)), h.1, h.2⟩
theorem lead_ex {n : Int} {f sp st : Int → Int} {c k : Int} (h2 : 2 ≤ n) (h7 : n ≤ 7) (hs : ∀ j, 0 ≤ j → j < n → 0 ≤ sp j) (h0 : 0 ≤ c) (h1 : c < n) : leadP n f sp st c k ↔ ∃ b, (0 ≤ b ∧ b < z_shl 1 n) ∧ bandP n sp (riseP n f st c k) c b := by
  constructor
  · intro h
    have a := bits_lt (riseP n f st c k) n.toNat (by omega)
    rw [Int.toNat_of_nonneg (by omega)] at a
    exact ⟨_, a, lead_b h7 h⟩
  · intro ⟨b, hb, g1, g2, g3⟩
    have q : ∀ p, 0 ≤ p → p < n → ¬ bt b p = 0 → ¬ bt (bitsOf (riseP n f st c k) n.toNat) p = 0 := fun p u v w z => (bt_bits u (by omega) n.toNat (by omega)).mp z ⟨by omega, g1 p u v w⟩
    exact ⟨q c h0 h1 g2, spS_mono hs q g3⟩
theorem sh_st : ∀ a : Nat, a < 128 → ∀ p : Nat, p < 7 → z_shr (a : Int) (p : Int) = 2 * z_shr (a : Int) ((p : Int) + 1) + bt (a : Int) (p : Int) := by decide +kernel
theorem sh_0 : ∀ a : Nat, a < 128 → z_shr (a : Int) 0 = (a : Int) := by decide +kernel
theorem sh_n : ∀ a : Nat, a < 128 → ∀ p : Nat, p < 8 → 0 ≤ z_shr (a : Int) (p : Int) ∧ ((a : Int) < z_shl 1 (p : Int) → z_shr (a : Int) (p : Int) = 0) := by decide +kernel
theorem sh_of : ∀ a : Nat, a < 128 → ∀ p : Nat, p < 7 → z_shr (z_and (a : Int) (z_xor (z_shl 1 (p : Int)) (-1))) ((p : Int) + 1) = z_shr (a : Int) ((p : Int) + 1) := by decide +kernel
theorem bt_of : ∀ a : Nat, a < 128 → ∀ p : Nat, p < 7 → ∀ q : Nat, q < 7 → bt (z_and (a : Int) (z_xor (z_shl 1 (p : Int)) (-1))) (q : Int) = if q = p then 0 else bt (a : Int) (q : Int) := by decide +kernel
theorem sh_stz {a p : Int} (h0 : 0 ≤ a) (h1 : a < 128) (h2 : 0 ≤ p) (h3 : p < 7) : z_shr a p = 2 * z_shr a (p + 1) + bt a p := by
  have := sh_st a.toNat (by omega) p.toNat (by omega)
  rw [Int.toNat_of_nonneg h0, Int.toNat_of_nonneg h2] at this
  exact this
theorem sh_ofz {a p : Int} (h0 : 0 ≤ a) (h1 : a < 128) (h2 : 0 ≤ p) (h3 : p < 7) : z_shr (z_and a (z_xor (z_shl 1 p) (-1))) (p + 1) = z_shr a (p + 1) := by
  have := sh_of a.toNat (by omega) p.toNat (by omega)
  rw [Int.toNat_of_nonneg h0, Int.toNat_of_nonneg h2] at this
  exact this
theorem bt_ofz {a p q : Int} (h0 : 0 ≤ a) (h1 : a < 128) (h2 : 0 ≤ p) (h3 : p < 7) (h4 : 0 ≤ q) (h5 : q < 7) : bt (z_and a (z_xor (z_shl 1 p) (-1))) q = if q = p then 0 else bt a q := by
  have := bt_of a.toNat (by omega) p.toNat (by omega) q.toNat (by omega)
  rw [Int.toNat_of_nonneg h0, Int.toNat_of_nonneg h2, Int.toNat_of_nonneg h4] at this
  rw [this]
  by_cases c : q = p
  · rw [if_pos c, if_pos (by omega)]
  · rw [if_neg c, if_neg (by omega)]
theorem sh_bits {a b : Int} (h0 : 0 ≤ a) (h1 : a < 128) (k0 : 0 ≤ b) (k1 : b < 128) : ∀ d : Nat, ∀ p : Int, 0 ≤ p → p + (d : Int) ≤ 6 → z_shr a p = z_shr b p → bt a (p + (d : Int)) = bt b (p + (d : Int)) := by
  intro d
  induction d with
  | zero =>
    intro p u v e
    have x := sh_stz h0 h1 u (show p < 7 by omega)
    have y := sh_stz k0 k1 u (show p < 7 by omega)
    have i := bt01 a p
    have j := bt01 b p
    rw [show p + ((0 : Nat) : Int) = p from by omega]
    omega
  | succ d ih =>
    intro p u v e
    have x := sh_stz h0 h1 u (show p < 7 by omega)
    have y := sh_stz k0 k1 u (show p < 7 by omega)
    have i := bt01 a p
    have j := bt01 b p
    have z := ih (p + 1) (by omega) (by omega) (by omega)
    rw [show p + ((d + 1 : Nat) : Int) = p + 1 + (d : Int) from by omega]
    exact z
/-- the least band, half made: its places above p are the least that may be, those up to p are as all risers have them -/
def grd (n : Int) (sp : Int → Int) (G : Int → Prop) (c g b p : Int) : Prop := bandP n sp G c b ∧ (∀ q, 0 ≤ q → q ≤ p → (bt b q = 0 ↔ bt g q = 0)) ∧ ∀ t, 0 ≤ t → t < 128 → bandP n sp G c t → z_shr b (p + 1) ≤ z_shr t (p + 1)
theorem grd_0 {n : Int} {sp : Int → Int} {G : Int → Prop} {c g b p : Int} (h2 : 2 ≤ n) (h7 : n ≤ 7) (hg : g = bitsOf G n.toNat) (hb : bandP n sp G c g) (e : b = g) (ep : p = n - 1) : grd n sp G c g b p := by
  subst e
  refine ⟨hb, fun q _ _ => Iff.rfl, fun t u v w => ?_⟩
  have a := bits_lt G n.toNat (by omega)
  rw [← hg, Int.toNat_of_nonneg (by omega)] at a
  have m := shl_n h2 h7
  have x := (sh_n b.toNat (by omega) n.toNat (by omega)).2
  have y := (sh_n t.toNat (by omega) n.toNat (by omega)).1
  rw [Int.toNat_of_nonneg a.1, Int.toNat_of_nonneg (show 0 ≤ n by omega)] at x
  rw [Int.toNat_of_nonneg u, Int.toNat_of_nonneg (show 0 ≤ n by omega)] at y
  rw [ep, show n - 1 + 1 = n from by omega, x a.2]
  exact y
theorem grd_a {n : Int} {sp : Int → Int} {G : Int → Prop} {c g b p b' p' : Int} (h : grd n sp G c g b p) (h0 : 0 ≤ b) (h1 : b < 128) (h2 : 0 ≤ p) (h3 : p < n) (h7 : n ≤ 7) (k0 : 0 ≤ c) (k1 : c < n) (eb : b' = z_and b (z_xor (z_shl 1 p) (-1))) (ep : p' = p - 1) (hc : ¬ p = c) (he : enoughP n sp b') : grd n sp G c g b' p' := by
  subst eb ep
  have o := fun q (u : 0 ≤ q) (v : q < 7) => bt_ofz h0 h1 h2 (show p < 7 by omega) u v
  refine ⟨⟨fun q u v w => ?_, ?_, he⟩, fun q u v => ?_, fun t u v w => ?_⟩
  · rw [o q u (by omega)] at w
    by_cases x : q = p
    · rw [if_pos x] at w; exact absurd rfl w
    · rw [if_neg x] at w; exact h.1.1 q u v w
  · rw [o c k0 (by omega), if_neg (by omega)]; exact h.1.2.1
  · rw [o q u (by omega), if_neg (by omega)]; exact h.2.1 q u (by omega)
  · have a := an7z h0 h1 h2 (show p < 7 by omega)
    have x := sh_stz a.1 a.2 h2 (show p < 7 by omega)
    have y := sh_stz u v h2 (show p < 7 by omega)
    rw [sh_ofz h0 h1 h2 (by omega), o p h2 (by omega), if_pos rfl] at x
    have z := h.2.2 t u v w
    have i := bt01 t p
    rw [show p - 1 + 1 = p from by omega]
    omega
theorem grd_b {n : Int} {sp : Int → Int} {G : Int → Prop} {c g b p p' : Int} (h : grd n sp G c g b p) (h0 : 0 ≤ b) (h1 : b < 128) (h2 : 0 ≤ p) (h3 : p < n) (h7 : n ≤ 7) (ep : p' = p - 1) (hc : p = c) : grd n sp G c g b p' := by
  subst ep hc
  refine ⟨h.1, fun q u v => h.2.1 q u (by omega), fun t u v w => ?_⟩
  have x := sh_stz h0 h1 h2 (show p < 7 by omega)
  have y := sh_stz u v h2 (show p < 7 by omega)
  have z := h.2.2 t u v w
  have i := bt01 t p
  have j := bt01 b p
  have k := w.2.1
  rw [show p - 1 + 1 = p from by omega]
  omega
theorem grd_c {n : Int} {sp : Int → Int} {G : Int → Prop} {c g b p p' : Int} (h : grd n sp G c g b p) (h0 : 0 ≤ b) (h1 : b < 128) (h2 : 0 ≤ p) (h3 : p < n) (h7 : n ≤ 7) (hs : ∀ j, 0 ≤ j → j < n → 0 ≤ sp j) (hg : g = bitsOf G n.toNat) (ep : p' = p - 1) (he : ¬ enoughP n sp (z_and b (z_xor (z_shl 1 p) (-1)))) : grd n sp G c g b p' := by
  subst ep
  refine ⟨h.1, fun q u v => h.2.1 q u (by omega), fun t u v w => ?_⟩
  have x := sh_stz h0 h1 h2 (show p < 7 by omega)
  have y := sh_stz u v h2 (show p < 7 by omega)
  have z := h.2.2 t u v w
  have i := bt01 t p
  have j := bt01 b p
  rw [show p - 1 + 1 = p from by omega]
  by_cases e : z_shr b (p + 1) = z_shr t (p + 1)
  · by_cases k : bt t p = 0
    · refine absurd (spS_mono hs (fun q q0 q1 qt => ?_) w.2.2) he
      rw [bt_ofz h0 h1 h2 (show p < 7 by omega) q0 (show q < 7 by omega)]
      by_cases qp : q = p
      · rw [qp] at qt; exact absurd k qt
      · rw [if_neg qp]
        by_cases ql : q < p
        · intro r
          have r2 := (h.2.1 q q0 (by omega)).mp r
          rw [hg] at r2
          exact (bt_bits q0 (by omega) n.toNat (by omega)).mp r2 ⟨by omega, w.1 q q0 q1 qt⟩
        · have s := sh_bits h0 h1 u v (q - (p + 1)).toNat (p + 1) (by omega) (by omega) e
          rw [Int.toNat_of_nonneg (by omega), show p + 1 + (q - (p + 1)) = q from by omega] at s
          rw [s]; exact qt
    · omega
  · omega
theorem grd_z {n : Int} {sp : Int → Int} {G : Int → Prop} {c g b p : Int} (h : grd n sp G c g b p) (h0 : 0 ≤ b) (h1 : b < 128) (ep : p = -1) : bandP n sp G c b ∧ ∀ t, 0 ≤ t → t < b → ¬ bandP n sp G c t := by
  subst ep
  refine ⟨h.1, fun t u v w => ?_⟩
  have z := h.2.2 t u (by omega) w
  have x := sh_0 b.toNat (by omega)
  have y := sh_0 t.toNat (by omega)
  rw [Int.toNat_of_nonneg h0] at x
  rw [Int.toNat_of_nonneg u] at y
  rw [show (-1 : Int) + 1 = 0 from rfl, x, y] at z
  omega
/-- what a coup against k answers -/
def coupQ (n : Int) (f sp st : Int → Int) (k what r : Int) : Prop := (r = -4 ∧ ∀ c, 0 ≤ c → c < n → ¬ c = k → ¬ leadP n f sp st c k) ∨ ∃ c, (0 ≤ c ∧ c < n) ∧ ¬ c = k ∧ leadP n f sp st c k ∧ (∀ d, 0 ≤ d → d < c → ¬ d = k → ¬ leadP n f sp st d k) ∧ ((what = 0 ∧ r = c) ∨ (¬ what = 0 ∧ 0 ≤ r ∧ bandP n sp (riseP n f st c k) c r ∧ ∀ t, 0 ≤ t → t < r → ¬ bandP n sp (riseP n f st c k) c t))
theorem coupQ_u {n : Int} {f sp st : Int → Int} {k what r s : Int} (a : coupQ n f sp st k what r) (b : coupQ n f sp st k what s) : r = s := by
  rcases a with ⟨a1, a2⟩ | ⟨c, a1, a2, a3, a4, a5⟩
  · rcases b with ⟨b1, b2⟩ | ⟨d, b1, b2, b3, b4, b5⟩
    · rw [a1, b1]
    · exact absurd b3 (a2 d b1.1 b1.2 b2)
  · rcases b with ⟨b1, b2⟩ | ⟨d, b1, b2, b3, b4, b5⟩
    · exact absurd a3 (b2 c a1.1 a1.2 a2)
    · have e : c = d := by
        rcases Int.lt_trichotomy c d with x | x | x
        · exact absurd a3 (b4 c a1.1 x a2)
        · exact x
        · exact absurd b3 (a4 d b1.1 x b2)
      subst e
      rcases a5 with ⟨w, a6⟩ | ⟨w, a6, a7, a8⟩
      · rcases b5 with ⟨_, b6⟩ | ⟨y, _⟩
        · rw [a6, b6]
        · exact absurd w y
      · rcases b5 with ⟨y, _⟩ | ⟨_, b6, b7, b8⟩
        · exact absurd y w
        · rcases Int.lt_trichotomy r s with x | x | x
          · exact absurd a7 (b8 r a6 x)
          · exact x
          · exact absurd b7 (a8 s b6 x)
set_option maxHeartbeats 1000000 in
theorem s_X0_whoRise (i_p0_kitchen_rules_seats : Int) (v_p0_kitchen_places : (Int → Int)) (v_p0_kitchen_stirred : (Int → Int)) (x1 : Int) (x2 : Int) (v_fr : Int → Int) (h1 : 2 ≤ i_p0_kitchen_rules_seats) (h2 : i_p0_kitchen_rules_seats ≤ 7) (h3 : servP i_p0_kitchen_rules_seats v_fr v_p0_kitchen_places) (h4 : ∀ q, 0 ≤ q → q < i_p0_kitchen_rules_seats → 0 ≤ v_p0_kitchen_stirred q ∧ v_p0_kitchen_stirred q ≤ 9) (h5 : 0 ≤ x1) (h6 : x1 < i_p0_kitchen_rules_seats) (h7 : 0 ≤ x2) (h8 : x2 < i_p0_kitchen_rules_seats) : wp (f_X0_whoRise i_p0_kitchen_rules_seats v_p0_kitchen_places v_p0_kitchen_stirred x1 x2) (fun o => (o = bitsOf (riseP i_p0_kitchen_rules_seats v_fr v_p0_kitchen_stirred x1 x2) i_p0_kitchen_rules_seats.toNat)) := by
  unfold f_X0_whoRise
  refine wp_bnd ?_
  refine wp_bnd ?_
  refine wp_lq2 (fun (z3 : Int) (z4 : Int) => (0 ≤ z3) ∧ (z3 ≤ i_p0_kitchen_rules_seats) ∧ (z4 = bitsOf (riseP i_p0_kitchen_rules_seats v_fr v_p0_kitchen_stirred x1 x2) z3.toNat)) (fun (z3 : Int) (z4 : Int) => (i_p0_kitchen_rules_seats - z3).toNat) (fun again5 z3 z4 hI ih_B_X0_whoRise_5 => ?_) 1000 _ _ ⟨(by omega) /- B_X0_whoRise_5.init1#1 -/, (by omega) /- B_X0_whoRise_5.init2#1 -/, (by rfl) /- B_X0_whoRise_5.init3#1 -/⟩ (by omega) /- B_X0_whoRise_5.fuel#1 -/
  obtain ⟨i_B_X0_whoRise_5_1, i_B_X0_whoRise_5_2, i_B_X0_whoRise_5_3⟩ := hI
  unfold B_X0_whoRise_5
  refine wp_ck (z_r32_i.mpr ⟨(by omega) /- z_r32.lo z3#1 -/, (by omega) /- z_r32.hi z3#1 -/⟩) ?_
  refine wp_ck (z_r32_i.mpr ⟨(by omega) /- z_r32.lo i_p0_kitchen_rules_seats#1 -/, (by omega) /- z_r32.hi i_p0_kitchen_rules_seats#1 -/⟩) ?_
  refine wp_if (fun c1 => ?_) (fun c1 => ?_)
  ·
    refine wp_some ?_
    try dsimp only
    all_goals exact (by rw [i_B_X0_whoRise_5_3]; congr 1; omega) /- post1#1 -/
  ·
    have hp1 := h3 x1 z3 h5 h6 i_B_X0_whoRise_5_1 (by omega)
    have hp2 := h3 x2 z3 h7 h8 i_B_X0_whoRise_5_1 (by omega)
    have hr1 := plc_rng (n := i_p0_kitchen_rules_seats) (k := x1) (f := v_fr x1) (p := z3) (by omega)
    have hr2 := plc_rng (n := i_p0_kitchen_rules_seats) (k := x2) (f := v_fr x2) (p := z3) (by omega)
    have hs1 := h4 _ hr1.1 hr1.2
    have hs2 := h4 _ hr2.1 hr2.2
    refine wp_bd1 (s_X2_bowlOf _ _ _ _ (by omega) /- pre X2_bowlOf.1#1 -/ (by omega) /- pre X2_bowlOf.2#1 -/ (by omega) /- pre X2_bowlOf.3#1 -/ (by omega) /- pre X2_bowlOf.4#1 -/ (by omega) /- pre X2_bowlOf.5#1 -/ (by omega) /- pre X2_bowlOf.6#1 -/) (fun z8 q_X2_bowlOf_1 => ?_)
    try dsimp only at q_X2_bowlOf_1
    rw [hp1] at q_X2_bowlOf_1
    refine wp_bd1 (s_X2_bowlOf _ _ _ _ (by omega) /- pre X2_bowlOf.1#2 -/ (by omega) /- pre X2_bowlOf.2#2 -/ (by omega) /- pre X2_bowlOf.3#2 -/ (by omega) /- pre X2_bowlOf.4#2 -/ (by omega) /- pre X2_bowlOf.5#2 -/ (by omega) /- pre X2_bowlOf.6#2 -/) (fun z9 q_X2_bowlOf_2 => ?_)
    try dsimp only at q_X2_bowlOf_2
    rw [hp2] at q_X2_bowlOf_2
    refine wp_ck (z_r32_i.mpr ⟨(by omega) /- z_r32.lo z8#1 -/, (by omega) /- z_r32.hi z8#1 -/⟩) ?_
    refine wp_ck (z_r32_i.mpr ⟨(by omega) /- z_r32.lo z9#1 -/, (by omega) /- z_r32.hi z9#1 -/⟩) ?_
    refine wp_if (fun c2 => ?_) (fun c2 => ?_)
    ·
      refine wp_bndE (fun z12 hz12 => ?_)
      exact ih_B_X0_whoRise_5 _ _ ⟨(by omega) /- B_X0_whoRise_5.inv1#1 -/, (by omega) /- B_X0_whoRise_5.inv2#1 -/, (by first | (rw [hz11, bits_fz i_B_X0_whoRise_5_1 (by show ¬ _ < _; omega)]; exact i_B_X0_whoRise_5_3) | (rw [hz12, bits_fz i_B_X0_whoRise_5_1 (by show ¬ _ < _; omega)]; exact i_B_X0_whoRise_5_3)| (rw [hz10, bits_fz i_B_X0_whoRise_5_1 (by show ¬ _ < _; omega)]; exact i_B_X0_whoRise_5_3)) /- B_X0_whoRise_5.inv3#1 -/⟩ (by omega) /- B_X0_whoRise_5.dec#1 -/
    ·
      refine wp_bndE (fun z13 hz13 => ?_)
      refine wp_bndE (fun z14 hz14 => ?_)
      exact ih_B_X0_whoRise_5 _ _ ⟨(by omega) /- B_X0_whoRise_5.inv1#2 -/, (by omega) /- B_X0_whoRise_5.inv2#2 -/, (by first | (rw [hz13, bits_tz i_B_X0_whoRise_5_1 (by show _ < _; omega), ← i_B_X0_whoRise_5_3]; omega) | (rw [hz14, bits_tz i_B_X0_whoRise_5_1 (by show _ < _; omega), ← i_B_X0_whoRise_5_3]; omega) | (rw [hz12, bits_tz i_B_X0_whoRise_5_1 (by show _ < _; omega), ← i_B_X0_whoRise_5_3]; omega)) /- B_X0_whoRise_5.inv3#2 -/⟩ (by omega) /- B_X0_whoRise_5.dec#2 -/

set_option maxHeartbeats 1000000 in
theorem s_X0_isEnough (i_p0_kitchen_rules_seats : Int) (v_p0_kitchen_state_spoons : (Int → Int)) (x1 : Int) (h1 : 2 ≤ i_p0_kitchen_rules_seats) (h2 : i_p0_kitchen_rules_seats ≤ 7) (h3 : ∀ j, 0 ≤ j → j < 7 → 1 ≤ v_p0_kitchen_state_spoons j ∧ v_p0_kitchen_state_spoons j ≤ 9) : wp (f_X0_isEnough i_p0_kitchen_rules_seats v_p0_kitchen_state_spoons x1) (fun o => ((o = 1 ∧ enoughP i_p0_kitchen_rules_seats v_p0_kitchen_state_spoons x1) ∨ (o = 0 ∧ ¬ enoughP i_p0_kitchen_rules_seats v_p0_kitchen_state_spoons x1))) := by
  unfold f_X0_isEnough
  refine wp_bnd ?_
  refine wp_bnd ?_
  refine wp_bnd ?_
  refine wp_jn ?_
  refine wp_lq3 (fun (z9 : Int) (z10 : Int) (z11 : Int) => (0 ≤ z9) ∧ (z9 ≤ i_p0_kitchen_rules_seats) ∧ (z10 = sumTo v_p0_kitchen_state_spoons z9.toNat) ∧ (z11 = sumTo (spS v_p0_kitchen_state_spoons x1) z9.toNat) ∧ (0 ≤ z10 ∧ z10 ≤ 9 * z9) ∧ (0 ≤ z11 ∧ z11 ≤ 9 * z9)) (fun (z9 : Int) (z10 : Int) (z11 : Int) => (i_p0_kitchen_rules_seats - z9).toNat) (fun again7 z9 z10 z11 hI ih_B_X0_isEnough_7 => ?_) 1000 _ _ _ ⟨(by omega) /- B_X0_isEnough_7.init1#1 -/, (by omega) /- B_X0_isEnough_7.init2#1 -/, (by rfl) /- B_X0_isEnough_7.init3#1 -/, (by rfl) /- B_X0_isEnough_7.init4#1 -/, (by omega) /- B_X0_isEnough_7.init5#1 -/, (by omega) /- B_X0_isEnough_7.init6#1 -/⟩ (by omega) /- B_X0_isEnough_7.fuel#1 -/
  obtain ⟨i_B_X0_isEnough_7_1, i_B_X0_isEnough_7_2, i_B_X0_isEnough_7_3, i_B_X0_isEnough_7_4, i_B_X0_isEnough_7_5, i_B_X0_isEnough_7_6⟩ := hI
  unfold B_X0_isEnough_7
  refine wp_ck (z_r32_i.mpr ⟨(by omega) /- z_r32.lo z9#1 -/, (by omega) /- z_r32.hi z9#1 -/⟩) ?_
  refine wp_ck (z_r32_i.mpr ⟨(by omega) /- z_r32.lo i_p0_kitchen_rules_seats#1 -/, (by omega) /- z_r32.hi i_p0_kitchen_rules_seats#1 -/⟩) ?_
  refine wp_if (fun c1 => ?_) (fun c1 => ?_)
  ·
    have e9 : z9.toNat = i_p0_kitchen_rules_seats.toNat := by omega
    rw [e9] at i_B_X0_isEnough_7_3 i_B_X0_isEnough_7_4
    refine wp_ck (z_r32_i.mpr ⟨(by omega) /- z_r32.lo (z4 * (2 : Int))#1 -/, (by omega) /- z_r32.hi (z4 * (2 : Int))#1 -/⟩) ?_
    refine wp_ck (z_r32_i.mpr ⟨(by omega) /- z_r32.lo z5#1 -/, (by omega) /- z_r32.hi z5#1 -/⟩) ?_
    refine wp_if (fun c2 => ?_) (fun c2 => ?_)
    ·
      refine wp_some ?_
      try dsimp only
      all_goals exact (by right; refine ⟨rfl, ?_⟩; unfold enoughP; omega) /- post1#1 -/
    ·
      refine wp_some ?_
      try dsimp only
      all_goals exact (by left; refine ⟨rfl, ?_⟩; unfold enoughP; omega) /- post1#2 -/
  ·
    have hsp := h3 z9 (by omega) (by omega)
    refine wp_ck (z_ix_i.mpr ⟨⟨(by omega) /- ix.lo z9#1 -/, (by omega) /- ix.hi z9#1 -/⟩, (by omega) /- ix.big z9#1 -/⟩) ?_
    refine wp_bndE (fun z15 hz15 => ?_)
    refine wp_ck (z_r32_t _) ?_
    refine wp_if (fun c3 => ?_) (fun c3 => ?_)
    ·
      refine wp_bndE (fun z17 hz17 => ?_)
      exact ih_B_X0_isEnough_7 _ _ _ ⟨(by omega) /- B_X0_isEnough_7.inv1#1 -/, (by omega) /- B_X0_isEnough_7.inv2#1 -/, (by first | (subst hz15 hz17; rw [sum_s i_B_X0_isEnough_7_1, ← i_B_X0_isEnough_7_3]) | (subst hz15 hz19; rw [sum_s i_B_X0_isEnough_7_1, ← i_B_X0_isEnough_7_3])) /- B_X0_isEnough_7.inv3#1 -/, (by subst hz17; rw [sum_s i_B_X0_isEnough_7_1, ← i_B_X0_isEnough_7_4]; show _ = _ + (if bt x1 z9 = 0 then 0 else _); rw [if_pos (by assumption)]; omega) /- B_X0_isEnough_7.inv4#1 -/, (by omega) /- B_X0_isEnough_7.inv5#1 -/, (by omega) /- B_X0_isEnough_7.inv6#1 -/⟩ (by omega) /- B_X0_isEnough_7.dec#1 -/
    ·
      refine wp_ck (z_ix_i.mpr ⟨⟨(by omega) /- ix.lo z9#2 -/, (by omega) /- ix.hi z9#2 -/⟩, (by omega) /- ix.big z9#2 -/⟩) ?_
      refine wp_bndE (fun z18 hz18 => ?_)
      refine wp_bndE (fun z19 hz19 => ?_)
      exact ih_B_X0_isEnough_7 _ _ _ ⟨(by omega) /- B_X0_isEnough_7.inv1#2 -/, (by omega) /- B_X0_isEnough_7.inv2#2 -/, (by first | (subst hz15 hz17; rw [sum_s i_B_X0_isEnough_7_1, ← i_B_X0_isEnough_7_3]) | (subst hz15 hz19; rw [sum_s i_B_X0_isEnough_7_1, ← i_B_X0_isEnough_7_3])) /- B_X0_isEnough_7.inv3#2 -/, (by subst hz18 hz19; rw [sum_s i_B_X0_isEnough_7_1, ← i_B_X0_isEnough_7_4]; show _ = _ + (if bt x1 z9 = 0 then 0 else _); rw [if_neg (by assumption)]) /- B_X0_isEnough_7.inv4#2 -/, (by omega) /- B_X0_isEnough_7.inv5#2 -/, (by omega) /- B_X0_isEnough_7.inv6#2 -/⟩ (by omega) /- B_X0_isEnough_7.dec#2 -/

set_option maxHeartbeats 1000000 in
theorem s_X0_canLead (i_p0_kitchen_rules_seats : Int) (v_p0_kitchen_state_spoons : (Int → Int)) (v_p0_kitchen_places : (Int → Int)) (v_p0_kitchen_stirred : (Int → Int)) (x1 : Int) (x2 : Int) (v_fr : Int → Int) (h1 : 2 ≤ i_p0_kitchen_rules_seats) (h2 : i_p0_kitchen_rules_seats ≤ 7) (h3 : servP i_p0_kitchen_rules_seats v_fr v_p0_kitchen_places) (h4 : ∀ q, 0 ≤ q → q < i_p0_kitchen_rules_seats → 0 ≤ v_p0_kitchen_stirred q ∧ v_p0_kitchen_stirred q ≤ 9) (h5 : ∀ j, 0 ≤ j → j < 7 → 1 ≤ v_p0_kitchen_state_spoons j ∧ v_p0_kitchen_state_spoons j ≤ 9) (h6 : 0 ≤ x1) (h7 : x1 < i_p0_kitchen_rules_seats) (h8 : 0 ≤ x2) (h9 : x2 < i_p0_kitchen_rules_seats) : wp (f_X0_canLead i_p0_kitchen_rules_seats v_p0_kitchen_state_spoons v_p0_kitchen_places v_p0_kitchen_stirred x1 x2) (fun o => ((o = 1 ∧ leadP i_p0_kitchen_rules_seats v_fr v_p0_kitchen_state_spoons v_p0_kitchen_stirred x1 x2) ∨ (o = 0 ∧ ¬ leadP i_p0_kitchen_rules_seats v_fr v_p0_kitchen_state_spoons v_p0_kitchen_stirred x1 x2))) := by
  unfold f_X0_canLead
  refine wp_bd1 (s_X0_whoRise _ _ _ _ _ v_fr (by omega) /- pre X0_whoRise.1#1 -/ (by omega) /- pre X0_whoRise.2#1 -/ (by exact h3) /- pre X0_whoRise.3#1 -/ (by exact h4) /- pre X0_whoRise.4#1 -/ (by omega) /- pre X0_whoRise.5#1 -/ (by omega) /- pre X0_whoRise.6#1 -/ (by omega) /- pre X0_whoRise.7#1 -/ (by omega) /- pre X0_whoRise.8#1 -/) (fun z1 q_X0_whoRise_1 => ?_)
  try dsimp only at q_X0_whoRise_1
  refine wp_bnd ?_
  refine wp_ck (z_r32_t _) ?_
  refine wp_if (fun c1 => ?_) (fun c1 => ?_)
  ·
    refine wp_some ?_
    try dsimp only
    all_goals exact (by right; refine ⟨rfl, fun h => ?_⟩; unfold leadP at h; rw [← q_X0_whoRise_1] at h; exact h.1 c1) /- post1#1 -/
  ·
    refine wp_bd1 (s_X0_isEnough _ _ _ (by omega) /- pre X0_isEnough.1#1 -/ (by omega) /- pre X0_isEnough.2#1 -/ (by exact h5) /- pre X0_isEnough.3#1 -/) (fun z4 q_X0_isEnough_1 => ?_)
    try dsimp only at q_X0_isEnough_1
    refine wp_ck (z_r32_i.mpr ⟨(by omega) /- z_r32.lo z4#1 -/, (by omega) /- z_r32.hi z4#1 -/⟩) ?_
    refine wp_if (fun c2 => ?_) (fun c2 => ?_)
    ·
      refine wp_some ?_
      try dsimp only
      all_goals exact (by right; refine ⟨rfl, fun h => ?_⟩; unfold leadP at h; rw [← q_X0_whoRise_1] at h; rcases q_X0_isEnough_1 with hq | hq; omega; exact hq.2 h.2) /- post1#2 -/
    ·
      refine wp_some ?_
      try dsimp only
      all_goals exact (by left; refine ⟨rfl, ?_⟩; unfold leadP; rw [← q_X0_whoRise_1]; rcases q_X0_isEnough_1 with hq | hq; exact ⟨c1, hq.2⟩; omega) /- post1#3 -/

set_option maxHeartbeats 1000000 in
theorem s_X0_leastLeader (i_p0_kitchen_rules_seats : Int) (v_p0_kitchen_state_spoons : (Int → Int)) (v_p0_kitchen_places : (Int → Int)) (v_p0_kitchen_stirred : (Int → Int)) (x1 : Int) (v_fr : Int → Int) (h1 : 2 ≤ i_p0_kitchen_rules_seats) (h2 : i_p0_kitchen_rules_seats ≤ 7) (h3 : servP i_p0_kitchen_rules_seats v_fr v_p0_kitchen_places) (h4 : ∀ q, 0 ≤ q → q < i_p0_kitchen_rules_seats → 0 ≤ v_p0_kitchen_stirred q ∧ v_p0_kitchen_stirred q ≤ 9) (h5 : ∀ j, 0 ≤ j → j < 7 → 1 ≤ v_p0_kitchen_state_spoons j ∧ v_p0_kitchen_state_spoons j ≤ 9) (h6 : 0 ≤ x1) (h7 : x1 < i_p0_kitchen_rules_seats) : wp (f_X0_leastLeader i_p0_kitchen_rules_seats v_p0_kitchen_state_spoons v_p0_kitchen_places v_p0_kitchen_stirred x1) (fun o => ((o = -4 ∧ ∀ c, 0 ≤ c → c < i_p0_kitchen_rules_seats → ¬ c = x1 → ¬ leadP i_p0_kitchen_rules_seats v_fr v_p0_kitchen_state_spoons v_p0_kitchen_stirred c x1) ∨ ((0 ≤ o ∧ o < i_p0_kitchen_rules_seats) ∧ ¬ o = x1 ∧ leadP i_p0_kitchen_rules_seats v_fr v_p0_kitchen_state_spoons v_p0_kitchen_stirred o x1 ∧ ∀ c, 0 ≤ c → c < o → ¬ c = x1 → ¬ leadP i_p0_kitchen_rules_seats v_fr v_p0_kitchen_state_spoons v_p0_kitchen_stirred c x1))) := by
  unfold f_X0_leastLeader
  refine wp_bnd ?_
  refine wp_lq1 (fun (z2 : Int) => (0 ≤ z2) ∧ (z2 ≤ i_p0_kitchen_rules_seats) ∧ (∀ c, 0 ≤ c → c < z2 → ¬ c = x1 → ¬ leadP i_p0_kitchen_rules_seats v_fr v_p0_kitchen_state_spoons v_p0_kitchen_stirred c x1)) (fun (z2 : Int) => (i_p0_kitchen_rules_seats - z2).toNat) (fun again2 z2 hI ih_B_X0_leastLeader_2 => ?_) 1000 _ ⟨(by omega) /- B_X0_leastLeader_2.init1#1 -/, (by omega) /- B_X0_leastLeader_2.init2#1 -/, (by intro c; omega) /- B_X0_leastLeader_2.init3#1 -/⟩ (by omega) /- B_X0_leastLeader_2.fuel#1 -/
  obtain ⟨i_B_X0_leastLeader_2_1, i_B_X0_leastLeader_2_2, i_B_X0_leastLeader_2_3⟩ := hI
  unfold B_X0_leastLeader_2
  refine wp_ck (z_r32_i.mpr ⟨(by omega) /- z_r32.lo z2#1 -/, (by omega) /- z_r32.hi z2#1 -/⟩) ?_
  refine wp_ck (z_r32_i.mpr ⟨(by omega) /- z_r32.lo i_p0_kitchen_rules_seats#1 -/, (by omega) /- z_r32.hi i_p0_kitchen_rules_seats#1 -/⟩) ?_
  refine wp_if (fun c1 => ?_) (fun c1 => ?_)
  ·
    refine wp_some ?_
    try dsimp only
    all_goals exact (by left; exact ⟨rfl, fun c a b d => i_B_X0_leastLeader_2_3 c a (by omega) d⟩) /- post1#1 -/
  ·
    refine wp_ck (z_r32_i.mpr ⟨(by omega) /- z_r32.lo x1#1 -/, (by omega) /- z_r32.hi x1#1 -/⟩) ?_
    refine wp_if (fun c2 => ?_) (fun c2 => ?_)
    ·
      refine wp_bndE (fun z7 hz7 => ?_)
      exact ih_B_X0_leastLeader_2 _ ⟨(by omega) /- B_X0_leastLeader_2.inv1#1 -/, (by omega) /- B_X0_leastLeader_2.inv2#1 -/, (by 
                                        intro c a b d
                                        by_cases e : c = z2
                                        · subst e
                                          first
                                          | exact absurd (by assumption) d
                                          | (rcases q_X0_canLead_1 with hq | hq
                                             · omega
                                             · exact hq.2)
                                        · exact i_B_X0_leastLeader_2_3 c a (by omega) d) /- B_X0_leastLeader_2.inv3#1 -/⟩ (by omega) /- B_X0_leastLeader_2.dec#1 -/
    ·
      refine wp_bd1 (s_X0_canLead _ _ _ _ _ _ v_fr (by omega) /- pre X0_canLead.1#1 -/ (by omega) /- pre X0_canLead.2#1 -/ (by exact h3) /- pre X0_canLead.3#1 -/ (by exact h4) /- pre X0_canLead.4#1 -/ (by exact h5) /- pre X0_canLead.5#1 -/ (by omega) /- pre X0_canLead.6#1 -/ (by omega) /- pre X0_canLead.7#1 -/ (by omega) /- pre X0_canLead.8#1 -/ (by omega) /- pre X0_canLead.9#1 -/) (fun z8 q_X0_canLead_1 => ?_)
      try dsimp only at q_X0_canLead_1
      have hz01 : 0 ≤ z8 ∧ z8 ≤ 1 := by rcases q_X0_canLead_1 with hq | hq <;> omega
      refine wp_ck (z_r32_i.mpr ⟨(by omega) /- z_r32.lo z8#1 -/, (by omega) /- z_r32.hi z8#1 -/⟩) ?_
      refine wp_if (fun c3 => ?_) (fun c3 => ?_)
      ·
        refine wp_bndE (fun z10 hz10 => ?_)
        exact ih_B_X0_leastLeader_2 _ ⟨(by omega) /- B_X0_leastLeader_2.inv1#2 -/, (by omega) /- B_X0_leastLeader_2.inv2#2 -/, (by 
                                        intro c a b d
                                        by_cases e : c = z2
                                        · subst e
                                          first
                                          | exact absurd (by assumption) d
                                          | (rcases q_X0_canLead_1 with hq | hq
                                             · omega
                                             · exact hq.2)
                                        · exact i_B_X0_leastLeader_2_3 c a (by omega) d) /- B_X0_leastLeader_2.inv3#2 -/⟩ (by omega) /- B_X0_leastLeader_2.dec#2 -/
      ·
        refine wp_some ?_
        try dsimp only
        all_goals exact (by right; rcases q_X0_canLead_1 with hq | hq; exact ⟨by omega, by assumption, hq.2, i_B_X0_leastLeader_2_3⟩; omega) /- post1#2 -/

set_option maxHeartbeats 1000000 in
theorem s_X0_leastBand (i_p0_kitchen_rules_seats : Int) (v_p0_kitchen_state_spoons : (Int → Int)) (v_p0_kitchen_places : (Int → Int)) (v_p0_kitchen_stirred : (Int → Int)) (x1 : Int) (x2 : Int) (v_fr : Int → Int) (h1 : 2 ≤ i_p0_kitchen_rules_seats) (h2 : i_p0_kitchen_rules_seats ≤ 7) (h3 : servP i_p0_kitchen_rules_seats v_fr v_p0_kitchen_places) (h4 : ∀ q, 0 ≤ q → q < i_p0_kitchen_rules_seats → 0 ≤ v_p0_kitchen_stirred q ∧ v_p0_kitchen_stirred q ≤ 9) (h5 : ∀ j, 0 ≤ j → j < 7 → 1 ≤ v_p0_kitchen_state_spoons j ∧ v_p0_kitchen_state_spoons j ≤ 9) (h6 : 0 ≤ x1) (h7 : x1 < i_p0_kitchen_rules_seats) (h8 : 0 ≤ x2) (h9 : x2 < i_p0_kitchen_rules_seats) (h10 : leadP i_p0_kitchen_rules_seats v_fr v_p0_kitchen_state_spoons v_p0_kitchen_stirred x2 x1) : wp (f_X0_leastBand i_p0_kitchen_rules_seats v_p0_kitchen_state_spoons v_p0_kitchen_places v_p0_kitchen_stirred x1 x2) (fun o => (0 ≤ o ∧ o < 128) ∧ (bandP i_p0_kitchen_rules_seats v_p0_kitchen_state_spoons (riseP i_p0_kitchen_rules_seats v_fr v_p0_kitchen_stirred x2 x1) x2 o ∧ ∀ t, 0 ≤ t → t < o → ¬ bandP i_p0_kitchen_rules_seats v_p0_kitchen_state_spoons (riseP i_p0_kitchen_rules_seats v_fr v_p0_kitchen_stirred x2 x1) x2 t)) := by
  unfold f_X0_leastBand
  refine wp_bd1 (s_X0_whoRise _ _ _ _ _ v_fr (by omega) /- pre X0_whoRise.1#1 -/ (by omega) /- pre X0_whoRise.2#1 -/ (by exact h3) /- pre X0_whoRise.3#1 -/ (by exact h4) /- pre X0_whoRise.4#1 -/ (by omega) /- pre X0_whoRise.5#1 -/ (by omega) /- pre X0_whoRise.6#1 -/ (by omega) /- pre X0_whoRise.7#1 -/ (by omega) /- pre X0_whoRise.8#1 -/) (fun z1 q_X0_whoRise_1 => ?_)
  try dsimp only at q_X0_whoRise_1
  have hbr := bits_rng (riseP i_p0_kitchen_rules_seats v_fr v_p0_kitchen_stirred x2 x1) i_p0_kitchen_rules_seats.toNat (by omega)
  rw [← q_X0_whoRise_1] at hbr
  refine wp_bnd ?_
  refine wp_bndE (fun z3 hz3 => ?_)
  refine wp_lq2 (fun (z4 : Int) (z5 : Int) => (-1 ≤ z4) ∧ (z4 < i_p0_kitchen_rules_seats) ∧ (0 ≤ z5 ∧ z5 < 128) ∧ (grd i_p0_kitchen_rules_seats v_p0_kitchen_state_spoons (riseP i_p0_kitchen_rules_seats v_fr v_p0_kitchen_stirred x2 x1) x2 (bitsOf (riseP i_p0_kitchen_rules_seats v_fr v_p0_kitchen_stirred x2 x1) i_p0_kitchen_rules_seats.toNat) z5 z4)) (fun (z4 : Int) (z5 : Int) => (z4 + 1).toNat) (fun again21 z4 z5 hI ih_B_X0_leastBand_21 => ?_) 1000 _ _ ⟨(by omega) /- B_X0_leastBand_21.init1#1 -/, (by omega) /- B_X0_leastBand_21.init2#1 -/, (by omega) /- B_X0_leastBand_21.init3#1 -/, (by exact grd_0 h1 h2 rfl (lead_b h2 h10) q_X0_whoRise_1 (by omega)) /- B_X0_leastBand_21.init4#1 -/⟩ (by omega) /- B_X0_leastBand_21.fuel#1 -/
  obtain ⟨i_B_X0_leastBand_21_1, i_B_X0_leastBand_21_2, i_B_X0_leastBand_21_3, i_B_X0_leastBand_21_4⟩ := hI
  unfold B_X0_leastBand_21
  refine wp_ck (z_r32_i.mpr ⟨(by omega) /- z_r32.lo z4#1 -/, (by omega) /- z_r32.hi z4#1 -/⟩) ?_
  refine wp_if (fun c1 => ?_) (fun c1 => ?_)
  ·
    refine wp_some ?_
    try dsimp only
    all_goals exact ⟨(by omega) /- post1#1 -/, (by exact grd_z i_B_X0_leastBand_21_4 i_B_X0_leastBand_21_3.1 i_B_X0_leastBand_21_3.2 (by omega)) /- post2#1 -/⟩
  ·
    have han := an7z (a := z5) (b := z4) i_B_X0_leastBand_21_3.1 i_B_X0_leastBand_21_3.2 (by omega) (by omega)
    refine wp_bndE (fun z8 hz8 => ?_)
    refine wp_ck (z_r32_i.mpr ⟨(by omega) /- z_r32.lo x2#1 -/, (by omega) /- z_r32.hi x2#1 -/⟩) ?_
    refine wp_if (fun c2 => ?_) (fun c2 => ?_)
    ·
      refine wp_bndE (fun z10 hz10 => ?_)
      exact ih_B_X0_leastBand_21 _ _ ⟨(by omega) /- B_X0_leastBand_21.inv1#1 -/, (by omega) /- B_X0_leastBand_21.inv2#1 -/, (by omega) /- B_X0_leastBand_21.inv3#1 -/, (by exact grd_b i_B_X0_leastBand_21_4 i_B_X0_leastBand_21_3.1 i_B_X0_leastBand_21_3.2 (by omega) (by omega) h2 (by omega) (by omega)) /- B_X0_leastBand_21.inv4#1 -/⟩ (by omega) /- B_X0_leastBand_21.dec#1 -/
    ·
      refine wp_bd1 (s_X0_isEnough _ _ _ (by omega) /- pre X0_isEnough.1#1 -/ (by omega) /- pre X0_isEnough.2#1 -/ (by exact h5) /- pre X0_isEnough.3#1 -/) (fun z11 q_X0_isEnough_1 => ?_)
      try dsimp only at q_X0_isEnough_1
      have hz01 : 0 ≤ z11 ∧ z11 ≤ 1 := by rcases q_X0_isEnough_1 with hq | hq <;> omega
      refine wp_ck (z_r32_i.mpr ⟨(by omega) /- z_r32.lo z11#1 -/, (by omega) /- z_r32.hi z11#1 -/⟩) ?_
      refine wp_if (fun c3 => ?_) (fun c3 => ?_)
      ·
        refine wp_bndE (fun z13 hz13 => ?_)
        exact ih_B_X0_leastBand_21 _ _ ⟨(by omega) /- B_X0_leastBand_21.inv1#2 -/, (by omega) /- B_X0_leastBand_21.inv2#2 -/, (by omega) /- B_X0_leastBand_21.inv3#2 -/, (by have he : ¬ enoughP i_p0_kitchen_rules_seats v_p0_kitchen_state_spoons z8 := (by rcases q_X0_isEnough_1 with hq | hq; omega; exact hq.2); rw [hz8] at he; exact grd_c i_B_X0_leastBand_21_4 i_B_X0_leastBand_21_3.1 i_B_X0_leastBand_21_3.2 (by omega) (by omega) h2 (fun j a b => by have := h5 j a (by omega); omega) rfl (by omega) he) /- B_X0_leastBand_21.inv4#2 -/⟩ (by omega) /- B_X0_leastBand_21.dec#2 -/
      ·
        refine wp_bnd ?_
        refine wp_bndE (fun z15 hz15 => ?_)
        exact ih_B_X0_leastBand_21 _ _ ⟨(by omega) /- B_X0_leastBand_21.inv1#3 -/, (by omega) /- B_X0_leastBand_21.inv2#3 -/, (by omega) /- B_X0_leastBand_21.inv3#3 -/, (by have he : enoughP i_p0_kitchen_rules_seats v_p0_kitchen_state_spoons z8 := (by rcases q_X0_isEnough_1 with hq | hq; exact hq.2; omega); exact grd_a i_B_X0_leastBand_21_4 i_B_X0_leastBand_21_3.1 i_B_X0_leastBand_21_3.2 (by omega) (by omega) h2 h8 h9 hz8 (by omega) (by omega) he) /- B_X0_leastBand_21.inv4#3 -/⟩ (by omega) /- B_X0_leastBand_21.dec#3 -/

set_option maxHeartbeats 1000000 in
theorem s_X1_begin (i_p0_kitchen_rules_seats : Int) (i_p0_kitchen_state_bone : Int) (i_p0_kitchen_state_king : Int) (v_p0_kitchen_state_pieces : (Int → Int)) (v_p0_kitchen_state_friends : (Int → Int)) (v_p0_kitchen_places : (Int → Int)) (v_p0_kitchen_holders : (Int → Int)) (v_p0_pots : (Int → Int)) (v_p0_sums : (Int → Int)) (v_p0_kings : (Int → Int)) (v_p0_bones : (Int → Int)) (v_p0_row : (Int → Int)) (x1 : Int) (h1 : 2 ≤ i_p0_kitchen_rules_seats) (h2 : i_p0_kitchen_rules_seats ≤ 7) (h3 : 0 ≤ i_p0_kitchen_state_bone) (h4 : i_p0_kitchen_state_bone < i_p0_kitchen_rules_seats) (h5 : 0 ≤ i_p0_kitchen_state_king) (h6 : i_p0_kitchen_state_king < i_p0_kitchen_rules_seats) (h7 : ∀ j, 0 ≤ j → j < 7 → 0 ≤ v_p0_kitchen_state_pieces j ∧ v_p0_kitchen_state_pieces j ≤ 9) : wp (f_X1_begin i_p0_kitchen_rules_seats i_p0_kitchen_state_bone i_p0_kitchen_state_king v_p0_kitchen_state_pieces v_p0_kitchen_state_friends v_p0_kitchen_places v_p0_kitchen_holders v_p0_pots v_p0_sums v_p0_kings v_p0_bones v_p0_row x1) (fun o => (o.1 = x1) ∧ (o.2.1 = -4) ∧ (servP i_p0_kitchen_rules_seats v_p0_kitchen_state_friends o.2.2.1) ∧ (servH i_p0_kitchen_rules_seats v_p0_kitchen_state_friends o.2.2.2.1) ∧ (lvlOK i_p0_kitchen_rules_seats o.2.2.2.2.1 o.2.2.2.2.2.1 o.2.2.2.2.2.2.1 o.2.2.2.2.2.2.2.1 0) ∧ (o.2.2.2.2.2.2.2.2 = z_fill v_p0_row 4 0)) := by
  unfold f_X1_begin
  refine wp_bd2 (s_X2_serveAllKings _ _ _ _ (by first | rfl | omega) /- pre X2_serveAllKings.1#1 -/ (by first | rfl | omega) /- pre X2_serveAllKings.2#1 -/) (fun w1 w2 q_X2_serveAllKings_1 => ?_)
  try dsimp only at q_X2_serveAllKings_1
  obtain ⟨q_X2_serveAllKings_1_1, q_X2_serveAllKings_1_2⟩ := q_X2_serveAllKings_1
  refine wp_bnd ?_
  refine wp_bnd ?_
  refine wp_ck (z_cp_i.mpr ⟨⟨⟨(by omega) /- cp.0 (0 : Int)#1 -/, (by omega) /- cp.1 (0 : Int)#1 -/⟩, (by omega) /- cp.2 (0 : Int)#1 -/⟩, (by omega) /- cp.3 (0 : Int)#1 -/⟩) ?_
  refine wp_ck (z_cp_i.mpr ⟨⟨⟨(by omega) /- cp.0 (0 : Int)#2 -/, (by omega) /- cp.1 (0 : Int)#2 -/⟩, (by omega) /- cp.2 (0 : Int)#2 -/⟩, (by omega) /- cp.3 (0 : Int)#2 -/⟩) ?_
  refine wp_bnd ?_
  refine wp_bd1 (s_J7_fill_53178 _ _ _ (by decide) /- pre J7_fill_53178.1#1 -/) (fun w6 q_J7_fill_53178_1 => ?_)
  try dsimp only at q_J7_fill_53178_1
  refine wp_bd1 (s_J7_fill_53178 _ _ _ (by decide) /- pre J7_fill_53178.1#2 -/) (fun w7 q_J7_fill_53178_2 => ?_)
  try dsimp only at q_J7_fill_53178_2
  refine wp_ck (z_ix_i.mpr ⟨⟨(by omega) /- ix.lo (0 : Int)#1 -/, (by omega) /- ix.hi (0 : Int)#1 -/⟩, (by omega) /- ix.big (0 : Int)#1 -/⟩) ?_
  refine wp_bnd ?_
  refine wp_ck (z_ix_i.mpr ⟨⟨(by omega) /- ix.lo (0 : Int)#2 -/, (by omega) /- ix.hi (0 : Int)#2 -/⟩, (by omega) /- ix.big (0 : Int)#2 -/⟩) ?_
  refine wp_bnd ?_
  refine wp_some ?_
  try dsimp only
  all_goals exact ⟨(by first | rfl | omega) /- post1#1 -/, (by first | rfl | omega) /- post2#1 -/, (by exact q_X2_serveAllKings_1_1) /- post3#1 -/, (by exact q_X2_serveAllKings_1_2) /- post4#1 -/, (by 
                                        refine ⟨by rw [z_up_s]; omega, by rw [z_up_s]; omega, fun q a b => ?_, fun q a b => ?_⟩
                                        · rw [show (0 : Int) * 7 + q = q from by omega, z_cpy_in a b]; exact h7 q a (by omega)
                                        · rw [q_J7_fill_53178_1, show ((35 : Nat) : Int) = 35 from rfl, z_fill_in (by omega) (by omega)]; omega) /- post5#1 -/, (by rw [q_J7_fill_53178_2]; rfl) /- post6#1 -/⟩

set_option maxHeartbeats 1000000 in
theorem s_X1_goOn (i_p0_kitchen_rules_seats : Int) (v_p0_kitchen_rules_after : (Int → Int)) (v_p0_kitchen_places : (Int → Int)) (v_p0_kitchen_holders : (Int → Int)) (v_p0_pots : (Int → Int)) (v_p0_sums : (Int → Int)) (v_p0_kings : (Int → Int)) (v_p0_bones : (Int → Int)) (v_p0_row : (Int → Int)) (x1 : Int) (v_fr : Int → Int) (st : Int) (h1 : 2 ≤ i_p0_kitchen_rules_seats) (h2 : i_p0_kitchen_rules_seats ≤ 7) (h3 : 0 ≤ st) (h4 : st ≤ 5) (h5 : rows i_p0_kitchen_rules_seats st v_p0_kitchen_rules_after) (h6 : servP i_p0_kitchen_rules_seats v_fr v_p0_kitchen_places) (h7 : servH i_p0_kitchen_rules_seats v_fr v_p0_kitchen_holders) (h8 : 0 ≤ x1) (h9 : x1 < 4) (h10 : 0 ≤ v_p0_row x1) (h11 : v_p0_row x1 < st) (h12 : lvlOK i_p0_kitchen_rules_seats v_p0_pots v_p0_sums v_p0_kings v_p0_bones x1) : wp (f_X1_goOn i_p0_kitchen_rules_seats v_p0_kitchen_rules_after v_p0_kitchen_places v_p0_kitchen_holders v_p0_pots v_p0_sums v_p0_kings v_p0_bones v_p0_row x1) (fun o => (lvlOK i_p0_kitchen_rules_seats o.1 o.2.1 o.2.2.1 o.2.2.2 (x1 + 1)) ∧ (∀ l, l ≤ x1 → lvlOK i_p0_kitchen_rules_seats v_p0_pots v_p0_sums v_p0_kings v_p0_bones l → lvlOK i_p0_kitchen_rules_seats o.1 o.2.1 o.2.2.1 o.2.2.2 l)) := by
  unfold f_X1_goOn
  obtain ⟨l1, l2, l3, l4⟩ := h12
  have hrow := h5 (v_p0_row x1) h10 h11
  refine wp_ck (z_ix_i.mpr ⟨⟨(by omega) /- ix.lo x1#1 -/, (by omega) /- ix.hi x1#1 -/⟩, (by omega) /- ix.big x1#1 -/⟩) ?_
  refine wp_bndE (fun z1 hz1 => ?_)
  refine wp_ck (z_ix_i.mpr ⟨⟨(by omega) /- ix.lo x1#2 -/, (by omega) /- ix.hi x1#2 -/⟩, (by omega) /- ix.big x1#2 -/⟩) ?_
  refine wp_bndE (fun z2 hz2 => ?_)
  refine wp_bndE (fun z3 hz3 => ?_)
  refine wp_bndE (fun z4 hz4 => ?_)
  refine wp_bnd ?_
  refine wp_jn ?_
  refine wp_lq2 (fun (z23 : Int) (w24 : (Int → Int)) => (0 ≤ z23) ∧ (z23 ≤ i_p0_kitchen_rules_seats) ∧ (∀ q, q < x1 * 7 + 7 → w24 q = v_p0_pots q) ∧ (∀ i, 0 ≤ i → i < z23 → w24 (x1 * 7 + 7 + v_p0_kitchen_rules_after (v_p0_row x1 * 7 + i)) = v_p0_pots (x1 * 7 + i))) (fun (z23 : Int) (w24 : (Int → Int)) => (i_p0_kitchen_rules_seats - z23).toNat) (fun again30 z23 w24 hI ih_B_X1_goOn_30 => ?_) 1000 _ _ ⟨(by omega) /- B_X1_goOn_30.init1#1 -/, (by omega) /- B_X1_goOn_30.init2#1 -/, (by intro q _; rfl) /- B_X1_goOn_30.init3#1 -/, (by intro i; omega) /- B_X1_goOn_30.init4#1 -/⟩ (by omega) /- B_X1_goOn_30.fuel#1 -/
  obtain ⟨i_B_X1_goOn_30_1, i_B_X1_goOn_30_2, i_B_X1_goOn_30_3, i_B_X1_goOn_30_4⟩ := hI
  unfold B_X1_goOn_30
  have hra := fun (h : z23 < i_p0_kitchen_rules_seats) => hrow.1 z23 i_B_X1_goOn_30_1 h
  dsimp only at hra
  refine wp_ck (z_r32_i.mpr ⟨(by omega) /- z_r32.lo z23#1 -/, (by omega) /- z_r32.hi z23#1 -/⟩) ?_
  refine wp_ck (z_r32_i.mpr ⟨(by omega) /- z_r32.lo i_p0_kitchen_rules_seats#1 -/, (by omega) /- z_r32.hi i_p0_kitchen_rules_seats#1 -/⟩) ?_
  refine wp_if (fun c1 => ?_) (fun c1 => ?_)
  ·
    refine wp_bnd ?_
    refine wp_jn ?_
    have hpo : ∀ q, 0 ≤ q → q < i_p0_kitchen_rules_seats → 0 ≤ w24 (x1 * 7 + 7 + q) ∧ w24 (x1 * 7 + 7 + q) ≤ 9 := by intro q a b; obtain ⟨i, hi, e⟩ := perm_sur hrow a b; rw [← e, i_B_X1_goOn_30_4 i hi.1 (by omega)]; exact l3 i hi.1 hi.2
    refine wp_lq2 (fun (z15 : Int) (w16 : (Int → Int)) => (0 ≤ z15) ∧ (z15 ≤ i_p0_kitchen_rules_seats) ∧ (∀ q, q < x1 * 7 + 7 → w16 q = v_p0_sums q) ∧ (∀ p, 0 ≤ p → p < z15 → 0 ≤ w16 (x1 * 7 + 7 + p) ∧ w16 (x1 * 7 + 7 + p) ≤ 9 * x1 + 9)) (fun (z15 : Int) (w16 : (Int → Int)) => (i_p0_kitchen_rules_seats - z15).toNat) (fun again85 z15 w16 hI ih_B_X1_goOn_85 => ?_) 1000 _ _ ⟨(by omega) /- B_X1_goOn_85.init1#1 -/, (by omega) /- B_X1_goOn_85.init2#1 -/, (by intro q _; rfl) /- B_X1_goOn_85.init3#1 -/, (by intro i; omega) /- B_X1_goOn_85.init4#1 -/⟩ (by omega) /- B_X1_goOn_85.fuel#1 -/
    obtain ⟨i_B_X1_goOn_85_1, i_B_X1_goOn_85_2, i_B_X1_goOn_85_3, i_B_X1_goOn_85_4⟩ := hI
    unfold B_X1_goOn_85
    have hpl := fun (h : z15 < i_p0_kitchen_rules_seats) => place_use h6 (by omega) l1.1 l1.2 i_B_X1_goOn_85_1 h
    refine wp_ck (z_r32_i.mpr ⟨(by omega) /- z_r32.lo z15#1 -/, (by omega) /- z_r32.hi z15#1 -/⟩) ?_
    refine wp_ck (z_r32_i.mpr ⟨(by omega) /- z_r32.lo i_p0_kitchen_rules_seats#2 -/, (by omega) /- z_r32.hi i_p0_kitchen_rules_seats#2 -/⟩) ?_
    refine wp_if (fun c2 => ?_) (fun c2 => ?_)
    ·
      refine wp_ck (z_ix_i.mpr ⟨⟨(by omega) /- ix.lo x1#3 -/, (by omega) /- ix.hi x1#3 -/⟩, (by omega) /- ix.big x1#3 -/⟩) ?_
      refine wp_bd1 (s_X6_placeAfter _ _ _ (by omega) /- pre X6_placeAfter.1#1 -/ (by omega) /- pre X6_placeAfter.2#1 -/ (by omega) /- pre X6_placeAfter.3#1 -/ (by omega) /- pre X6_placeAfter.4#1 -/) (fun z11 q_X6_placeAfter_1 => ?_)
      try dsimp only at q_X6_placeAfter_1
      have hbn := hrow.1 (v_p0_bones x1) l2.1 l2.2
      dsimp only at hbn
      rw [← hz1, ← q_X6_placeAfter_1] at hbn
      refine wp_ck (z_ix_i.mpr ⟨⟨(by omega) /- ix.lo (x1 + (1 : Int))#1 -/, (by omega) /- ix.hi (x1 + (1 : Int))#1 -/⟩, (by omega) /- ix.big (x1 + (1 : Int))#1 -/⟩) ?_
      refine wp_bnd ?_
      refine wp_ck (z_ix_i.mpr ⟨⟨(by omega) /- ix.lo (x1 + (1 : Int))#2 -/, (by omega) /- ix.hi (x1 + (1 : Int))#2 -/⟩, (by omega) /- ix.big (x1 + (1 : Int))#2 -/⟩) ?_
      refine wp_bd1 (s_X2_holderOf _ _ _ (by omega) /- pre X2_holderOf.1#1 -/ (by omega) /- pre X2_holderOf.2#1 -/ (by rw [z_up_s]; omega) /- pre X2_holderOf.3#1 -/ (by rw [z_up_s]; omega) /- pre X2_holderOf.4#1 -/) (fun z13 q_X2_holderOf_1 => ?_)
      try dsimp only at q_X2_holderOf_1
      have hho := (hold_use h7 (by omega) l1.1 l1.2 (show 0 ≤ z_up v_p0_bones (x1 + 1) z11 (x1 + 1) by rw [z_up_s]; omega) (by rw [z_up_s]; omega)).1
      rw [← hz2, ← q_X2_holderOf_1] at hho
      refine wp_ck (z_ix_i.mpr ⟨⟨(by omega) /- ix.lo (x1 + (1 : Int))#3 -/, (by omega) /- ix.hi (x1 + (1 : Int))#3 -/⟩, (by omega) /- ix.big (x1 + (1 : Int))#3 -/⟩) ?_
      refine wp_bnd ?_
      refine wp_some ?_
      try dsimp only
      all_goals exact ⟨(by 
                                        refine ⟨by rw [z_up_s]; exact hho, by rw [z_up_s]; exact hbn, fun q a b => ?_, fun q a b => ?_⟩
                                        · rw [show (x1 + 1) * 7 + q = x1 * 7 + 7 + q from by omega]; exact hpo q a b
                                        · rw [show (x1 + 1) * 7 + q = x1 * 7 + 7 + q from by omega]; have := i_B_X1_goOn_85_4 q a (by omega); omega) /- post1#1 -/, (by 
                                        intro l hl hk
                                        obtain ⟨k1, k2, k3, k4⟩ := hk
                                        refine ⟨by rw [z_up_n _ _ (by omega)]; exact k1, by rw [z_up_n _ _ (by omega)]; exact k2, fun q a b => ?_, fun q a b => ?_⟩
                                        · rw [i_B_X1_goOn_30_3 _ (by omega)]; exact k3 q a b
                                        · rw [i_B_X1_goOn_85_3 _ (by omega)]; exact k4 q a b) /- post2#1 -/⟩
    ·
      refine wp_ck (z_ix_i.mpr ⟨⟨(by omega) /- ix.lo (z3 + z15)#1 -/, (by omega) /- ix.hi (z3 + z15)#1 -/⟩, (by omega) /- ix.big (z3 + z15)#1 -/⟩) ?_
      refine wp_bd1 (s_X2_placeOf _ _ _ (by omega) /- pre X2_placeOf.1#1 -/ (by omega) /- pre X2_placeOf.2#1 -/ (by omega) /- pre X2_placeOf.3#1 -/ (by omega) /- pre X2_placeOf.4#1 -/) (fun z20 q_X2_placeOf_1 => ?_)
      try dsimp only at q_X2_placeOf_1
      have hpl2 := hpl (by omega)
      rw [← hz2, ← q_X2_placeOf_1] at hpl2
      have hpo2 := hpo z20 hpl2.1 hpl2.2
      have hsu := l4 z15 i_B_X1_goOn_85_1 (by omega)
      refine wp_ck (z_ix_i.mpr ⟨⟨(by omega) /- ix.lo (z4 + z20)#1 -/, (by omega) /- ix.hi (z4 + z20)#1 -/⟩, (by omega) /- ix.big (z4 + z20)#1 -/⟩) ?_
      refine wp_ck (z_ix_i.mpr ⟨⟨(by omega) /- ix.lo (z4 + z15)#1 -/, (by omega) /- ix.hi (z4 + z15)#1 -/⟩, (by omega) /- ix.big (z4 + z15)#1 -/⟩) ?_
      refine wp_bnd ?_
      refine wp_bndE (fun z22 hz22 => ?_)
      exact ih_B_X1_goOn_85 _ _ ⟨(by omega) /- B_X1_goOn_85.inv1#1 -/, (by omega) /- B_X1_goOn_85.inv2#1 -/, (by intro q hq; rw [z_up_n _ _ (by omega)]; exact i_B_X1_goOn_85_3 q hq) /- B_X1_goOn_85.inv3#1 -/, (by 
                                        intro p a b
                                        by_cases e : p = z15
                                        · subst e
                                          rw [show x1 * 7 + 7 + p = z4 + p from by omega, z_up_s, i_B_X1_goOn_85_3 (z3 + p) (by omega), show z4 + z20 = x1 * 7 + 7 + z20 from by omega, hz3]
                                          omega
                                        · rw [z_up_n _ _ (by omega)]; exact i_B_X1_goOn_85_4 p a (by omega)) /- B_X1_goOn_85.inv4#1 -/⟩ (by omega) /- B_X1_goOn_85.dec#1 -/
  ·
    refine wp_bd1 (s_X6_placeAfter _ _ _ (by omega) /- pre X6_placeAfter.1#2 -/ (by omega) /- pre X6_placeAfter.2#2 -/ (by omega) /- pre X6_placeAfter.3#2 -/ (by omega) /- pre X6_placeAfter.4#2 -/) (fun z28 q_X6_placeAfter_2 => ?_)
    try dsimp only at q_X6_placeAfter_2
    have hra2 := hra (by omega)
    rw [← hz1, ← q_X6_placeAfter_2] at hra2
    refine wp_ck (z_ix_i.mpr ⟨⟨(by omega) /- ix.lo (z3 + z23)#1 -/, (by omega) /- ix.hi (z3 + z23)#1 -/⟩, (by omega) /- ix.big (z3 + z23)#1 -/⟩) ?_
    refine wp_ck (z_ix_i.mpr ⟨⟨(by omega) /- ix.lo (z4 + z28)#1 -/, (by omega) /- ix.hi (z4 + z28)#1 -/⟩, (by omega) /- ix.big (z4 + z28)#1 -/⟩) ?_
    refine wp_bnd ?_
    refine wp_bndE (fun z30 hz30 => ?_)
    exact ih_B_X1_goOn_30 _ _ ⟨(by omega) /- B_X1_goOn_30.inv1#1 -/, (by omega) /- B_X1_goOn_30.inv2#1 -/, (by intro q hq; rw [z_up_n _ _ (by omega)]; exact i_B_X1_goOn_30_3 q hq) /- B_X1_goOn_30.inv3#1 -/, (by 
                                        intro i a b
                                        by_cases e : i = z23
                                        · subst e
                                          rw [← hz1, ← q_X6_placeAfter_2, show x1 * 7 + 7 + z28 = z4 + z28 from by omega, z_up_s, i_B_X1_goOn_30_3 _ (by omega), hz3]
                                        · rw [z_up_n _ _ (fun h => e (hrow.2 i z23 a (by omega) (by omega) (by omega) (by dsimp only; rw [← hz1, ← q_X6_placeAfter_2]; rw [← hz1] at h; omega)))]
                                          exact i_B_X1_goOn_30_4 i a (by omega)) /- B_X1_goOn_30.inv4#1 -/⟩ (by omega) /- B_X1_goOn_30.dec#1 -/

set_option maxHeartbeats 1000000 in
theorem s_X1_weigh (i_p0_days : Int) (i_p0_least : Int) (i_p0_kitchen_rules_seats : Int) (v_p0_sums : (Int → Int)) (v_p0_row : (Int → Int)) (v_p0_bestRow : (Int → Int)) (h1 : 1 ≤ i_p0_days) (h2 : i_p0_days ≤ 4) (h3 : 2 ≤ i_p0_kitchen_rules_seats) (h4 : i_p0_kitchen_rules_seats ≤ 7) (h5 : -4 ≤ i_p0_least) (h6 : i_p0_least ≤ 1000) (h7 : ∀ q, 0 ≤ q → q < i_p0_kitchen_rules_seats → 0 ≤ v_p0_sums (i_p0_days * 7 + q) ∧ v_p0_sums (i_p0_days * 7 + q) ≤ 9 * i_p0_days) (h8 : ∀ j, 0 ≤ j → j < 4 → 0 ≤ v_p0_row j ∧ v_p0_row j < 5) (h9 : ∀ j, 0 ≤ j → j < 4 → 0 ≤ v_p0_bestRow j ∧ v_p0_bestRow j < 5) : wp (f_X1_weigh i_p0_days i_p0_least i_p0_kitchen_rules_seats v_p0_sums v_p0_row v_p0_bestRow) (fun o => (-4 ≤ o.1 ∧ o.1 ≤ 1000) ∧ (∀ j, 0 ≤ j → j < 4 → 0 ≤ o.2 j ∧ o.2 j < 5)) := by
  unfold f_X1_weigh
  have hs0 := h7 0 (by omega) (by omega)
  rw [show i_p0_days * 7 + 0 = i_p0_days * 7 from by omega] at hs0
  refine wp_ck (z_ix_i.mpr ⟨⟨(by omega) /- ix.lo (i_p0_days * (7 : Int))#1 -/, (by omega) /- ix.hi (i_p0_days * (7 : Int))#1 -/⟩, (by omega) /- ix.big (i_p0_days * (7 : Int))#1 -/⟩) ?_
  refine wp_bndE (fun z1 hz1 => ?_)
  refine wp_bnd ?_
  refine wp_bnd ?_
  refine wp_jn ?_
  refine wp_lq3 (fun (z12 : Int) (z13 : Int) (z14 : Int) => (1 ≤ z12) ∧ (z12 ≤ i_p0_kitchen_rules_seats) ∧ (0 ≤ z13 ∧ z13 ≤ 36) ∧ (0 ≤ z14 ∧ z14 ≤ 36) ∧ (z13 ≤ z14)) (fun (z12 : Int) (z13 : Int) (z14 : Int) => (i_p0_kitchen_rules_seats - z12).toNat) (fun again17 z12 z13 z14 hI ih_B_X1_weigh_17 => ?_) 1000 _ _ _ ⟨(by omega) /- B_X1_weigh_17.init1#1 -/, (by omega) /- B_X1_weigh_17.init2#1 -/, (by omega) /- B_X1_weigh_17.init3#1 -/, (by omega) /- B_X1_weigh_17.init4#1 -/, (by omega) /- B_X1_weigh_17.init5#1 -/⟩ (by omega) /- B_X1_weigh_17.fuel#1 -/
  obtain ⟨i_B_X1_weigh_17_1, i_B_X1_weigh_17_2, i_B_X1_weigh_17_3, i_B_X1_weigh_17_4, i_B_X1_weigh_17_5⟩ := hI
  unfold B_X1_weigh_17
  have hsq := fun (h : z12 < i_p0_kitchen_rules_seats) => h7 z12 (by omega) h
  refine wp_ck (z_r32_i.mpr ⟨(by omega) /- z_r32.lo z12#1 -/, (by omega) /- z_r32.hi z12#1 -/⟩) ?_
  refine wp_ck (z_r32_i.mpr ⟨(by omega) /- z_r32.lo i_p0_kitchen_rules_seats#1 -/, (by omega) /- z_r32.hi i_p0_kitchen_rules_seats#1 -/⟩) ?_
  refine wp_if (fun c1 => ?_) (fun c1 => ?_)
  ·
    refine wp_ck (z_r32_i.mpr ⟨(by omega) /- z_r32.lo i_p0_least#1 -/, (by omega) /- z_r32.hi i_p0_least#1 -/⟩) ?_
    refine wp_jn ?_
    refine wp_if (fun c2 => ?_) (fun c2 => ?_)
    ·
      refine wp_bndE (fun z9 hz9 => ?_)
      refine wp_ck (z_cp_i.mpr ⟨⟨⟨(by omega) /- cp.0 (0 : Int)#1 -/, (by omega) /- cp.1 (0 : Int)#1 -/⟩, (by omega) /- cp.2 (0 : Int)#1 -/⟩, (by omega) /- cp.3 (0 : Int)#1 -/⟩) ?_
      refine wp_ck (z_cp_i.mpr ⟨⟨⟨(by omega) /- cp.0 (0 : Int)#2 -/, (by omega) /- cp.1 (0 : Int)#2 -/⟩, (by omega) /- cp.2 (0 : Int)#2 -/⟩, (by omega) /- cp.3 (0 : Int)#2 -/⟩) ?_
      refine wp_bnd ?_
      refine wp_some ?_
      try dsimp only
      all_goals exact ⟨(by omega) /- post1#1 -/, (by first | exact h9 | (intro j a b; rw [z_cpy_a]; split; rw [show (0 : Int) + (j - 0) = j from by omega]; exact h8 j a b; exact h9 j a b)) /- post2#1 -/⟩
    ·
      refine wp_ck (z_r32_i.mpr ⟨(by omega) /- z_r32.lo (z4 - z5)#1 -/, (by omega) /- z_r32.hi (z4 - z5)#1 -/⟩) ?_
      refine wp_if (fun c3 => ?_) (fun c3 => ?_)
      ·
        refine wp_some ?_
        try dsimp only
        all_goals exact ⟨(by omega) /- post1#2 -/, (by first | exact h9 | (intro j a b; rw [z_cpy_a]; split; rw [show (0 : Int) + (j - 0) = j from by omega]; exact h8 j a b; exact h9 j a b)) /- post2#2 -/⟩
      ·
        refine wp_bndE (fun z9 hz9 => ?_)
        refine wp_ck (z_cp_i.mpr ⟨⟨⟨(by omega) /- cp.0 (0 : Int)#3 -/, (by omega) /- cp.1 (0 : Int)#3 -/⟩, (by omega) /- cp.2 (0 : Int)#3 -/⟩, (by omega) /- cp.3 (0 : Int)#3 -/⟩) ?_
        refine wp_ck (z_cp_i.mpr ⟨⟨⟨(by omega) /- cp.0 (0 : Int)#4 -/, (by omega) /- cp.1 (0 : Int)#4 -/⟩, (by omega) /- cp.2 (0 : Int)#4 -/⟩, (by omega) /- cp.3 (0 : Int)#4 -/⟩) ?_
        refine wp_bnd ?_
        refine wp_some ?_
        try dsimp only
        all_goals exact ⟨(by omega) /- post1#3 -/, (by first | exact h9 | (intro j a b; rw [z_cpy_a]; split; rw [show (0 : Int) + (j - 0) = j from by omega]; exact h8 j a b; exact h9 j a b)) /- post2#3 -/⟩
  ·
    have hsq2 := hsq (by omega)
    refine wp_ck (z_ix_i.mpr ⟨⟨(by omega) /- ix.lo ((i_p0_days * (7 : Int)) + z12)#1 -/, (by omega) /- ix.hi ((i_p0_days * (7 : Int)) + z12)#1 -/⟩, (by omega) /- ix.big ((i_p0_days * (7 : Int)) + z12)#1 -/⟩) ?_
    refine wp_ck (z_r32_i.mpr ⟨(by omega) /- z_r32.lo z14#1 -/, (by omega) /- z_r32.hi z14#1 -/⟩) ?_
    refine wp_ck (z_r32_i.mpr ⟨(by omega) /- z_r32.lo (v_p0_sums ((i_p0_days * (7 : Int)) + z12))#1 -/, (by omega) /- z_r32.hi (v_p0_sums ((i_p0_days * (7 : Int)) + z12))#1 -/⟩) ?_
    refine wp_bndE (fun z20 hz20 => ?_)
    refine wp_ck (z_ix_i.mpr ⟨⟨(by omega) /- ix.lo ((i_p0_days * (7 : Int)) + z12)#2 -/, (by omega) /- ix.hi ((i_p0_days * (7 : Int)) + z12)#2 -/⟩, (by omega) /- ix.big ((i_p0_days * (7 : Int)) + z12)#2 -/⟩) ?_
    refine wp_ck (z_r32_i.mpr ⟨(by omega) /- z_r32.lo z13#1 -/, (by omega) /- z_r32.hi z13#1 -/⟩) ?_
    refine wp_bndE (fun z22 hz22 => ?_)
    refine wp_bndE (fun z23 hz23 => ?_)
    exact ih_B_X1_weigh_17 _ _ _ ⟨(by omega) /- B_X1_weigh_17.inv1#1 -/, (by omega) /- B_X1_weigh_17.inv2#1 -/, (by omega) /- B_X1_weigh_17.inv3#1 -/, (by omega) /- B_X1_weigh_17.inv4#1 -/, (by omega) /- B_X1_weigh_17.inv5#1 -/⟩ (by omega) /- B_X1_weigh_17.dec#1 -/

set_option maxHeartbeats 1000000 in
theorem s_X1_nextRow (i_p0_days : Int) (i_p0_kitchen_rules_stirs : Int) (v_p0_row : (Int → Int)) (h1 : 1 ≤ i_p0_days) (h2 : i_p0_days ≤ 4) (h3 : 1 ≤ i_p0_kitchen_rules_stirs) (h4 : i_p0_kitchen_rules_stirs ≤ 5) (h5 : ∀ j, 0 ≤ j → j < 4 → 0 ≤ v_p0_row j ∧ v_p0_row j < i_p0_kitchen_rules_stirs) : wp (f_X1_nextRow i_p0_days i_p0_kitchen_rules_stirs v_p0_row) (fun o => (o.1 = -4 ∨ (0 ≤ o.1 ∧ o.1 < i_p0_days)) ∧ (∀ j, 0 ≤ j → j < 4 → 0 ≤ o.2 j ∧ o.2 j < i_p0_kitchen_rules_stirs)) := by
  unfold f_X1_nextRow
  refine wp_bndE (fun z1 hz1 => ?_)
  refine wp_jn ?_
  refine wp_lq2 (fun (z6 : Int) (w7 : (Int → Int)) => (-1 ≤ z6) ∧ (z6 < i_p0_days) ∧ (∀ j, 0 ≤ j → j < 4 → 0 ≤ w7 j ∧ w7 j < i_p0_kitchen_rules_stirs)) (fun (z6 : Int) (w7 : (Int → Int)) => (z6 + 1).toNat) (fun again7 z6 w7 hI ih_B_X1_nextRow_7 => ?_) 1000 _ _ ⟨(by omega) /- B_X1_nextRow_7.init1#1 -/, (by omega) /- B_X1_nextRow_7.init2#1 -/, (by exact h5) /- B_X1_nextRow_7.init3#1 -/⟩ (by omega) /- B_X1_nextRow_7.fuel#1 -/
  obtain ⟨i_B_X1_nextRow_7_1, i_B_X1_nextRow_7_2, i_B_X1_nextRow_7_3⟩ := hI
  unfold B_X1_nextRow_7
  refine wp_ck (z_r32_i.mpr ⟨(by omega) /- z_r32.lo z6#1 -/, (by omega) /- z_r32.hi z6#1 -/⟩) ?_
  refine wp_if (fun c1 => ?_) (fun c1 => ?_)
  ·
    refine wp_some ?_
    try dsimp only
    all_goals exact ⟨(by omega) /- post1#1 -/, (by first | exact i_B_X1_nextRow_7_3 | (intro j a b; rw [z_up_a]; split; omega; exact i_B_X1_nextRow_7_3 j a b)) /- post2#1 -/⟩
  ·
    have hw := i_B_X1_nextRow_7_3 z6 (by omega) (by omega)
    refine wp_ck (z_ix_i.mpr ⟨⟨(by omega) /- ix.lo z6#1 -/, (by omega) /- ix.hi z6#1 -/⟩, (by omega) /- ix.big z6#1 -/⟩) ?_
    refine wp_ck (z_r32_i.mpr ⟨(by omega) /- z_r32.lo ((w7 z6) + (1 : Int))#1 -/, (by omega) /- z_r32.hi ((w7 z6) + (1 : Int))#1 -/⟩) ?_
    refine wp_ck (z_r32_i.mpr ⟨(by omega) /- z_r32.lo i_p0_kitchen_rules_stirs#1 -/, (by omega) /- z_r32.hi i_p0_kitchen_rules_stirs#1 -/⟩) ?_
    refine wp_if (fun c2 => ?_) (fun c2 => ?_)
    ·
      refine wp_ck (z_ix_i.mpr ⟨⟨(by omega) /- ix.lo z6#2 -/, (by omega) /- ix.hi z6#2 -/⟩, (by omega) /- ix.big z6#2 -/⟩) ?_
      refine wp_bnd ?_
      refine wp_bndE (fun z13 hz13 => ?_)
      exact ih_B_X1_nextRow_7 _ _ ⟨(by omega) /- B_X1_nextRow_7.inv1#1 -/, (by omega) /- B_X1_nextRow_7.inv2#1 -/, (by intro j a b; rw [z_up_a]; split; omega; exact i_B_X1_nextRow_7_3 j a b) /- B_X1_nextRow_7.inv3#1 -/⟩ (by omega) /- B_X1_nextRow_7.dec#1 -/
    ·
      refine wp_ck (z_ix_i.mpr ⟨⟨(by omega) /- ix.lo z2#1 -/, (by omega) /- ix.hi z2#1 -/⟩, (by omega) /- ix.big z2#1 -/⟩) ?_
      refine wp_ck (z_ix_i.mpr ⟨⟨(by omega) /- ix.lo z2#2 -/, (by omega) /- ix.hi z2#2 -/⟩, (by omega) /- ix.big z2#2 -/⟩) ?_
      refine wp_bnd ?_
      refine wp_some ?_
      try dsimp only
      all_goals exact ⟨(by omega) /- post1#2 -/, (by first | exact i_B_X1_nextRow_7_3 | (intro j a b; rw [z_up_a]; split; omega; exact i_B_X1_nextRow_7_3 j a b)) /- post2#2 -/⟩

set_option maxHeartbeats 1000000 in
theorem s_X1_leastSpread (i_p0_kitchen_rules_seats : Int) (i_p0_kitchen_rules_stirs : Int) (v_p0_kitchen_rules_after : (Int → Int)) (i_p0_kitchen_state_bone : Int) (i_p0_kitchen_state_king : Int) (v_p0_kitchen_state_pieces : (Int → Int)) (v_p0_kitchen_state_friends : (Int → Int)) (v_p0_kitchen_places : (Int → Int)) (v_p0_kitchen_holders : (Int → Int)) (v_p0_pots : (Int → Int)) (v_p0_sums : (Int → Int)) (v_p0_kings : (Int → Int)) (v_p0_bones : (Int → Int)) (v_p0_row : (Int → Int)) (v_p0_bestRow : (Int → Int)) (x1 : Int) (h1 : 2 ≤ i_p0_kitchen_rules_seats) (h2 : i_p0_kitchen_rules_seats ≤ 7) (h3 : 1 ≤ i_p0_kitchen_rules_stirs) (h4 : i_p0_kitchen_rules_stirs ≤ 5) (h5 : rows i_p0_kitchen_rules_seats i_p0_kitchen_rules_stirs v_p0_kitchen_rules_after) (h6 : 0 ≤ i_p0_kitchen_state_bone) (h7 : i_p0_kitchen_state_bone < i_p0_kitchen_rules_seats) (h8 : 0 ≤ i_p0_kitchen_state_king) (h9 : i_p0_kitchen_state_king < i_p0_kitchen_rules_seats) (h10 : ∀ j, 0 ≤ j → j < 7 → 0 ≤ v_p0_kitchen_state_pieces j ∧ v_p0_kitchen_state_pieces j ≤ 9) (h11 : 1 ≤ x1) (h12 : x1 ≤ 4) (h13 : ∀ j, 0 ≤ j → j < 4 → 0 ≤ v_p0_bestRow j ∧ v_p0_bestRow j < 5) : wp (f_X1_leastSpread i_p0_kitchen_rules_seats i_p0_kitchen_rules_stirs v_p0_kitchen_rules_after i_p0_kitchen_state_bone i_p0_kitchen_state_king v_p0_kitchen_state_pieces v_p0_kitchen_state_friends v_p0_kitchen_places v_p0_kitchen_holders v_p0_pots v_p0_sums v_p0_kings v_p0_bones v_p0_row v_p0_bestRow x1) (fun o => (-4 ≤ o.1 ∧ o.1 ≤ 1000) ∧ (∀ j, 0 ≤ j → j < 4 → 0 ≤ o.2.2.2.2.2.2.2.2.2.2 j ∧ o.2.2.2.2.2.2.2.2.2.2 j < 5)) := by
  unfold f_X1_leastSpread
  refine wp_ck (z_r32_i.mpr ⟨(by omega) /- z_r32.lo x1#1 -/, (by omega) /- z_r32.hi x1#1 -/⟩) ?_
  refine wp_bd9 (s_X1_begin _ _ _ _ _ _ _ _ _ _ _ _ _ (by omega) /- pre X1_begin.1#1 -/ (by omega) /- pre X1_begin.2#1 -/ (by omega) /- pre X1_begin.3#1 -/ (by omega) /- pre X1_begin.4#1 -/ (by omega) /- pre X1_begin.5#1 -/ (by omega) /- pre X1_begin.6#1 -/ (by omega) /- pre X1_begin.7#1 -/) (fun z2 z3 w4 w5 w6 w7 w8 w9 w10 q_X1_begin_1 => ?_)
  try dsimp only at q_X1_begin_1
  obtain ⟨q_X1_begin_1_1, q_X1_begin_1_2, q_X1_begin_1_3, q_X1_begin_1_4, q_X1_begin_1_5, q_X1_begin_1_6⟩ := q_X1_begin_1
  have hz2 : 1 ≤ z2 ∧ z2 ≤ 4 := by omega
  refine wp_bnd ?_
  refine wp_bnd ?_
  refine wp_lq9 (fun (z13 : Int) (z14 : Int) (z15 : Int) (w16 : (Int → Int)) (w17 : (Int → Int)) (w18 : (Int → Int)) (w19 : (Int → Int)) (w20 : (Int → Int)) (w21 : (Int → Int)) => (0 ≤ z13) ∧ (z13 ≤ 625) ∧ (z14 = -4 ∨ (0 ≤ z14 ∧ z14 < z2)) ∧ (-4 ≤ z15 ∧ z15 ≤ 1000) ∧ (¬ z14 = -4 → ∀ l, 0 ≤ l → l ≤ z14 → lvlOK i_p0_kitchen_rules_seats w16 w17 w18 w19 l) ∧ (∀ j, 0 ≤ j → j < 4 → 0 ≤ w20 j ∧ w20 j < i_p0_kitchen_rules_stirs) ∧ (∀ j, 0 ≤ j → j < 4 → 0 ≤ w21 j ∧ w21 j < 5)) (fun (z13 : Int) (z14 : Int) (z15 : Int) (w16 : (Int → Int)) (w17 : (Int → Int)) (w18 : (Int → Int)) (w19 : (Int → Int)) (w20 : (Int → Int)) (w21 : (Int → Int)) => (625 - z13).toNat) (fun again13 z13 z14 z15 w16 w17 w18 w19 w20 w21 hI ih_B_X1_leastSpread_13 => ?_) 1000 _ _ _ _ _ _ _ _ _ ⟨(by omega) /- B_X1_leastSpread_13.init1#1 -/, (by omega) /- B_X1_leastSpread_13.init2#1 -/, (by omega) /- B_X1_leastSpread_13.init3#1 -/, (by omega) /- B_X1_leastSpread_13.init4#1 -/, (by 
                                        intro _ l a b; have e : l = 0 := by omega
                                        subst e
                                        exact q_X1_begin_1_5) /- B_X1_leastSpread_13.init5#1 -/, (by intro j a b; rw [q_X1_begin_1_6, z_fill_in a b]; omega) /- B_X1_leastSpread_13.init6#1 -/, (by exact h13) /- B_X1_leastSpread_13.init7#1 -/⟩ (by omega) /- B_X1_leastSpread_13.fuel#1 -/
  obtain ⟨i_B_X1_leastSpread_13_1, i_B_X1_leastSpread_13_2, i_B_X1_leastSpread_13_3, i_B_X1_leastSpread_13_4, i_B_X1_leastSpread_13_5, i_B_X1_leastSpread_13_6, i_B_X1_leastSpread_13_7⟩ := hI
  unfold B_X1_leastSpread_13
  refine wp_ck (z_r32_i.mpr ⟨(by omega) /- z_r32.lo z13#1 -/, (by omega) /- z_r32.hi z13#1 -/⟩) ?_
  refine wp_if (fun c1 => ?_) (fun c1 => ?_)
  ·
    refine wp_some ?_
    try dsimp only
    all_goals exact ⟨(by omega) /- post1#1 -/, (by exact i_B_X1_leastSpread_13_7) /- post2#1 -/⟩
  ·
    refine wp_ck (z_r32_i.mpr ⟨(by omega) /- z_r32.lo z14#1 -/, (by omega) /- z_r32.hi z14#1 -/⟩) ?_
    refine wp_if (fun c2 => ?_) (fun c2 => ?_)
    ·
      refine wp_some ?_
      try dsimp only
      all_goals exact ⟨(by omega) /- post1#2 -/, (by exact i_B_X1_leastSpread_13_7) /- post2#2 -/⟩
    ·
      refine wp_bnd ?_
      refine wp_jn ?_
      refine wp_lq5 (fun (z37 : Int) (w38 : (Int → Int)) (w39 : (Int → Int)) (w40 : (Int → Int)) (w41 : (Int → Int)) => (z14 ≤ z37) ∧ (z37 ≤ z2) ∧ (∀ l, 0 ≤ l → l ≤ z37 → lvlOK i_p0_kitchen_rules_seats w38 w39 w40 w41 l)) (fun (z37 : Int) (w38 : (Int → Int)) (w39 : (Int → Int)) (w40 : (Int → Int)) (w41 : (Int → Int)) => (z2 - z37).toNat) (fun again29 z37 w38 w39 w40 w41 hI ih_B_X1_leastSpread_29 => ?_) 1000 _ _ _ _ _ ⟨(by omega) /- B_X1_leastSpread_29.init1#1 -/, (by omega) /- B_X1_leastSpread_29.init2#1 -/, (by exact i_B_X1_leastSpread_13_5 (by assumption)) /- B_X1_leastSpread_29.init3#1 -/⟩ (by omega) /- B_X1_leastSpread_29.fuel#1 -/
      obtain ⟨i_B_X1_leastSpread_29_1, i_B_X1_leastSpread_29_2, i_B_X1_leastSpread_29_3⟩ := hI
      unfold B_X1_leastSpread_29
      refine wp_ck (z_r32_i.mpr ⟨(by omega) /- z_r32.lo z37#1 -/, (by omega) /- z_r32.hi z37#1 -/⟩) ?_
      refine wp_ck (z_r32_i.mpr ⟨(by omega) /- z_r32.lo z2#1 -/, (by omega) /- z_r32.hi z2#1 -/⟩) ?_
      refine wp_if (fun c3 => ?_) (fun c3 => ?_)
      ·
        have hlv := i_B_X1_leastSpread_29_3 z2 (by omega) (by omega)
        refine wp_bd2 (s_X1_weigh _ _ _ _ _ _ (by omega) /- pre X1_weigh.1#1 -/ (by omega) /- pre X1_weigh.2#1 -/ (by omega) /- pre X1_weigh.3#1 -/ (by omega) /- pre X1_weigh.4#1 -/ (by omega) /- pre X1_weigh.5#1 -/ (by omega) /- pre X1_weigh.6#1 -/ (by exact hlv.2.2.2) /- pre X1_weigh.7#1 -/ (by intro j a b; have := i_B_X1_leastSpread_13_6 j a b; omega) /- pre X1_weigh.8#1 -/ (by exact i_B_X1_leastSpread_13_7) /- pre X1_weigh.9#1 -/) (fun z31 w32 q_X1_weigh_1 => ?_)
        try dsimp only at q_X1_weigh_1
        obtain ⟨q_X1_weigh_1_1, q_X1_weigh_1_2⟩ := q_X1_weigh_1
        refine wp_bd2 (s_X1_nextRow _ _ _ (by omega) /- pre X1_nextRow.1#1 -/ (by omega) /- pre X1_nextRow.2#1 -/ (by omega) /- pre X1_nextRow.3#1 -/ (by omega) /- pre X1_nextRow.4#1 -/ (by exact i_B_X1_leastSpread_13_6) /- pre X1_nextRow.5#1 -/) (fun z33 w34 q_X1_nextRow_1 => ?_)
        try dsimp only at q_X1_nextRow_1
        obtain ⟨q_X1_nextRow_1_1, q_X1_nextRow_1_2⟩ := q_X1_nextRow_1
        refine wp_bnd ?_
        refine wp_bndE (fun z36 hz36 => ?_)
        exact ih_B_X1_leastSpread_13 _ _ _ _ _ _ _ _ _ ⟨(by omega) /- B_X1_leastSpread_13.inv1#1 -/, (by omega) /- B_X1_leastSpread_13.inv2#1 -/, (by omega) /- B_X1_leastSpread_13.inv3#1 -/, (by omega) /- B_X1_leastSpread_13.inv4#1 -/, (by intro _ l a b; exact i_B_X1_leastSpread_29_3 l a (by omega)) /- B_X1_leastSpread_13.inv5#1 -/, (by exact q_X1_nextRow_1_2) /- B_X1_leastSpread_13.inv6#1 -/, (by exact q_X1_weigh_1_2) /- B_X1_leastSpread_13.inv7#1 -/⟩ (by omega) /- B_X1_leastSpread_13.dec#1 -/
      ·
        have hrw := i_B_X1_leastSpread_13_6 z37 (by omega) (by omega)
        refine wp_bd4 (s_X1_goOn _ _ _ _ _ _ _ _ _ _ v_p0_kitchen_state_friends i_p0_kitchen_rules_stirs (by omega) /- pre X1_goOn.1#1 -/ (by omega) /- pre X1_goOn.2#1 -/ (by omega) /- pre X1_goOn.3#1 -/ (by omega) /- pre X1_goOn.4#1 -/ (by exact h5) /- pre X1_goOn.5#1 -/ (by exact q_X1_begin_1_3) /- pre X1_goOn.6#1 -/ (by exact q_X1_begin_1_4) /- pre X1_goOn.7#1 -/ (by omega) /- pre X1_goOn.8#1 -/ (by omega) /- pre X1_goOn.9#1 -/ (by omega) /- pre X1_goOn.10#1 -/ (by omega) /- pre X1_goOn.11#1 -/ (by exact i_B_X1_leastSpread_29_3 z37 (by omega) (by omega)) /- pre X1_goOn.12#1 -/) (fun w45 w46 w47 w48 q_X1_goOn_1 => ?_)
        try dsimp only at q_X1_goOn_1
        obtain ⟨q_X1_goOn_1_1, q_X1_goOn_1_2⟩ := q_X1_goOn_1
        refine wp_bndE (fun z49 hz49 => ?_)
        exact ih_B_X1_leastSpread_29 _ _ _ _ _ ⟨(by omega) /- B_X1_leastSpread_29.inv1#1 -/, (by omega) /- B_X1_leastSpread_29.inv2#1 -/, (by 
                                        intro l a b
                                        by_cases e : l = z37 + 1
                                        · rw [e]; exact q_X1_goOn_1_1
                                        · exact q_X1_goOn_1_2 l (by omega) (i_B_X1_leastSpread_29_3 l a (by omega))) /- B_X1_leastSpread_29.inv3#1 -/⟩ (by omega) /- B_X1_leastSpread_29.dec#1 -/
