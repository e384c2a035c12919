/-- the pot as it is stirred by a row -/
def stirdP (n : Int) (row p st : Int → Int) : Prop := ∀ i, 0 ≤ i → i < n → st (row i) = p i
theorem stird_rng {n : Int} {row p st : Int → Int} (hr : perm n row) (h : stirdP n row p st) (hn : n ≤ 7) (hp : ∀ j, 0 ≤ j → j < 7 → 0 ≤ p j ∧ p j ≤ 9) {q : Int} (h0 : 0 ≤ q) (h1 : q < n) : 0 ≤ st q ∧ st q ≤ 9 := by
  obtain ⟨i, hi, e⟩ := perm_sur hr h0 h1
  rw [← e, h i hi.1 hi.2]
  exact hp i hi.1 (by omega)
/-- who rises, were c king and not k -/
def riseP (n : Int) (f st : Int → Int) (c k : Int) : Int → Prop := fun p => st (plc n k (f k) p) < st (plc n c (f c) p)
def spS (sp : Int → Int) (band : Int) : Int → Int := fun p => if bt band p = 0 then 0 else sp p
def enoughP (n : Int) (sp : Int → Int) (band : Int) : Prop := sumTo sp n.toNat < sumTo (spS sp band) n.toNat * 2
def leadP (n : Int) (f sp st : Int → Int) (c k : Int) : Prop := ¬ bt (bitsOf (riseP n f st c k) n.toNat) c = 0 ∧ enoughP n sp (bitsOf (riseP n f st c k) n.toNat)
def lvlOK (n : Int) (pots sums kings bones : Int → Int) (l : Int) : Prop := (0 ≤ kings l ∧ kings l < n) ∧ (0 ≤ bones l ∧ bones l < n) ∧ (∀ q, 0 ≤ q → q < n → 0 ≤ pots (l * 7 + q) ∧ pots (l * 7 + q) ≤ 9) ∧ (∀ q, 0 ≤ q → q < n → 0 ≤ sums (l * 7 + q) ∧ sums (l * 7 + q) ≤ 9 * l)
theorem shl_n {n : Int} (h2 : 2 ≤ n) (h7 : n ≤ 7) : 4 ≤ z_shl 1 n ∧ z_shl 1 n ≤ 128 := by
  have : ∀ k : Nat, k < 8 → 2 ≤ k → 4 ≤ z_shl 1 (k : Int) ∧ z_shl 1 (k : Int) ≤ 128 := by decide +kernel
  have e := this n.toNat (by omega) (by omega)
  rw [Int.toNat_of_nonneg (by omega)] at e
  exact e
/-- a band of risers, one among them, that is enough -/
def bandP (n : Int) (sp : Int → Int) (G : Int → Prop) (c b : Int) : Prop := (∀ p, 0 ≤ p → p < n → ¬ bt b p = 0 → G p) ∧ ¬ bt b c = 0 ∧ enoughP n sp b
theorem smle {f g : Int → Int} : ∀ m : Nat, (∀ j, 0 ≤ j → j < (m : Int) → f j ≤ g j) → sumTo f m ≤ sumTo g m := by
  intro m
  induction m with
  | zero => intro _; exact Int.le_refl _
  | succ m ih =>
    intro h
    have a := ih (fun j u v => h j u (by omega))
    have b := h (m : Int) (by omega) (by omega)
    show sumTo f m + f (m : Int) ≤ sumTo g m + g (m : Int)
    omega
theorem spS_mono {n : Int} {sp : Int → Int} {a b : Int} (hs : ∀ j, 0 ≤ j → j < n → 0 ≤ sp j) (h : ∀ p, 0 ≤ p → p < n → ¬ bt a p = 0 → ¬ bt b p = 0) (e : enoughP n sp a) : enoughP n sp b := by
  unfold enoughP at e ⊢
  have : sumTo (spS sp a) n.toNat ≤ sumTo (spS sp b) n.toNat := by
    refine smle n.toNat (fun j u v => ?_)
    have hj := hs j u (by omega)
    unfold spS
    by_cases c : bt a j = 0
    · rw [if_pos c]
      split
      · exact Int.le_refl _
      · exact hj
    · rw [if_neg c, if_neg (h j u (by omega) c)]
      exact Int.le_refl _
  omega
theorem bits_pw : ∀ a : Nat, a < 128 → ∀ m : Nat, m < 7 → (a : Int) < z_shl 1 (m : Int) → 0 ≤ z_or (a : Int) (z_shl 1 (m : Int)) ∧ z_or (a : Int) (z_shl 1 (m : Int)) < z_shl 1 ((m + 1 : Nat) : Int) := by decide +kernel
theorem shl_mn : ∀ m : Nat, m < 7 → z_shl 1 (m : Int) ≤ z_shl 1 ((m + 1 : Nat) : Int) ∧ z_shl 1 ((m + 1 : Nat) : Int) ≤ 128 := by decide +kernel
theorem bits_lt (P : Int → Prop) : ∀ m : Nat, m ≤ 7 → 0 ≤ bitsOf P m ∧ bitsOf P m < z_shl 1 (m : Int) := by
  intro m
  induction m with
  | zero =>
    intro _
    have : (0 : Int) < z_shl 1 ((0 : Nat) : Int) := by decide +kernel
    exact ⟨Int.le_refl _, this⟩
  | succ m ih =>
    intro h
    have a := ih (by omega)
    have b := shl_mn m (by omega)
    by_cases c : P (m : Int)
    · rw [bits_t c]
      have e := bits_pw (bitsOf P m).toNat (by omega) m (by omega) (by omega)
      rw [Int.toNat_of_nonneg a.1] at e
      exact e
    · rw [bits_f c]
      exact ⟨a.1, by omega⟩
theorem lead_b {n : Int} {f sp st : Int → Int} {c k : Int} (h7 : n ≤ 7) (h : leadP n f sp st c k) : bandP n sp (riseP n f st c k) c (bitsOf (riseP n f st c k) n.toNat) :=
  ⟨fun p u v w => Classical.byContradiction fun z => w ((bt_bits u (by omega) n.toNat (by omega)).mpr (fun y => z y.2)), h.1, h.2⟩
theorem lead_ex {n : Int} {f sp st : Int → Int} {c k : Int} (h2 : 2 ≤ n) (h7 : n ≤ 7) (hs : ∀ j, 0 ≤ j → j < n → 0 ≤ sp j) (h0 : 0 ≤ c) (h1 : c < n) : leadP n f sp st c k ↔ ∃ b, (0 ≤ b ∧ b < z_shl 1 n) ∧ bandP n sp (riseP n f st c k) c b := by
  constructor
  · intro h
    have a := bits_lt (riseP n f st c k) n.toNat (by omega)
    rw [Int.toNat_of_nonneg (by omega)] at a
    exact ⟨_, a, lead_b h7 h⟩
  · intro ⟨b, hb, g1, g2, g3⟩
    have q : ∀ p, 0 ≤ p → p < n → ¬ bt b p = 0 → ¬ bt (bitsOf (riseP n f st c k) n.toNat) p = 0 := fun p u v w z => (bt_bits u (by omega) n.toNat (by omega)).mp z ⟨by omega, g1 p u v w⟩
    exact ⟨q c h0 h1 g2, spS_mono hs q g3⟩
theorem sh_st : ∀ a : Nat, a < 128 → ∀ p : Nat, p < 7 → z_shr (a : Int) (p : Int) = 2 * z_shr (a : Int) ((p : Int) + 1) + bt (a : Int) (p : Int) := by decide +kernel
theorem sh_0 : ∀ a : Nat, a < 128 → z_shr (a : Int) 0 = (a : Int) := by decide +kernel
theorem sh_n : ∀ a : Nat, a < 128 → ∀ p : Nat, p < 8 → 0 ≤ z_shr (a : Int) (p : Int) ∧ ((a : Int) < z_shl 1 (p : Int) → z_shr (a : Int) (p : Int) = 0) := by decide +kernel
theorem sh_of : ∀ a : Nat, a < 128 → ∀ p : Nat, p < 7 → z_shr (z_and (a : Int) (z_xor (z_shl 1 (p : Int)) (-1))) ((p : Int) + 1) = z_shr (a : Int) ((p : Int) + 1) := by decide +kernel
theorem bt_of : ∀ a : Nat, a < 128 → ∀ p : Nat, p < 7 → ∀ q : Nat, q < 7 → bt (z_and (a : Int) (z_xor (z_shl 1 (p : Int)) (-1))) (q : Int) = if q = p then 0 else bt (a : Int) (q : Int) := by decide +kernel
theorem sh_stz {a p : Int} (h0 : 0 ≤ a) (h1 : a < 128) (h2 : 0 ≤ p) (h3 : p < 7) : z_shr a p = 2 * z_shr a (p + 1) + bt a p := by
  have := sh_st a.toNat (by omega) p.toNat (by omega)
  rw [Int.toNat_of_nonneg h0, Int.toNat_of_nonneg h2] at this
  exact this
theorem sh_ofz {a p : Int} (h0 : 0 ≤ a) (h1 : a < 128) (h2 : 0 ≤ p) (h3 : p < 7) : z_shr (z_and a (z_xor (z_shl 1 p) (-1))) (p + 1) = z_shr a (p + 1) := by
  have := sh_of a.toNat (by omega) p.toNat (by omega)
  rw [Int.toNat_of_nonneg h0, Int.toNat_of_nonneg h2] at this
  exact this
theorem bt_ofz {a p q : Int} (h0 : 0 ≤ a) (h1 : a < 128) (h2 : 0 ≤ p) (h3 : p < 7) (h4 : 0 ≤ q) (h5 : q < 7) : bt (z_and a (z_xor (z_shl 1 p) (-1))) q = if q = p then 0 else bt a q := by
  have := bt_of a.toNat (by omega) p.toNat (by omega) q.toNat (by omega)
  rw [Int.toNat_of_nonneg h0, Int.toNat_of_nonneg h2, Int.toNat_of_nonneg h4] at this
  rw [this]
  by_cases c : q = p
  · rw [if_pos c, if_pos (by omega)]
  · rw [if_neg c, if_neg (by omega)]
theorem sh_bits {a b : Int} (h0 : 0 ≤ a) (h1 : a < 128) (k0 : 0 ≤ b) (k1 : b < 128) : ∀ d : Nat, ∀ p : Int, 0 ≤ p → p + (d : Int) ≤ 6 → z_shr a p = z_shr b p → bt a (p + (d : Int)) = bt b (p + (d : Int)) := by
  intro d
  induction d with
  | zero =>
    intro p u v e
    have x := sh_stz h0 h1 u (show p < 7 by omega)
    have y := sh_stz k0 k1 u (show p < 7 by omega)
    have i := bt01 a p
    have j := bt01 b p
    rw [show p + ((0 : Nat) : Int) = p from by omega]
    omega
  | succ d ih =>
    intro p u v e
    have x := sh_stz h0 h1 u (show p < 7 by omega)
    have y := sh_stz k0 k1 u (show p < 7 by omega)
    have i := bt01 a p
    have j := bt01 b p
    have z := ih (p + 1) (by omega) (by omega) (by omega)
    rw [show p + ((d + 1 : Nat) : Int) = p + 1 + (d : Int) from by omega]
    exact z
/-- the least band, half made: its places above p are the least that may be, those up to p are as all risers have them -/
def grd (n : Int) (sp : Int → Int) (G : Int → Prop) (c g b p : Int) : Prop := bandP n sp G c b ∧ (∀ q, 0 ≤ q → q ≤ p → (bt b q = 0 ↔ bt g q = 0)) ∧ ∀ t, 0 ≤ t → t < 128 → bandP n sp G c t → z_shr b (p + 1) ≤ z_shr t (p + 1)
theorem grd_0 {n : Int} {sp : Int → Int} {G : Int → Prop} {c g b p : Int} (h2 : 2 ≤ n) (h7 : n ≤ 7) (hg : g = bitsOf G n.toNat) (hb : bandP n sp G c g) (e : b = g) (ep : p = n - 1) : grd n sp G c g b p := by
  subst e
  refine ⟨hb, fun q _ _ => Iff.rfl, fun t u v w => ?_⟩
  have a := bits_lt G n.toNat (by omega)
  rw [← hg, Int.toNat_of_nonneg (by omega)] at a
  have m := shl_n h2 h7
  have x := (sh_n b.toNat (by omega) n.toNat (by omega)).2
  have y := (sh_n t.toNat (by omega) n.toNat (by omega)).1
  rw [Int.toNat_of_nonneg a.1, Int.toNat_of_nonneg (show 0 ≤ n by omega)] at x
  rw [Int.toNat_of_nonneg u, Int.toNat_of_nonneg (show 0 ≤ n by omega)] at y
  rw [ep, show n - 1 + 1 = n from by omega, x a.2]
  exact y
theorem grd_a {n : Int} {sp : Int → Int} {G : Int → Prop} {c g b p b' p' : Int} (h : grd n sp G c g b p) (h0 : 0 ≤ b) (h1 : b < 128) (h2 : 0 ≤ p) (h3 : p < n) (h7 : n ≤ 7) (k0 : 0 ≤ c) (k1 : c < n) (eb : b' = z_and b (z_xor (z_shl 1 p) (-1))) (ep : p' = p - 1) (hc : ¬ p = c) (he : enoughP n sp b') : grd n sp G c g b' p' := by
  subst eb ep
  have o := fun q (u : 0 ≤ q) (v : q < 7) => bt_ofz h0 h1 h2 (show p < 7 by omega) u v
  refine ⟨⟨fun q u v w => ?_, ?_, he⟩, fun q u v => ?_, fun t u v w => ?_⟩
  · rw [o q u (by omega)] at w
    by_cases x : q = p
    · rw [if_pos x] at w; exact absurd rfl w
    · rw [if_neg x] at w; exact h.1.1 q u v w
  · rw [o c k0 (by omega), if_neg (by omega)]; exact h.1.2.1
  · rw [o q u (by omega), if_neg (by omega)]; exact h.2.1 q u (by omega)
  · have a := an7z h0 h1 h2 (show p < 7 by omega)
    have x := sh_stz a.1 a.2 h2 (show p < 7 by omega)
    have y := sh_stz u v h2 (show p < 7 by omega)
    rw [sh_ofz h0 h1 h2 (by omega), o p h2 (by omega), if_pos rfl] at x
    have z := h.2.2 t u v w
    have i := bt01 t p
    rw [show p - 1 + 1 = p from by omega]
    omega
theorem grd_b {n : Int} {sp : Int → Int} {G : Int → Prop} {c g b p p' : Int} (h : grd n sp G c g b p) (h0 : 0 ≤ b) (h1 : b < 128) (h2 : 0 ≤ p) (h3 : p < n) (h7 : n ≤ 7) (ep : p' = p - 1) (hc : p = c) : grd n sp G c g b p' := by
  subst ep hc
  refine ⟨h.1, fun q u v => h.2.1 q u (by omega), fun t u v w => ?_⟩
  have x := sh_stz h0 h1 h2 (show p < 7 by omega)
  have y := sh_stz u v h2 (show p < 7 by omega)
  have z := h.2.2 t u v w
  have i := bt01 t p
  have j := bt01 b p
  have k := w.2.1
  rw [show p - 1 + 1 = p from by omega]
  omega
theorem grd_c {n : Int} {sp : Int → Int} {G : Int → Prop} {c g b p p' : Int} (h : grd n sp G c g b p) (h0 : 0 ≤ b) (h1 : b < 128) (h2 : 0 ≤ p) (h3 : p < n) (h7 : n ≤ 7) (hs : ∀ j, 0 ≤ j → j < n → 0 ≤ sp j) (hg : g = bitsOf G n.toNat) (ep : p' = p - 1) (he : ¬ enoughP n sp (z_and b (z_xor (z_shl 1 p) (-1)))) : grd n sp G c g b p' := by
  subst ep
  refine ⟨h.1, fun q u v => h.2.1 q u (by omega), fun t u v w => ?_⟩
  have x := sh_stz h0 h1 h2 (show p < 7 by omega)
  have y := sh_stz u v h2 (show p < 7 by omega)
  have z := h.2.2 t u v w
  have i := bt01 t p
  have j := bt01 b p
  rw [show p - 1 + 1 = p from by omega]
  by_cases e : z_shr b (p + 1) = z_shr t (p + 1)
  · by_cases k : bt t p = 0
    · refine absurd (spS_mono hs (fun q q0 q1 qt => ?_) w.2.2) he
      rw [bt_ofz h0 h1 h2 (show p < 7 by omega) q0 (show q < 7 by omega)]
      by_cases qp : q = p
      · rw [qp] at qt; exact absurd k qt
      · rw [if_neg qp]
        by_cases ql : q < p
        · intro r
          have r2 := (h.2.1 q q0 (by omega)).mp r
          rw [hg] at r2
          exact (bt_bits q0 (by omega) n.toNat (by omega)).mp r2 ⟨by omega, w.1 q q0 q1 qt⟩
        · have s := sh_bits h0 h1 u v (q - (p + 1)).toNat (p + 1) (by omega) (by omega) e
          rw [Int.toNat_of_nonneg (by omega), show p + 1 + (q - (p + 1)) = q from by omega] at s
          rw [s]; exact qt
    · omega
  · omega
theorem grd_z {n : Int} {sp : Int → Int} {G : Int → Prop} {c g b p : Int} (h : grd n sp G c g b p) (h0 : 0 ≤ b) (h1 : b < 128) (ep : p = -1) : bandP n sp G c b ∧ ∀ t, 0 ≤ t → t < b → ¬ bandP n sp G c t := by
  subst ep
  refine ⟨h.1, fun t u v w => ?_⟩
  have z := h.2.2 t u (by omega) w
  have x := sh_0 b.toNat (by omega)
  have y := sh_0 t.toNat (by omega)
  rw [Int.toNat_of_nonneg h0] at x
  rw [Int.toNat_of_nonneg u] at y
  rw [show (-1 : Int) + 1 = 0 from rfl, x, y] at z
  omega
/-- what a coup against k answers -/
def coupQ (n : Int) (f sp st : Int → Int) (k what r : Int) : Prop := (r = -4 ∧ ∀ c, 0 ≤ c → c < n → ¬ c = k → ¬ leadP n f sp st c k) ∨ ∃ c, (0 ≤ c ∧ c < n) ∧ ¬ c = k ∧ leadP n f sp st c k ∧ (∀ d, 0 ≤ d → d < c → ¬ d = k → ¬ leadP n f sp st d k) ∧ ((what = 0 ∧ r = c) ∨ (¬ what = 0 ∧ 0 ≤ r ∧ bandP n sp (riseP n f st c k) c r ∧ ∀ t, 0 ≤ t → t < r → ¬ bandP n sp (riseP n f st c k) c t))
theorem coupQ_u {n : Int} {f sp st : Int → Int} {k what r s : Int} (a : coupQ n f sp st k what r) (b : coupQ n f sp st k what s) : r = s := by
  rcases a with ⟨a1, a2⟩ | ⟨c, a1, a2, a3, a4, a5⟩
  · rcases b with ⟨b1, b2⟩ | ⟨d, b1, b2, b3, b4, b5⟩
    · rw [a1, b1]
    · exact absurd b3 (a2 d b1.1 b1.2 b2)
  · rcases b with ⟨b1, b2⟩ | ⟨d, b1, b2, b3, b4, b5⟩
    · exact absurd a3 (b2 c a1.1 a1.2 a2)
    · have e : c = d := by
        rcases Int.lt_trichotomy c d with x | x | x
        · exact absurd a3 (b4 c a1.1 x a2)
        · exact x
        · exact absurd b3 (a4 d b1.1 x b2)
      subst e
      rcases a5 with ⟨w, a6⟩ | ⟨w, a6, a7, a8⟩
      · rcases b5 with ⟨_, b6⟩ | ⟨y, _⟩
        · rw [a6, b6]
        · exact absurd w y
      · rcases b5 with ⟨y, _⟩ | ⟨_, b6, b7, b8⟩
        · exact absurd y w
        · rcases Int.lt_trichotomy r s with x | x | x
          · exact absurd a7 (b8 r a6 x)
          · exact x
          · exact absurd b7 (a8 s b6 x)
/-! fair days: a run by the digits d -/
noncomputable def ivq (n : Int) (row : Int → Int) (q : Int) : Int := Classical.epsilon (fun i => (0 ≤ i ∧ i < n) ∧ row i = q)
theorem ivq_at {n i : Int} {row : Int → Int} (h : perm n row) (i0 : 0 ≤ i) (i1 : i < n) : ivq n row (row i) = i := by
  have e : (0 ≤ ivq n row (row i) ∧ ivq n row (row i) < n) ∧ row (ivq n row (row i)) = row i := Classical.epsilon_spec (p := fun j => (0 ≤ j ∧ j < n) ∧ row j = row i) ⟨i, ⟨i0, i1⟩, rfl⟩
  exact h.2 _ i e.1.1 e.1.2 i0 i1 e.2
def fB (A : Int → Int → Int) (d : Int → Int) (b0 : Int) : Nat → Int
  | 0 => b0
  | j + 1 => A (d (j : Int)) (fB A d b0 j)
noncomputable def fK (n : Int) (F : Int → Int) (A : Int → Int → Int) (d : Int → Int) (k0 b0 : Int) : Nat → Int
  | 0 => k0
  | j + 1 => hol n (fK n F A d k0 b0 j) (F (fK n F A d k0 b0 j)) (fB A d b0 (j + 1))
noncomputable def fP (n : Int) (A : Int → Int → Int) (d P0 : Int → Int) : Nat → Int → Int
  | 0 => P0
  | j + 1 => fun q => fP n A d P0 j (ivq n (A (d (j : Int))) q)
noncomputable def fS (n : Int) (F : Int → Int) (A : Int → Int → Int) (d P0 : Int → Int) (k0 b0 : Int) : Nat → Int → Int
  | 0 => fun _ => 0
  | j + 1 => fun p => fS n F A d P0 k0 b0 j p + fP n A d P0 (j + 1) (plc n (fK n F A d k0 b0 j) (F (fK n F A d k0 b0 j)) p)
def lvs (n : Int) (F : Int → Int) (A : Int → Int → Int) (P0 : Int → Int) (k0 b0 : Int) (d : Int → Int) (l : Nat) (k b : Int) (po su : Int → Int) : Prop := k = fK n F A d k0 b0 l ∧ b = fB A d b0 l ∧ (∀ q, 0 ≤ q → q < n → po q = fP n A d P0 l q) ∧ (∀ p, 0 ≤ p → p < n → su p = fS n F A d P0 k0 b0 l p)
theorem lvs_0 {n k0 b0 : Int} {F : Int → Int} {A : Int → Int → Int} {P0 d po su : Int → Int} (h1 : ∀ q, 0 ≤ q → q < n → po q = P0 q) (h2 : ∀ p, 0 ≤ p → p < n → su p = 0) : lvs n F A P0 k0 b0 d 0 k0 b0 po su := ⟨rfl, rfl, h1, h2⟩
theorem lvs_s {n k0 b0 k b k2 b2 : Int} {F : Int → Int} {A : Int → Int → Int} {P0 d po su po2 su2 : Int → Int} {l : Nat} (hn : 0 < n) (hp : perm n (A (d (l : Int)))) (h : lvs n F A P0 k0 b0 d l k b po su) (eb : b2 = A (d (l : Int)) b) (ek : (0 ≤ k2 ∧ k2 < n) ∧ plc n k (F k) k2 = b2) (ep : ∀ i, 0 ≤ i → i < n → po2 (A (d (l : Int)) i) = po i) (es : ∀ p, 0 ≤ p → p < n → su2 p = su p + po2 (plc n k (F k) p)) : lvs n F A P0 k0 b0 d (l + 1) k2 b2 po2 su2 := by
  obtain ⟨h1, h2, h3, h4⟩ := h
  have e2 : b2 = fB A d b0 (l + 1) := by rw [eb, h2]; rfl
  have e3 : ∀ q, 0 ≤ q → q < n → po2 q = fP n A d P0 (l + 1) q := by
    intro q a c
    obtain ⟨i, hi, e⟩ := perm_sur hp a c
    rw [← e, ep i hi.1 hi.2, h3 i hi.1 hi.2]
    show _ = fP n A d P0 l (ivq n (A (d (l : Int))) (A (d (l : Int)) i))
    rw [ivq_at hp hi.1 hi.2]
  refine ⟨?_, e2, e3, fun p a c => ?_⟩
  · show k2 = hol n (fK n F A d k0 b0 l) (F (fK n F A d k0 b0 l)) (fB A d b0 (l + 1))
    rw [← h1, ← e2]
    exact hol_eq hn ek.1.1 ek.1.2 ek.2
  · have r := plc_rng (n := n) (k := k) (f := F k) (p := p) hn
    rw [es p a c, h4 p a c, e3 _ r.1 r.2]
    show _ = fS n F A d P0 k0 b0 l p + fP n A d P0 (l + 1) (plc n (fK n F A d k0 b0 l) (F (fK n F A d k0 b0 l)) p)
    rw [← h1]
theorem fB_d {A : Int → Int → Int} {d e : Int → Int} {b0 : Int} : ∀ l : Nat, (∀ j : Int, 0 ≤ j → j < (l : Int) → d j = e j) → fB A d b0 l = fB A e b0 l := by
  intro l
  induction l with
  | zero => intro _; rfl
  | succ l ih =>
    intro h
    show A (d (l : Int)) (fB A d b0 l) = A (e (l : Int)) (fB A e b0 l)
    rw [ih (fun j a b => h j a (by omega)), h (l : Int) (by omega) (by omega)]
theorem fK_d {n : Int} {F : Int → Int} {A : Int → Int → Int} {d e : Int → Int} {k0 b0 : Int} : ∀ l : Nat, (∀ j : Int, 0 ≤ j → j < (l : Int) → d j = e j) → fK n F A d k0 b0 l = fK n F A e k0 b0 l := by
  intro l
  induction l with
  | zero => intro _; rfl
  | succ l ih =>
    intro h
    show hol n (fK n F A d k0 b0 l) (F (fK n F A d k0 b0 l)) (fB A d b0 (l + 1)) = hol n (fK n F A e k0 b0 l) (F (fK n F A e k0 b0 l)) (fB A e b0 (l + 1))
    rw [ih (fun j a b => h j a (by omega)), fB_d (l + 1) h]
theorem fP_d {n : Int} {A : Int → Int → Int} {d e P0 : Int → Int} : ∀ l : Nat, (∀ j : Int, 0 ≤ j → j < (l : Int) → d j = e j) → fP n A d P0 l = fP n A e P0 l := by
  intro l
  induction l with
  | zero => intro _; rfl
  | succ l ih =>
    intro h
    funext q
    show fP n A d P0 l (ivq n (A (d (l : Int))) q) = fP n A e P0 l (ivq n (A (e (l : Int))) q)
    rw [ih (fun j a b => h j a (by omega)), h (l : Int) (by omega) (by omega)]
theorem fS_d {n : Int} {F : Int → Int} {A : Int → Int → Int} {d e P0 : Int → Int} {k0 b0 : Int} : ∀ l : Nat, (∀ j : Int, 0 ≤ j → j < (l : Int) → d j = e j) → fS n F A d P0 k0 b0 l = fS n F A e P0 k0 b0 l := by
  intro l
  induction l with
  | zero => intro _; rfl
  | succ l ih =>
    intro h
    funext p
    show fS n F A d P0 k0 b0 l p + fP n A d P0 (l + 1) (plc n (fK n F A d k0 b0 l) (F (fK n F A d k0 b0 l)) p) = fS n F A e P0 k0 b0 l p + fP n A e P0 (l + 1) (plc n (fK n F A e k0 b0 l) (F (fK n F A e k0 b0 l)) p)
    rw [ih (fun j a b => h j a (by omega)), fP_d (l + 1) h, fK_d l (fun j a b => h j a (by omega))]
theorem lvs_d {n k0 b0 k b : Int} {F : Int → Int} {A : Int → Int → Int} {P0 d e po su : Int → Int} {l : Nat} (hd : ∀ j : Int, 0 ≤ j → j < (l : Int) → d j = e j) (h : lvs n F A P0 k0 b0 d l k b po su) : lvs n F A P0 k0 b0 e l k b po su := by
  unfold lvs at h ⊢
  rw [← fK_d l hd, ← fB_d l hd, ← fP_d l hd, ← fS_d l hd]
  exact h
/-! greatest and smallest -/
def mxU (f : Int → Int) : Nat → Int
  | 0 => f 0
  | m + 1 => max (mxU f m) (f ((m : Int) + 1))
def mnU (f : Int → Int) : Nat → Int
  | 0 => f 0
  | m + 1 => min (mnU f m) (f ((m : Int) + 1))
def spr (n : Int) (f : Int → Int) : Int := mxU f (n - 1).toNat - mnU f (n - 1).toNat
theorem mxU_s {f : Int → Int} {z : Int} (h : 1 ≤ z) : mxU f (z + 1 - 1).toNat = max (mxU f (z - 1).toNat) (f z) := by
  rw [show (z + 1 - 1).toNat = (z - 1).toNat + 1 from by omega]
  show max _ (f (((z - 1).toNat : Int) + 1)) = _
  rw [show ((z - 1).toNat : Int) + 1 = z from by omega]
theorem mnU_s {f : Int → Int} {z : Int} (h : 1 ≤ z) : mnU f (z + 1 - 1).toNat = min (mnU f (z - 1).toNat) (f z) := by
  rw [show (z + 1 - 1).toNat = (z - 1).toNat + 1 from by omega]
  show min _ (f (((z - 1).toNat : Int) + 1)) = _
  rw [show ((z - 1).toNat : Int) + 1 = z from by omega]
theorem mx_0 {f : Int → Int} : ∀ m : Nat, f 0 ≤ mxU f m ∧ mnU f m ≤ f 0 := by
  intro m
  induction m with
  | zero => exact ⟨Int.le_refl _, Int.le_refl _⟩
  | succ m ih =>
    have a : mxU f (m + 1) = max (mxU f m) (f ((m : Int) + 1)) := rfl
    have b : mnU f (m + 1) = min (mnU f m) (f ((m : Int) + 1)) := rfl
    omega
theorem mx_ext {f g : Int → Int} : ∀ m : Nat, (∀ j, 0 ≤ j → j ≤ (m : Int) → f j = g j) → mxU f m = mxU g m ∧ mnU f m = mnU g m := by
  intro m
  induction m with
  | zero => intro h; exact ⟨h 0 (by omega) (by omega), h 0 (by omega) (by omega)⟩
  | succ m ih =>
    intro h
    have i := ih (fun j a b => h j a (by omega))
    have e := h ((m : Int) + 1) (by omega) (by omega)
    constructor
    · show max (mxU f m) (f ((m : Int) + 1)) = max (mxU g m) (g ((m : Int) + 1)); rw [i.1, e]
    · show min (mnU f m) (f ((m : Int) + 1)) = min (mnU g m) (g ((m : Int) + 1)); rw [i.2, e]
theorem spr_nn {n : Int} {f : Int → Int} : 0 ≤ spr n f := by
  have := mx_0 (f := f) (n - 1).toNat
  unfold spr
  omega
theorem spr_ext {n : Int} {f g : Int → Int} (hn : 1 ≤ n) (h : ∀ j, 0 ≤ j → j < n → f j = g j) : spr n f = spr n g := by
  have e := mx_ext (f := f) (g := g) (n - 1).toNat (fun j a b => h j a (by omega))
  unfold spr
  rw [e.1, e.2]
/-! rows of digits -/
def dgt (s n i : Int) : Int → Int := fun j => i / s ^ (n - 1 - j).toNat % s
def hv (s : Int) (d : Int → Int) : Nat → Int
  | 0 => 0
  | j + 1 => hv s d j * s + d (j : Int)
theorem hv_ext {s : Int} {d e : Int → Int} : ∀ m : Nat, (∀ j, 0 ≤ j → j < (m : Int) → d j = e j) → hv s d m = hv s e m := by
  intro m
  induction m with
  | zero => intro _; rfl
  | succ m ih =>
    intro h
    show hv s d m * s + d (m : Int) = hv s e m * s + e (m : Int)
    rw [ih (fun j a b => h j a (by omega)), h (m : Int) (by omega) (by omega)]
theorem hv_rng {s : Int} {d : Int → Int} (hs : 1 ≤ s) : ∀ m : Nat, (∀ j, 0 ≤ j → j < (m : Int) → 0 ≤ d j ∧ d j < s) → 0 ≤ hv s d m ∧ hv s d m < s ^ m := by
  intro m
  induction m with
  | zero => intro _; exact ⟨Int.le_refl _, by rw [Int.pow_zero]; show (0 : Int) < 1; decide⟩
  | succ m ih =>
    intro h
    have i := ih (fun j a b => h j a (by omega))
    have e := h (m : Int) (by omega) (by omega)
    have p := Int.mul_nonneg i.1 (show 0 ≤ s by omega)
    have q := Int.mul_le_mul_of_nonneg_right (show hv s d m ≤ s ^ m - 1 by omega) (show 0 ≤ s by omega)
    rw [Int.sub_mul, Int.one_mul] at q
    rw [Int.pow_succ]
    show 0 ≤ hv s d m * s + d (m : Int) ∧ hv s d m * s + d (m : Int) < _
    omega
theorem hv_dgt {s : Int} {d : Int → Int} (hs : 1 ≤ s) : ∀ m : Nat, (∀ j, 0 ≤ j → j < (m : Int) → 0 ≤ d j ∧ d j < s) → ∀ j : Nat, j < m → d (j : Int) = hv s d m / s ^ (m - 1 - j) % s := by
  intro m
  induction m with
  | zero => intro _ j h; omega
  | succ m ih =>
    intro h j hj
    have e := h (m : Int) (by omega) (by omega)
    have hh : hv s d (m + 1) = hv s d m * s + d (m : Int) := rfl
    by_cases c : j = m
    · rw [c, show m + 1 - 1 - m = 0 from by omega, Int.pow_zero, Int.ediv_one, hh, Int.add_comm, Int.add_mul_emod_self_right, Int.emod_eq_of_lt e.1 e.2]
    · rw [show m + 1 - 1 - j = (m - 1 - j) + 1 from by omega, Int.pow_succ, Int.mul_comm, ← Int.ediv_ediv_of_nonneg (show 0 ≤ s by omega), hh, Int.add_comm, Int.add_mul_ediv_right _ _ (show s ≠ 0 by omega), Int.ediv_eq_zero_of_lt e.1 e.2, Int.zero_add]
      exact ih (fun j a b => h j a (by omega)) j (by omega)
theorem hv_row {s D i j : Int} {d : Int → Int} (hs : 1 ≤ s) (h : ∀ j, 0 ≤ j → j < D → 0 ≤ d j ∧ d j < s) (e : hv s d D.toNat = i) (j0 : 0 ≤ j) (j1 : j < D) : d j = dgt s D i j := by
  have w := hv_dgt hs D.toNat (fun j a b => h j a (by omega)) j.toNat (by omega)
  rw [e, Int.toNat_of_nonneg j0] at w
  rw [w]
  unfold dgt
  rw [show D.toNat - 1 - j.toNat = (D - 1 - j).toNat from by omega]
theorem hv_inc {s : Int} {d e : Int → Int} {r : Nat} (er : e (r : Int) = d (r : Int) + 1) (lo : ∀ j, 0 ≤ j → j < (r : Int) → e j = d j) : ∀ m : Nat, r < m → (∀ j, (r : Int) < j → j < (m : Int) → d j = s - 1 ∧ e j = 0) → hv s e m = hv s d m + 1 := by
  intro m
  induction m with
  | zero => intro h; omega
  | succ m ih =>
    intro h hi
    show hv s e m * s + e (m : Int) = hv s d m * s + d (m : Int) + 1
    by_cases c : r = m
    · subst c
      rw [hv_ext r lo, er]; omega
    · have w := hi (m : Int) (by omega) (by omega)
      rw [ih (by omega) (fun j a b => hi j a (by omega)), w.1, w.2, Int.add_mul, Int.one_mul]
      omega
theorem hv_full {s : Int} {d : Int → Int} : ∀ m : Nat, (∀ j, 0 ≤ j → j < (m : Int) → d j = s - 1) → hv s d m + 1 = s ^ m := by
  intro m
  induction m with
  | zero => intro _; rw [Int.pow_zero]; rfl
  | succ m ih =>
    intro h
    have i := ih (fun j a b => h j a (by omega))
    rw [Int.pow_succ, ← i, Int.add_mul, Int.one_mul]
    show hv s d m * s + d (m : Int) + 1 = _
    rw [h (m : Int) (by omega) (by omega)]
    omega
theorem hv_zero {s : Int} {d : Int → Int} : ∀ m : Nat, (∀ j, 0 ≤ j → j < (m : Int) → d j = 0) → hv s d m = 0 := by
  intro m
  induction m with
  | zero => intro _; rfl
  | succ m ih =>
    intro h
    show hv s d m * s + d (m : Int) = 0
    rw [ih (fun j a b => h j a (by omega)), h (m : Int) (by omega) (by omega), Int.zero_mul]; rfl
/-! the first with the least -/
def lst (SP : Int → Int) (m b l : Int) : Prop := (0 ≤ b ∧ b < m) ∧ l = SP b ∧ (∀ i, 0 ≤ i → i < b → SP b < SP i) ∧ (∀ i, 0 ≤ i → i < m → SP b ≤ SP i)
theorem lst_uniq {SP : Int → Int} {m b l b2 l2 : Int} (h : lst SP m b l) (g : lst SP m b2 l2) : b = b2 ∧ l = l2 := by
  obtain ⟨h1, h2, h3, h4⟩ := h
  obtain ⟨g1, g2, g3, g4⟩ := g
  have e : b = b2 := by
    rcases Int.lt_trichotomy b b2 with c | c | c
    · have := g3 b h1.1 c; have := h4 b2 g1.1 g1.2; omega
    · exact c
    · have := h3 b2 g1.1 c; have := g4 b h1.1 h1.2; omega
  subst e
  exact ⟨rfl, by rw [h2, g2]⟩
theorem lst_1 {SP : Int → Int} : lst SP 1 0 (SP 0) := ⟨by omega, rfl, fun i a b => by omega, fun i a b => by rw [show i = 0 from by omega]; exact Int.le_refl _⟩
theorem lst_new {SP : Int → Int} {m b l : Int} (h : lst SP m b l) (hm : 0 ≤ m) (c : SP m < l) : lst SP (m + 1) m (SP m) := by
  obtain ⟨h1, h2, h3, h4⟩ := h
  refine ⟨by omega, rfl, fun i a d => ?_, fun i a d => ?_⟩
  · have := h4 i a d; omega
  · by_cases e : i = m
    · rw [e]; exact Int.le_refl _
    · have := h4 i a (by omega); omega
theorem lst_old {SP : Int → Int} {m b l : Int} (h : lst SP m b l) (c : ¬ SP m < l) : lst SP (m + 1) b l := by
  obtain ⟨h1, h2, h3, h4⟩ := h
  refine ⟨by omega, h2, h3, fun i a d => ?_⟩
  by_cases e : i = m
  · rw [e]; omega
  · exact h4 i a (by omega)
noncomputable def spi (n s : Int) (F : Int → Int) (A : Int → Int → Int) (P0 : Int → Int) (k0 b0 D : Int) : Int → Int := fun i => spr n (fS n F A (dgt s D i) P0 k0 b0 D.toNat)
def bst (SP : Int → Int) (s D m l : Int) (best : Int → Int) : Prop := (m = 0 ∧ l = -4) ∨ (∃ b, lst SP m b l ∧ ∀ j, 0 ≤ j → j < D → best j = dgt s D b j)
theorem bst_s {SP : Int → Int} {s D m l v l2 : Int} {best row best2 : Int → Int} (h : bst SP s D m l best) (hm : 0 ≤ m) (hnn : ∀ i, 0 ≤ SP i) (hv : v = SP m) (hrow : ∀ j, 0 ≤ j → j < D → row j = dgt s D m j) (h1 : l = -4 ∨ v < l → l2 = v ∧ ∀ j, 0 ≤ j → j < D → best2 j = row j) (h2 : ¬ (l = -4 ∨ v < l) → l2 = l ∧ best2 = best) : bst SP s D (m + 1) l2 best2 := by
  right
  rcases h with ⟨a, c⟩ | ⟨b, a, c⟩
  · obtain ⟨e1, e2⟩ := h1 (Or.inl c)
    subst a
    exact ⟨0, by rw [e1, hv]; exact lst_1, fun j u w => by rw [e2 j u w]; exact hrow j u w⟩
  · by_cases d : v < l
    · obtain ⟨e1, e2⟩ := h1 (Or.inr d)
      exact ⟨m, by rw [e1, hv]; exact lst_new a hm (by omega), fun j u w => by rw [e2 j u w]; exact hrow j u w⟩
    · have hl : ¬ l = -4 := by have := hnn b; have := a.2.1; omega
      obtain ⟨e1, e2⟩ := h2 (fun z => z.elim hl d)
      exact ⟨b, by rw [e1]; exact lst_old a (by omega), by rw [e2]; exact c⟩
theorem clA_perm {n s t : Int} {A : Int → Int → Int} (t0 : 0 ≤ t) (t1 : t < s) (h : perm n (fun i => A t i)) : perm n (clA n s A t) := by
  refine ⟨fun i a b => ?_, fun i j a b c d e => ?_⟩
  · rw [clA_in t0 t1 a b]; exact h.1 i a b
  · rw [clA_in t0 t1 a b, clA_in t0 t1 c d] at e
    exact h.2 i j a b c d e
theorem pow54 {b e : Int} (h1 : 1 ≤ b) (h5 : b ≤ 5) (h0 : 0 ≤ e) (h4 : e ≤ 4) : 1 ≤ b ^ e.toNat ∧ b ^ e.toNat ≤ 625 := by
  have : ∀ m : Nat, m < 6 → 1 ≤ m → ∀ j : Nat, j < 5 → 1 ≤ (m : Int) ^ j ∧ (m : Int) ^ j ≤ 625 := by decide +kernel
  have q := this b.toNat (by omega) (by omega) e.toNat (by omega)
  rw [Int.toNat_of_nonneg (by omega)] at q
  exact q

theorem lvs_po {n k0 b0 k b : Int} {F : Int → Int} {A : Int → Int → Int} {P0 d po su po2 su2 : Int → Int} {l : Nat} (h : lvs n F A P0 k0 b0 d l k b po su) (h1 : ∀ q, 0 ≤ q → q < n → po2 q = po q) (h2 : ∀ q, 0 ≤ q → q < n → su2 q = su q) : lvs n F A P0 k0 b0 d l k b po2 su2 :=
  ⟨h.1, h.2.1, fun q a c => (h1 q a c).trans (h.2.2.1 q a c), fun q a c => (h2 q a c).trans (h.2.2.2 q a c)⟩
/-- a level of the class's arrays -/
def lvq (n : Int) (F : Int → Int) (A : Int → Int → Int) (P0 : Int → Int) (k0 b0 : Int) (d pots sums kings bones : Int → Int) (l : Int) : Prop := lvs n F A P0 k0 b0 d l.toNat (kings l) (bones l) (fun q => pots (l * 7 + q)) (fun p => sums (l * 7 + p))
theorem lvq_go {n s k0 b0 x : Int} {fr aft P0 row pots sums kings bones pots2 sums2 kings2 bones2 : Int → Int} (h2 : 2 ≤ n) (hr : rows n s aft) (x0 : 0 ≤ x) (r0 : 0 ≤ row x) (r1 : row x < s) (hl : lvlOK n pots sums kings bones x) (h : lvq n (clF n fr) (clA n s (fun y b => aft (y * 7 + b))) P0 k0 b0 row pots sums kings bones x)
    (p3 : bones2 (x + 1) = aft (row x * 7 + bones x)) (p4 : (0 ≤ kings2 (x + 1) ∧ kings2 (x + 1) < n) ∧ plc n (kings x) (fr (kings x)) (kings2 (x + 1)) = bones2 (x + 1)) (p5 : ∀ i, 0 ≤ i → i < n → pots2 (x * 7 + 7 + aft (row x * 7 + i)) = pots (x * 7 + i)) (p6 : ∀ p, 0 ≤ p → p < n → sums2 (x * 7 + 7 + p) = sums (x * 7 + p) + pots2 (x * 7 + 7 + plc n (kings x) (fr (kings x)) p)) : lvq n (clF n fr) (clA n s (fun y b => aft (y * 7 + b))) P0 k0 b0 row pots2 sums2 kings2 bones2 (x + 1) := by
  obtain ⟨l1, l2, _, _⟩ := hl
  unfold lvq at h ⊢
  have ex : ((x.toNat : Nat) : Int) = x := by omega
  rw [show (x + 1).toNat = x.toNat + 1 from by omega]
  refine lvs_s (by omega) ?_ h ?_ ?_ ?_ ?_
  · rw [ex]; exact clA_perm r0 r1 (hr _ r0 r1)
  · rw [ex, clA_in r0 r1 l2.1 l2.2]; exact p3
  · rw [clF_in l1.1 l1.2]; exact p4
  · intro i a c
    rw [ex, clA_in r0 r1 a c, show (x + 1) * 7 + aft (row x * 7 + i) = x * 7 + 7 + aft (row x * 7 + i) from by omega]
    exact p5 i a c
  · intro p a c
    rw [clF_in l1.1 l1.2, show (x + 1) * 7 + p = x * 7 + 7 + p from by omega, show (x + 1) * 7 + plc n (kings x) (fr (kings x)) p = x * 7 + 7 + plc n (kings x) (fr (kings x)) p from by omega]
    exact p6 p a c
theorem lvq_keep {n k0 b0 x l : Int} {F : Int → Int} {A : Int → Int → Int} {P0 d pots sums kings bones pots2 sums2 kings2 bones2 : Int → Int} (h7 : n ≤ 7) (hx : l ≤ x) (h : lvq n F A P0 k0 b0 d pots sums kings bones l) (p7 : ∀ q, q < x * 7 + 7 → pots2 q = pots q ∧ sums2 q = sums q) (p8 : ∀ l, l ≤ x → kings2 l = kings l ∧ bones2 l = bones l) : lvq n F A P0 k0 b0 d pots2 sums2 kings2 bones2 l := by
  unfold lvq at h ⊢
  rw [(p8 l hx).1, (p8 l hx).2]
  exact lvs_po h (fun q a c => (p7 _ (by omega)).1) (fun q a c => (p7 _ (by omega)).2)
theorem lvq_d {n k0 b0 l : Int} {F : Int → Int} {A : Int → Int → Int} {P0 d e pots sums kings bones : Int → Int} (l0 : 0 ≤ l) (h : lvq n F A P0 k0 b0 d pots sums kings bones l) (hd : ∀ j, 0 ≤ j → j < l → e j = d j) : lvq n F A P0 k0 b0 e pots sums kings bones l :=
  lvs_d (fun j a b => (hd j a (by omega)).symm) h
theorem lvq_spi {n s k0 b0 D i : Int} {F : Int → Int} {A : Int → Int → Int} {P0 d pots sums kings bones : Int → Int} (hn : 1 ≤ n) (hs : 1 ≤ s) (D0 : 0 ≤ D) (hd : ∀ j, 0 ≤ j → j < D → 0 ≤ d j ∧ d j < s) (e : hv s d D.toNat = i) (h : lvq n F A P0 k0 b0 d pots sums kings bones D) : spr n (fun p => sums (D * 7 + p)) = spi n s F A P0 k0 b0 D i := by
  unfold spi
  rw [← fS_d (d := d) D.toNat (fun j a b => hv_row hs hd e a (by omega))]
  exact spr_ext hn h.2.2.2
/-- what nextRow does -/
def nxt (s D : Int) (row : Int → Int) (r : Int) (row2 : Int → Int) : Prop := (r = -4 ∧ ∀ j, 0 ≤ j → j < D → row j = s - 1) ∨ ((0 ≤ r ∧ r < D) ∧ row2 r = row r + 1 ∧ (∀ j, 0 ≤ j → j < r → row2 j = row j) ∧ (∀ j, r < j → j < D → row j = s - 1 ∧ row2 j = 0))
theorem nxt_hv {s D i r : Int} {row row2 : Int → Int} (D0 : 0 ≤ D) (e : hv s row D.toNat = i) (h : nxt s D row r row2) : (r = -4 ∧ i + 1 = s ^ D.toNat) ∨ (¬ r = -4 ∧ hv s row2 D.toNat = i + 1) := by
  rcases h with ⟨a, c⟩ | ⟨a, c, d, f⟩
  · left
    exact ⟨a, by rw [← e]; exact hv_full _ (fun j u v => c j u (by omega))⟩
  · right
    refine ⟨by omega, ?_⟩
    rw [← e]
    exact hv_inc (r := r.toNat) (by rw [Int.toNat_of_nonneg a.1]; exact c) (fun j u v => d j u (by omega)) _ (by omega) (fun j u v => f j (by omega) (by omega))
/-- where the odometer stands -/
def odo (s D c i : Int) (row : Int → Int) : Prop := (c = -4 ∧ i = s ^ D.toNat) ∨ (¬ c = -4 ∧ hv s row D.toNat = i)
theorem odo_end {SP : Int → Int} {s D c i l : Int} {row best : Int → Int} (hs : 1 ≤ s) (hp : 1 ≤ s ^ D.toNat ∧ s ^ D.toNat ≤ 625) (hd : ∀ j, 0 ≤ j → j < D → 0 ≤ row j ∧ row j < s) (D0 : 0 ≤ D) (ho : odo s D c i row) (hc : 625 ≤ i ∨ c = -4) (hb : bst SP s D i l best) : ∃ b, lst SP (s ^ D.toNat) b l ∧ ∀ j, 0 ≤ j → j < D → best j = dgt s D b j := by
  have e : i = s ^ D.toNat := by
    rcases ho with o | ⟨o1, o2⟩
    · exact o.2
    · have := (hv_rng (d := row) hs D.toNat (fun j a b => hd j a (by omega))).2
      omega
  rcases hb with ⟨a, _⟩ | h
  · omega
  · rw [← e]; exact h
set_option maxHeartbeats 1000000 in
theorem s_X0_whoRise (i_p0_kitchen_rules_seats : Int) (v_p0_kitchen_places : (Int → Int)) (v_p0_kitchen_stirred : (Int → Int)) (x1 : Int) (x2 : Int) (v_fr : Int → Int) (h1 : 2 ≤ i_p0_kitchen_rules_seats) (h2 : i_p0_kitchen_rules_seats ≤ 7) (h3 : servP i_p0_kitchen_rules_seats v_fr v_p0_kitchen_places) (h4 : ∀ q, 0 ≤ q → q < i_p0_kitchen_rules_seats → 0 ≤ v_p0_kitchen_stirred q ∧ v_p0_kitchen_stirred q ≤ 9) (h5 : 0 ≤ x1) (h6 : x1 < i_p0_kitchen_rules_seats) (h7 : 0 ≤ x2) (h8 : x2 < i_p0_kitchen_rules_seats) : wp (f_X0_whoRise i_p0_kitchen_rules_seats v_p0_kitchen_places v_p0_kitchen_stirred x1 x2) (fun o => (o = bitsOf (riseP i_p0_kitchen_rules_seats v_fr v_p0_kitchen_stirred x1 x2) i_p0_kitchen_rules_seats.toNat)) := by
  unfold f_X0_whoRise
  refine wp_bnd ?_
  refine wp_bnd ?_
  refine wp_lq2 (fun (z3 : Int) (z4 : Int) => (0 ≤ z3) ∧ (z3 ≤ i_p0_kitchen_rules_seats) ∧ (z4 = bitsOf (riseP i_p0_kitchen_rules_seats v_fr v_p0_kitchen_stirred x1 x2) z3.toNat)) (fun (z3 : Int) (z4 : Int) => (i_p0_kitchen_rules_seats - z3).toNat) (fun again5 z3 z4 hI ih_B_X0_whoRise_5 => ?_) 1000 _ _ ⟨(by omega) /- B_X0_whoRise_5.init1#1 -/, (by omega) /- B_X0_whoRise_5.init2#1 -/, (by rfl) /- B_X0_whoRise_5.init3#1 -/⟩ (by omega) /- B_X0_whoRise_5.fuel#1 -/
  obtain ⟨i_B_X0_whoRise_5_1, i_B_X0_whoRise_5_2, i_B_X0_whoRise_5_3⟩ := hI
  unfold B_X0_whoRise_5
  refine wp_ck (z_r32_i.mpr ⟨(by omega) /- z_r32.lo z3#1 -/, (by omega) /- z_r32.hi z3#1 -/⟩) ?_
  refine wp_ck (z_r32_i.mpr ⟨(by omega) /- z_r32.lo i_p0_kitchen_rules_seats#1 -/, (by omega) /- z_r32.hi i_p0_kitchen_rules_seats#1 -/⟩) ?_
  refine wp_if (fun c1 => ?_) (fun c1 => ?_)
  ·
    refine wp_some ?_
    try dsimp only
    all_goals exact (by rw [i_B_X0_whoRise_5_3]; congr 1; omega) /- post1#1 -/
  ·
    have hp1 := h3 x1 z3 h5 h6 i_B_X0_whoRise_5_1 (by omega)
    have hp2 := h3 x2 z3 h7 h8 i_B_X0_whoRise_5_1 (by omega)
    have hr1 := plc_rng (n := i_p0_kitchen_rules_seats) (k := x1) (f := v_fr x1) (p := z3) (by omega)
    have hr2 := plc_rng (n := i_p0_kitchen_rules_seats) (k := x2) (f := v_fr x2) (p := z3) (by omega)
    have hs1 := h4 _ hr1.1 hr1.2
    have hs2 := h4 _ hr2.1 hr2.2
    refine wp_bd1 (s_X2_bowlOf _ _ _ _ (by omega) /- pre X2_bowlOf.1#1 -/ (by omega) /- pre X2_bowlOf.2#1 -/ (by omega) /- pre X2_bowlOf.3#1 -/ (by omega) /- pre X2_bowlOf.4#1 -/ (by omega) /- pre X2_bowlOf.5#1 -/ (by omega) /- pre X2_bowlOf.6#1 -/) (fun z8 q_X2_bowlOf_1 => ?_)
    try dsimp only at q_X2_bowlOf_1
    rw [hp1] at q_X2_bowlOf_1
    refine wp_bd1 (s_X2_bowlOf _ _ _ _ (by omega) /- pre X2_bowlOf.1#2 -/ (by omega) /- pre X2_bowlOf.2#2 -/ (by omega) /- pre X2_bowlOf.3#2 -/ (by omega) /- pre X2_bowlOf.4#2 -/ (by omega) /- pre X2_bowlOf.5#2 -/ (by omega) /- pre X2_bowlOf.6#2 -/) (fun z9 q_X2_bowlOf_2 => ?_)
    try dsimp only at q_X2_bowlOf_2
    rw [hp2] at q_X2_bowlOf_2
    refine wp_ck (z_r32_i.mpr ⟨(by omega) /- z_r32.lo z8#1 -/, (by omega) /- z_r32.hi z8#1 -/⟩) ?_
    refine wp_ck (z_r32_i.mpr ⟨(by omega) /- z_r32.lo z9#1 -/, (by omega) /- z_r32.hi z9#1 -/⟩) ?_
    refine wp_if (fun c2 => ?_) (fun c2 => ?_)
    ·
      refine wp_bndE (fun z12 hz12 => ?_)
      exact ih_B_X0_whoRise_5 _ _ ⟨(by omega) /- B_X0_whoRise_5.inv1#1 -/, (by omega) /- B_X0_whoRise_5.inv2#1 -/, (by first | (rw [hz11, bits_fz i_B_X0_whoRise_5_1 (by show ¬ _ < _; omega)]; exact i_B_X0_whoRise_5_3) | (rw [hz12, bits_fz i_B_X0_whoRise_5_1 (by show ¬ _ < _; omega)]; exact i_B_X0_whoRise_5_3)| (rw [hz10, bits_fz i_B_X0_whoRise_5_1 (by show ¬ _ < _; omega)]; exact i_B_X0_whoRise_5_3)) /- B_X0_whoRise_5.inv3#1 -/⟩ (by omega) /- B_X0_whoRise_5.dec#1 -/
    ·
      refine wp_bndE (fun z13 hz13 => ?_)
      refine wp_bndE (fun z14 hz14 => ?_)
      exact ih_B_X0_whoRise_5 _ _ ⟨(by omega) /- B_X0_whoRise_5.inv1#2 -/, (by omega) /- B_X0_whoRise_5.inv2#2 -/, (by first | (rw [hz13, bits_tz i_B_X0_whoRise_5_1 (by show _ < _; omega), ← i_B_X0_whoRise_5_3]; omega) | (rw [hz14, bits_tz i_B_X0_whoRise_5_1 (by show _ < _; omega), ← i_B_X0_whoRise_5_3]; omega) | (rw [hz12, bits_tz i_B_X0_whoRise_5_1 (by show _ < _; omega), ← i_B_X0_whoRise_5_3]; omega)) /- B_X0_whoRise_5.inv3#2 -/⟩ (by omega) /- B_X0_whoRise_5.dec#2 -/

set_option maxHeartbeats 1000000 in
theorem s_X0_isEnough (i_p0_kitchen_rules_seats : Int) (v_p0_kitchen_state_spoons : (Int → Int)) (x1 : Int) (h1 : 2 ≤ i_p0_kitchen_rules_seats) (h2 : i_p0_kitchen_rules_seats ≤ 7) (h3 : ∀ j, 0 ≤ j → j < 7 → 1 ≤ v_p0_kitchen_state_spoons j ∧ v_p0_kitchen_state_spoons j ≤ 9) : wp (f_X0_isEnough i_p0_kitchen_rules_seats v_p0_kitchen_state_spoons x1) (fun o => ((o = 1 ∧ enoughP i_p0_kitchen_rules_seats v_p0_kitchen_state_spoons x1) ∨ (o = 0 ∧ ¬ enoughP i_p0_kitchen_rules_seats v_p0_kitchen_state_spoons x1))) := by
  unfold f_X0_isEnough
  refine wp_bnd ?_
  refine wp_bnd ?_
  refine wp_bnd ?_
  refine wp_jn ?_
  refine wp_lq3 (fun (z9 : Int) (z10 : Int) (z11 : Int) => (0 ≤ z9) ∧ (z9 ≤ i_p0_kitchen_rules_seats) ∧ (z10 = sumTo v_p0_kitchen_state_spoons z9.toNat) ∧ (z11 = sumTo (spS v_p0_kitchen_state_spoons x1) z9.toNat) ∧ (0 ≤ z10 ∧ z10 ≤ 9 * z9) ∧ (0 ≤ z11 ∧ z11 ≤ 9 * z9)) (fun (z9 : Int) (z10 : Int) (z11 : Int) => (i_p0_kitchen_rules_seats - z9).toNat) (fun again7 z9 z10 z11 hI ih_B_X0_isEnough_7 => ?_) 1000 _ _ _ ⟨(by omega) /- B_X0_isEnough_7.init1#1 -/, (by omega) /- B_X0_isEnough_7.init2#1 -/, (by rfl) /- B_X0_isEnough_7.init3#1 -/, (by rfl) /- B_X0_isEnough_7.init4#1 -/, (by omega) /- B_X0_isEnough_7.init5#1 -/, (by omega) /- B_X0_isEnough_7.init6#1 -/⟩ (by omega) /- B_X0_isEnough_7.fuel#1 -/
  obtain ⟨i_B_X0_isEnough_7_1, i_B_X0_isEnough_7_2, i_B_X0_isEnough_7_3, i_B_X0_isEnough_7_4, i_B_X0_isEnough_7_5, i_B_X0_isEnough_7_6⟩ := hI
  unfold B_X0_isEnough_7
  refine wp_ck (z_r32_i.mpr ⟨(by omega) /- z_r32.lo z9#1 -/, (by omega) /- z_r32.hi z9#1 -/⟩) ?_
  refine wp_ck (z_r32_i.mpr ⟨(by omega) /- z_r32.lo i_p0_kitchen_rules_seats#1 -/, (by omega) /- z_r32.hi i_p0_kitchen_rules_seats#1 -/⟩) ?_
  refine wp_if (fun c1 => ?_) (fun c1 => ?_)
  ·
    have e9 : z9.toNat = i_p0_kitchen_rules_seats.toNat := by omega
    rw [e9] at i_B_X0_isEnough_7_3 i_B_X0_isEnough_7_4
    refine wp_ck (z_r32_i.mpr ⟨(by omega) /- z_r32.lo (z4 * (2 : Int))#1 -/, (by omega) /- z_r32.hi (z4 * (2 : Int))#1 -/⟩) ?_
    refine wp_ck (z_r32_i.mpr ⟨(by omega) /- z_r32.lo z5#1 -/, (by omega) /- z_r32.hi z5#1 -/⟩) ?_
    refine wp_if (fun c2 => ?_) (fun c2 => ?_)
    ·
      refine wp_some ?_
      try dsimp only
      all_goals exact (by right; refine ⟨rfl, ?_⟩; unfold enoughP; omega) /- post1#1 -/
    ·
      refine wp_some ?_
      try dsimp only
      all_goals exact (by left; refine ⟨rfl, ?_⟩; unfold enoughP; omega) /- post1#2 -/
  ·
    have hsp := h3 z9 (by omega) (by omega)
    refine wp_ck (z_ix_i.mpr ⟨⟨(by omega) /- ix.lo z9#1 -/, (by omega) /- ix.hi z9#1 -/⟩, (by omega) /- ix.big z9#1 -/⟩) ?_
    refine wp_bndE (fun z15 hz15 => ?_)
    refine wp_ck (z_r32_t _) ?_
    refine wp_if (fun c3 => ?_) (fun c3 => ?_)
    ·
      refine wp_bndE (fun z17 hz17 => ?_)
      exact ih_B_X0_isEnough_7 _ _ _ ⟨(by omega) /- B_X0_isEnough_7.inv1#1 -/, (by omega) /- B_X0_isEnough_7.inv2#1 -/, (by first | (subst hz15 hz17; rw [sum_s i_B_X0_isEnough_7_1, ← i_B_X0_isEnough_7_3]) | (subst hz15 hz19; rw [sum_s i_B_X0_isEnough_7_1, ← i_B_X0_isEnough_7_3])) /- B_X0_isEnough_7.inv3#1 -/, (by subst hz17; rw [sum_s i_B_X0_isEnough_7_1, ← i_B_X0_isEnough_7_4]; show _ = _ + (if bt x1 z9 = 0 then 0 else _); rw [if_pos (by assumption)]; omega) /- B_X0_isEnough_7.inv4#1 -/, (by omega) /- B_X0_isEnough_7.inv5#1 -/, (by omega) /- B_X0_isEnough_7.inv6#1 -/⟩ (by omega) /- B_X0_isEnough_7.dec#1 -/
    ·
      refine wp_ck (z_ix_i.mpr ⟨⟨(by omega) /- ix.lo z9#2 -/, (by omega) /- ix.hi z9#2 -/⟩, (by omega) /- ix.big z9#2 -/⟩) ?_
      refine wp_bndE (fun z18 hz18 => ?_)
      refine wp_bndE (fun z19 hz19 => ?_)
      exact ih_B_X0_isEnough_7 _ _ _ ⟨(by omega) /- B_X0_isEnough_7.inv1#2 -/, (by omega) /- B_X0_isEnough_7.inv2#2 -/, (by first | (subst hz15 hz17; rw [sum_s i_B_X0_isEnough_7_1, ← i_B_X0_isEnough_7_3]) | (subst hz15 hz19; rw [sum_s i_B_X0_isEnough_7_1, ← i_B_X0_isEnough_7_3])) /- B_X0_isEnough_7.inv3#2 -/, (by subst hz18 hz19; rw [sum_s i_B_X0_isEnough_7_1, ← i_B_X0_isEnough_7_4]; show _ = _ + (if bt x1 z9 = 0 then 0 else _); rw [if_neg (by assumption)]) /- B_X0_isEnough_7.inv4#2 -/, (by omega) /- B_X0_isEnough_7.inv5#2 -/, (by omega) /- B_X0_isEnough_7.inv6#2 -/⟩ (by omega) /- B_X0_isEnough_7.dec#2 -/

set_option maxHeartbeats 1000000 in
theorem s_X0_canLead (i_p0_kitchen_rules_seats : Int) (v_p0_kitchen_state_spoons : (Int → Int)) (v_p0_kitchen_places : (Int → Int)) (v_p0_kitchen_stirred : (Int → Int)) (x1 : Int) (x2 : Int) (v_fr : Int → Int) (h1 : 2 ≤ i_p0_kitchen_rules_seats) (h2 : i_p0_kitchen_rules_seats ≤ 7) (h3 : servP i_p0_kitchen_rules_seats v_fr v_p0_kitchen_places) (h4 : ∀ q, 0 ≤ q → q < i_p0_kitchen_rules_seats → 0 ≤ v_p0_kitchen_stirred q ∧ v_p0_kitchen_stirred q ≤ 9) (h5 : ∀ j, 0 ≤ j → j < 7 → 1 ≤ v_p0_kitchen_state_spoons j ∧ v_p0_kitchen_state_spoons j ≤ 9) (h6 : 0 ≤ x1) (h7 : x1 < i_p0_kitchen_rules_seats) (h8 : 0 ≤ x2) (h9 : x2 < i_p0_kitchen_rules_seats) : wp (f_X0_canLead i_p0_kitchen_rules_seats v_p0_kitchen_state_spoons v_p0_kitchen_places v_p0_kitchen_stirred x1 x2) (fun o => ((o = 1 ∧ leadP i_p0_kitchen_rules_seats v_fr v_p0_kitchen_state_spoons v_p0_kitchen_stirred x1 x2) ∨ (o = 0 ∧ ¬ leadP i_p0_kitchen_rules_seats v_fr v_p0_kitchen_state_spoons v_p0_kitchen_stirred x1 x2))) := by
  unfold f_X0_canLead
  refine wp_bd1 (s_X0_whoRise _ _ _ _ _ v_fr (by omega) /- pre X0_whoRise.1#1 -/ (by omega) /- pre X0_whoRise.2#1 -/ (by exact h3) /- pre X0_whoRise.3#1 -/ (by exact h4) /- pre X0_whoRise.4#1 -/ (by omega) /- pre X0_whoRise.5#1 -/ (by omega) /- pre X0_whoRise.6#1 -/ (by omega) /- pre X0_whoRise.7#1 -/ (by omega) /- pre X0_whoRise.8#1 -/) (fun z1 q_X0_whoRise_1 => ?_)
  try dsimp only at q_X0_whoRise_1
  refine wp_bnd ?_
  refine wp_ck (z_r32_t _) ?_
  refine wp_if (fun c1 => ?_) (fun c1 => ?_)
  ·
    refine wp_some ?_
    try dsimp only
    all_goals exact (by right; refine ⟨rfl, fun h => ?_⟩; unfold leadP at h; rw [← q_X0_whoRise_1] at h; exact h.1 c1) /- post1#1 -/
  ·
    refine wp_bd1 (s_X0_isEnough _ _ _ (by omega) /- pre X0_isEnough.1#1 -/ (by omega) /- pre X0_isEnough.2#1 -/ (by exact h5) /- pre X0_isEnough.3#1 -/) (fun z4 q_X0_isEnough_1 => ?_)
    try dsimp only at q_X0_isEnough_1
    refine wp_ck (z_r32_i.mpr ⟨(by omega) /- z_r32.lo z4#1 -/, (by omega) /- z_r32.hi z4#1 -/⟩) ?_
    refine wp_if (fun c2 => ?_) (fun c2 => ?_)
    ·
      refine wp_some ?_
      try dsimp only
      all_goals exact (by right; refine ⟨rfl, fun h => ?_⟩; unfold leadP at h; rw [← q_X0_whoRise_1] at h; rcases q_X0_isEnough_1 with hq | hq; omega; exact hq.2 h.2) /- post1#2 -/
    ·
      refine wp_some ?_
      try dsimp only
      all_goals exact (by left; refine ⟨rfl, ?_⟩; unfold leadP; rw [← q_X0_whoRise_1]; rcases q_X0_isEnough_1 with hq | hq; exact ⟨c1, hq.2⟩; omega) /- post1#3 -/

set_option maxHeartbeats 1000000 in
theorem s_X0_leastLeader (i_p0_kitchen_rules_seats : Int) (v_p0_kitchen_state_spoons : (Int → Int)) (v_p0_kitchen_places : (Int → Int)) (v_p0_kitchen_stirred : (Int → Int)) (x1 : Int) (v_fr : Int → Int) (h1 : 2 ≤ i_p0_kitchen_rules_seats) (h2 : i_p0_kitchen_rules_seats ≤ 7) (h3 : servP i_p0_kitchen_rules_seats v_fr v_p0_kitchen_places) (h4 : ∀ q, 0 ≤ q → q < i_p0_kitchen_rules_seats → 0 ≤ v_p0_kitchen_stirred q ∧ v_p0_kitchen_stirred q ≤ 9) (h5 : ∀ j, 0 ≤ j → j < 7 → 1 ≤ v_p0_kitchen_state_spoons j ∧ v_p0_kitchen_state_spoons j ≤ 9) (h6 : 0 ≤ x1) (h7 : x1 < i_p0_kitchen_rules_seats) : wp (f_X0_leastLeader i_p0_kitchen_rules_seats v_p0_kitchen_state_spoons v_p0_kitchen_places v_p0_kitchen_stirred x1) (fun o => ((o = -4 ∧ ∀ c, 0 ≤ c → c < i_p0_kitchen_rules_seats → ¬ c = x1 → ¬ leadP i_p0_kitchen_rules_seats v_fr v_p0_kitchen_state_spoons v_p0_kitchen_stirred c x1) ∨ ((0 ≤ o ∧ o < i_p0_kitchen_rules_seats) ∧ ¬ o = x1 ∧ leadP i_p0_kitchen_rules_seats v_fr v_p0_kitchen_state_spoons v_p0_kitchen_stirred o x1 ∧ ∀ c, 0 ≤ c → c < o → ¬ c = x1 → ¬ leadP i_p0_kitchen_rules_seats v_fr v_p0_kitchen_state_spoons v_p0_kitchen_stirred c x1))) := by
  unfold f_X0_leastLeader
  refine wp_bnd ?_
  refine wp_lq1 (fun (z2 : Int) => (0 ≤ z2) ∧ (z2 ≤ i_p0_kitchen_rules_seats) ∧ (∀ c, 0 ≤ c → c < z2 → ¬ c = x1 → ¬ leadP i_p0_kitchen_rules_seats v_fr v_p0_kitchen_state_spoons v_p0_kitchen_stirred c x1)) (fun (z2 : Int) => (i_p0_kitchen_rules_seats - z2).toNat) (fun again2 z2 hI ih_B_X0_leastLeader_2 => ?_) 1000 _ ⟨(by omega) /- B_X0_leastLeader_2.init1#1 -/, (by omega) /- B_X0_leastLeader_2.init2#1 -/, (by intro c; omega) /- B_X0_leastLeader_2.init3#1 -/⟩ (by omega) /- B_X0_leastLeader_2.fuel#1 -/
  obtain ⟨i_B_X0_leastLeader_2_1, i_B_X0_leastLeader_2_2, i_B_X0_leastLeader_2_3⟩ := hI
  unfold B_X0_leastLeader_2
  refine wp_ck (z_r32_i.mpr ⟨(by omega) /- z_r32.lo z2#1 -/, (by omega) /- z_r32.hi z2#1 -/⟩) ?_
  refine wp_ck (z_r32_i.mpr ⟨(by omega) /- z_r32.lo i_p0_kitchen_rules_seats#1 -/, (by omega) /- z_r32.hi i_p0_kitchen_rules_seats#1 -/⟩) ?_
  refine wp_if (fun c1 => ?_) (fun c1 => ?_)
  ·
    refine wp_some ?_
    try dsimp only
    all_goals exact (by left; exact ⟨rfl, fun c a b d => i_B_X0_leastLeader_2_3 c a (by omega) d⟩) /- post1#1 -/
  ·
    refine wp_ck (z_r32_i.mpr ⟨(by omega) /- z_r32.lo x1#1 -/, (by omega) /- z_r32.hi x1#1 -/⟩) ?_
    refine wp_if (fun c2 => ?_) (fun c2 => ?_)
    ·
      refine wp_bndE (fun z7 hz7 => ?_)
      exact ih_B_X0_leastLeader_2 _ ⟨(by omega) /- B_X0_leastLeader_2.inv1#1 -/, (by omega) /- B_X0_leastLeader_2.inv2#1 -/, (by 
                                        intro c a b d
                                        by_cases e : c = z2
                                        · subst e
                                          first
                                          | exact absurd (by assumption) d
                                          | (rcases q_X0_canLead_1 with hq | hq
                                             · omega
                                             · exact hq.2)
                                        · exact i_B_X0_leastLeader_2_3 c a (by omega) d) /- B_X0_leastLeader_2.inv3#1 -/⟩ (by omega) /- B_X0_leastLeader_2.dec#1 -/
    ·
      refine wp_bd1 (s_X0_canLead _ _ _ _ _ _ v_fr (by omega) /- pre X0_canLead.1#1 -/ (by omega) /- pre X0_canLead.2#1 -/ (by exact h3) /- pre X0_canLead.3#1 -/ (by exact h4) /- pre X0_canLead.4#1 -/ (by exact h5) /- pre X0_canLead.5#1 -/ (by omega) /- pre X0_canLead.6#1 -/ (by omega) /- pre X0_canLead.7#1 -/ (by omega) /- pre X0_canLead.8#1 -/ (by omega) /- pre X0_canLead.9#1 -/) (fun z8 q_X0_canLead_1 => ?_)
      try dsimp only at q_X0_canLead_1
      have hz01 : 0 ≤ z8 ∧ z8 ≤ 1 := by rcases q_X0_canLead_1 with hq | hq <;> omega
      refine wp_ck (z_r32_i.mpr ⟨(by omega) /- z_r32.lo z8#1 -/, (by omega) /- z_r32.hi z8#1 -/⟩) ?_
      refine wp_if (fun c3 => ?_) (fun c3 => ?_)
      ·
        refine wp_bndE (fun z10 hz10 => ?_)
        exact ih_B_X0_leastLeader_2 _ ⟨(by omega) /- B_X0_leastLeader_2.inv1#2 -/, (by omega) /- B_X0_leastLeader_2.inv2#2 -/, (by 
                                        intro c a b d
                                        by_cases e : c = z2
                                        · subst e
                                          first
                                          | exact absurd (by assumption) d
                                          | (rcases q_X0_canLead_1 with hq | hq
                                             · omega
                                             · exact hq.2)
                                        · exact i_B_X0_leastLeader_2_3 c a (by omega) d) /- B_X0_leastLeader_2.inv3#2 -/⟩ (by omega) /- B_X0_leastLeader_2.dec#2 -/
      ·
        refine wp_some ?_
        try dsimp only
        all_goals exact (by right; rcases q_X0_canLead_1 with hq | hq; exact ⟨by omega, by assumption, hq.2, i_B_X0_leastLeader_2_3⟩; omega) /- post1#2 -/

set_option maxHeartbeats 1000000 in
theorem s_X0_leastBand (i_p0_kitchen_rules_seats : Int) (v_p0_kitchen_state_spoons : (Int → Int)) (v_p0_kitchen_places : (Int → Int)) (v_p0_kitchen_stirred : (Int → Int)) (x1 : Int) (x2 : Int) (v_fr : Int → Int) (h1 : 2 ≤ i_p0_kitchen_rules_seats) (h2 : i_p0_kitchen_rules_seats ≤ 7) (h3 : servP i_p0_kitchen_rules_seats v_fr v_p0_kitchen_places) (h4 : ∀ q, 0 ≤ q → q < i_p0_kitchen_rules_seats → 0 ≤ v_p0_kitchen_stirred q ∧ v_p0_kitchen_stirred q ≤ 9) (h5 : ∀ j, 0 ≤ j → j < 7 → 1 ≤ v_p0_kitchen_state_spoons j ∧ v_p0_kitchen_state_spoons j ≤ 9) (h6 : 0 ≤ x1) (h7 : x1 < i_p0_kitchen_rules_seats) (h8 : 0 ≤ x2) (h9 : x2 < i_p0_kitchen_rules_seats) (h10 : leadP i_p0_kitchen_rules_seats v_fr v_p0_kitchen_state_spoons v_p0_kitchen_stirred x2 x1) : wp (f_X0_leastBand i_p0_kitchen_rules_seats v_p0_kitchen_state_spoons v_p0_kitchen_places v_p0_kitchen_stirred x1 x2) (fun o => (0 ≤ o ∧ o < 128) ∧ (bandP i_p0_kitchen_rules_seats v_p0_kitchen_state_spoons (riseP i_p0_kitchen_rules_seats v_fr v_p0_kitchen_stirred x2 x1) x2 o ∧ ∀ t, 0 ≤ t → t < o → ¬ bandP i_p0_kitchen_rules_seats v_p0_kitchen_state_spoons (riseP i_p0_kitchen_rules_seats v_fr v_p0_kitchen_stirred x2 x1) x2 t)) := by
  unfold f_X0_leastBand
  refine wp_bd1 (s_X0_whoRise _ _ _ _ _ v_fr (by omega) /- pre X0_whoRise.1#1 -/ (by omega) /- pre X0_whoRise.2#1 -/ (by exact h3) /- pre X0_whoRise.3#1 -/ (by exact h4) /- pre X0_whoRise.4#1 -/ (by omega) /- pre X0_whoRise.5#1 -/ (by omega) /- pre X0_whoRise.6#1 -/ (by omega) /- pre X0_whoRise.7#1 -/ (by omega) /- pre X0_whoRise.8#1 -/) (fun z1 q_X0_whoRise_1 => ?_)
  try dsimp only at q_X0_whoRise_1
  have hbr := bits_rng (riseP i_p0_kitchen_rules_seats v_fr v_p0_kitchen_stirred x2 x1) i_p0_kitchen_rules_seats.toNat (by omega)
  rw [← q_X0_whoRise_1] at hbr
  refine wp_bnd ?_
  refine wp_bndE (fun z3 hz3 => ?_)
  refine wp_lq2 (fun (z4 : Int) (z5 : Int) => (-1 ≤ z4) ∧ (z4 < i_p0_kitchen_rules_seats) ∧ (0 ≤ z5 ∧ z5 < 128) ∧ (grd i_p0_kitchen_rules_seats v_p0_kitchen_state_spoons (riseP i_p0_kitchen_rules_seats v_fr v_p0_kitchen_stirred x2 x1) x2 (bitsOf (riseP i_p0_kitchen_rules_seats v_fr v_p0_kitchen_stirred x2 x1) i_p0_kitchen_rules_seats.toNat) z5 z4)) (fun (z4 : Int) (z5 : Int) => (z4 + 1).toNat) (fun again21 z4 z5 hI ih_B_X0_leastBand_21 => ?_) 1000 _ _ ⟨(by omega) /- B_X0_leastBand_21.init1#1 -/, (by omega) /- B_X0_leastBand_21.init2#1 -/, (by omega) /- B_X0_leastBand_21.init3#1 -/, (by exact grd_0 h1 h2 rfl (lead_b h2 h10) q_X0_whoRise_1 (by omega)) /- B_X0_leastBand_21.init4#1 -/⟩ (by omega) /- B_X0_leastBand_21.fuel#1 -/
  obtain ⟨i_B_X0_leastBand_21_1, i_B_X0_leastBand_21_2, i_B_X0_leastBand_21_3, i_B_X0_leastBand_21_4⟩ := hI
  unfold B_X0_leastBand_21
  refine wp_ck (z_r32_i.mpr ⟨(by omega) /- z_r32.lo z4#1 -/, (by omega) /- z_r32.hi z4#1 -/⟩) ?_
  refine wp_if (fun c1 => ?_) (fun c1 => ?_)
  ·
    refine wp_some ?_
    try dsimp only
    all_goals exact ⟨(by omega) /- post1#1 -/, (by exact grd_z i_B_X0_leastBand_21_4 i_B_X0_leastBand_21_3.1 i_B_X0_leastBand_21_3.2 (by omega)) /- post2#1 -/⟩
  ·
    have han := an7z (a := z5) (b := z4) i_B_X0_leastBand_21_3.1 i_B_X0_leastBand_21_3.2 (by omega) (by omega)
    refine wp_bndE (fun z8 hz8 => ?_)
    refine wp_ck (z_r32_i.mpr ⟨(by omega) /- z_r32.lo x2#1 -/, (by omega) /- z_r32.hi x2#1 -/⟩) ?_
    refine wp_if (fun c2 => ?_) (fun c2 => ?_)
    ·
      refine wp_bndE (fun z10 hz10 => ?_)
      exact ih_B_X0_leastBand_21 _ _ ⟨(by omega) /- B_X0_leastBand_21.inv1#1 -/, (by omega) /- B_X0_leastBand_21.inv2#1 -/, (by omega) /- B_X0_leastBand_21.inv3#1 -/, (by exact grd_b i_B_X0_leastBand_21_4 i_B_X0_leastBand_21_3.1 i_B_X0_leastBand_21_3.2 (by omega) (by omega) h2 (by omega) (by omega)) /- B_X0_leastBand_21.inv4#1 -/⟩ (by omega) /- B_X0_leastBand_21.dec#1 -/
    ·
      refine wp_bd1 (s_X0_isEnough _ _ _ (by omega) /- pre X0_isEnough.1#1 -/ (by omega) /- pre X0_isEnough.2#1 -/ (by exact h5) /- pre X0_isEnough.3#1 -/) (fun z11 q_X0_isEnough_1 => ?_)
      try dsimp only at q_X0_isEnough_1
      have hz01 : 0 ≤ z11 ∧ z11 ≤ 1 := by rcases q_X0_isEnough_1 with hq | hq <;> omega
      refine wp_ck (z_r32_i.mpr ⟨(by omega) /- z_r32.lo z11#1 -/, (by omega) /- z_r32.hi z11#1 -/⟩) ?_
      refine wp_if (fun c3 => ?_) (fun c3 => ?_)
      ·
        refine wp_bndE (fun z13 hz13 => ?_)
        exact ih_B_X0_leastBand_21 _ _ ⟨(by omega) /- B_X0_leastBand_21.inv1#2 -/, (by omega) /- B_X0_leastBand_21.inv2#2 -/, (by omega) /- B_X0_leastBand_21.inv3#2 -/, (by have he : ¬ enoughP i_p0_kitchen_rules_seats v_p0_kitchen_state_spoons z8 := (by rcases q_X0_isEnough_1 with hq | hq; omega; exact hq.2); rw [hz8] at he; exact grd_c i_B_X0_leastBand_21_4 i_B_X0_leastBand_21_3.1 i_B_X0_leastBand_21_3.2 (by omega) (by omega) h2 (fun j a b => by have := h5 j a (by omega); omega) rfl (by omega) he) /- B_X0_leastBand_21.inv4#2 -/⟩ (by omega) /- B_X0_leastBand_21.dec#2 -/
      ·
        refine wp_bnd ?_
        refine wp_bndE (fun z15 hz15 => ?_)
        exact ih_B_X0_leastBand_21 _ _ ⟨(by omega) /- B_X0_leastBand_21.inv1#3 -/, (by omega) /- B_X0_leastBand_21.inv2#3 -/, (by omega) /- B_X0_leastBand_21.inv3#3 -/, (by have he : enoughP i_p0_kitchen_rules_seats v_p0_kitchen_state_spoons z8 := (by rcases q_X0_isEnough_1 with hq | hq; exact hq.2; omega); exact grd_a i_B_X0_leastBand_21_4 i_B_X0_leastBand_21_3.1 i_B_X0_leastBand_21_3.2 (by omega) (by omega) h2 h8 h9 hz8 (by omega) (by omega) he) /- B_X0_leastBand_21.inv4#3 -/⟩ (by omega) /- B_X0_leastBand_21.dec#3 -/

set_option maxHeartbeats 1000000 in
theorem s_X1_begin (i_p0_kitchen_rules_seats : Int) (i_p0_kitchen_state_bone : Int) (i_p0_kitchen_state_king : Int) (v_p0_kitchen_state_pieces : (Int → Int)) (v_p0_kitchen_state_friends : (Int → Int)) (v_p0_kitchen_places : (Int → Int)) (v_p0_kitchen_holders : (Int → Int)) (v_p0_pots : (Int → Int)) (v_p0_sums : (Int → Int)) (v_p0_kings : (Int → Int)) (v_p0_bones : (Int → Int)) (v_p0_row : (Int → Int)) (x1 : Int) (h1 : 2 ≤ i_p0_kitchen_rules_seats) (h2 : i_p0_kitchen_rules_seats ≤ 7) (h3 : 0 ≤ i_p0_kitchen_state_bone) (h4 : i_p0_kitchen_state_bone < i_p0_kitchen_rules_seats) (h5 : 0 ≤ i_p0_kitchen_state_king) (h6 : i_p0_kitchen_state_king < i_p0_kitchen_rules_seats) (h7 : ∀ j, 0 ≤ j → j < 7 → 0 ≤ v_p0_kitchen_state_pieces j ∧ v_p0_kitchen_state_pieces j ≤ 9) : wp (f_X1_begin i_p0_kitchen_rules_seats i_p0_kitchen_state_bone i_p0_kitchen_state_king v_p0_kitchen_state_pieces v_p0_kitchen_state_friends v_p0_kitchen_places v_p0_kitchen_holders v_p0_pots v_p0_sums v_p0_kings v_p0_bones v_p0_row x1) (fun o => (o.1 = x1) ∧ (o.2.1 = -4) ∧ (servP i_p0_kitchen_rules_seats v_p0_kitchen_state_friends o.2.2.1) ∧ (servH i_p0_kitchen_rules_seats v_p0_kitchen_state_friends o.2.2.2.1) ∧ (lvlOK i_p0_kitchen_rules_seats o.2.2.2.2.1 o.2.2.2.2.2.1 o.2.2.2.2.2.2.1 o.2.2.2.2.2.2.2.1 0) ∧ (o.2.2.2.2.2.2.2.2 = z_fill v_p0_row 4 0) ∧ (∀ q, 0 ≤ q → q < i_p0_kitchen_rules_seats → o.2.2.2.2.1 q = v_p0_kitchen_state_pieces q) ∧ (∀ q, 0 ≤ q → q < i_p0_kitchen_rules_seats → o.2.2.2.2.2.1 q = 0) ∧ (o.2.2.2.2.2.2.1 0 = i_p0_kitchen_state_king ∧ o.2.2.2.2.2.2.2.1 0 = i_p0_kitchen_state_bone)) := by
  unfold f_X1_begin
  refine wp_bd2 (s_X2_serveAllKings _ _ _ _ (by first | rfl | omega) /- pre X2_serveAllKings.1#1 -/ (by first | rfl | omega) /- pre X2_serveAllKings.2#1 -/) (fun w1 w2 q_X2_serveAllKings_1 => ?_)
  try dsimp only at q_X2_serveAllKings_1
  obtain ⟨q_X2_serveAllKings_1_1, q_X2_serveAllKings_1_2⟩ := q_X2_serveAllKings_1
  refine wp_bnd ?_
  refine wp_bnd ?_
  refine wp_ck (z_cp_i.mpr ⟨⟨⟨(by omega) /- cp.0 (0 : Int)#1 -/, (by omega) /- cp.1 (0 : Int)#1 -/⟩, (by omega) /- cp.2 (0 : Int)#1 -/⟩, (by omega) /- cp.3 (0 : Int)#1 -/⟩) ?_
  refine wp_ck (z_cp_i.mpr ⟨⟨⟨(by omega) /- cp.0 (0 : Int)#2 -/, (by omega) /- cp.1 (0 : Int)#2 -/⟩, (by omega) /- cp.2 (0 : Int)#2 -/⟩, (by omega) /- cp.3 (0 : Int)#2 -/⟩) ?_
  refine wp_bnd ?_
  refine wp_bd1 (s_J7_fill_53178 _ _ _ (by decide) /- pre J7_fill_53178.1#1 -/) (fun w6 q_J7_fill_53178_1 => ?_)
  try dsimp only at q_J7_fill_53178_1
  refine wp_bd1 (s_J7_fill_53178 _ _ _ (by decide) /- pre J7_fill_53178.1#2 -/) (fun w7 q_J7_fill_53178_2 => ?_)
  try dsimp only at q_J7_fill_53178_2
  refine wp_ck (z_ix_i.mpr ⟨⟨(by omega) /- ix.lo (0 : Int)#1 -/, (by omega) /- ix.hi (0 : Int)#1 -/⟩, (by omega) /- ix.big (0 : Int)#1 -/⟩) ?_
  refine wp_bnd ?_
  refine wp_ck (z_ix_i.mpr ⟨⟨(by omega) /- ix.lo (0 : Int)#2 -/, (by omega) /- ix.hi (0 : Int)#2 -/⟩, (by omega) /- ix.big (0 : Int)#2 -/⟩) ?_
  refine wp_bnd ?_
  refine wp_some ?_
  try dsimp only
  all_goals exact ⟨(by first | rfl | omega) /- post1#1 -/, (by first | rfl | omega) /- post2#1 -/, (by exact q_X2_serveAllKings_1_1) /- post3#1 -/, (by exact q_X2_serveAllKings_1_2) /- post4#1 -/, (by 
                                        refine ⟨by rw [z_up_s]; omega, by rw [z_up_s]; omega, fun q a b => ?_, fun q a b => ?_⟩
                                        · rw [show (0 : Int) * 7 + q = q from by omega, z_cpy_in a b]; exact h7 q a (by omega)
                                        · rw [q_J7_fill_53178_1, show ((35 : Nat) : Int) = 35 from rfl, z_fill_in (by omega) (by omega)]; omega) /- post5#1 -/, (by rw [q_J7_fill_53178_2]; rfl) /- post6#1 -/, (by intro q a b; rw [z_cpy_in a b]) /- post7#1 -/, (by intro q a b; rw [q_J7_fill_53178_1, show ((35 : Nat) : Int) = 35 from rfl, z_fill_in (by omega) (by omega)]) /- post8#1 -/, (by exact ⟨by rw [z_up_s], by rw [z_up_s]⟩) /- post9#1 -/⟩

set_option maxHeartbeats 1000000 in
theorem s_X1_goOn (i_p0_kitchen_rules_seats : Int) (v_p0_kitchen_rules_after : (Int → Int)) (v_p0_kitchen_places : (Int → Int)) (v_p0_kitchen_holders : (Int → Int)) (v_p0_pots : (Int → Int)) (v_p0_sums : (Int → Int)) (v_p0_kings : (Int → Int)) (v_p0_bones : (Int → Int)) (v_p0_row : (Int → Int)) (x1 : Int) (v_fr : Int → Int) (st : Int) (h1 : 2 ≤ i_p0_kitchen_rules_seats) (h2 : i_p0_kitchen_rules_seats ≤ 7) (h3 : 0 ≤ st) (h4 : st ≤ 5) (h5 : rows i_p0_kitchen_rules_seats st v_p0_kitchen_rules_after) (h6 : servP i_p0_kitchen_rules_seats v_fr v_p0_kitchen_places) (h7 : servH i_p0_kitchen_rules_seats v_fr v_p0_kitchen_holders) (h8 : 0 ≤ x1) (h9 : x1 < 4) (h10 : 0 ≤ v_p0_row x1) (h11 : v_p0_row x1 < st) (h12 : lvlOK i_p0_kitchen_rules_seats v_p0_pots v_p0_sums v_p0_kings v_p0_bones x1) : wp (f_X1_goOn i_p0_kitchen_rules_seats v_p0_kitchen_rules_after v_p0_kitchen_places v_p0_kitchen_holders v_p0_pots v_p0_sums v_p0_kings v_p0_bones v_p0_row x1) (fun o => (lvlOK i_p0_kitchen_rules_seats o.1 o.2.1 o.2.2.1 o.2.2.2 (x1 + 1)) ∧ (∀ l, l ≤ x1 → lvlOK i_p0_kitchen_rules_seats v_p0_pots v_p0_sums v_p0_kings v_p0_bones l → lvlOK i_p0_kitchen_rules_seats o.1 o.2.1 o.2.2.1 o.2.2.2 l) ∧ (o.2.2.2 (x1 + 1) = v_p0_kitchen_rules_after (v_p0_row x1 * 7 + v_p0_bones x1)) ∧ ((0 ≤ o.2.2.1 (x1 + 1) ∧ o.2.2.1 (x1 + 1) < i_p0_kitchen_rules_seats) ∧ plc i_p0_kitchen_rules_seats (v_p0_kings x1) (v_fr (v_p0_kings x1)) (o.2.2.1 (x1 + 1)) = o.2.2.2 (x1 + 1)) ∧ (∀ i, 0 ≤ i → i < i_p0_kitchen_rules_seats → o.1 (x1 * 7 + 7 + v_p0_kitchen_rules_after (v_p0_row x1 * 7 + i)) = v_p0_pots (x1 * 7 + i)) ∧ (∀ p, 0 ≤ p → p < i_p0_kitchen_rules_seats → o.2.1 (x1 * 7 + 7 + p) = v_p0_sums (x1 * 7 + p) + o.1 (x1 * 7 + 7 + plc i_p0_kitchen_rules_seats (v_p0_kings x1) (v_fr (v_p0_kings x1)) p)) ∧ (∀ q, q < x1 * 7 + 7 → o.1 q = v_p0_pots q ∧ o.2.1 q = v_p0_sums q) ∧ (∀ l, l ≤ x1 → o.2.2.1 l = v_p0_kings l ∧ o.2.2.2 l = v_p0_bones l)) := by
  unfold f_X1_goOn
  obtain ⟨l1, l2, l3, l4⟩ := h12
  have hrow := h5 (v_p0_row x1) h10 h11
  refine wp_ck (z_ix_i.mpr ⟨⟨(by omega) /- ix.lo x1#1 -/, (by omega) /- ix.hi x1#1 -/⟩, (by omega) /- ix.big x1#1 -/⟩) ?_
  refine wp_bndE (fun z1 hz1 => ?_)
  refine wp_ck (z_ix_i.mpr ⟨⟨(by omega) /- ix.lo x1#2 -/, (by omega) /- ix.hi x1#2 -/⟩, (by omega) /- ix.big x1#2 -/⟩) ?_
  refine wp_bndE (fun z2 hz2 => ?_)
  refine wp_bndE (fun z3 hz3 => ?_)
  refine wp_bndE (fun z4 hz4 => ?_)
  refine wp_bnd ?_
  refine wp_jn ?_
  refine wp_lq2 (fun (z23 : Int) (w24 : (Int → Int)) => (0 ≤ z23) ∧ (z23 ≤ i_p0_kitchen_rules_seats) ∧ (∀ q, q < x1 * 7 + 7 → w24 q = v_p0_pots q) ∧ (∀ i, 0 ≤ i → i < z23 → w24 (x1 * 7 + 7 + v_p0_kitchen_rules_after (v_p0_row x1 * 7 + i)) = v_p0_pots (x1 * 7 + i))) (fun (z23 : Int) (w24 : (Int → Int)) => (i_p0_kitchen_rules_seats - z23).toNat) (fun again30 z23 w24 hI ih_B_X1_goOn_30 => ?_) 1000 _ _ ⟨(by omega) /- B_X1_goOn_30.init1#1 -/, (by omega) /- B_X1_goOn_30.init2#1 -/, (by intro q _; rfl) /- B_X1_goOn_30.init3#1 -/, (by intro i; omega) /- B_X1_goOn_30.init4#1 -/⟩ (by omega) /- B_X1_goOn_30.fuel#1 -/
  obtain ⟨i_B_X1_goOn_30_1, i_B_X1_goOn_30_2, i_B_X1_goOn_30_3, i_B_X1_goOn_30_4⟩ := hI
  unfold B_X1_goOn_30
  have hra := fun (h : z23 < i_p0_kitchen_rules_seats) => hrow.1 z23 i_B_X1_goOn_30_1 h
  dsimp only at hra
  refine wp_ck (z_r32_i.mpr ⟨(by omega) /- z_r32.lo z23#1 -/, (by omega) /- z_r32.hi z23#1 -/⟩) ?_
  refine wp_ck (z_r32_i.mpr ⟨(by omega) /- z_r32.lo i_p0_kitchen_rules_seats#1 -/, (by omega) /- z_r32.hi i_p0_kitchen_rules_seats#1 -/⟩) ?_
  refine wp_if (fun c1 => ?_) (fun c1 => ?_)
  ·
    refine wp_bnd ?_
    refine wp_jn ?_
    have hpo : ∀ q, 0 ≤ q → q < i_p0_kitchen_rules_seats → 0 ≤ w24 (x1 * 7 + 7 + q) ∧ w24 (x1 * 7 + 7 + q) ≤ 9 := by intro q a b; obtain ⟨i, hi, e⟩ := perm_sur hrow a b; rw [← e, i_B_X1_goOn_30_4 i hi.1 (by omega)]; exact l3 i hi.1 hi.2
    refine wp_lq2 (fun (z15 : Int) (w16 : (Int → Int)) => (0 ≤ z15) ∧ (z15 ≤ i_p0_kitchen_rules_seats) ∧ (∀ q, q < x1 * 7 + 7 → w16 q = v_p0_sums q) ∧ (∀ p, 0 ≤ p → p < z15 → 0 ≤ w16 (x1 * 7 + 7 + p) ∧ w16 (x1 * 7 + 7 + p) ≤ 9 * x1 + 9) ∧ (∀ p, 0 ≤ p → p < z15 → w16 (x1 * 7 + 7 + p) = v_p0_sums (x1 * 7 + p) + w24 (x1 * 7 + 7 + plc i_p0_kitchen_rules_seats (v_p0_kings x1) (v_fr (v_p0_kings x1)) p))) (fun (z15 : Int) (w16 : (Int → Int)) => (i_p0_kitchen_rules_seats - z15).toNat) (fun again85 z15 w16 hI ih_B_X1_goOn_85 => ?_) 1000 _ _ ⟨(by omega) /- B_X1_goOn_85.init1#1 -/, (by omega) /- B_X1_goOn_85.init2#1 -/, (by intro q _; rfl) /- B_X1_goOn_85.init3#1 -/, (by intro i; omega) /- B_X1_goOn_85.init4#1 -/, (by intro i; omega) /- B_X1_goOn_85.init5#1 -/⟩ (by omega) /- B_X1_goOn_85.fuel#1 -/
    obtain ⟨i_B_X1_goOn_85_1, i_B_X1_goOn_85_2, i_B_X1_goOn_85_3, i_B_X1_goOn_85_4, i_B_X1_goOn_85_5⟩ := hI
    unfold B_X1_goOn_85
    have hpl := fun (h : z15 < i_p0_kitchen_rules_seats) => place_use h6 (by omega) l1.1 l1.2 i_B_X1_goOn_85_1 h
    refine wp_ck (z_r32_i.mpr ⟨(by omega) /- z_r32.lo z15#1 -/, (by omega) /- z_r32.hi z15#1 -/⟩) ?_
    refine wp_ck (z_r32_i.mpr ⟨(by omega) /- z_r32.lo i_p0_kitchen_rules_seats#2 -/, (by omega) /- z_r32.hi i_p0_kitchen_rules_seats#2 -/⟩) ?_
    refine wp_if (fun c2 => ?_) (fun c2 => ?_)
    ·
      refine wp_ck (z_ix_i.mpr ⟨⟨(by omega) /- ix.lo x1#3 -/, (by omega) /- ix.hi x1#3 -/⟩, (by omega) /- ix.big x1#3 -/⟩) ?_
      refine wp_bd1 (s_X6_placeAfter _ _ _ (by omega) /- pre X6_placeAfter.1#1 -/ (by omega) /- pre X6_placeAfter.2#1 -/ (by omega) /- pre X6_placeAfter.3#1 -/ (by omega) /- pre X6_placeAfter.4#1 -/) (fun z11 q_X6_placeAfter_1 => ?_)
      try dsimp only at q_X6_placeAfter_1
      have hbn := hrow.1 (v_p0_bones x1) l2.1 l2.2
      dsimp only at hbn
      rw [← hz1, ← q_X6_placeAfter_1] at hbn
      refine wp_ck (z_ix_i.mpr ⟨⟨(by omega) /- ix.lo (x1 + (1 : Int))#1 -/, (by omega) /- ix.hi (x1 + (1 : Int))#1 -/⟩, (by omega) /- ix.big (x1 + (1 : Int))#1 -/⟩) ?_
      refine wp_bnd ?_
      refine wp_ck (z_ix_i.mpr ⟨⟨(by omega) /- ix.lo (x1 + (1 : Int))#2 -/, (by omega) /- ix.hi (x1 + (1 : Int))#2 -/⟩, (by omega) /- ix.big (x1 + (1 : Int))#2 -/⟩) ?_
      refine wp_bd1 (s_X2_holderOf _ _ _ (by omega) /- pre X2_holderOf.1#1 -/ (by omega) /- pre X2_holderOf.2#1 -/ (by rw [z_up_s]; omega) /- pre X2_holderOf.3#1 -/ (by rw [z_up_s]; omega) /- pre X2_holderOf.4#1 -/) (fun z13 q_X2_holderOf_1 => ?_)
      try dsimp only at q_X2_holderOf_1
      have hho := (hold_use h7 (by omega) l1.1 l1.2 (show 0 ≤ z_up v_p0_bones (x1 + 1) z11 (x1 + 1) by rw [z_up_s]; omega) (by rw [z_up_s]; omega)).1
      rw [← hz2, ← q_X2_holderOf_1] at hho
      refine wp_ck (z_ix_i.mpr ⟨⟨(by omega) /- ix.lo (x1 + (1 : Int))#3 -/, (by omega) /- ix.hi (x1 + (1 : Int))#3 -/⟩, (by omega) /- ix.big (x1 + (1 : Int))#3 -/⟩) ?_
      refine wp_bnd ?_
      refine wp_some ?_
      try dsimp only
      all_goals exact ⟨(by 
                                        refine ⟨by rw [z_up_s]; exact hho, by rw [z_up_s]; exact hbn, fun q a b => ?_, fun q a b => ?_⟩
                                        · rw [show (x1 + 1) * 7 + q = x1 * 7 + 7 + q from by omega]; exact hpo q a b
                                        · rw [show (x1 + 1) * 7 + q = x1 * 7 + 7 + q from by omega]; have := i_B_X1_goOn_85_4 q a (by omega); omega) /- post1#1 -/, (by 
                                        intro l hl hk
                                        obtain ⟨k1, k2, k3, k4⟩ := hk
                                        refine ⟨by rw [z_up_n _ _ (by omega)]; exact k1, by rw [z_up_n _ _ (by omega)]; exact k2, fun q a b => ?_, fun q a b => ?_⟩
                                        · rw [i_B_X1_goOn_30_3 _ (by omega)]; exact k3 q a b
                                        · rw [i_B_X1_goOn_85_3 _ (by omega)]; exact k4 q a b) /- post2#1 -/, (by rw [z_up_s, q_X6_placeAfter_1, hz1]) /- post3#1 -/, (by refine ⟨by rw [z_up_s]; exact hho, ?_⟩; rw [z_up_s v_p0_kings, q_X2_holderOf_1, hz2]; exact (hold_use h7 (by omega) l1.1 l1.2 (show 0 ≤ z_up v_p0_bones (x1 + 1) z11 (x1 + 1) by rw [z_up_s]; omega) (by rw [z_up_s]; omega)).2) /- post4#1 -/, (by exact fun i a b => i_B_X1_goOn_30_4 i a (by omega)) /- post5#1 -/, (by exact fun p a b => i_B_X1_goOn_85_5 p a (by omega)) /- post6#1 -/, (by exact fun q h => ⟨i_B_X1_goOn_30_3 q h, i_B_X1_goOn_85_3 q h⟩) /- post7#1 -/, (by exact fun l h => ⟨z_up_n _ _ (by omega), z_up_n _ _ (by omega)⟩) /- post8#1 -/⟩
    ·
      refine wp_ck (z_ix_i.mpr ⟨⟨(by omega) /- ix.lo (z3 + z15)#1 -/, (by omega) /- ix.hi (z3 + z15)#1 -/⟩, (by omega) /- ix.big (z3 + z15)#1 -/⟩) ?_
      refine wp_bd1 (s_X2_placeOf _ _ _ (by omega) /- pre X2_placeOf.1#1 -/ (by omega) /- pre X2_placeOf.2#1 -/ (by omega) /- pre X2_placeOf.3#1 -/ (by omega) /- pre X2_placeOf.4#1 -/) (fun z20 q_X2_placeOf_1 => ?_)
      try dsimp only at q_X2_placeOf_1
      have hpq : z20 = plc i_p0_kitchen_rules_seats (v_p0_kings x1) (v_fr (v_p0_kings x1)) z15 := by rw [q_X2_placeOf_1, hz2]; exact h6 _ _ l1.1 l1.2 i_B_X1_goOn_85_1 (by omega)
      have hpl2 := hpl (by omega)
      rw [← hz2, ← q_X2_placeOf_1] at hpl2
      have hpo2 := hpo z20 hpl2.1 hpl2.2
      have hsu := l4 z15 i_B_X1_goOn_85_1 (by omega)
      refine wp_ck (z_ix_i.mpr ⟨⟨(by omega) /- ix.lo (z4 + z20)#1 -/, (by omega) /- ix.hi (z4 + z20)#1 -/⟩, (by omega) /- ix.big (z4 + z20)#1 -/⟩) ?_
      refine wp_ck (z_ix_i.mpr ⟨⟨(by omega) /- ix.lo (z4 + z15)#1 -/, (by omega) /- ix.hi (z4 + z15)#1 -/⟩, (by omega) /- ix.big (z4 + z15)#1 -/⟩) ?_
      refine wp_bnd ?_
      refine wp_bndE (fun z22 hz22 => ?_)
      exact ih_B_X1_goOn_85 _ _ ⟨(by omega) /- B_X1_goOn_85.inv1#1 -/, (by omega) /- B_X1_goOn_85.inv2#1 -/, (by intro q hq; rw [z_up_n _ _ (by omega)]; exact i_B_X1_goOn_85_3 q hq) /- B_X1_goOn_85.inv3#1 -/, (by 
                                        intro p a b
                                        by_cases e : p = z15
                                        · subst e
                                          rw [show x1 * 7 + 7 + p = z4 + p from by omega, z_up_s, i_B_X1_goOn_85_3 (z3 + p) (by omega), show z4 + z20 = x1 * 7 + 7 + z20 from by omega, hz3]
                                          omega
                                        · rw [z_up_n _ _ (by omega)]; exact i_B_X1_goOn_85_4 p a (by omega)) /- B_X1_goOn_85.inv4#1 -/, (by 
                                        intro p a b
                                        by_cases e : p = z15
                                        · subst e
                                          rw [show x1 * 7 + 7 + p = z4 + p from by omega, z_up_s, i_B_X1_goOn_85_3 (z3 + p) (by omega), show z4 + z20 = x1 * 7 + 7 + z20 from by omega, hz3, hpq]
                                        · rw [z_up_n _ _ (by omega)]; exact i_B_X1_goOn_85_5 p a (by omega)) /- B_X1_goOn_85.inv5#1 -/⟩ (by omega) /- B_X1_goOn_85.dec#1 -/
  ·
    refine wp_bd1 (s_X6_placeAfter _ _ _ (by omega) /- pre X6_placeAfter.1#2 -/ (by omega) /- pre X6_placeAfter.2#2 -/ (by omega) /- pre X6_placeAfter.3#2 -/ (by omega) /- pre X6_placeAfter.4#2 -/) (fun z28 q_X6_placeAfter_2 => ?_)
    try dsimp only at q_X6_placeAfter_2
    have hra2 := hra (by omega)
    rw [← hz1, ← q_X6_placeAfter_2] at hra2
    refine wp_ck (z_ix_i.mpr ⟨⟨(by omega) /- ix.lo (z3 + z23)#1 -/, (by omega) /- ix.hi (z3 + z23)#1 -/⟩, (by omega) /- ix.big (z3 + z23)#1 -/⟩) ?_
    refine wp_ck (z_ix_i.mpr ⟨⟨(by omega) /- ix.lo (z4 + z28)#1 -/, (by omega) /- ix.hi (z4 + z28)#1 -/⟩, (by omega) /- ix.big (z4 + z28)#1 -/⟩) ?_
    refine wp_bnd ?_
    refine wp_bndE (fun z30 hz30 => ?_)
    exact ih_B_X1_goOn_30 _ _ ⟨(by omega) /- B_X1_goOn_30.inv1#1 -/, (by omega) /- B_X1_goOn_30.inv2#1 -/, (by intro q hq; rw [z_up_n _ _ (by omega)]; exact i_B_X1_goOn_30_3 q hq) /- B_X1_goOn_30.inv3#1 -/, (by 
                                        intro i a b
                                        by_cases e : i = z23
                                        · subst e
                                          rw [← hz1, ← q_X6_placeAfter_2, show x1 * 7 + 7 + z28 = z4 + z28 from by omega, z_up_s, i_B_X1_goOn_30_3 _ (by omega), hz3]
                                        · rw [z_up_n _ _ (fun h => e (hrow.2 i z23 a (by omega) (by omega) (by omega) (by dsimp only; rw [← hz1, ← q_X6_placeAfter_2]; rw [← hz1] at h; omega)))]
                                          exact i_B_X1_goOn_30_4 i a (by omega)) /- B_X1_goOn_30.inv4#1 -/⟩ (by omega) /- B_X1_goOn_30.dec#1 -/

set_option maxHeartbeats 1000000 in
theorem s_X1_weigh (i_p0_days : Int) (i_p0_least : Int) (i_p0_kitchen_rules_seats : Int) (v_p0_sums : (Int → Int)) (v_p0_row : (Int → Int)) (v_p0_bestRow : (Int → Int)) (h1 : 1 ≤ i_p0_days) (h2 : i_p0_days ≤ 4) (h3 : 2 ≤ i_p0_kitchen_rules_seats) (h4 : i_p0_kitchen_rules_seats ≤ 7) (h5 : -4 ≤ i_p0_least) (h6 : i_p0_least ≤ 1000) (h7 : ∀ q, 0 ≤ q → q < i_p0_kitchen_rules_seats → 0 ≤ v_p0_sums (i_p0_days * 7 + q) ∧ v_p0_sums (i_p0_days * 7 + q) ≤ 9 * i_p0_days) (h8 : ∀ j, 0 ≤ j → j < 4 → 0 ≤ v_p0_row j ∧ v_p0_row j < 5) (h9 : ∀ j, 0 ≤ j → j < 4 → 0 ≤ v_p0_bestRow j ∧ v_p0_bestRow j < 5) : wp (f_X1_weigh i_p0_days i_p0_least i_p0_kitchen_rules_seats v_p0_sums v_p0_row v_p0_bestRow) (fun o => (-4 ≤ o.1 ∧ o.1 ≤ 1000) ∧ (∀ j, 0 ≤ j → j < 4 → 0 ≤ o.2 j ∧ o.2 j < 5) ∧ (Hid (i_p0_least = -4 ∨ spr i_p0_kitchen_rules_seats (fun p => v_p0_sums (i_p0_days * 7 + p)) < i_p0_least → o.1 = spr i_p0_kitchen_rules_seats (fun p => v_p0_sums (i_p0_days * 7 + p)) ∧ ∀ j, 0 ≤ j → j < i_p0_days → o.2 j = v_p0_row j)) ∧ (Hid (¬ (i_p0_least = -4 ∨ spr i_p0_kitchen_rules_seats (fun p => v_p0_sums (i_p0_days * 7 + p)) < i_p0_least) → o.1 = i_p0_least ∧ o.2 = v_p0_bestRow))) := by
  unfold f_X1_weigh
  have hs0 := h7 0 (by omega) (by omega)
  rw [show i_p0_days * 7 + 0 = i_p0_days * 7 from by omega] at hs0
  refine wp_ck (z_ix_i.mpr ⟨⟨(by omega) /- ix.lo (i_p0_days * (7 : Int))#1 -/, (by omega) /- ix.hi (i_p0_days * (7 : Int))#1 -/⟩, (by omega) /- ix.big (i_p0_days * (7 : Int))#1 -/⟩) ?_
  refine wp_bndE (fun z1 hz1 => ?_)
  refine wp_bnd ?_
  refine wp_bnd ?_
  refine wp_jn ?_
  refine wp_lq3 (fun (z12 : Int) (z13 : Int) (z14 : Int) => (1 ≤ z12) ∧ (z12 ≤ i_p0_kitchen_rules_seats) ∧ (0 ≤ z13 ∧ z13 ≤ 36) ∧ (0 ≤ z14 ∧ z14 ≤ 36) ∧ (z13 ≤ z14) ∧ (Hid (z14 = mxU (fun p => v_p0_sums (i_p0_days * 7 + p)) (z12 - 1).toNat)) ∧ (Hid (z13 = mnU (fun p => v_p0_sums (i_p0_days * 7 + p)) (z12 - 1).toNat))) (fun (z12 : Int) (z13 : Int) (z14 : Int) => (i_p0_kitchen_rules_seats - z12).toNat) (fun again17 z12 z13 z14 hI ih_B_X1_weigh_17 => ?_) 1000 _ _ _ ⟨(by omega) /- B_X1_weigh_17.init1#1 -/, (by omega) /- B_X1_weigh_17.init2#1 -/, (by omega) /- B_X1_weigh_17.init3#1 -/, (by omega) /- B_X1_weigh_17.init4#1 -/, (by omega) /- B_X1_weigh_17.init5#1 -/, (by unfold Hid; rw [show ((1 : Int) - 1).toNat = 0 from rfl, hz1]; show _ = v_p0_sums (i_p0_days * 7 + 0); rw [Int.add_zero]) /- B_X1_weigh_17.init6#1 -/, (by unfold Hid; rw [show ((1 : Int) - 1).toNat = 0 from rfl, hz1]; show _ = v_p0_sums (i_p0_days * 7 + 0); rw [Int.add_zero]) /- B_X1_weigh_17.init7#1 -/⟩ (by omega) /- B_X1_weigh_17.fuel#1 -/
  obtain ⟨i_B_X1_weigh_17_1, i_B_X1_weigh_17_2, i_B_X1_weigh_17_3, i_B_X1_weigh_17_4, i_B_X1_weigh_17_5, i_B_X1_weigh_17_6, i_B_X1_weigh_17_7⟩ := hI
  unfold B_X1_weigh_17
  have hsq := fun (h : z12 < i_p0_kitchen_rules_seats) => h7 z12 (by omega) h
  refine wp_ck (z_r32_i.mpr ⟨(by omega) /- z_r32.lo z12#1 -/, (by omega) /- z_r32.hi z12#1 -/⟩) ?_
  refine wp_ck (z_r32_i.mpr ⟨(by omega) /- z_r32.lo i_p0_kitchen_rules_seats#1 -/, (by omega) /- z_r32.hi i_p0_kitchen_rules_seats#1 -/⟩) ?_
  refine wp_if (fun c1 => ?_) (fun c1 => ?_)
  ·
    have hsp : Hid (z14 - z13 = spr i_p0_kitchen_rules_seats (fun p => v_p0_sums (i_p0_days * 7 + p))) := hd_ (by unfold spr; rw [hid i_B_X1_weigh_17_6, hid i_B_X1_weigh_17_7, show i_p0_kitchen_rules_seats = z12 from by omega])
    refine wp_ck (z_r32_i.mpr ⟨(by omega) /- z_r32.lo i_p0_least#1 -/, (by omega) /- z_r32.hi i_p0_least#1 -/⟩) ?_
    refine wp_jn ?_
    refine wp_if (fun c2 => ?_) (fun c2 => ?_)
    ·
      refine wp_bndE (fun z9 hz9 => ?_)
      refine wp_ck (z_cp_i.mpr ⟨⟨⟨(by omega) /- cp.0 (0 : Int)#1 -/, (by omega) /- cp.1 (0 : Int)#1 -/⟩, (by omega) /- cp.2 (0 : Int)#1 -/⟩, (by omega) /- cp.3 (0 : Int)#1 -/⟩) ?_
      refine wp_ck (z_cp_i.mpr ⟨⟨⟨(by omega) /- cp.0 (0 : Int)#2 -/, (by omega) /- cp.1 (0 : Int)#2 -/⟩, (by omega) /- cp.2 (0 : Int)#2 -/⟩, (by omega) /- cp.3 (0 : Int)#2 -/⟩) ?_
      refine wp_bnd ?_
      refine wp_some ?_
      try dsimp only
      all_goals exact ⟨(by omega) /- post1#1 -/, (by first | exact h9 | (intro j a b; rw [z_cpy_a]; split; rw [show (0 : Int) + (j - 0) = j from by omega]; exact h8 j a b; exact h9 j a b)) /- post2#1 -/, (by unfold Hid; intro _; refine ⟨by rw [hz9]; exact hid hsp, fun j a b => ?_⟩; rw [z_cpy_a, if_pos (by omega)]; congr 1; omega) /- post3#1 -/, (by unfold Hid; intro h; exact absurd (Or.inl (by assumption)) h) /- post4#1 -/⟩
    ·
      refine wp_ck (z_r32_i.mpr ⟨(by omega) /- z_r32.lo (z4 - z5)#1 -/, (by omega) /- z_r32.hi (z4 - z5)#1 -/⟩) ?_
      refine wp_if (fun c3 => ?_) (fun c3 => ?_)
      ·
        refine wp_some ?_
        try dsimp only
        all_goals exact ⟨(by omega) /- post1#2 -/, (by first | exact h9 | (intro j a b; rw [z_cpy_a]; split; rw [show (0 : Int) + (j - 0) = j from by omega]; exact h8 j a b; exact h9 j a b)) /- post2#2 -/, (by unfold Hid; intro h; exfalso; rw [← hid hsp] at h; omega) /- post3#2 -/, (by unfold Hid; intro _; exact ⟨rfl, rfl⟩) /- post4#2 -/⟩
      ·
        refine wp_bndE (fun z9 hz9 => ?_)
        refine wp_ck (z_cp_i.mpr ⟨⟨⟨(by omega) /- cp.0 (0 : Int)#3 -/, (by omega) /- cp.1 (0 : Int)#3 -/⟩, (by omega) /- cp.2 (0 : Int)#3 -/⟩, (by omega) /- cp.3 (0 : Int)#3 -/⟩) ?_
        refine wp_ck (z_cp_i.mpr ⟨⟨⟨(by omega) /- cp.0 (0 : Int)#4 -/, (by omega) /- cp.1 (0 : Int)#4 -/⟩, (by omega) /- cp.2 (0 : Int)#4 -/⟩, (by omega) /- cp.3 (0 : Int)#4 -/⟩) ?_
        refine wp_bnd ?_
        refine wp_some ?_
        try dsimp only
        all_goals exact ⟨(by omega) /- post1#3 -/, (by first | exact h9 | (intro j a b; rw [z_cpy_a]; split; rw [show (0 : Int) + (j - 0) = j from by omega]; exact h8 j a b; exact h9 j a b)) /- post2#3 -/, (by unfold Hid; intro _; refine ⟨by rw [hz9]; exact hid hsp, fun j a b => ?_⟩; rw [z_cpy_a, if_pos (by omega)]; congr 1; omega) /- post3#3 -/, (by unfold Hid; intro h; exfalso; rw [← hid hsp] at h; omega) /- post4#3 -/⟩
  ·
    have hsq2 := hsq (by omega)
    refine wp_ck (z_ix_i.mpr ⟨⟨(by omega) /- ix.lo ((i_p0_days * (7 : Int)) + z12)#1 -/, (by omega) /- ix.hi ((i_p0_days * (7 : Int)) + z12)#1 -/⟩, (by omega) /- ix.big ((i_p0_days * (7 : Int)) + z12)#1 -/⟩) ?_
    refine wp_ck (z_r32_i.mpr ⟨(by omega) /- z_r32.lo z14#1 -/, (by omega) /- z_r32.hi z14#1 -/⟩) ?_
    refine wp_ck (z_r32_i.mpr ⟨(by omega) /- z_r32.lo (v_p0_sums ((i_p0_days * (7 : Int)) + z12))#1 -/, (by omega) /- z_r32.hi (v_p0_sums ((i_p0_days * (7 : Int)) + z12))#1 -/⟩) ?_
    refine wp_bndE (fun z20 hz20 => ?_)
    refine wp_ck (z_ix_i.mpr ⟨⟨(by omega) /- ix.lo ((i_p0_days * (7 : Int)) + z12)#2 -/, (by omega) /- ix.hi ((i_p0_days * (7 : Int)) + z12)#2 -/⟩, (by omega) /- ix.big ((i_p0_days * (7 : Int)) + z12)#2 -/⟩) ?_
    refine wp_ck (z_r32_i.mpr ⟨(by omega) /- z_r32.lo z13#1 -/, (by omega) /- z_r32.hi z13#1 -/⟩) ?_
    refine wp_bndE (fun z22 hz22 => ?_)
    refine wp_bndE (fun z23 hz23 => ?_)
    exact ih_B_X1_weigh_17 _ _ _ ⟨(by omega) /- B_X1_weigh_17.inv1#1 -/, (by omega) /- B_X1_weigh_17.inv2#1 -/, (by omega) /- B_X1_weigh_17.inv3#1 -/, (by omega) /- B_X1_weigh_17.inv4#1 -/, (by omega) /- B_X1_weigh_17.inv5#1 -/, (by unfold Hid; rw [hz20, hz23, mxU_s i_B_X1_weigh_17_1, ← hid i_B_X1_weigh_17_6]) /- B_X1_weigh_17.inv6#1 -/, (by unfold Hid; rw [hz22, hz23, mnU_s i_B_X1_weigh_17_1, ← hid i_B_X1_weigh_17_7]) /- B_X1_weigh_17.inv7#1 -/⟩ (by omega) /- B_X1_weigh_17.dec#1 -/

set_option maxHeartbeats 1000000 in
theorem s_X1_nextRow (i_p0_days : Int) (i_p0_kitchen_rules_stirs : Int) (v_p0_row : (Int → Int)) (h1 : 1 ≤ i_p0_days) (h2 : i_p0_days ≤ 4) (h3 : 1 ≤ i_p0_kitchen_rules_stirs) (h4 : i_p0_kitchen_rules_stirs ≤ 5) (h5 : ∀ j, 0 ≤ j → j < 4 → 0 ≤ v_p0_row j ∧ v_p0_row j < i_p0_kitchen_rules_stirs) : wp (f_X1_nextRow i_p0_days i_p0_kitchen_rules_stirs v_p0_row) (fun o => (o.1 = -4 ∨ (0 ≤ o.1 ∧ o.1 < i_p0_days)) ∧ (∀ j, 0 ≤ j → j < 4 → 0 ≤ o.2 j ∧ o.2 j < i_p0_kitchen_rules_stirs) ∧ (nxt i_p0_kitchen_rules_stirs i_p0_days v_p0_row o.1 o.2)) := by
  unfold f_X1_nextRow
  refine wp_bndE (fun z1 hz1 => ?_)
  refine wp_jn ?_
  refine wp_lq2 (fun (z6 : Int) (w7 : (Int → Int)) => (-1 ≤ z6) ∧ (z6 < i_p0_days) ∧ (∀ j, 0 ≤ j → j < 4 → 0 ≤ w7 j ∧ w7 j < i_p0_kitchen_rules_stirs) ∧ (∀ j, 0 ≤ j → j ≤ z6 → w7 j = v_p0_row j) ∧ (∀ j, z6 < j → j < i_p0_days → v_p0_row j = i_p0_kitchen_rules_stirs - 1 ∧ w7 j = 0)) (fun (z6 : Int) (w7 : (Int → Int)) => (z6 + 1).toNat) (fun again7 z6 w7 hI ih_B_X1_nextRow_7 => ?_) 1000 _ _ ⟨(by omega) /- B_X1_nextRow_7.init1#1 -/, (by omega) /- B_X1_nextRow_7.init2#1 -/, (by exact h5) /- B_X1_nextRow_7.init3#1 -/, (by intro j _ _; rfl) /- B_X1_nextRow_7.init4#1 -/, (by intro j; omega) /- B_X1_nextRow_7.init5#1 -/⟩ (by omega) /- B_X1_nextRow_7.fuel#1 -/
  obtain ⟨i_B_X1_nextRow_7_1, i_B_X1_nextRow_7_2, i_B_X1_nextRow_7_3, i_B_X1_nextRow_7_4, i_B_X1_nextRow_7_5⟩ := hI
  unfold B_X1_nextRow_7
  refine wp_ck (z_r32_i.mpr ⟨(by omega) /- z_r32.lo z6#1 -/, (by omega) /- z_r32.hi z6#1 -/⟩) ?_
  refine wp_if (fun c1 => ?_) (fun c1 => ?_)
  ·
    refine wp_some ?_
    try dsimp only
    all_goals exact ⟨(by omega) /- post1#1 -/, (by first | exact i_B_X1_nextRow_7_3 | (intro j a b; rw [z_up_a]; split; omega; exact i_B_X1_nextRow_7_3 j a b)) /- post2#1 -/, (by left; exact ⟨rfl, fun j a b => (i_B_X1_nextRow_7_5 j (by omega) b).1⟩) /- post3#1 -/⟩
  ·
    have hw := i_B_X1_nextRow_7_3 z6 (by omega) (by omega)
    refine wp_ck (z_ix_i.mpr ⟨⟨(by omega) /- ix.lo z6#1 -/, (by omega) /- ix.hi z6#1 -/⟩, (by omega) /- ix.big z6#1 -/⟩) ?_
    refine wp_ck (z_r32_i.mpr ⟨(by omega) /- z_r32.lo ((w7 z6) + (1 : Int))#1 -/, (by omega) /- z_r32.hi ((w7 z6) + (1 : Int))#1 -/⟩) ?_
    refine wp_ck (z_r32_i.mpr ⟨(by omega) /- z_r32.lo i_p0_kitchen_rules_stirs#1 -/, (by omega) /- z_r32.hi i_p0_kitchen_rules_stirs#1 -/⟩) ?_
    refine wp_if (fun c2 => ?_) (fun c2 => ?_)
    ·
      refine wp_ck (z_ix_i.mpr ⟨⟨(by omega) /- ix.lo z6#2 -/, (by omega) /- ix.hi z6#2 -/⟩, (by omega) /- ix.big z6#2 -/⟩) ?_
      refine wp_bnd ?_
      refine wp_bndE (fun z13 hz13 => ?_)
      exact ih_B_X1_nextRow_7 _ _ ⟨(by omega) /- B_X1_nextRow_7.inv1#1 -/, (by omega) /- B_X1_nextRow_7.inv2#1 -/, (by intro j a b; rw [z_up_a]; split; omega; exact i_B_X1_nextRow_7_3 j a b) /- B_X1_nextRow_7.inv3#1 -/, (by intro j a b; rw [z_up_n _ _ (by omega)]; exact i_B_X1_nextRow_7_4 j a (by omega)) /- B_X1_nextRow_7.inv4#1 -/, (by intro j a b; by_cases e : j = z6; (have w := i_B_X1_nextRow_7_4 z6 (by omega) (by omega); rw [e, z_up_s]; exact ⟨by omega, rfl⟩); (rw [z_up_n _ _ e]; exact i_B_X1_nextRow_7_5 j (by omega) b)) /- B_X1_nextRow_7.inv5#1 -/⟩ (by omega) /- B_X1_nextRow_7.dec#1 -/
    ·
      refine wp_ck (z_ix_i.mpr ⟨⟨(by omega) /- ix.lo z2#1 -/, (by omega) /- ix.hi z2#1 -/⟩, (by omega) /- ix.big z2#1 -/⟩) ?_
      refine wp_ck (z_ix_i.mpr ⟨⟨(by omega) /- ix.lo z2#2 -/, (by omega) /- ix.hi z2#2 -/⟩, (by omega) /- ix.big z2#2 -/⟩) ?_
      refine wp_bnd ?_
      refine wp_some ?_
      try dsimp only
      all_goals exact ⟨(by omega) /- post1#2 -/, (by first | exact i_B_X1_nextRow_7_3 | (intro j a b; rw [z_up_a]; split; omega; exact i_B_X1_nextRow_7_3 j a b)) /- post2#2 -/, (by right; refine ⟨⟨by omega, by omega⟩, ?_, fun j a b => ?_, fun j a b => ?_⟩; (rw [z_up_s, i_B_X1_nextRow_7_4 z6 (by omega) (by omega)]); (rw [z_up_n _ _ (by omega)]; exact i_B_X1_nextRow_7_4 j a (by omega)); (rw [z_up_n _ _ (by omega)]; exact i_B_X1_nextRow_7_5 j a b)) /- post3#2 -/⟩

set_option maxHeartbeats 1000000 in
theorem s_X1_leastSpread (i_p0_kitchen_rules_seats : Int) (i_p0_kitchen_rules_stirs : Int) (v_p0_kitchen_rules_after : (Int → Int)) (i_p0_kitchen_state_bone : Int) (i_p0_kitchen_state_king : Int) (v_p0_kitchen_state_pieces : (Int → Int)) (v_p0_kitchen_state_friends : (Int → Int)) (v_p0_kitchen_places : (Int → Int)) (v_p0_kitchen_holders : (Int → Int)) (v_p0_pots : (Int → Int)) (v_p0_sums : (Int → Int)) (v_p0_kings : (Int → Int)) (v_p0_bones : (Int → Int)) (v_p0_row : (Int → Int)) (v_p0_bestRow : (Int → Int)) (x1 : Int) (h1 : 2 ≤ i_p0_kitchen_rules_seats) (h2 : i_p0_kitchen_rules_seats ≤ 7) (h3 : 1 ≤ i_p0_kitchen_rules_stirs) (h4 : i_p0_kitchen_rules_stirs ≤ 5) (h5 : rows i_p0_kitchen_rules_seats i_p0_kitchen_rules_stirs v_p0_kitchen_rules_after) (h6 : 0 ≤ i_p0_kitchen_state_bone) (h7 : i_p0_kitchen_state_bone < i_p0_kitchen_rules_seats) (h8 : 0 ≤ i_p0_kitchen_state_king) (h9 : i_p0_kitchen_state_king < i_p0_kitchen_rules_seats) (h10 : ∀ j, 0 ≤ j → j < 7 → 0 ≤ v_p0_kitchen_state_pieces j ∧ v_p0_kitchen_state_pieces j ≤ 9) (h11 : 1 ≤ x1) (h12 : x1 ≤ 4) (h13 : ∀ j, 0 ≤ j → j < 4 → 0 ≤ v_p0_bestRow j ∧ v_p0_bestRow j < 5) : wp (f_X1_leastSpread i_p0_kitchen_rules_seats i_p0_kitchen_rules_stirs v_p0_kitchen_rules_after i_p0_kitchen_state_bone i_p0_kitchen_state_king v_p0_kitchen_state_pieces v_p0_kitchen_state_friends v_p0_kitchen_places v_p0_kitchen_holders v_p0_pots v_p0_sums v_p0_kings v_p0_bones v_p0_row v_p0_bestRow x1) (fun o => (-4 ≤ o.1 ∧ o.1 ≤ 1000) ∧ (∀ j, 0 ≤ j → j < 4 → 0 ≤ o.2.2.2.2.2.2.2.2.2.2 j ∧ o.2.2.2.2.2.2.2.2.2.2 j < 5) ∧ (Hid (∃ b, lst (spi i_p0_kitchen_rules_seats i_p0_kitchen_rules_stirs (clF i_p0_kitchen_rules_seats v_p0_kitchen_state_friends) (clA i_p0_kitchen_rules_seats i_p0_kitchen_rules_stirs (fun y b => v_p0_kitchen_rules_after (y * 7 + b))) (clF i_p0_kitchen_rules_seats v_p0_kitchen_state_pieces) i_p0_kitchen_state_king i_p0_kitchen_state_bone x1) (i_p0_kitchen_rules_stirs ^ x1.toNat) b o.1 ∧ ∀ j, 0 ≤ j → j < x1 → o.2.2.2.2.2.2.2.2.2.2 j = dgt i_p0_kitchen_rules_stirs x1 b j))) := by
  unfold f_X1_leastSpread
  refine wp_ck (z_r32_i.mpr ⟨(by omega) /- z_r32.lo x1#1 -/, (by omega) /- z_r32.hi x1#1 -/⟩) ?_
  refine wp_bd9 (s_X1_begin _ _ _ _ _ _ _ _ _ _ _ _ _ (by omega) /- pre X1_begin.1#1 -/ (by omega) /- pre X1_begin.2#1 -/ (by omega) /- pre X1_begin.3#1 -/ (by omega) /- pre X1_begin.4#1 -/ (by omega) /- pre X1_begin.5#1 -/ (by omega) /- pre X1_begin.6#1 -/ (by omega) /- pre X1_begin.7#1 -/) (fun z2 z3 w4 w5 w6 w7 w8 w9 w10 q_X1_begin_1 => ?_)
  try dsimp only at q_X1_begin_1
  obtain ⟨q_X1_begin_1_1, q_X1_begin_1_2, q_X1_begin_1_3, q_X1_begin_1_4, q_X1_begin_1_5, q_X1_begin_1_6, q_X1_begin_1_7, q_X1_begin_1_8, q_X1_begin_1_9⟩ := q_X1_begin_1
  have hz2 : 1 ≤ z2 ∧ z2 ≤ 4 := by omega
  have hzx : z2 = x1 := by omega
  have hp54 := hd_ (pow54 (b := i_p0_kitchen_rules_stirs) (e := z2) h3 h4 (by omega) (by omega))
  refine wp_bnd ?_
  refine wp_bnd ?_
  refine wp_lq9 (fun (z13 : Int) (z14 : Int) (z15 : Int) (w16 : (Int → Int)) (w17 : (Int → Int)) (w18 : (Int → Int)) (w19 : (Int → Int)) (w20 : (Int → Int)) (w21 : (Int → Int)) => (0 ≤ z13) ∧ (z13 ≤ 625) ∧ (z14 = -4 ∨ (0 ≤ z14 ∧ z14 < z2)) ∧ (-4 ≤ z15 ∧ z15 ≤ 1000) ∧ (¬ z14 = -4 → ∀ l, 0 ≤ l → l ≤ z14 → lvlOK i_p0_kitchen_rules_seats w16 w17 w18 w19 l) ∧ (∀ j, 0 ≤ j → j < 4 → 0 ≤ w20 j ∧ w20 j < i_p0_kitchen_rules_stirs) ∧ (∀ j, 0 ≤ j → j < 4 → 0 ≤ w21 j ∧ w21 j < 5) ∧ (odo i_p0_kitchen_rules_stirs z2 z14 z13 w20) ∧ (Hid (¬ z14 = -4 → ∀ l, 0 ≤ l → l ≤ z14 → lvq i_p0_kitchen_rules_seats (clF i_p0_kitchen_rules_seats v_p0_kitchen_state_friends) (clA i_p0_kitchen_rules_seats i_p0_kitchen_rules_stirs (fun y b => v_p0_kitchen_rules_after (y * 7 + b))) (clF i_p0_kitchen_rules_seats v_p0_kitchen_state_pieces) i_p0_kitchen_state_king i_p0_kitchen_state_bone w20 w16 w17 w18 w19 l)) ∧ (bst (spi i_p0_kitchen_rules_seats i_p0_kitchen_rules_stirs (clF i_p0_kitchen_rules_seats v_p0_kitchen_state_friends) (clA i_p0_kitchen_rules_seats i_p0_kitchen_rules_stirs (fun y b => v_p0_kitchen_rules_after (y * 7 + b))) (clF i_p0_kitchen_rules_seats v_p0_kitchen_state_pieces) i_p0_kitchen_state_king i_p0_kitchen_state_bone z2) i_p0_kitchen_rules_stirs z2 z13 z15 w21)) (fun (z13 : Int) (z14 : Int) (z15 : Int) (w16 : (Int → Int)) (w17 : (Int → Int)) (w18 : (Int → Int)) (w19 : (Int → Int)) (w20 : (Int → Int)) (w21 : (Int → Int)) => (625 - z13).toNat) (fun again13 z13 z14 z15 w16 w17 w18 w19 w20 w21 hI ih_B_X1_leastSpread_13 => ?_) 1000 _ _ _ _ _ _ _ _ _ ⟨(by omega) /- B_X1_leastSpread_13.init1#1 -/, (by omega) /- B_X1_leastSpread_13.init2#1 -/, (by omega) /- B_X1_leastSpread_13.init3#1 -/, (by omega) /- B_X1_leastSpread_13.init4#1 -/, (by 
                                        intro _ l a b; have e : l = 0 := by omega
                                        subst e
                                        exact q_X1_begin_1_5) /- B_X1_leastSpread_13.init5#1 -/, (by intro j a b; rw [q_X1_begin_1_6, z_fill_in a b]; omega) /- B_X1_leastSpread_13.init6#1 -/, (by exact h13) /- B_X1_leastSpread_13.init7#1 -/, (by exact Or.inr ⟨by omega, hv_zero _ (fun j a b => by rw [q_X1_begin_1_6, z_fill_in a (by omega)])⟩) /- B_X1_leastSpread_13.init8#1 -/, (by 
                                        unfold Hid; intro _ l a b; have e : l = 0 := by omega
                                        subst e
                                        unfold lvq; rw [q_X1_begin_1_9.1, q_X1_begin_1_9.2]; exact lvs_0 (fun q a b => by rw [clF_in a b]; show w6 (0 * 7 + q) = _; rw [show (0 : Int) * 7 + q = q from by omega]; exact q_X1_begin_1_7 q a b) (fun q a b => by show w7 (0 * 7 + q) = _; rw [show (0 : Int) * 7 + q = q from by omega]; exact q_X1_begin_1_8 q a b)) /- B_X1_leastSpread_13.init9#1 -/, (by exact Or.inl ⟨rfl, by omega⟩) /- B_X1_leastSpread_13.init10#1 -/⟩ (by omega) /- B_X1_leastSpread_13.fuel#1 -/
  obtain ⟨i_B_X1_leastSpread_13_1, i_B_X1_leastSpread_13_2, i_B_X1_leastSpread_13_3, i_B_X1_leastSpread_13_4, i_B_X1_leastSpread_13_5, i_B_X1_leastSpread_13_6, i_B_X1_leastSpread_13_7, i_B_X1_leastSpread_13_8, i_B_X1_leastSpread_13_9, i_B_X1_leastSpread_13_10⟩ := hI
  unfold B_X1_leastSpread_13
  refine wp_ck (z_r32_i.mpr ⟨(by omega) /- z_r32.lo z13#1 -/, (by omega) /- z_r32.hi z13#1 -/⟩) ?_
  refine wp_if (fun c1 => ?_) (fun c1 => ?_)
  ·
    refine wp_some ?_
    try dsimp only
    all_goals exact ⟨(by omega) /- post1#1 -/, (by exact i_B_X1_leastSpread_13_7) /- post2#1 -/, (by unfold Hid; rw [← hzx]; exact odo_end h3 (hid hp54) (fun j a b => i_B_X1_leastSpread_13_6 j a (by omega)) (by omega) i_B_X1_leastSpread_13_8 (Or.inl (by omega)) i_B_X1_leastSpread_13_10) /- post3#1 -/⟩
  ·
    refine wp_ck (z_r32_i.mpr ⟨(by omega) /- z_r32.lo z14#1 -/, (by omega) /- z_r32.hi z14#1 -/⟩) ?_
    refine wp_if (fun c2 => ?_) (fun c2 => ?_)
    ·
      refine wp_some ?_
      try dsimp only
      all_goals exact ⟨(by omega) /- post1#2 -/, (by exact i_B_X1_leastSpread_13_7) /- post2#2 -/, (by unfold Hid; rw [← hzx]; exact odo_end h3 (hid hp54) (fun j a b => i_B_X1_leastSpread_13_6 j a (by omega)) (by omega) i_B_X1_leastSpread_13_8 (Or.inr (by assumption)) i_B_X1_leastSpread_13_10) /- post3#2 -/⟩
    ·
      refine wp_bnd ?_
      refine wp_jn ?_
      refine wp_lq5 (fun (z37 : Int) (w38 : (Int → Int)) (w39 : (Int → Int)) (w40 : (Int → Int)) (w41 : (Int → Int)) => (z14 ≤ z37) ∧ (z37 ≤ z2) ∧ (∀ l, 0 ≤ l → l ≤ z37 → lvlOK i_p0_kitchen_rules_seats w38 w39 w40 w41 l) ∧ (∀ l, 0 ≤ l → l ≤ z37 → lvq i_p0_kitchen_rules_seats (clF i_p0_kitchen_rules_seats v_p0_kitchen_state_friends) (clA i_p0_kitchen_rules_seats i_p0_kitchen_rules_stirs (fun y b => v_p0_kitchen_rules_after (y * 7 + b))) (clF i_p0_kitchen_rules_seats v_p0_kitchen_state_pieces) i_p0_kitchen_state_king i_p0_kitchen_state_bone w20 w38 w39 w40 w41 l)) (fun (z37 : Int) (w38 : (Int → Int)) (w39 : (Int → Int)) (w40 : (Int → Int)) (w41 : (Int → Int)) => (z2 - z37).toNat) (fun again29 z37 w38 w39 w40 w41 hI ih_B_X1_leastSpread_29 => ?_) 1000 _ _ _ _ _ ⟨(by omega) /- B_X1_leastSpread_29.init1#1 -/, (by omega) /- B_X1_leastSpread_29.init2#1 -/, (by exact i_B_X1_leastSpread_13_5 (by assumption)) /- B_X1_leastSpread_29.init3#1 -/, (by exact hid i_B_X1_leastSpread_13_9 (by assumption)) /- B_X1_leastSpread_29.init4#1 -/⟩ (by omega) /- B_X1_leastSpread_29.fuel#1 -/
      obtain ⟨i_B_X1_leastSpread_29_1, i_B_X1_leastSpread_29_2, i_B_X1_leastSpread_29_3, i_B_X1_leastSpread_29_4⟩ := hI
      unfold B_X1_leastSpread_29
      refine wp_ck (z_r32_i.mpr ⟨(by omega) /- z_r32.lo z37#1 -/, (by omega) /- z_r32.hi z37#1 -/⟩) ?_
      refine wp_ck (z_r32_i.mpr ⟨(by omega) /- z_r32.lo z2#1 -/, (by omega) /- z_r32.hi z2#1 -/⟩) ?_
      refine wp_if (fun c3 => ?_) (fun c3 => ?_)
      ·
        have hlv := i_B_X1_leastSpread_29_3 z2 (by omega) (by omega)
        have hoh : Hid (hv i_p0_kitchen_rules_stirs w20 z2.toNat = z13) := by
          rcases i_B_X1_leastSpread_13_8 with o | o
          · exact absurd o.1 (by assumption)
          · exact o.2
        have hds : ∀ j, 0 ≤ j → j < z2 → 0 ≤ w20 j ∧ w20 j < i_p0_kitchen_rules_stirs := fun j a b => i_B_X1_leastSpread_13_6 j a (by omega)
        have hsi := hd_ (lvq_spi (show (1 : Int) ≤ i_p0_kitchen_rules_seats by omega) h3 (show (0 : Int) ≤ z2 by omega) hds (hid hoh) (i_B_X1_leastSpread_29_4 z2 (by omega) (by omega)))
        refine wp_bd2 (s_X1_weigh _ _ _ _ _ _ (by omega) /- pre X1_weigh.1#1 -/ (by omega) /- pre X1_weigh.2#1 -/ (by omega) /- pre X1_weigh.3#1 -/ (by omega) /- pre X1_weigh.4#1 -/ (by omega) /- pre X1_weigh.5#1 -/ (by omega) /- pre X1_weigh.6#1 -/ (by exact hlv.2.2.2) /- pre X1_weigh.7#1 -/ (by intro j a b; have := i_B_X1_leastSpread_13_6 j a b; omega) /- pre X1_weigh.8#1 -/ (by exact i_B_X1_leastSpread_13_7) /- pre X1_weigh.9#1 -/) (fun z31 w32 q_X1_weigh_1 => ?_)
        try dsimp only at q_X1_weigh_1
        obtain ⟨q_X1_weigh_1_1, q_X1_weigh_1_2, q_X1_weigh_1_3, q_X1_weigh_1_4⟩ := q_X1_weigh_1
        refine wp_bd2 (s_X1_nextRow _ _ _ (by omega) /- pre X1_nextRow.1#1 -/ (by omega) /- pre X1_nextRow.2#1 -/ (by omega) /- pre X1_nextRow.3#1 -/ (by omega) /- pre X1_nextRow.4#1 -/ (by exact i_B_X1_leastSpread_13_6) /- pre X1_nextRow.5#1 -/) (fun z33 w34 q_X1_nextRow_1 => ?_)
        try dsimp only at q_X1_nextRow_1
        obtain ⟨q_X1_nextRow_1_1, q_X1_nextRow_1_2, q_X1_nextRow_1_3⟩ := q_X1_nextRow_1
        have hnx := hd_ (nxt_hv (show (0 : Int) ≤ z2 by omega) (hid hoh) q_X1_nextRow_1_3)
        refine wp_bnd ?_
        refine wp_bndE (fun z36 hz36 => ?_)
        exact ih_B_X1_leastSpread_13 _ _ _ _ _ _ _ _ _ ⟨(by omega) /- B_X1_leastSpread_13.inv1#1 -/, (by omega) /- B_X1_leastSpread_13.inv2#1 -/, (by omega) /- B_X1_leastSpread_13.inv3#1 -/, (by omega) /- B_X1_leastSpread_13.inv4#1 -/, (by intro _ l a b; exact i_B_X1_leastSpread_29_3 l a (by omega)) /- B_X1_leastSpread_13.inv5#1 -/, (by exact q_X1_nextRow_1_2) /- B_X1_leastSpread_13.inv6#1 -/, (by exact q_X1_weigh_1_2) /- B_X1_leastSpread_13.inv7#1 -/, (by rw [hz36]; exact (hid hnx).elim (fun w => Or.inl ⟨w.1, w.2⟩) (fun w => Or.inr w)) /- B_X1_leastSpread_13.inv8#1 -/, (by 
                                        unfold Hid
                                        intro c l a b
                                        rcases q_X1_nextRow_1_3 with o | o
                                        · exact absurd o.1 c
                                        · exact lvq_d a (i_B_X1_leastSpread_29_4 l a (by omega)) (fun j u v => o.2.2.1 j u (by omega))) /- B_X1_leastSpread_13.inv9#1 -/, (by rw [hz36]; exact bst_s i_B_X1_leastSpread_13_10 i_B_X1_leastSpread_13_1 (fun i => spr_nn) (hid hsi) (fun j a b => hv_row h3 hds (hid hoh) a b) (hid q_X1_weigh_1_3) (hid q_X1_weigh_1_4)) /- B_X1_leastSpread_13.inv10#1 -/⟩ (by omega) /- B_X1_leastSpread_13.dec#1 -/
      ·
        have hrw := i_B_X1_leastSpread_13_6 z37 (by omega) (by omega)
        refine wp_bd4 (s_X1_goOn _ _ _ _ _ _ _ _ _ _ v_p0_kitchen_state_friends i_p0_kitchen_rules_stirs (by omega) /- pre X1_goOn.1#1 -/ (by omega) /- pre X1_goOn.2#1 -/ (by omega) /- pre X1_goOn.3#1 -/ (by omega) /- pre X1_goOn.4#1 -/ (by exact h5) /- pre X1_goOn.5#1 -/ (by exact q_X1_begin_1_3) /- pre X1_goOn.6#1 -/ (by exact q_X1_begin_1_4) /- pre X1_goOn.7#1 -/ (by omega) /- pre X1_goOn.8#1 -/ (by omega) /- pre X1_goOn.9#1 -/ (by omega) /- pre X1_goOn.10#1 -/ (by omega) /- pre X1_goOn.11#1 -/ (by exact i_B_X1_leastSpread_29_3 z37 (by omega) (by omega)) /- pre X1_goOn.12#1 -/) (fun w45 w46 w47 w48 q_X1_goOn_1 => ?_)
        try dsimp only at q_X1_goOn_1
        obtain ⟨q_X1_goOn_1_1, q_X1_goOn_1_2, q_X1_goOn_1_3, q_X1_goOn_1_4, q_X1_goOn_1_5, q_X1_goOn_1_6, q_X1_goOn_1_7, q_X1_goOn_1_8⟩ := q_X1_goOn_1
        refine wp_bndE (fun z49 hz49 => ?_)
        exact ih_B_X1_leastSpread_29 _ _ _ _ _ ⟨(by omega) /- B_X1_leastSpread_29.inv1#1 -/, (by omega) /- B_X1_leastSpread_29.inv2#1 -/, (by 
                                        intro l a b
                                        by_cases e : l = z37 + 1
                                        · rw [e]; exact q_X1_goOn_1_1
                                        · exact q_X1_goOn_1_2 l (by omega) (i_B_X1_leastSpread_29_3 l a (by omega))) /- B_X1_leastSpread_29.inv3#1 -/, (by 
                                        intro l a b
                                        by_cases e : l = z37 + 1
                                        · rw [e]; exact lvq_go h1 h5 (by omega) hrw.1 hrw.2 (i_B_X1_leastSpread_29_3 z37 (by omega) (by omega)) (i_B_X1_leastSpread_29_4 z37 (by omega) (by omega)) q_X1_goOn_1_3 q_X1_goOn_1_4 q_X1_goOn_1_5 q_X1_goOn_1_6
                                        · exact lvq_keep h2 (show l ≤ z37 by omega) (i_B_X1_leastSpread_29_4 l a (by omega)) q_X1_goOn_1_7 q_X1_goOn_1_8) /- B_X1_leastSpread_29.inv4#1 -/⟩ (by omega) /- B_X1_leastSpread_29.dec#1 -/
