def servP (n : Int) (f pl : Int → Int) : Prop := ∀ k p, 0 ≤ k → k < n → 0 ≤ p → p < n → pl (k * 7 + p) = plc n k (f k) p
def servH (n : Int) (f ho : Int → Int) : Prop := ∀ k p, 0 ≤ k → k < n → 0 ≤ p → p < n → ho (k * 7 + plc n k (f k) p) = p
theorem hold_use {n k q : Int} {f ho : Int → Int} (h : servH n f ho) (hn : 0 < n) (h0 : 0 ≤ k) (h1 : k < n) (h2 : 0 ≤ q) (h3 : q < n) : (0 ≤ ho (k * 7 + q) ∧ ho (k * 7 + q) < n) ∧ plc n k (f k) (ho (k * 7 + q)) = q := by
  obtain ⟨p, hp, e⟩ := plc_sur (n := n) (k := k) (f := f k) hn h2 h3
  have := h k p h0 h1 hp.1 hp.2
  rw [e] at this
  rw [this]
  exact ⟨hp, e⟩
theorem place_use {n k p : Int} {f pl : Int → Int} (h : servP n f pl) (hn : 0 < n) (h0 : 0 ≤ k) (h1 : k < n) (h2 : 0 ≤ p) (h3 : p < n) : 0 ≤ pl (k * 7 + p) ∧ pl (k * 7 + p) < n := by
  rw [h k p h0 h1 h2 h3]
  exact plc_rng hn
theorem row_use {n s r i : Int} {a : Int → Int} (h : rows n s a) (h0 : 0 ≤ r) (h1 : r < s) (h2 : 0 ≤ i) (h3 : i < n) : 0 ≤ a (r * 7 + i) ∧ a (r * 7 + i) < n := (h r h0 h1).1 i h2 h3
theorem bits_rng (P : Int → Prop) : ∀ m : Nat, m ≤ 7 → 0 ≤ bitsOf P m ∧ bitsOf P m < 128 := by
  intro m
  induction m with
  | zero => intro _; exact ⟨Int.le_refl _, by show (0 : Int) < 128; decide⟩
  | succ m ih =>
    intro h
    have a := ih (by omega)
    by_cases c : P (m : Int)
    · rw [bits_t c]; exact or7z a.1 a.2 (by omega) (by omega)
    · rw [bits_f c]; exact a
theorem or5 : ∀ a : Nat, a < 32 → ∀ b : Nat, b < 5 → 0 ≤ z_or (a : Int) (z_shl 1 (b : Int)) ∧ z_or (a : Int) (z_shl 1 (b : Int)) < 32 := by decide +kernel
theorem bits_rng5 (P : Int → Prop) : ∀ m : Nat, m ≤ 5 → 0 ≤ bitsOf P m ∧ bitsOf P m < 32 := by
  intro m
  induction m with
  | zero => intro _; exact ⟨Int.le_refl _, by show (0 : Int) < 32; decide⟩
  | succ m ih =>
    intro h
    have a := ih (by omega)
    by_cases c : P (m : Int)
    · rw [bits_t c]
      have e := or5 (bitsOf P m).toNat (by omega) m (by omega)
      rw [Int.toNat_of_nonneg a.1] at e
      exact e
    · rw [bits_f c]; exact a
theorem sum_up {f : Int → Int} {i v : Int} (h0 : 0 ≤ i) : ∀ m : Nat, sumTo (z_up f i v) m = if i < (m : Int) then sumTo f m - f i + v else sumTo f m := by
  intro m
  induction m with
  | zero => rw [if_neg (by omega)]; rfl
  | succ m ih =>
    show sumTo (z_up f i v) m + z_up f i v (m : Int) = _
    rw [ih]
    show _ = if i < ((m + 1 : Nat) : Int) then sumTo f m + f (m : Int) - f i + v else sumTo f m + f (m : Int)
    by_cases c : i < (m : Int)
    · rw [if_pos c, if_pos (by omega), z_up_n _ _ (by omega)]; omega
    · rw [if_neg c]
      by_cases d : i = (m : Int)
      · rw [if_pos (by omega), d, z_up_s]; omega
      · rw [if_neg (by omega), z_up_n _ _ (by omega)]
theorem sum_mono {f : Int → Int} {m : Nat} (h : ∀ j, 0 ≤ j → j < (m : Int) → 0 ≤ f j) : ∀ a : Nat, a ≤ m → sumTo f a ≤ sumTo f m := by
  intro a ha
  have : ∀ d : Nat, a + d ≤ m → sumTo f a ≤ sumTo f (a + d) := by
    intro d
    induction d with
    | zero => intro _; exact Int.le_refl _
    | succ d ih =>
      intro hd
      have := ih (by omega)
      have := h ((a + d : Nat) : Int) (by omega) (by omega)
      show sumTo f a ≤ sumTo f (a + d) + f ((a + d : Nat) : Int)
      omega
  have := this (m - a) (by omega)
  rw [show a + (m - a) = m from by omega] at this
  exact this
theorem sum_0 {f : Int → Int} : ∀ m : Nat, (∀ j, 0 ≤ j → j < (m : Int) → 0 ≤ f j) → 0 ≤ sumTo f m := by
  intro m
  induction m with
  | zero => intro _; exact Int.le_refl _
  | succ m ih =>
    intro h
    have := ih (fun j a b => h j a (by omega))
    have := h (m : Int) (by omega) (by omega)
    show 0 ≤ sumTo f m + f (m : Int)
    omega
theorem sum_one {f : Int → Int} {m : Nat} (h : ∀ j, 0 ≤ j → j < (m : Int) → 0 ≤ f j) {i : Int} (h0 : 0 ≤ i) (h1 : i < (m : Int)) : f i ≤ sumTo f m := by
  have a := sum_mono h (i.toNat + 1) (by omega)
  have b := sum_0 (f := f) i.toNat (fun j p q => h j p (by omega))
  have c : sumTo f (i.toNat + 1) = sumTo f i.toNat + f ((i.toNat : Nat) : Int) := rfl
  rw [Int.toNat_of_nonneg h0] at c
  omega
theorem sum_fill0 {V : Int → Int} : ∀ m : Nat, m ≤ 49 → sumTo (z_fill V 49 0) m = 0 := by
  intro m
  induction m with
  | zero => intro _; rfl
  | succ m ih =>
    intro h
    show sumTo _ m + z_fill V 49 0 (m : Int) = 0
    rw [ih (by omega), z_fill_in (by omega) (by omega)]; rfl
theorem sum_ext {f g : Int → Int} : ∀ m : Nat, (∀ j, 0 ≤ j → j < (m : Int) → f j = g j) → sumTo f m = sumTo g m := by
  intro m
  induction m with
  | zero => intro _; rfl
  | succ m ih =>
    intro h
    show sumTo f m + f (m : Int) = sumTo g m + g (m : Int)
    rw [ih (fun j a b => h j a (by omega)), h (m : Int) (by omega) (by omega)]
theorem cmp_0 {x : Int} : z_cmp x 0 = 0 ↔ x = 0 := by
  unfold z_cmp
  split
  · omega
  · split <;> omega
def popc (x : Int) : Int := bt x 0 + bt x 1 + bt x 2 + bt x 3 + bt x 4
theorem popc_r (x : Int) : 0 ≤ popc x ∧ popc x ≤ 5 := by
  unfold popc
  have a := bt01 x 0
  have b := bt01 x 1
  have c := bt01 x 2
  have d := bt01 x 3
  have e := bt01 x 4
  omega
def bcx (x : Int) : Int :=
  let z1 := x - z_and (z_ushr x 1) 1431655765
  let z2 := z_and z1 858993459 + z_and (z_ushr z1 2) 858993459
  let z3 := z_and (z2 + z_ushr z2 4) 252645135
  let z4 := z3 + z_ushr z3 8
  let z5 := z4 + z_ushr z4 16
  z_and z5 63
theorem bcx_e : ∀ x : Nat, x < 32 → bcx (x : Int) = popc (x : Int) := by decide +kernel
theorem bcx_z {x : Int} (h0 : 0 ≤ x) (h1 : x < 32) : bcx x = popc x := by
  have e := bcx_e x.toNat (by omega)
  rw [Int.toNat_of_nonneg h0] at e
  exact e
/-- who holds a bowl -/
noncomputable def hol (n k f q : Int) : Int := Classical.epsilon (fun p => (0 ≤ p ∧ p < n) ∧ plc n k f p = q)
theorem hol_eq {n k f p q : Int} (hn : 0 < n) (h0 : 0 ≤ p) (h1 : p < n) (h : plc n k f p = q) : p = hol n k f q := by
  have e : (0 ≤ hol n k f q ∧ hol n k f q < n) ∧ plc n k f (hol n k f q) = q := Classical.epsilon_spec (p := fun p => (0 ≤ p ∧ p < n) ∧ plc n k f p = q) ⟨p, ⟨h0, h1⟩, h⟩
  exact plc_inj hn h0 h1 e.1.1 e.1.2 (by rw [h, e.2])
theorem hol_rng {n k f q : Int} (hn : 0 < n) (h0 : 0 ≤ q) (h1 : q < n) : 0 ≤ hol n k f q ∧ hol n k f q < n := by
  obtain ⟨p, hp, e⟩ := plc_sur (n := n) (k := k) (f := f) hn h0 h1
  rw [← hol_eq hn hp.1 hp.2 e]
  exact hp
/-- what stir r brings of v from king k, bone b to k2, b2 -/
noncomputable def ltm (n : Int) (fr : Int → Int) (A : Int → Int → Int) (same v k b k2 b2 : Int) : Int → Int := fun r => if (hol n k (fr k) (A r b) = k2 ∧ A r b = b2) ∧ (k2 = k ∨ same = 0) then v else 0
theorem ltm_at {n same v k b k2 b2 r p h : Int} {fr : Int → Int} {A : Int → Int → Int} (e1 : p = A r b) (e2 : h = hol n k (fr k) p) : ltm n fr A same v k b k2 b2 r = if (h = k2 ∧ p = b2) ∧ (k2 = k ∨ same = 0) then v else 0 := by
  unfold ltm
  rw [← e1, ← e2]
theorem ltm_0 {n same k b k2 b2 : Int} {fr : Int → Int} {A : Int → Int → Int} : ∀ m : Nat, sumTo (ltm n fr A same 0 k b k2 b2) m = 0 := by
  intro m
  induction m with
  | zero => rfl
  | succ m ih =>
    show sumTo _ m + ltm n fr A same 0 k b k2 b2 (m : Int) = 0
    rw [ih]
    unfold ltm
    split <;> rfl
/-- rows of i stirs from king k0, bone b0 to k, b (same 1: with the same king all the way) -/
noncomputable def lck (n s : Int) (fr : Int → Int) (A : Int → Int → Int) (same k0 b0 : Int) : Nat → Int → Int → Int
  | 0, k, b => if k = k0 ∧ b = b0 then 1 else 0
  | i + 1, k2, b2 => sumTo (fun k => sumTo (fun b => sumTo (ltm n fr A same (lck n s fr A same k0 b0 i k b) k b k2 b2) s.toNat) n.toNat) n.toNat
/-- the first t below s for which P; -4 -/
def fstq (s : Int) (P : Int → Prop) (r : Int) : Prop := (r = -4 ∧ ∀ t, 0 ≤ t → t < s → ¬ P t) ∨ ((0 ≤ r ∧ r < s) ∧ P r ∧ ∀ t, 0 ≤ t → t < r → ¬ P t)
theorem fstq_uniq {s r r2 : Int} {P : Int → Prop} (h : fstq s P r) (g : fstq s P r2) : r = r2 := by
  rcases h with ⟨a1, a2⟩ | ⟨a1, a2, a3⟩
  · rcases g with ⟨b1, b2⟩ | ⟨b1, b2, b3⟩
    · omega
    · exact absurd b2 (a2 r2 b1.1 b1.2)
  · rcases g with ⟨b1, b2⟩ | ⟨b1, b2, b3⟩
    · exact absurd a2 (b2 r a1.1 a1.2)
    · rcases Int.lt_trichotomy r r2 with e | e | e
      · exact absurd a2 (b3 r a1.1 e)
      · exact e
      · exact absurd b2 (a3 r2 b1.1 e)
theorem fstq_iff {s r : Int} {P Q : Int → Prop} (e : ∀ t, 0 ≤ t → t < s → (P t ↔ Q t)) (h : fstq s P r) : fstq s Q r := by
  rcases h with ⟨a1, a2⟩ | ⟨a1, a2, a3⟩
  · exact Or.inl ⟨a1, fun t u v w => a2 t u v ((e t u v).mpr w)⟩
  · exact Or.inr ⟨a1, (e r a1.1 a1.2).mp a2, fun t u v w => a3 t u v ((e t u (by omega)).mpr w)⟩
/-! bits of a long -/
def bl (f i : Int) : Bool := (Int64.ofInt f).toBitVec.getLsbD i.toNat
theorem bl_or (a b i : Int) : bl (w_or a b) i = (bl a i || bl b i) := by unfold bl; rw [w_or_e, Int64.toBitVec_or, BitVec.getLsbD_or]
theorem bl_and (a b i : Int) : bl (w_and a b) i = (bl a i && bl b i) := by unfold bl; rw [w_and_e, Int64.toBitVec_and, BitVec.getLsbD_and]
theorem bl_0 (i : Int) : bl 0 i = false := BitVec.getLsbD_zero
theorem bl_s1 : ∀ p : Nat, p < 49 → ∀ i : Nat, i < 64 → bl (w_shl 1 (p : Int)) (i : Int) = decide (i = p) := by decide +kernel
theorem bl_sh {p i : Int} (h0 : 0 ≤ p) (h1 : p < 49) (i0 : 0 ≤ i) (i1 : i < 64) : bl (w_shl 1 p) i = decide (i = p) := by
  have := bl_s1 p.toNat (by omega) i.toNat (by omega)
  rw [Int.toNat_of_nonneg h0, Int.toNat_of_nonneg i0] at this
  rw [this]
  by_cases c : i = p
  · rw [decide_eq_true c, decide_eq_true (by omega)]
  · rw [decide_eq_false c, decide_eq_false (by omega)]
theorem bl_on {g p : Int} (h0 : 0 ≤ p) (h1 : p < 49) : z_cmp (w_and g (w_shl 1 p)) 0 = 0 ↔ bl g p = false := by
  rw [cmp_0]
  constructor
  · intro h
    have e := bl_and g (w_shl 1 p) p
    rw [h, bl_0, bl_sh h0 h1 h0 (by omega), decide_eq_true rfl, Bool.and_true] at e
    exact e.symm
  · intro h
    refine (w_eq (z_r64_i.mpr (w_and_r _ _)) (by decide)).mp ?_
    refine Int64.toBitVec_inj.mp (BitVec.eq_of_getLsbD_eq (fun i hi => ?_))
    have e : bl (w_and g (w_shl 1 p)) (i : Int) = bl 0 (i : Int) := by
      rw [bl_and, bl_sh h0 h1 (by omega) (by omega), bl_0]
      by_cases c : (i : Int) = p
      · rw [c, h]; rfl
      · rw [decide_eq_false c, Bool.and_false]
    exact e
/-- the bits from lo up to hi -/
def onb (g lo hi : Int) : Prop := ∀ i, 0 ≤ i → i < 49 → (bl g i = true ↔ lo ≤ i ∧ i < hi)
theorem onb_0 {lo : Int} : onb 0 lo lo := by
  intro i a b
  rw [bl_0]
  constructor
  · intro h; exact absurd h Bool.noConfusion
  · intro h; omega
theorem onb_s {g lo hi : Int} (h : onb g lo hi) (h0 : 0 ≤ hi) (h1 : hi < 49) (h2 : lo ≤ hi) : onb (w_or g (w_shl 1 hi)) lo (hi + 1) := by
  intro i a b
  rw [bl_or, bl_sh h0 h1 a (by omega), Bool.or_eq_true, h i a b, decide_eq_true_iff]
  omega
/-- a set of pairs by bits -/
def prs (n g : Int) (P : Int → Int → Prop) : Prop := ∀ k b, 0 ≤ k → k < n → 0 ≤ b → b < n → (bl g (k * 7 + b) = true ↔ P k b)
theorem prs_iff {n g : Int} {P Q : Int → Int → Prop} (h : prs n g P) (e : ∀ k b, 0 ≤ k → k < n → 0 ≤ b → b < n → (P k b ↔ Q k b)) : prs n g Q := fun k b k0 k1 b0 b1 => (h k b k0 k1 b0 b1).trans (e k b k0 k1 b0 b1)
theorem prs_0 {n : Int} {P : Int → Int → Prop} : prs n 0 (fun k b => k < 0 ∧ P k b) := by
  intro k b k0 k1 b0 b1
  rw [bl_0]
  constructor
  · intro h; exact absurd h Bool.noConfusion
  · intro h; omega
theorem prs_in {n g z : Int} {P : Int → Int → Prop} (h : prs n g (fun k b => k < z ∧ P k b)) : prs n g (fun k b => (k < z ∨ (k = z ∧ b < 0)) ∧ P k b) := prs_iff h (fun k b _ _ b0 _ => ⟨fun w => ⟨Or.inl w.1, w.2⟩, fun w => ⟨by omega, w.2⟩⟩)
theorem prs_out {n g z y : Int} {P : Int → Int → Prop} (h : prs n g (fun k b => (k < z ∨ (k = z ∧ b < y)) ∧ P k b)) (hy : n ≤ y) : prs n g (fun k b => k < z + 1 ∧ P k b) := prs_iff h (fun k b _ _ _ _ => ⟨fun w => ⟨by omega, w.2⟩, fun w => ⟨by omega, w.2⟩⟩)
theorem prs_no {n g z y : Int} {P : Int → Int → Prop} (h : prs n g (fun k b => (k < z ∨ (k = z ∧ b < y)) ∧ P k b)) (hp : ¬ P z y) : prs n g (fun k b => (k < z ∨ (k = z ∧ b < y + 1)) ∧ P k b) := prs_iff h (fun k b _ _ _ _ => ⟨fun w => ⟨by omega, w.2⟩, fun w => ⟨by
  by_cases c : k = z ∧ b = y
  · rw [c.1, c.2] at w; exact absurd w.2 hp
  · omega, w.2⟩⟩)
theorem prs_or {n g z y : Int} {P : Int → Int → Prop} (hn : n ≤ 7) (z0 : 0 ≤ z) (z1 : z < n) (y0 : 0 ≤ y) (y1 : y < n) (h : prs n g (fun k b => (k < z ∨ (k = z ∧ b < y)) ∧ P k b)) (hp : P z y) : prs n (w_or g (w_shl 1 (z * 7 + y))) (fun k b => (k < z ∨ (k = z ∧ b < y + 1)) ∧ P k b) := by
  intro k b k0 k1 b0 b1
  rw [bl_or, bl_sh (by omega) (by omega) (by omega) (by omega), Bool.or_eq_true, h k b k0 k1 b0 b1, decide_eq_true_iff]
  dsimp only
  constructor
  · rintro (w | w)
    · exact ⟨by omega, w.2⟩
    · have e1 : k = z := by omega
      have e2 : b = y := by omega
      rw [e1, e2]
      exact ⟨by omega, hp⟩
  · intro w
    by_cases c : k = z ∧ b = y
    · right; omega
    · left; exact ⟨by omega, w.2⟩
theorem prs_end {n g z : Int} {P : Int → Int → Prop} (h : prs n g (fun k b => k < z ∧ P k b)) (hz : n ≤ z) : prs n g P := prs_iff h (fun k b _ k1 _ _ => ⟨fun w => w.2, fun w => ⟨by omega, w⟩⟩)
theorem prs_all {n g h z : Int} (hn : n ≤ 7) (p : prs n g (fun k b => k < z ∧ True)) (q : onb h (z * 7) (z * 7 + n)) : prs n (w_or g h) (fun k b => k < z + 1 ∧ True) := by
  intro k b k0 k1 b0 b1
  rw [bl_or, Bool.or_eq_true, p k b k0 k1 b0 b1, q (k * 7 + b) (by omega) (by omega)]
  dsimp only
  constructor
  · rintro (w | w)
    · exact ⟨by omega, trivial⟩
    · exact ⟨by omega, trivial⟩
  · intro w
    by_cases c : k < z
    · left; exact ⟨c, trivial⟩
    · right; omega
theorem prs_king {n g p : Int} (hn : n ≤ 7) (q : onb g (p * 7) (p * 7 + n)) : prs n g (fun k _ => k = p) := by
  intro k b k0 k1 b0 b1
  rw [q (k * 7 + b) (by omega) (by omega)]
  dsimp only
  omega
/-! plans: stirs and friends beyond the range are 0 -/
def clA (n s : Int) (A : Int → Int → Int) : Int → Int → Int := fun t b => if (0 ≤ t ∧ t < s) ∧ 0 ≤ b ∧ b < n then A t b else 0
def clF (n : Int) (f : Int → Int) : Int → Int := fun k => if 0 ≤ k ∧ k < n then f k else 0
theorem clA_in {n s t b : Int} {A : Int → Int → Int} (t0 : 0 ≤ t) (t1 : t < s) (b0 : 0 ≤ b) (b1 : b < n) : clA n s A t b = A t b := if_pos ⟨⟨t0, t1⟩, b0, b1⟩
theorem clF_in {n k : Int} {f : Int → Int} (k0 : 0 ≤ k) (k1 : k < n) : clF n f k = f k := if_pos ⟨k0, k1⟩
theorem clA_e {n s : Int} {A B : Int → Int → Int} (h : ∀ t b, 0 ≤ t → t < s → 0 ≤ b → b < n → A t b = B t b) : clA n s A = clA n s B := by
  funext t b
  unfold clA
  by_cases c : (0 ≤ t ∧ t < s) ∧ 0 ≤ b ∧ b < n
  · rw [if_pos c, if_pos c]; exact h t b c.1.1 c.1.2 c.2.1 c.2.2
  · rw [if_neg c, if_neg c]
theorem clF_e {n : Int} {f g : Int → Int} (h : ∀ k, 0 ≤ k → k < n → f k = g k) : clF n f = clF n g := by
  funext k
  unfold clF
  by_cases c : 0 ≤ k ∧ k < n
  · rw [if_pos c, if_pos c]; exact h k c.1 c.2
  · rw [if_neg c, if_neg c]
theorem clA_rng {n s : Int} {A : Int → Int → Int} (hn : 0 < n) (h : ∀ t b, 0 ≤ t → t < s → 0 ≤ b → b < n → 0 ≤ A t b ∧ A t b < n) : ∀ t b, 0 ≤ clA n s A t b ∧ clA n s A t b < n := by
  intro t b
  unfold clA
  split
  · rename_i c; exact h t b c.1.1 c.1.2 c.2.1 c.2.2
  · omega
def gd (n same : Int) (fr : Int → Int) (A : Int → Int → Int) (P : Int → Int → Prop) (k b t : Int) : Prop := (hol n k (fr k) (A t b) = k ∨ same = 0) ∧ P (hol n k (fr k) (A t b)) (A t b)
theorem gd_at {n same k b t p h : Int} {fr : Int → Int} {A : Int → Int → Int} {P : Int → Int → Prop} (e1 : p = A t b) (e2 : h = hol n k (fr k) p) : gd n same fr A P k b t ↔ (h = k ∨ same = 0) ∧ P h p := by
  unfold gd
  rw [← e1, ← e2]
theorem gd_iff {n same k b t : Int} {fr : Int → Int} {A : Int → Int → Int} {P Q : Int → Int → Prop} (hn : 0 < n) (hA : ∀ t b, 0 ≤ A t b ∧ A t b < n) (e : ∀ k b, 0 ≤ k → k < n → 0 ≤ b → b < n → (P k b ↔ Q k b)) : gd n same fr A P k b t ↔ gd n same fr A Q k b t := by
  have a := hA t b
  have h := hol_rng (n := n) (k := k) (f := fr k) hn a.1 a.2
  unfold gd
  rw [e _ _ h.1 h.2 a.1 a.2]
def ex1 (n s same : Int) (fr : Int → Int) (A : Int → Int → Int) (P : Int → Int → Prop) : Int → Int → Prop := fun k b => ∃ t, (0 ≤ t ∧ t < s) ∧ gd n same fr A P k b t
theorem fst_ex {n s same k b r : Int} {fr : Int → Int} {A : Int → Int → Int} {P : Int → Int → Prop} (h : fstq s (gd n same fr A P k b) r) : ¬ r = -4 ↔ ex1 n s same fr A P k b := by
  rcases h with ⟨a, c⟩ | ⟨a, c, d⟩
  · constructor
    · intro e; exact absurd a e
    · rintro ⟨t, t0, e⟩; exact absurd e (c t t0.1 t0.2)
  · constructor
    · intro _; exact ⟨r, a, c⟩
    · intro _; omega
/-- d days by stirs, on each the king stays if same is not 0, and behind them Q of the king -/
def can (n s same : Int) (fr : Int → Int) (A : Int → Int → Int) (Q : Int → Prop) : Nat → Int → Int → Prop
  | 0, k, _ => Q k
  | d + 1, k, b => ex1 n s same fr A (can n s same fr A Q d) k b
theorem can_step {n s same g g2 : Int} {fr : Int → Int} {A : Int → Int → Int} {Q : Int → Prop} {d : Nat} (hn : 0 < n) (hA : ∀ t b, 0 ≤ A t b ∧ A t b < n) (h : prs n g (can n s same fr A Q d)) (h2 : prs n g2 (ex1 n s same fr A (fun k b => bl g (k * 7 + b) = true))) : prs n g2 (can n s same fr A Q (d + 1)) :=
  prs_iff h2 (fun k b _ _ _ _ => ⟨fun ⟨t, t0, e⟩ => ⟨t, t0, (gd_iff hn hA h).mp e⟩, fun ⟨t, t0, e⟩ => ⟨t, t0, (gd_iff hn hA h).mpr e⟩⟩)
/-- good[d] tells can d -/
def gds (n s same : Int) (fr : Int → Int) (A : Int → Int → Int) (Q : Int → Prop) (good : Int → Int) (m : Int) : Prop := ∀ d, 0 ≤ d → d < m → prs n (good d) (can n s same fr A Q d.toNat)
theorem gds_1 {n s same g : Int} {fr : Int → Int} {A : Int → Int → Int} {Q : Int → Prop} {good : Int → Int} (h : prs n g (fun k _ => Q k)) : gds n s same fr A Q (z_up good 0 g) 1 := by
  intro d a b
  have e : d = 0 := by omega
  subst e
  rw [z_up_s]
  exact h
theorem gds_up {n s same g m : Int} {fr : Int → Int} {A : Int → Int → Int} {Q : Int → Prop} {good : Int → Int} (hn : 0 < n) (hA : ∀ t b, 0 ≤ A t b ∧ A t b < n) (hm : 1 ≤ m) (h : gds n s same fr A Q good m) (h2 : prs n g (ex1 n s same fr A (fun k b => bl (good (m - 1)) (k * 7 + b) = true))) : gds n s same fr A Q (z_up good m g) (m + 1) := by
  intro d a b
  by_cases c : d = m
  · rw [c, z_up_s, show m.toNat = (m - 1).toNat + 1 from by omega]
    exact can_step hn hA (h (m - 1) (by omega) (by omega)) h2
  · rw [z_up_n _ _ c]
    exact h d a (by omega)
/-- the greatest below m -/
def mostd (P : Nat → Prop) (m l : Int) : Prop := (0 ≤ l ∧ l < m) ∧ P l.toNat ∧ ∀ d, l < d → d < m → ¬ P d.toNat
theorem mostd_uniq {P : Nat → Prop} {m l l2 : Int} (h : mostd P m l) (g : mostd P m l2) : l = l2 := by
  rcases Int.lt_trichotomy l l2 with e | e | e
  · exact absurd g.2.1 (h.2.2 l2 e g.1.2)
  · exact e
  · exact absurd h.2.1 (g.2.2 l e h.1.2)
theorem mostd_1 {P : Nat → Prop} (h : P 0) : mostd P 1 0 := ⟨by omega, h, fun d a b => by omega⟩
theorem mostd_no {P : Nat → Prop} {m l : Int} (h : mostd P m l) (c : ¬ P m.toNat) : mostd P (m + 1) l := ⟨by have := h.1; omega, h.2.1, fun d a b => by
  by_cases e : d = m
  · rw [e]; exact c
  · exact h.2.2 d a (by omega)⟩
theorem mostd_yes {P : Nat → Prop} {m : Int} (h0 : 0 ≤ m) (c : P m.toNat) : mostd P (m + 1) m := ⟨by omega, c, fun d a b => by omega⟩
/-- the first stir of a day with d days behind it -/
noncomputable def fsp (n s same : Int) (fr : Int → Int) (A : Int → Int → Int) (Q : Int → Prop) (d : Nat) (k b : Int) : Int := Classical.epsilon (fun r => fstq s (gd n same fr A (can n s same fr A Q d) k b) r)
theorem fsp_eq {n s same k b r : Int} {fr : Int → Int} {A : Int → Int → Int} {Q : Int → Prop} {d : Nat} (h : fstq s (gd n same fr A (can n s same fr A Q d) k b) r) : r = fsp n s same fr A Q d k b :=
  fstq_uniq h (Classical.epsilon_spec (p := fun r => fstq s (gd n same fr A (can n s same fr A Q d) k b) r) ⟨r, h⟩)
/-- king and bone behind i of D days -/
noncomputable def pst (n s same : Int) (fr : Int → Int) (A : Int → Int → Int) (Q : Int → Prop) (D : Nat) (k0 b0 : Int) : Nat → Int × Int
  | 0 => (k0, b0)
  | i + 1 => (hol n (pst n s same fr A Q D k0 b0 i).1 (fr (pst n s same fr A Q D k0 b0 i).1) (A (fsp n s same fr A Q (D - 1 - i) (pst n s same fr A Q D k0 b0 i).1 (pst n s same fr A Q D k0 b0 i).2) (pst n s same fr A Q D k0 b0 i).2), A (fsp n s same fr A Q (D - 1 - i) (pst n s same fr A Q D k0 b0 i).1 (pst n s same fr A Q D k0 b0 i).2) (pst n s same fr A Q D k0 b0 i).2)
noncomputable def prow (n s same : Int) (fr : Int → Int) (A : Int → Int → Int) (Q : Int → Prop) (D : Nat) (k0 b0 : Int) (i : Nat) : Int := fsp n s same fr A Q (D - 1 - i) (pst n s same fr A Q D k0 b0 i).1 (pst n s same fr A Q D k0 b0 i).2
theorem pst_s {n s same k0 b0 k b r p h : Int} {fr : Int → Int} {A : Int → Int → Int} {Q : Int → Prop} {D i : Nat} (e : pst n s same fr A Q D k0 b0 i = (k, b)) (er : r = fsp n s same fr A Q (D - 1 - i) k b) (ep : p = A r b) (eh : h = hol n k (fr k) p) : pst n s same fr A Q D k0 b0 (i + 1) = (h, p) ∧ r = prow n s same fr A Q D k0 b0 i := by
  constructor
  · show (_, _) = _
    rw [e]
    dsimp only
    rw [← er, ← ep, ← eh]
  · unfold prow
    rw [e]
    exact er
/-- a day that can be gone: its first stir -/
theorem day_go {n s same k b r : Int} {fr : Int → Int} {A : Int → Int → Int} {Q : Int → Prop} {d : Nat} (hc : can n s same fr A Q (d + 1) k b) (hf : fstq s (gd n same fr A (can n s same fr A Q d) k b) r) : (0 ≤ r ∧ r < s) ∧ r = fsp n s same fr A Q d k b ∧ can n s same fr A Q d (hol n k (fr k) (A r b)) (A r b) := by
  have hr := (fst_ex hf).mpr hc
  refine ⟨?_, fsp_eq hf, ?_⟩
  · rcases hf with ⟨a, _⟩ | ⟨a, _⟩
    · exact absurd a hr
    · exact a
  · rcases hf with ⟨a, _⟩ | ⟨_, a, _⟩
    · exact absurd a hr
    · exact a.2
theorem day_gb {n s same k b r g : Int} {fr : Int → Int} {A : Int → Int → Int} {Q : Int → Prop} {d : Nat} (hn : 0 < n) (hA : ∀ t b, 0 ≤ A t b ∧ A t b < n) (hg : prs n g (can n s same fr A Q d)) (hf : fstq s (gd n same fr A (fun k b => bl g (k * 7 + b) = true) k b) r) : fstq s (gd n same fr A (can n s same fr A Q d) k b) r :=
  fstq_iff (fun t _ _ => gd_iff hn hA hg) hf
set_option maxHeartbeats 1000000 in
theorem s_X5_bitOf (x0 : Int) (x1 : Int) (h1 : 0 ≤ x0) (h2 : x0 < 7) (h3 : 0 ≤ x1) (h4 : x1 < 7) : wp (f_X5_bitOf x0 x1) (fun o => (o = w_shl 1 (x0 * 7 + x1))) := by
  unfold f_X5_bitOf
  refine wp_some ?_
  try dsimp only
  all_goals exact (by rfl) /- post1#1 -/

set_option maxHeartbeats 1000000 in
theorem s_X5_pairsOfKing (i_p0_kitchen_rules_seats : Int) (x1 : Int) (h1 : 2 ≤ i_p0_kitchen_rules_seats) (h2 : i_p0_kitchen_rules_seats ≤ 7) (h3 : 0 ≤ x1) (h4 : x1 < i_p0_kitchen_rules_seats) : wp (f_X5_pairsOfKing i_p0_kitchen_rules_seats x1) (fun o => (onb o (x1 * 7) (x1 * 7 + i_p0_kitchen_rules_seats))) := by
  unfold f_X5_pairsOfKing
  refine wp_bnd ?_
  refine wp_bnd ?_
  refine wp_lq2 (fun (z3 : Int) (z4 : Int) => (0 ≤ z3) ∧ (z3 ≤ i_p0_kitchen_rules_seats) ∧ (onb z4 (x1 * 7) (x1 * 7 + z3))) (fun (z3 : Int) (z4 : Int) => (i_p0_kitchen_rules_seats - z3).toNat) (fun again5 z3 z4 hI ih_B_X5_pairsOfKing_5 => ?_) 1000 _ _ ⟨(by omega) /- B_X5_pairsOfKing_5.init1#1 -/, (by omega) /- B_X5_pairsOfKing_5.init2#1 -/, (by rw [show x1 * 7 + 0 = x1 * 7 from by omega]; exact onb_0) /- B_X5_pairsOfKing_5.init3#1 -/⟩ (by omega) /- B_X5_pairsOfKing_5.fuel#1 -/
  obtain ⟨i_B_X5_pairsOfKing_5_1, i_B_X5_pairsOfKing_5_2, i_B_X5_pairsOfKing_5_3⟩ := hI
  unfold B_X5_pairsOfKing_5
  refine wp_ck (z_r32_i.mpr ⟨(by omega) /- z_r32.lo z3#1 -/, (by omega) /- z_r32.hi z3#1 -/⟩) ?_
  refine wp_ck (z_r32_i.mpr ⟨(by omega) /- z_r32.lo i_p0_kitchen_rules_seats#1 -/, (by omega) /- z_r32.hi i_p0_kitchen_rules_seats#1 -/⟩) ?_
  refine wp_if (fun c1 => ?_) (fun c1 => ?_)
  ·
    refine wp_some ?_
    try dsimp only
    all_goals exact (by rw [show i_p0_kitchen_rules_seats = z3 from by omega]; exact i_B_X5_pairsOfKing_5_3) /- post1#1 -/
  ·
    refine wp_bd1 (s_X5_bitOf _ _ (by omega) /- pre X5_bitOf.1#1 -/ (by omega) /- pre X5_bitOf.2#1 -/ (by omega) /- pre X5_bitOf.3#1 -/ (by omega) /- pre X5_bitOf.4#1 -/) (fun z8 q_X5_bitOf_1 => ?_)
    try dsimp only at q_X5_bitOf_1
    refine wp_bndE (fun z9 hz9 => ?_)
    refine wp_bndE (fun z10 hz10 => ?_)
    exact ih_B_X5_pairsOfKing_5 _ _ ⟨(by omega) /- B_X5_pairsOfKing_5.inv1#1 -/, (by omega) /- B_X5_pairsOfKing_5.inv2#1 -/, (by rw [hz9, hz10, q_X5_bitOf_1, show x1 * 7 + (z3 + 1) = x1 * 7 + z3 + 1 from by omega]; exact onb_s i_B_X5_pairsOfKing_5_3 (by omega) (by omega) (by omega)) /- B_X5_pairsOfKing_5.inv3#1 -/⟩ (by omega) /- B_X5_pairsOfKing_5.dec#1 -/

set_option maxHeartbeats 1000000 in
theorem s_X5_allPairs (i_p0_kitchen_rules_seats : Int) (h1 : 2 ≤ i_p0_kitchen_rules_seats) (h2 : i_p0_kitchen_rules_seats ≤ 7) : wp (f_X5_allPairs i_p0_kitchen_rules_seats) (fun o => (prs i_p0_kitchen_rules_seats o (fun _ _ => True))) := by
  unfold f_X5_allPairs
  refine wp_bnd ?_
  refine wp_bnd ?_
  refine wp_lq2 (fun (z3 : Int) (z4 : Int) => (0 ≤ z3) ∧ (z3 ≤ i_p0_kitchen_rules_seats) ∧ (prs i_p0_kitchen_rules_seats z4 (fun k _ => k < z3 ∧ True))) (fun (z3 : Int) (z4 : Int) => (i_p0_kitchen_rules_seats - z3).toNat) (fun again4 z3 z4 hI ih_B_X5_allPairs_4 => ?_) 1000 _ _ ⟨(by omega) /- B_X5_allPairs_4.init1#1 -/, (by omega) /- B_X5_allPairs_4.init2#1 -/, (by exact prs_0 (P := fun _ _ => True)) /- B_X5_allPairs_4.init3#1 -/⟩ (by omega) /- B_X5_allPairs_4.fuel#1 -/
  obtain ⟨i_B_X5_allPairs_4_1, i_B_X5_allPairs_4_2, i_B_X5_allPairs_4_3⟩ := hI
  unfold B_X5_allPairs_4
  refine wp_ck (z_r32_i.mpr ⟨(by omega) /- z_r32.lo z3#1 -/, (by omega) /- z_r32.hi z3#1 -/⟩) ?_
  refine wp_ck (z_r32_i.mpr ⟨(by omega) /- z_r32.lo i_p0_kitchen_rules_seats#1 -/, (by omega) /- z_r32.hi i_p0_kitchen_rules_seats#1 -/⟩) ?_
  refine wp_if (fun c1 => ?_) (fun c1 => ?_)
  ·
    refine wp_some ?_
    try dsimp only
    all_goals exact (by exact prs_end (P := fun _ _ => True) i_B_X5_allPairs_4_3 (by omega)) /- post1#1 -/
  ·
    refine wp_bd1 (s_X5_pairsOfKing _ _ (by omega) /- pre X5_pairsOfKing.1#1 -/ (by omega) /- pre X5_pairsOfKing.2#1 -/ (by omega) /- pre X5_pairsOfKing.3#1 -/ (by omega) /- pre X5_pairsOfKing.4#1 -/) (fun z8 q_X5_pairsOfKing_1 => ?_)
    try dsimp only at q_X5_pairsOfKing_1
    refine wp_bndE (fun z9 hz9 => ?_)
    refine wp_bndE (fun z10 hz10 => ?_)
    exact ih_B_X5_allPairs_4 _ _ ⟨(by omega) /- B_X5_allPairs_4.inv1#1 -/, (by omega) /- B_X5_allPairs_4.inv2#1 -/, (by rw [hz9, hz10]; exact prs_all h2 i_B_X5_allPairs_4_3 q_X5_pairsOfKing_1) /- B_X5_allPairs_4.inv3#1 -/⟩ (by omega) /- B_X5_allPairs_4.dec#1 -/

set_option maxHeartbeats 1000000 in
theorem s_X5_firstStirInto (i_p0_kitchen_rules_stirs : Int) (v_p0_kitchen_rules_after : (Int → Int)) (v_p0_kitchen_holders : (Int → Int)) (x1 : Int) (x3 : Int) (x4 : Int) (x5 : Int) (v_fr : Int → Int) (n : Int) (h1 : 2 ≤ n) (h2 : n ≤ 7) (h3 : 0 ≤ i_p0_kitchen_rules_stirs) (h4 : i_p0_kitchen_rules_stirs ≤ 5) (h5 : rows n i_p0_kitchen_rules_stirs v_p0_kitchen_rules_after) (h6 : servH n v_fr v_p0_kitchen_holders) (h7 : 0 ≤ x3) (h8 : x3 < n) (h9 : 0 ≤ x4) (h10 : x4 < n) (h11 : -2147483648 ≤ x5) (h12 : x5 < 2147483648) : wp (f_X5_firstStirInto i_p0_kitchen_rules_stirs v_p0_kitchen_rules_after v_p0_kitchen_holders x1 x3 x4 x5) (fun o => (o = -4 ∨ (0 ≤ o ∧ o < i_p0_kitchen_rules_stirs)) ∧ (fstq i_p0_kitchen_rules_stirs (gd n x5 (clF n v_fr) (clA n i_p0_kitchen_rules_stirs (fun y b => v_p0_kitchen_rules_after (y * 7 + b))) (fun k b => bl x1 (k * 7 + b) = true) x3 x4) o)) := by
  unfold f_X5_firstStirInto
  refine wp_bnd ?_
  refine wp_lq1 (fun (z2 : Int) => (0 ≤ z2) ∧ (z2 ≤ i_p0_kitchen_rules_stirs) ∧ (∀ t, 0 ≤ t → t < z2 → ¬ gd n x5 (clF n v_fr) (clA n i_p0_kitchen_rules_stirs (fun y b => v_p0_kitchen_rules_after (y * 7 + b))) (fun k b => bl x1 (k * 7 + b) = true) x3 x4 t)) (fun (z2 : Int) => (i_p0_kitchen_rules_stirs - z2).toNat) (fun again3 z2 hI ih_B_X5_firstStirInto_3 => ?_) 1000 _ ⟨(by omega) /- B_X5_firstStirInto_3.init1#1 -/, (by omega) /- B_X5_firstStirInto_3.init2#1 -/, (by intro t; omega) /- B_X5_firstStirInto_3.init3#1 -/⟩ (by omega) /- B_X5_firstStirInto_3.fuel#1 -/
  obtain ⟨i_B_X5_firstStirInto_3_1, i_B_X5_firstStirInto_3_2, i_B_X5_firstStirInto_3_3⟩ := hI
  unfold B_X5_firstStirInto_3
  refine wp_ck (z_r32_i.mpr ⟨(by omega) /- z_r32.lo z2#1 -/, (by omega) /- z_r32.hi z2#1 -/⟩) ?_
  refine wp_ck (z_r32_i.mpr ⟨(by omega) /- z_r32.lo i_p0_kitchen_rules_stirs#1 -/, (by omega) /- z_r32.hi i_p0_kitchen_rules_stirs#1 -/⟩) ?_
  refine wp_if (fun c1 => ?_) (fun c1 => ?_)
  ·
    refine wp_some ?_
    try dsimp only
    all_goals exact ⟨(by omega) /- post1#1 -/, (by exact Or.inl ⟨rfl, fun t a b => i_B_X5_firstStirInto_3_3 t a (by omega)⟩) /- post2#1 -/⟩
  ·
    refine wp_bd1 (s_X6_placeAfter _ _ _ (by omega) /- pre X6_placeAfter.1#1 -/ (by omega) /- pre X6_placeAfter.2#1 -/ (by omega) /- pre X6_placeAfter.3#1 -/ (by omega) /- pre X6_placeAfter.4#1 -/) (fun z6 q_X6_placeAfter_1 => ?_)
    try dsimp only at q_X6_placeAfter_1
    have hra := row_use h5 i_B_X5_firstStirInto_3_1 (by omega) h9 h10
    rw [← q_X6_placeAfter_1] at hra
    have hpe : z6 = (clA n i_p0_kitchen_rules_stirs (fun y b => v_p0_kitchen_rules_after (y * 7 + b))) z2 x4 := by rw [clA_in i_B_X5_firstStirInto_3_1 (by omega) h9 h10]; exact q_X6_placeAfter_1
    refine wp_bnd ?_
    refine wp_bd1 (s_X2_holderOf _ _ _ (by omega) /- pre X2_holderOf.1#1 -/ (by omega) /- pre X2_holderOf.2#1 -/ (by omega) /- pre X2_holderOf.3#1 -/ (by omega) /- pre X2_holderOf.4#1 -/) (fun z8 q_X2_holderOf_1 => ?_)
    try dsimp only at q_X2_holderOf_1
    have hho := (hold_use h6 (by omega) h7 h8 hra.1 hra.2).1
    rw [← q_X2_holderOf_1] at hho
    have hhe : z8 = hol n x3 ((clF n v_fr) x3) z6 := by
      rw [clF_in h7 h8]
      exact hol_eq (by omega) hho.1 hho.2 (by rw [q_X2_holderOf_1]; exact (hold_use h6 (by omega) h7 h8 hra.1 hra.2).2)
    have hgd := hd_ (gd_at (n := n) (same := x5) (P := (fun k b => bl x1 (k * 7 + b) = true)) hpe hhe)
    refine wp_bnd ?_
    refine wp_ck (z_r32_i.mpr ⟨(by omega) /- z_r32.lo z9#1 -/, (by omega) /- z_r32.hi z9#1 -/⟩) ?_
    refine wp_ck (z_r32_i.mpr ⟨(by omega) /- z_r32.lo x3#1 -/, (by omega) /- z_r32.hi x3#1 -/⟩) ?_
    refine wp_jn ?_
    refine wp_if (fun c2 => ?_) (fun c2 => ?_)
    ·
      refine wp_bd1 (s_X5_bitOf _ _ (by omega) /- pre X5_bitOf.1#1 -/ (by omega) /- pre X5_bitOf.2#1 -/ (by omega) /- pre X5_bitOf.3#1 -/ (by omega) /- pre X5_bitOf.4#1 -/) (fun z13 q_X5_bitOf_1 => ?_)
      try dsimp only at q_X5_bitOf_1
      have hbl : Hid (z_cmp (w_and x1 z13) 0 = 0 ↔ bl x1 (z8 * 7 + z6) = false) := hd_ (by rw [q_X5_bitOf_1]; exact bl_on (by omega) (by omega))
      refine wp_ck (z_r64_t _) ?_
      refine wp_ck (z_r32_cmp _ _) ?_
      refine wp_if (fun c3 => ?_) (fun c3 => ?_)
      ·
        refine wp_bndE (fun z16 hz16 => ?_)
        exact ih_B_X5_firstStirInto_3 _ ⟨(by omega) /- B_X5_firstStirInto_3.inv1#1 -/, (by omega) /- B_X5_firstStirInto_3.inv2#1 -/, (by intro t a b; by_cases e : t = z2; (rw [e, hid hgd]; intro w; first | omega | (have hq := (hid hbl).mp (by assumption); rw [hq] at w; exact absurd w.2 Bool.noConfusion)); exact i_B_X5_firstStirInto_3_3 t a (by omega)) /- B_X5_firstStirInto_3.inv3#1 -/⟩ (by omega) /- B_X5_firstStirInto_3.dec#1 -/
      ·
        refine wp_some ?_
        try dsimp only
        all_goals exact ⟨(by omega) /- post1#2 -/, (by refine Or.inr ⟨⟨by omega, by omega⟩, (hid hgd).mpr ⟨by omega, ?_⟩, i_B_X5_firstStirInto_3_3⟩; cases hq : bl x1 (z8 * 7 + z6); exact absurd ((hid hbl).mpr hq) (by assumption); rfl) /- post2#2 -/⟩
    ·
      refine wp_ck (z_r32_i.mpr ⟨(by omega) /- z_r32.lo x5#1 -/, (by omega) /- z_r32.hi x5#1 -/⟩) ?_
      refine wp_if (fun c4 => ?_) (fun c4 => ?_)
      ·
        refine wp_bd1 (s_X5_bitOf _ _ (by omega) /- pre X5_bitOf.1#2 -/ (by omega) /- pre X5_bitOf.2#2 -/ (by omega) /- pre X5_bitOf.3#2 -/ (by omega) /- pre X5_bitOf.4#2 -/) (fun z13 q_X5_bitOf_2 => ?_)
        try dsimp only at q_X5_bitOf_2
        have hbl : Hid (z_cmp (w_and x1 z13) 0 = 0 ↔ bl x1 (z8 * 7 + z6) = false) := hd_ (by rw [q_X5_bitOf_2]; exact bl_on (by omega) (by omega))
        refine wp_ck (z_r64_t _) ?_
        refine wp_ck (z_r32_cmp _ _) ?_
        refine wp_if (fun c5 => ?_) (fun c5 => ?_)
        ·
          refine wp_bndE (fun z16 hz16 => ?_)
          exact ih_B_X5_firstStirInto_3 _ ⟨(by omega) /- B_X5_firstStirInto_3.inv1#2 -/, (by omega) /- B_X5_firstStirInto_3.inv2#2 -/, (by intro t a b; by_cases e : t = z2; (rw [e, hid hgd]; intro w; first | omega | (have hq := (hid hbl).mp (by assumption); rw [hq] at w; exact absurd w.2 Bool.noConfusion)); exact i_B_X5_firstStirInto_3_3 t a (by omega)) /- B_X5_firstStirInto_3.inv3#2 -/⟩ (by omega) /- B_X5_firstStirInto_3.dec#2 -/
        ·
          refine wp_some ?_
          try dsimp only
          all_goals exact ⟨(by omega) /- post1#3 -/, (by refine Or.inr ⟨⟨by omega, by omega⟩, (hid hgd).mpr ⟨by omega, ?_⟩, i_B_X5_firstStirInto_3_3⟩; cases hq : bl x1 (z8 * 7 + z6); exact absurd ((hid hbl).mpr hq) (by assumption); rfl) /- post2#3 -/⟩
      ·
        refine wp_bndE (fun z18 hz18 => ?_)
        exact ih_B_X5_firstStirInto_3 _ ⟨(by omega) /- B_X5_firstStirInto_3.inv1#3 -/, (by omega) /- B_X5_firstStirInto_3.inv2#3 -/, (by intro t a b; by_cases e : t = z2; (rw [e, hid hgd]; intro w; first | omega | (have hq := (hid hbl).mp (by assumption); rw [hq] at w; exact absurd w.2 Bool.noConfusion)); exact i_B_X5_firstStirInto_3_3 t a (by omega)) /- B_X5_firstStirInto_3.inv3#3 -/⟩ (by omega) /- B_X5_firstStirInto_3.dec#3 -/

set_option maxHeartbeats 1000000 in
theorem s_X5_pairsBefore (i_p0_kitchen_rules_seats : Int) (i_p0_kitchen_rules_stirs : Int) (v_p0_kitchen_rules_after : (Int → Int)) (v_p0_kitchen_holders : (Int → Int)) (x1 : Int) (x3 : Int) (v_fr : Int → Int) (h1 : 2 ≤ i_p0_kitchen_rules_seats) (h2 : i_p0_kitchen_rules_seats ≤ 7) (h3 : 0 ≤ i_p0_kitchen_rules_stirs) (h4 : i_p0_kitchen_rules_stirs ≤ 5) (h5 : rows i_p0_kitchen_rules_seats i_p0_kitchen_rules_stirs v_p0_kitchen_rules_after) (h6 : servH i_p0_kitchen_rules_seats v_fr v_p0_kitchen_holders) (h7 : -2147483648 ≤ x3) (h8 : x3 < 2147483648) : wp (f_X5_pairsBefore i_p0_kitchen_rules_seats i_p0_kitchen_rules_stirs v_p0_kitchen_rules_after v_p0_kitchen_holders x1 x3) (fun o => (prs i_p0_kitchen_rules_seats o (ex1 i_p0_kitchen_rules_seats i_p0_kitchen_rules_stirs x3 (clF i_p0_kitchen_rules_seats v_fr) (clA i_p0_kitchen_rules_seats i_p0_kitchen_rules_stirs (fun y b => v_p0_kitchen_rules_after (y * 7 + b))) (fun k b => bl x1 (k * 7 + b) = true)))) := by
  unfold f_X5_pairsBefore
  refine wp_bnd ?_
  refine wp_bnd ?_
  refine wp_lq2 (fun (z3 : Int) (z4 : Int) => (0 ≤ z3) ∧ (z3 ≤ i_p0_kitchen_rules_seats) ∧ (prs i_p0_kitchen_rules_seats z4 (fun k b => k < z3 ∧ (ex1 i_p0_kitchen_rules_seats i_p0_kitchen_rules_stirs x3 (clF i_p0_kitchen_rules_seats v_fr) (clA i_p0_kitchen_rules_seats i_p0_kitchen_rules_stirs (fun y b => v_p0_kitchen_rules_after (y * 7 + b))) (fun k b => bl x1 (k * 7 + b) = true)) k b))) (fun (z3 : Int) (z4 : Int) => (i_p0_kitchen_rules_seats - z3).toNat) (fun again6 z3 z4 hI ih_B_X5_pairsBefore_6 => ?_) 1000 _ _ ⟨(by omega) /- B_X5_pairsBefore_6.init1#1 -/, (by omega) /- B_X5_pairsBefore_6.init2#1 -/, (by exact prs_0 (P := (ex1 i_p0_kitchen_rules_seats i_p0_kitchen_rules_stirs x3 (clF i_p0_kitchen_rules_seats v_fr) (clA i_p0_kitchen_rules_seats i_p0_kitchen_rules_stirs (fun y b => v_p0_kitchen_rules_after (y * 7 + b))) (fun k b => bl x1 (k * 7 + b) = true)))) /- B_X5_pairsBefore_6.init3#1 -/⟩ (by omega) /- B_X5_pairsBefore_6.fuel#1 -/
  obtain ⟨i_B_X5_pairsBefore_6_1, i_B_X5_pairsBefore_6_2, i_B_X5_pairsBefore_6_3⟩ := hI
  unfold B_X5_pairsBefore_6
  refine wp_ck (z_r32_i.mpr ⟨(by omega) /- z_r32.lo z3#1 -/, (by omega) /- z_r32.hi z3#1 -/⟩) ?_
  refine wp_ck (z_r32_i.mpr ⟨(by omega) /- z_r32.lo i_p0_kitchen_rules_seats#1 -/, (by omega) /- z_r32.hi i_p0_kitchen_rules_seats#1 -/⟩) ?_
  refine wp_if (fun c1 => ?_) (fun c1 => ?_)
  ·
    refine wp_some ?_
    try dsimp only
    all_goals exact (by exact prs_end (P := (ex1 i_p0_kitchen_rules_seats i_p0_kitchen_rules_stirs x3 (clF i_p0_kitchen_rules_seats v_fr) (clA i_p0_kitchen_rules_seats i_p0_kitchen_rules_stirs (fun y b => v_p0_kitchen_rules_after (y * 7 + b))) (fun k b => bl x1 (k * 7 + b) = true))) i_B_X5_pairsBefore_6_3 (by omega)) /- post1#1 -/
  ·
    refine wp_bnd ?_
    refine wp_lq2 (fun (z9 : Int) (z10 : Int) => (0 ≤ z9) ∧ (z9 ≤ i_p0_kitchen_rules_seats) ∧ (prs i_p0_kitchen_rules_seats z10 (fun k b => (k < z3 ∨ (k = z3 ∧ b < z9)) ∧ (ex1 i_p0_kitchen_rules_seats i_p0_kitchen_rules_stirs x3 (clF i_p0_kitchen_rules_seats v_fr) (clA i_p0_kitchen_rules_seats i_p0_kitchen_rules_stirs (fun y b => v_p0_kitchen_rules_after (y * 7 + b))) (fun k b => bl x1 (k * 7 + b) = true)) k b))) (fun (z9 : Int) (z10 : Int) => (i_p0_kitchen_rules_seats - z9).toNat) (fun again24 z9 z10 hI ih_B_X5_pairsBefore_24 => ?_) 1000 _ _ ⟨(by omega) /- B_X5_pairsBefore_24.init1#1 -/, (by omega) /- B_X5_pairsBefore_24.init2#1 -/, (by exact prs_in (P := (ex1 i_p0_kitchen_rules_seats i_p0_kitchen_rules_stirs x3 (clF i_p0_kitchen_rules_seats v_fr) (clA i_p0_kitchen_rules_seats i_p0_kitchen_rules_stirs (fun y b => v_p0_kitchen_rules_after (y * 7 + b))) (fun k b => bl x1 (k * 7 + b) = true))) i_B_X5_pairsBefore_6_3) /- B_X5_pairsBefore_24.init3#1 -/⟩ (by omega) /- B_X5_pairsBefore_24.fuel#1 -/
    obtain ⟨i_B_X5_pairsBefore_24_1, i_B_X5_pairsBefore_24_2, i_B_X5_pairsBefore_24_3⟩ := hI
    unfold B_X5_pairsBefore_24
    refine wp_ck (z_r32_i.mpr ⟨(by omega) /- z_r32.lo z9#1 -/, (by omega) /- z_r32.hi z9#1 -/⟩) ?_
    refine wp_if (fun c2 => ?_) (fun c2 => ?_)
    ·
      refine wp_bndE (fun z13 hz13 => ?_)
      exact ih_B_X5_pairsBefore_6 _ _ ⟨(by omega) /- B_X5_pairsBefore_6.inv1#1 -/, (by omega) /- B_X5_pairsBefore_6.inv2#1 -/, (by rw [hz13]; exact prs_out (P := (ex1 i_p0_kitchen_rules_seats i_p0_kitchen_rules_stirs x3 (clF i_p0_kitchen_rules_seats v_fr) (clA i_p0_kitchen_rules_seats i_p0_kitchen_rules_stirs (fun y b => v_p0_kitchen_rules_after (y * 7 + b))) (fun k b => bl x1 (k * 7 + b) = true))) i_B_X5_pairsBefore_24_3 (by omega)) /- B_X5_pairsBefore_6.inv3#1 -/⟩ (by omega) /- B_X5_pairsBefore_6.dec#1 -/
    ·
      refine wp_bd1 (s_X5_firstStirInto _ _ _ _ _ _ _ v_fr i_p0_kitchen_rules_seats (by omega) /- pre X5_firstStirInto.1#1 -/ (by omega) /- pre X5_firstStirInto.2#1 -/ (by omega) /- pre X5_firstStirInto.3#1 -/ (by omega) /- pre X5_firstStirInto.4#1 -/ (by exact h5) /- pre X5_firstStirInto.5#1 -/ (by exact h6) /- pre X5_firstStirInto.6#1 -/ (by omega) /- pre X5_firstStirInto.7#1 -/ (by omega) /- pre X5_firstStirInto.8#1 -/ (by omega) /- pre X5_firstStirInto.9#1 -/ (by omega) /- pre X5_firstStirInto.10#1 -/ (by omega) /- pre X5_firstStirInto.11#1 -/ (by omega) /- pre X5_firstStirInto.12#1 -/) (fun z14 q_X5_firstStirInto_1 => ?_)
      try dsimp only at q_X5_firstStirInto_1
      obtain ⟨q_X5_firstStirInto_1_1, q_X5_firstStirInto_1_2⟩ := q_X5_firstStirInto_1
      refine wp_ck (z_r32_i.mpr ⟨(by omega) /- z_r32.lo z14#1 -/, (by omega) /- z_r32.hi z14#1 -/⟩) ?_
      refine wp_if (fun c3 => ?_) (fun c3 => ?_)
      ·
        refine wp_bndE (fun z16 hz16 => ?_)
        exact ih_B_X5_pairsBefore_24 _ _ ⟨(by omega) /- B_X5_pairsBefore_24.inv1#1 -/, (by omega) /- B_X5_pairsBefore_24.inv2#1 -/, (by rw [hz16]; exact prs_no (P := (ex1 i_p0_kitchen_rules_seats i_p0_kitchen_rules_stirs x3 (clF i_p0_kitchen_rules_seats v_fr) (clA i_p0_kitchen_rules_seats i_p0_kitchen_rules_stirs (fun y b => v_p0_kitchen_rules_after (y * 7 + b))) (fun k b => bl x1 (k * 7 + b) = true))) i_B_X5_pairsBefore_24_3 (fun w => (fst_ex q_X5_firstStirInto_1_2).mpr w (by assumption))) /- B_X5_pairsBefore_24.inv3#1 -/⟩ (by omega) /- B_X5_pairsBefore_24.dec#1 -/
      ·
        refine wp_bd1 (s_X5_bitOf _ _ (by omega) /- pre X5_bitOf.1#1 -/ (by omega) /- pre X5_bitOf.2#1 -/ (by omega) /- pre X5_bitOf.3#1 -/ (by omega) /- pre X5_bitOf.4#1 -/) (fun z17 q_X5_bitOf_1 => ?_)
        try dsimp only at q_X5_bitOf_1
        refine wp_bndE (fun z18 hz18 => ?_)
        refine wp_bndE (fun z19 hz19 => ?_)
        exact ih_B_X5_pairsBefore_24 _ _ ⟨(by omega) /- B_X5_pairsBefore_24.inv1#2 -/, (by omega) /- B_X5_pairsBefore_24.inv2#2 -/, (by rw [hz18, hz19, q_X5_bitOf_1]; exact prs_or (P := (ex1 i_p0_kitchen_rules_seats i_p0_kitchen_rules_stirs x3 (clF i_p0_kitchen_rules_seats v_fr) (clA i_p0_kitchen_rules_seats i_p0_kitchen_rules_stirs (fun y b => v_p0_kitchen_rules_after (y * 7 + b))) (fun k b => bl x1 (k * 7 + b) = true))) h2 (by omega) (by omega) (by omega) (by omega) i_B_X5_pairsBefore_24_3 ((fst_ex q_X5_firstStirInto_1_2).mp (by assumption))) /- B_X5_pairsBefore_24.inv3#2 -/⟩ (by omega) /- B_X5_pairsBefore_24.dec#2 -/

set_option maxHeartbeats 1000000 in
theorem s_X5_isGoodNow (i_p0_kitchen_state_bone : Int) (i_p0_kitchen_state_king : Int) (v_p0_good : (Int → Int)) (x1 : Int) (h1 : 0 ≤ i_p0_kitchen_state_bone) (h2 : i_p0_kitchen_state_bone < 7) (h3 : 0 ≤ i_p0_kitchen_state_king) (h4 : i_p0_kitchen_state_king < 7) (h5 : 0 ≤ x1) (h6 : x1 < 11) : wp (f_X5_isGoodNow i_p0_kitchen_state_bone i_p0_kitchen_state_king v_p0_good x1) (fun o => (o = 0 ∨ o = 1) ∧ (Hid (o = 0 ↔ ¬ bl (v_p0_good x1) (i_p0_kitchen_state_king * 7 + i_p0_kitchen_state_bone) = true))) := by
  unfold f_X5_isGoodNow
  refine wp_ck (z_ix_i.mpr ⟨⟨(by omega) /- ix.lo x1#1 -/, (by omega) /- ix.hi x1#1 -/⟩, (by omega) /- ix.big x1#1 -/⟩) ?_
  refine wp_bd1 (s_X5_bitOf _ _ (by omega) /- pre X5_bitOf.1#1 -/ (by omega) /- pre X5_bitOf.2#1 -/ (by omega) /- pre X5_bitOf.3#1 -/ (by omega) /- pre X5_bitOf.4#1 -/) (fun z1 q_X5_bitOf_1 => ?_)
  try dsimp only at q_X5_bitOf_1
  have hbl : Hid (z_cmp (w_and (v_p0_good x1) z1) 0 = 0 ↔ bl (v_p0_good x1) (i_p0_kitchen_state_king * 7 + i_p0_kitchen_state_bone) = false) := hd_ (by rw [q_X5_bitOf_1]; exact bl_on (by omega) (by omega))
  refine wp_ck (z_r64_t _) ?_
  refine wp_ck (z_r32_cmp _ _) ?_
  refine wp_if (fun c1 => ?_) (fun c1 => ?_)
  ·
    refine wp_some ?_
    try dsimp only
    all_goals exact ⟨(by omega) /- post1#1 -/, (by unfold Hid; rw [(hid hbl).mp (by assumption)]; exact ⟨fun _ => Bool.noConfusion, fun _ => rfl⟩) /- post2#1 -/⟩
  ·
    refine wp_some ?_
    try dsimp only
    all_goals exact ⟨(by omega) /- post1#2 -/, (by unfold Hid; refine ⟨fun w => by omega, fun w => ?_⟩; cases hq : bl (v_p0_good x1) (i_p0_kitchen_state_king * 7 + i_p0_kitchen_state_bone); exact absurd ((hid hbl).mpr hq) (by assumption); exact absurd hq w) /- post2#2 -/⟩

set_option maxHeartbeats 1000000 in
theorem s_X5_tellRow (i_p0_kitchen_rules_stirs : Int) (v_p0_kitchen_rules_after : (Int → Int)) (i_p0_kitchen_state_bone : Int) (i_p0_kitchen_state_king : Int) (v_p0_kitchen_holders : (Int → Int)) (v_p0_good : (Int → Int)) (v_p0_row : (Int → Int)) (x1 : Int) (x2 : Int) (v_fr : Int → Int) (n : Int) (Qf : Int → Prop) (h1 : 2 ≤ n) (h2 : n ≤ 7) (h3 : 0 ≤ i_p0_kitchen_rules_stirs) (h4 : i_p0_kitchen_rules_stirs ≤ 5) (h5 : rows n i_p0_kitchen_rules_stirs v_p0_kitchen_rules_after) (h6 : servH n v_fr v_p0_kitchen_holders) (h7 : 0 ≤ i_p0_kitchen_state_bone) (h8 : i_p0_kitchen_state_bone < n) (h9 : 0 ≤ i_p0_kitchen_state_king) (h10 : i_p0_kitchen_state_king < n) (h11 : 0 ≤ x1) (h12 : x1 ≤ 10) (h13 : -2147483648 ≤ x2) (h14 : x2 < 2147483648) (h15 : gds n i_p0_kitchen_rules_stirs x2 (clF n v_fr) (clA n i_p0_kitchen_rules_stirs (fun y b => v_p0_kitchen_rules_after (y * 7 + b))) Qf v_p0_good x1) (h16 : can n i_p0_kitchen_rules_stirs x2 (clF n v_fr) (clA n i_p0_kitchen_rules_stirs (fun y b => v_p0_kitchen_rules_after (y * 7 + b))) Qf x1.toNat i_p0_kitchen_state_king i_p0_kitchen_state_bone) : wp (f_X5_tellRow i_p0_kitchen_rules_stirs v_p0_kitchen_rules_after i_p0_kitchen_state_bone i_p0_kitchen_state_king v_p0_kitchen_holders v_p0_good v_p0_row x1 x2) (fun o => (∀ j, 0 ≤ j → j < 10 → (-4 ≤ v_p0_row j ∧ v_p0_row j < 5) → -4 ≤ o j ∧ o j < 5) ∧ (∀ i, 0 ≤ i → i < x1 → o i = prow n i_p0_kitchen_rules_stirs x2 (clF n v_fr) (clA n i_p0_kitchen_rules_stirs (fun y b => v_p0_kitchen_rules_after (y * 7 + b))) Qf x1.toNat i_p0_kitchen_state_king i_p0_kitchen_state_bone i.toNat)) := by
  unfold f_X5_tellRow
  have hA := clA_rng (n := n) (s := i_p0_kitchen_rules_stirs) (A := fun y b => v_p0_kitchen_rules_after (y * 7 + b)) (by omega) (fun t b t0 t1 b0 b1 => row_use h5 t0 t1 b0 b1)
  refine wp_bnd ?_
  refine wp_bnd ?_
  refine wp_bnd ?_
  refine wp_lq4 (fun (z4 : Int) (z5 : Int) (z6 : Int) (w7 : (Int → Int)) => (0 ≤ z4) ∧ (z4 ≤ x1) ∧ (0 ≤ z5 ∧ z5 < n) ∧ (0 ≤ z6 ∧ z6 < n) ∧ (∀ j, 0 ≤ j → j < 10 → (-4 ≤ v_p0_row j ∧ v_p0_row j < 5) → -4 ≤ w7 j ∧ w7 j < 5) ∧ (pst n i_p0_kitchen_rules_stirs x2 (clF n v_fr) (clA n i_p0_kitchen_rules_stirs (fun y b => v_p0_kitchen_rules_after (y * 7 + b))) Qf x1.toNat i_p0_kitchen_state_king i_p0_kitchen_state_bone z4.toNat = (z6, z5)) ∧ (can n i_p0_kitchen_rules_stirs x2 (clF n v_fr) (clA n i_p0_kitchen_rules_stirs (fun y b => v_p0_kitchen_rules_after (y * 7 + b))) Qf (x1 - z4).toNat z6 z5) ∧ (∀ i, 0 ≤ i → i < z4 → w7 i = prow n i_p0_kitchen_rules_stirs x2 (clF n v_fr) (clA n i_p0_kitchen_rules_stirs (fun y b => v_p0_kitchen_rules_after (y * 7 + b))) Qf x1.toNat i_p0_kitchen_state_king i_p0_kitchen_state_bone i.toNat)) (fun (z4 : Int) (z5 : Int) (z6 : Int) (w7 : (Int → Int)) => (x1 - z4).toNat) (fun again26 z4 z5 z6 w7 hI ih_B_X5_tellRow_26 => ?_) 1000 _ _ _ _ ⟨(by omega) /- B_X5_tellRow_26.init1#1 -/, (by omega) /- B_X5_tellRow_26.init2#1 -/, (by omega) /- B_X5_tellRow_26.init3#1 -/, (by omega) /- B_X5_tellRow_26.init4#1 -/, (by intro j _ _ h; exact h) /- B_X5_tellRow_26.init5#1 -/, (by rfl) /- B_X5_tellRow_26.init6#1 -/, (by rw [show x1 - 0 = x1 from by omega]; exact h16) /- B_X5_tellRow_26.init7#1 -/, (by intro i; omega) /- B_X5_tellRow_26.init8#1 -/⟩ (by omega) /- B_X5_tellRow_26.fuel#1 -/
  obtain ⟨i_B_X5_tellRow_26_1, i_B_X5_tellRow_26_2, i_B_X5_tellRow_26_3, i_B_X5_tellRow_26_4, i_B_X5_tellRow_26_5, i_B_X5_tellRow_26_6, i_B_X5_tellRow_26_7, i_B_X5_tellRow_26_8⟩ := hI
  unfold B_X5_tellRow_26
  refine wp_ck (z_r32_i.mpr ⟨(by omega) /- z_r32.lo z4#1 -/, (by omega) /- z_r32.hi z4#1 -/⟩) ?_
  refine wp_ck (z_r32_i.mpr ⟨(by omega) /- z_r32.lo x1#1 -/, (by omega) /- z_r32.hi x1#1 -/⟩) ?_
  refine wp_if (fun c1 => ?_) (fun c1 => ?_)
  ·
    refine wp_some ?_
    try dsimp only
    all_goals exact ⟨(by exact i_B_X5_tellRow_26_5) /- post1#1 -/, (by intro i a b; exact i_B_X5_tellRow_26_8 i a (by omega)) /- post2#1 -/⟩
  ·
    refine wp_ck (z_ix_i.mpr ⟨⟨(by omega) /- ix.lo ((x1 - (1 : Int)) - z4)#1 -/, (by omega) /- ix.hi ((x1 - (1 : Int)) - z4)#1 -/⟩, (by omega) /- ix.big ((x1 - (1 : Int)) - z4)#1 -/⟩) ?_
    refine wp_bd1 (s_X5_firstStirInto _ _ _ _ _ _ _ v_fr n (by omega) /- pre X5_firstStirInto.1#1 -/ (by omega) /- pre X5_firstStirInto.2#1 -/ (by omega) /- pre X5_firstStirInto.3#1 -/ (by omega) /- pre X5_firstStirInto.4#1 -/ (by exact h5) /- pre X5_firstStirInto.5#1 -/ (by exact h6) /- pre X5_firstStirInto.6#1 -/ (by omega) /- pre X5_firstStirInto.7#1 -/ (by omega) /- pre X5_firstStirInto.8#1 -/ (by omega) /- pre X5_firstStirInto.9#1 -/ (by omega) /- pre X5_firstStirInto.10#1 -/ (by omega) /- pre X5_firstStirInto.11#1 -/ (by omega) /- pre X5_firstStirInto.12#1 -/) (fun z11 q_X5_firstStirInto_1 => ?_)
    try dsimp only at q_X5_firstStirInto_1
    obtain ⟨q_X5_firstStirInto_1_1, q_X5_firstStirInto_1_2⟩ := q_X5_firstStirInto_1
    have hgo := day_go (d := (x1 - 1 - z4).toNat) (by rw [show (x1 - 1 - z4).toNat + 1 = (x1 - z4).toNat from by omega]; exact i_B_X5_tellRow_26_7) (day_gb (by omega) hA (h15 (x1 - 1 - z4) (by omega) (by omega)) q_X5_firstStirInto_1_2)
    have hst := hgo.1
    refine wp_bnd ?_
    refine wp_bd1 (s_X6_hasStir _ _ (by omega) /- pre X6_hasStir.1#1 -/ (by omega) /- pre X6_hasStir.2#1 -/ (by omega) /- pre X6_hasStir.3#1 -/ (by omega) /- pre X6_hasStir.4#1 -/) (fun z13 q_X6_hasStir_1 => ?_)
    try dsimp only at q_X6_hasStir_1
    refine wp_ck (z_r32_i.mpr ⟨(by omega) /- z_r32.lo z13#1 -/, (by omega) /- z_r32.hi z13#1 -/⟩) ?_
    refine wp_if (fun c2 => ?_) (fun c2 => ?_)
    ·
      refine wp_some ?_
      try dsimp only
      all_goals exact ⟨(by exact i_B_X5_tellRow_26_5) /- post1#2 -/, (by exfalso; split at q_X6_hasStir_1 <;> omega) /- post2#2 -/⟩
    ·
      refine wp_ck (z_ix_i.mpr ⟨⟨(by omega) /- ix.lo z4#1 -/, (by omega) /- ix.hi z4#1 -/⟩, (by omega) /- ix.big z4#1 -/⟩) ?_
      refine wp_bnd ?_
      refine wp_bd1 (s_X6_placeAfter _ _ _ (by omega) /- pre X6_placeAfter.1#1 -/ (by omega) /- pre X6_placeAfter.2#1 -/ (by omega) /- pre X6_placeAfter.3#1 -/ (by omega) /- pre X6_placeAfter.4#1 -/) (fun z16 q_X6_placeAfter_1 => ?_)
      try dsimp only at q_X6_placeAfter_1
      have hra := row_use h5 hst.1 hst.2 i_B_X5_tellRow_26_3.1 i_B_X5_tellRow_26_3.2
      rw [← q_X6_placeAfter_1] at hra
      have hpe : z16 = (clA n i_p0_kitchen_rules_stirs (fun y b => v_p0_kitchen_rules_after (y * 7 + b))) z11 z5 := by rw [clA_in hst.1 hst.2 i_B_X5_tellRow_26_3.1 i_B_X5_tellRow_26_3.2]; exact q_X6_placeAfter_1
      refine wp_bnd ?_
      refine wp_bd1 (s_X2_holderOf _ _ _ (by omega) /- pre X2_holderOf.1#1 -/ (by omega) /- pre X2_holderOf.2#1 -/ (by omega) /- pre X2_holderOf.3#1 -/ (by omega) /- pre X2_holderOf.4#1 -/) (fun z18 q_X2_holderOf_1 => ?_)
      try dsimp only at q_X2_holderOf_1
      have hho := (hold_use h6 (by omega) i_B_X5_tellRow_26_4.1 i_B_X5_tellRow_26_4.2 hra.1 hra.2).1
      rw [← q_X2_holderOf_1] at hho
      have hhe : z18 = hol n z6 ((clF n v_fr) z6) z16 := by
        rw [clF_in i_B_X5_tellRow_26_4.1 i_B_X5_tellRow_26_4.2]
        exact hol_eq (by omega) hho.1 hho.2 (by rw [q_X2_holderOf_1]; exact (hold_use h6 (by omega) i_B_X5_tellRow_26_4.1 i_B_X5_tellRow_26_4.2 hra.1 hra.2).2)
      have hps := pst_s i_B_X5_tellRow_26_6 (by rw [show x1.toNat - 1 - z4.toNat = (x1 - 1 - z4).toNat from by omega]; exact hgo.2.1) hpe hhe
      refine wp_bnd ?_
      refine wp_bndE (fun z20 hz20 => ?_)
      exact ih_B_X5_tellRow_26 _ _ _ _ ⟨(by omega) /- B_X5_tellRow_26.inv1#1 -/, (by omega) /- B_X5_tellRow_26.inv2#1 -/, (by omega) /- B_X5_tellRow_26.inv3#1 -/, (by omega) /- B_X5_tellRow_26.inv4#1 -/, (by intro j a b c; rw [z_up_a]; split; omega; exact i_B_X5_tellRow_26_5 j a b c) /- B_X5_tellRow_26.inv5#1 -/, (by rw [show z20.toNat = z4.toNat + 1 from by omega]; exact hps.1) /- B_X5_tellRow_26.inv6#1 -/, (by rw [show (x1 - z20).toNat = (x1 - 1 - z4).toNat from by omega]; have w := hgo.2.2; rw [← hpe, ← hhe] at w; exact w) /- B_X5_tellRow_26.inv7#1 -/, (by intro i a b; rw [z_up_a]; split; (rename_i e; rw [e]; exact hps.2); exact i_B_X5_tellRow_26_8 i a (by omega)) /- B_X5_tellRow_26.inv8#1 -/⟩ (by omega) /- B_X5_tellRow_26.dec#1 -/

set_option maxHeartbeats 1000000 in
theorem s_X5_planReign (i_p0_kitchen_rules_seats : Int) (i_p0_kitchen_rules_stirs : Int) (v_p0_kitchen_rules_after : (Int → Int)) (i_p0_kitchen_state_bone : Int) (i_p0_kitchen_state_king : Int) (v_p0_kitchen_state_friends : (Int → Int)) (v_p0_kitchen_places : (Int → Int)) (v_p0_kitchen_holders : (Int → Int)) (v_p0_good : (Int → Int)) (v_p0_row : (Int → Int)) (x1 : Int) (h1 : 2 ≤ i_p0_kitchen_rules_seats) (h2 : i_p0_kitchen_rules_seats ≤ 7) (h3 : 0 ≤ i_p0_kitchen_rules_stirs) (h4 : i_p0_kitchen_rules_stirs ≤ 5) (h5 : rows i_p0_kitchen_rules_seats i_p0_kitchen_rules_stirs v_p0_kitchen_rules_after) (h6 : 0 ≤ i_p0_kitchen_state_bone) (h7 : i_p0_kitchen_state_bone < i_p0_kitchen_rules_seats) (h8 : 0 ≤ i_p0_kitchen_state_king) (h9 : i_p0_kitchen_state_king < i_p0_kitchen_rules_seats) (h10 : 1 ≤ x1) (h11 : x1 ≤ 10) (h12 : ∀ j, 0 ≤ j → j < 10 → -4 ≤ v_p0_row j ∧ v_p0_row j < 5) : wp (f_X5_planReign i_p0_kitchen_rules_seats i_p0_kitchen_rules_stirs v_p0_kitchen_rules_after i_p0_kitchen_state_bone i_p0_kitchen_state_king v_p0_kitchen_state_friends v_p0_kitchen_places v_p0_kitchen_holders v_p0_good v_p0_row x1) (fun o => (0 ≤ o.1 ∧ o.1 ≤ 10) ∧ (∀ j, 0 ≤ j → j < 10 → -4 ≤ o.2.2.2.2 j ∧ o.2.2.2.2 j < 5) ∧ (mostd (fun d => can i_p0_kitchen_rules_seats i_p0_kitchen_rules_stirs 1 (clF i_p0_kitchen_rules_seats v_p0_kitchen_state_friends) (clA i_p0_kitchen_rules_seats i_p0_kitchen_rules_stirs (fun y b => v_p0_kitchen_rules_after (y * 7 + b))) (fun _ => True) d i_p0_kitchen_state_king i_p0_kitchen_state_bone) (x1 + 1) o.1) ∧ (∀ i, 0 ≤ i → i < o.1 → o.2.2.2.2 i = prow i_p0_kitchen_rules_seats i_p0_kitchen_rules_stirs 1 (clF i_p0_kitchen_rules_seats v_p0_kitchen_state_friends) (clA i_p0_kitchen_rules_seats i_p0_kitchen_rules_stirs (fun y b => v_p0_kitchen_rules_after (y * 7 + b))) (fun _ => True) o.1.toNat i_p0_kitchen_state_king i_p0_kitchen_state_bone i.toNat)) := by
  unfold f_X5_planReign
  have hA := clA_rng (n := i_p0_kitchen_rules_seats) (s := i_p0_kitchen_rules_stirs) (A := fun y b => v_p0_kitchen_rules_after (y * 7 + b)) (by omega) (fun t b t0 t1 b0 b1 => row_use h5 t0 t1 b0 b1)
  refine wp_bd2 (s_X2_serveAllKings _ _ _ _ (by omega) /- pre X2_serveAllKings.1#1 -/ (by omega) /- pre X2_serveAllKings.2#1 -/) (fun w1 w2 q_X2_serveAllKings_1 => ?_)
  try dsimp only at q_X2_serveAllKings_1
  obtain ⟨q_X2_serveAllKings_1_1, q_X2_serveAllKings_1_2⟩ := q_X2_serveAllKings_1
  refine wp_bd1 (s_X5_allPairs _ (by omega) /- pre X5_allPairs.1#1 -/ (by omega) /- pre X5_allPairs.2#1 -/) (fun z3 q_X5_allPairs_1 => ?_)
  try dsimp only at q_X5_allPairs_1
  refine wp_ck (z_ix_i.mpr ⟨⟨(by omega) /- ix.lo (0 : Int)#1 -/, (by omega) /- ix.hi (0 : Int)#1 -/⟩, (by omega) /- ix.big (0 : Int)#1 -/⟩) ?_
  refine wp_bnd ?_
  refine wp_bnd ?_
  refine wp_bnd ?_
  refine wp_jn ?_
  refine wp_lq3 (fun (z11 : Int) (z12 : Int) (w13 : (Int → Int)) => (1 ≤ z11) ∧ (z11 ≤ x1 + 1) ∧ (0 ≤ z12) ∧ (z12 ≤ x1) ∧ (gds i_p0_kitchen_rules_seats i_p0_kitchen_rules_stirs 1 (clF i_p0_kitchen_rules_seats v_p0_kitchen_state_friends) (clA i_p0_kitchen_rules_seats i_p0_kitchen_rules_stirs (fun y b => v_p0_kitchen_rules_after (y * 7 + b))) (fun _ => True) w13 z11) ∧ (mostd (fun d => can i_p0_kitchen_rules_seats i_p0_kitchen_rules_stirs 1 (clF i_p0_kitchen_rules_seats v_p0_kitchen_state_friends) (clA i_p0_kitchen_rules_seats i_p0_kitchen_rules_stirs (fun y b => v_p0_kitchen_rules_after (y * 7 + b))) (fun _ => True) d i_p0_kitchen_state_king i_p0_kitchen_state_bone) (z11) z12)) (fun (z11 : Int) (z12 : Int) (w13 : (Int → Int)) => (x1 + 1 - z11).toNat) (fun again21 z11 z12 w13 hI ih_B_X5_planReign_21 => ?_) 1000 _ _ _ ⟨(by omega) /- B_X5_planReign_21.init1#1 -/, (by omega) /- B_X5_planReign_21.init2#1 -/, (by omega) /- B_X5_planReign_21.init3#1 -/, (by omega) /- B_X5_planReign_21.init4#1 -/, (by exact gds_1 q_X5_allPairs_1) /- B_X5_planReign_21.init5#1 -/, (by exact mostd_1 trivial) /- B_X5_planReign_21.init6#1 -/⟩ (by omega) /- B_X5_planReign_21.fuel#1 -/
  obtain ⟨i_B_X5_planReign_21_1, i_B_X5_planReign_21_2, i_B_X5_planReign_21_3, i_B_X5_planReign_21_4, i_B_X5_planReign_21_5, i_B_X5_planReign_21_6⟩ := hI
  unfold B_X5_planReign_21
  refine wp_ck (z_r32_i.mpr ⟨(by omega) /- z_r32.lo z11#1 -/, (by omega) /- z_r32.hi z11#1 -/⟩) ?_
  refine wp_ck (z_r32_i.mpr ⟨(by omega) /- z_r32.lo x1#1 -/, (by omega) /- z_r32.hi x1#1 -/⟩) ?_
  refine wp_if (fun c1 => ?_) (fun c1 => ?_)
  ·
    refine wp_bd1 (s_X5_tellRow _ _ _ _ _ _ _ _ _ v_p0_kitchen_state_friends i_p0_kitchen_rules_seats (fun _ => True) (by omega) /- pre X5_tellRow.1#1 -/ (by omega) /- pre X5_tellRow.2#1 -/ (by omega) /- pre X5_tellRow.3#1 -/ (by omega) /- pre X5_tellRow.4#1 -/ (by exact h5) /- pre X5_tellRow.5#1 -/ (by exact q_X2_serveAllKings_1_2) /- pre X5_tellRow.6#1 -/ (by omega) /- pre X5_tellRow.7#1 -/ (by omega) /- pre X5_tellRow.8#1 -/ (by omega) /- pre X5_tellRow.9#1 -/ (by omega) /- pre X5_tellRow.10#1 -/ (by omega) /- pre X5_tellRow.11#1 -/ (by omega) /- pre X5_tellRow.12#1 -/ (by omega) /- pre X5_tellRow.13#1 -/ (by omega) /- pre X5_tellRow.14#1 -/ (by intro d a b; have := i_B_X5_planReign_21_6.1; exact i_B_X5_planReign_21_5 d a (by omega)) /- pre X5_tellRow.15#1 -/ (by exact i_B_X5_planReign_21_6.2.1) /- pre X5_tellRow.16#1 -/) (fun w10 q_X5_tellRow_1 => ?_)
    try dsimp only at q_X5_tellRow_1
    obtain ⟨q_X5_tellRow_1_1, q_X5_tellRow_1_2⟩ := q_X5_tellRow_1
    refine wp_some ?_
    try dsimp only
    all_goals exact ⟨(by omega) /- post1#1 -/, (by intro j a b; exact q_X5_tellRow_1_1 j a b (h12 j a b)) /- post2#1 -/, (by rw [show x1 + 1 = z11 from by omega]; exact i_B_X5_planReign_21_6) /- post3#1 -/, (by exact q_X5_tellRow_1_2) /- post4#1 -/⟩
  ·
    refine wp_ck (z_ix_i.mpr ⟨⟨(by omega) /- ix.lo (z11 - (1 : Int))#1 -/, (by omega) /- ix.hi (z11 - (1 : Int))#1 -/⟩, (by omega) /- ix.big (z11 - (1 : Int))#1 -/⟩) ?_
    refine wp_bd1 (s_X5_pairsBefore _ _ _ _ _ _ v_p0_kitchen_state_friends (by omega) /- pre X5_pairsBefore.1#1 -/ (by omega) /- pre X5_pairsBefore.2#1 -/ (by omega) /- pre X5_pairsBefore.3#1 -/ (by omega) /- pre X5_pairsBefore.4#1 -/ (by exact h5) /- pre X5_pairsBefore.5#1 -/ (by exact q_X2_serveAllKings_1_2) /- pre X5_pairsBefore.6#1 -/ (by omega) /- pre X5_pairsBefore.7#1 -/ (by omega) /- pre X5_pairsBefore.8#1 -/) (fun z17 q_X5_pairsBefore_1 => ?_)
    try dsimp only at q_X5_pairsBefore_1
    have hgs := gds_up (by omega) hA i_B_X5_planReign_21_1 i_B_X5_planReign_21_5 q_X5_pairsBefore_1
    have hnow := hgs z11 (by omega) (by omega) i_p0_kitchen_state_king i_p0_kitchen_state_bone h8 h9 h6 h7
    refine wp_ck (z_ix_i.mpr ⟨⟨(by omega) /- ix.lo z11#1 -/, (by omega) /- ix.hi z11#1 -/⟩, (by omega) /- ix.big z11#1 -/⟩) ?_
    refine wp_bnd ?_
    refine wp_bd1 (s_X5_isGoodNow _ _ _ _ (by omega) /- pre X5_isGoodNow.1#1 -/ (by omega) /- pre X5_isGoodNow.2#1 -/ (by omega) /- pre X5_isGoodNow.3#1 -/ (by omega) /- pre X5_isGoodNow.4#1 -/ (by omega) /- pre X5_isGoodNow.5#1 -/ (by omega) /- pre X5_isGoodNow.6#1 -/) (fun z19 q_X5_isGoodNow_1 => ?_)
    try dsimp only at q_X5_isGoodNow_1
    obtain ⟨q_X5_isGoodNow_1_1, q_X5_isGoodNow_1_2⟩ := q_X5_isGoodNow_1
    refine wp_ck (z_r32_i.mpr ⟨(by omega) /- z_r32.lo z19#1 -/, (by omega) /- z_r32.hi z19#1 -/⟩) ?_
    refine wp_if (fun c2 => ?_) (fun c2 => ?_)
    ·
      refine wp_bndE (fun z21 hz21 => ?_)
      exact ih_B_X5_planReign_21 _ _ _ ⟨(by omega) /- B_X5_planReign_21.inv1#1 -/, (by omega) /- B_X5_planReign_21.inv2#1 -/, (by omega) /- B_X5_planReign_21.inv3#1 -/, (by omega) /- B_X5_planReign_21.inv4#1 -/, (by first | (rw [hz21]; exact hgs) | (rw [hz23]; exact hgs)) /- B_X5_planReign_21.inv5#1 -/, (by rw [hz21]; exact mostd_no i_B_X5_planReign_21_6 (fun w => (hid q_X5_isGoodNow_1_2).mp (by assumption) (hnow.mpr w))) /- B_X5_planReign_21.inv6#1 -/⟩ (by omega) /- B_X5_planReign_21.dec#1 -/
    ·
      refine wp_bnd ?_
      refine wp_bndE (fun z23 hz23 => ?_)
      exact ih_B_X5_planReign_21 _ _ _ ⟨(by omega) /- B_X5_planReign_21.inv1#2 -/, (by omega) /- B_X5_planReign_21.inv2#2 -/, (by omega) /- B_X5_planReign_21.inv3#2 -/, (by omega) /- B_X5_planReign_21.inv4#2 -/, (by first | (rw [hz21]; exact hgs) | (rw [hz23]; exact hgs)) /- B_X5_planReign_21.inv5#2 -/, (by rw [hz23]; exact mostd_yes (by omega) (hnow.mp (Classical.byContradiction (fun w => (by assumption : ¬ _ = _) ((hid q_X5_isGoodNow_1_2).mpr w))))) /- B_X5_planReign_21.inv6#2 -/⟩ (by omega) /- B_X5_planReign_21.dec#2 -/

set_option maxHeartbeats 1000000 in
theorem s_X5_planRaise (i_p0_kitchen_rules_seats : Int) (i_p0_kitchen_rules_stirs : Int) (v_p0_kitchen_rules_after : (Int → Int)) (i_p0_kitchen_state_bone : Int) (i_p0_kitchen_state_king : Int) (v_p0_kitchen_state_friends : (Int → Int)) (v_p0_kitchen_places : (Int → Int)) (v_p0_kitchen_holders : (Int → Int)) (v_p0_good : (Int → Int)) (v_p0_row : (Int → Int)) (x1 : Int) (h1 : 2 ≤ i_p0_kitchen_rules_seats) (h2 : i_p0_kitchen_rules_seats ≤ 7) (h3 : 0 ≤ i_p0_kitchen_rules_stirs) (h4 : i_p0_kitchen_rules_stirs ≤ 5) (h5 : rows i_p0_kitchen_rules_seats i_p0_kitchen_rules_stirs v_p0_kitchen_rules_after) (h6 : 0 ≤ i_p0_kitchen_state_bone) (h7 : i_p0_kitchen_state_bone < i_p0_kitchen_rules_seats) (h8 : 0 ≤ i_p0_kitchen_state_king) (h9 : i_p0_kitchen_state_king < i_p0_kitchen_rules_seats) (h10 : 0 ≤ x1) (h11 : x1 < i_p0_kitchen_rules_seats) (h12 : ∀ j, 0 ≤ j → j < 10 → -4 ≤ v_p0_row j ∧ v_p0_row j < 5) : wp (f_X5_planRaise i_p0_kitchen_rules_seats i_p0_kitchen_rules_stirs v_p0_kitchen_rules_after i_p0_kitchen_state_bone i_p0_kitchen_state_king v_p0_kitchen_state_friends v_p0_kitchen_places v_p0_kitchen_holders v_p0_good v_p0_row x1) (fun o => (-4 ≤ o.1 ∧ o.1 ≤ 10) ∧ (∀ j, 0 ≤ j → j < 10 → -4 ≤ o.2.2.2.2 j ∧ o.2.2.2.2 j < 5) ∧ (fstq 11 (fun t => can i_p0_kitchen_rules_seats i_p0_kitchen_rules_stirs 0 (clF i_p0_kitchen_rules_seats v_p0_kitchen_state_friends) (clA i_p0_kitchen_rules_seats i_p0_kitchen_rules_stirs (fun y b => v_p0_kitchen_rules_after (y * 7 + b))) (fun k => k = x1) t.toNat i_p0_kitchen_state_king i_p0_kitchen_state_bone) o.1) ∧ (∀ i, 0 ≤ i → i < o.1 → o.2.2.2.2 i = prow i_p0_kitchen_rules_seats i_p0_kitchen_rules_stirs 0 (clF i_p0_kitchen_rules_seats v_p0_kitchen_state_friends) (clA i_p0_kitchen_rules_seats i_p0_kitchen_rules_stirs (fun y b => v_p0_kitchen_rules_after (y * 7 + b))) (fun k => k = x1) o.1.toNat i_p0_kitchen_state_king i_p0_kitchen_state_bone i.toNat)) := by
  unfold f_X5_planRaise
  have hA := clA_rng (n := i_p0_kitchen_rules_seats) (s := i_p0_kitchen_rules_stirs) (A := fun y b => v_p0_kitchen_rules_after (y * 7 + b)) (by omega) (fun t b t0 t1 b0 b1 => row_use h5 t0 t1 b0 b1)
  refine wp_bd2 (s_X2_serveAllKings _ _ _ _ (by omega) /- pre X2_serveAllKings.1#1 -/ (by omega) /- pre X2_serveAllKings.2#1 -/) (fun w1 w2 q_X2_serveAllKings_1 => ?_)
  try dsimp only at q_X2_serveAllKings_1
  obtain ⟨q_X2_serveAllKings_1_1, q_X2_serveAllKings_1_2⟩ := q_X2_serveAllKings_1
  refine wp_bd1 (s_X5_pairsOfKing _ _ (by omega) /- pre X5_pairsOfKing.1#1 -/ (by omega) /- pre X5_pairsOfKing.2#1 -/ (by omega) /- pre X5_pairsOfKing.3#1 -/ (by omega) /- pre X5_pairsOfKing.4#1 -/) (fun z3 q_X5_pairsOfKing_1 => ?_)
  try dsimp only at q_X5_pairsOfKing_1
  refine wp_ck (z_ix_i.mpr ⟨⟨(by omega) /- ix.lo (0 : Int)#1 -/, (by omega) /- ix.hi (0 : Int)#1 -/⟩, (by omega) /- ix.big (0 : Int)#1 -/⟩) ?_
  refine wp_bnd ?_
  refine wp_bnd ?_
  refine wp_jn ?_
  refine wp_lq2 (fun (z10 : Int) (w11 : (Int → Int)) => (0 ≤ z10) ∧ (z10 ≤ 11) ∧ (gds i_p0_kitchen_rules_seats i_p0_kitchen_rules_stirs 0 (clF i_p0_kitchen_rules_seats v_p0_kitchen_state_friends) (clA i_p0_kitchen_rules_seats i_p0_kitchen_rules_stirs (fun y b => v_p0_kitchen_rules_after (y * 7 + b))) (fun k => k = x1) w11 (if z10 = 0 then 1 else z10)) ∧ (∀ d, 0 ≤ d → d < z10 → ¬ can i_p0_kitchen_rules_seats i_p0_kitchen_rules_stirs 0 (clF i_p0_kitchen_rules_seats v_p0_kitchen_state_friends) (clA i_p0_kitchen_rules_seats i_p0_kitchen_rules_stirs (fun y b => v_p0_kitchen_rules_after (y * 7 + b))) (fun k => k = x1) d.toNat i_p0_kitchen_state_king i_p0_kitchen_state_bone)) (fun (z10 : Int) (w11 : (Int → Int)) => (11 - z10).toNat) (fun again20 z10 w11 hI ih_B_X5_planRaise_20 => ?_) 1000 _ _ ⟨(by omega) /- B_X5_planRaise_20.init1#1 -/, (by omega) /- B_X5_planRaise_20.init2#1 -/, (by rw [if_pos rfl]; exact gds_1 (prs_king h2 q_X5_pairsOfKing_1)) /- B_X5_planRaise_20.init3#1 -/, (by intro d; omega) /- B_X5_planRaise_20.init4#1 -/⟩ (by omega) /- B_X5_planRaise_20.fuel#1 -/
  obtain ⟨i_B_X5_planRaise_20_1, i_B_X5_planRaise_20_2, i_B_X5_planRaise_20_3, i_B_X5_planRaise_20_4⟩ := hI
  unfold B_X5_planRaise_20
  refine wp_ck (z_r32_i.mpr ⟨(by omega) /- z_r32.lo z10#1 -/, (by omega) /- z_r32.hi z10#1 -/⟩) ?_
  refine wp_if (fun c1 => ?_) (fun c1 => ?_)
  ·
    refine wp_some ?_
    try dsimp only
    all_goals exact ⟨(by omega) /- post1#1 -/, (by first | exact h12 | (intro j a b; exact q_X5_tellRow_1_1 j a b (h12 j a b)) | (intro j a b; exact q_X5_tellRow_2_1 j a b (h12 j a b))) /- post2#1 -/, (by exact Or.inl ⟨rfl, fun t a b => i_B_X5_planRaise_20_4 t a (by omega)⟩) /- post3#1 -/, (by intro i; omega) /- post4#1 -/⟩
  ·
    refine wp_if (fun c2 => ?_) (fun c2 => ?_)
    ·
      refine wp_bd1 (s_X5_isGoodNow _ _ _ _ (by omega) /- pre X5_isGoodNow.1#1 -/ (by omega) /- pre X5_isGoodNow.2#1 -/ (by omega) /- pre X5_isGoodNow.3#1 -/ (by omega) /- pre X5_isGoodNow.4#1 -/ (by omega) /- pre X5_isGoodNow.5#1 -/ (by omega) /- pre X5_isGoodNow.6#1 -/) (fun z14 q_X5_isGoodNow_1 => ?_)
      try dsimp only at q_X5_isGoodNow_1
      obtain ⟨q_X5_isGoodNow_1_1, q_X5_isGoodNow_1_2⟩ := q_X5_isGoodNow_1
      have e0 : z10 = 0 := by omega
      have hg0 := i_B_X5_planRaise_20_3
      rw [if_pos e0] at hg0
      have hnow := hg0 z10 (by omega) (by omega) i_p0_kitchen_state_king i_p0_kitchen_state_bone h8 h9 h6 h7
      refine wp_ck (z_r32_i.mpr ⟨(by omega) /- z_r32.lo z14#1 -/, (by omega) /- z_r32.hi z14#1 -/⟩) ?_
      refine wp_if (fun c3 => ?_) (fun c3 => ?_)
      ·
        have hno : ¬ can i_p0_kitchen_rules_seats i_p0_kitchen_rules_stirs 0 (clF i_p0_kitchen_rules_seats v_p0_kitchen_state_friends) (clA i_p0_kitchen_rules_seats i_p0_kitchen_rules_stirs (fun y b => v_p0_kitchen_rules_after (y * 7 + b))) (fun k => k = x1) z10.toNat i_p0_kitchen_state_king i_p0_kitchen_state_bone := fun w => (hid q_X5_isGoodNow_1_2).mp (by assumption) (hnow.mpr w)
        refine wp_bndE (fun z16 hz16 => ?_)
        exact ih_B_X5_planRaise_20 _ _ ⟨(by omega) /- B_X5_planRaise_20.inv1#1 -/, (by omega) /- B_X5_planRaise_20.inv2#1 -/, (by rw [if_neg (by omega), hz16, show z10 + 1 = 1 from by omega]; have w := i_B_X5_planRaise_20_3; rw [if_pos (by omega)] at w; exact w) /- B_X5_planRaise_20.inv3#1 -/, (by intro d a b; by_cases e : d = z10; (rw [e]; exact hno); exact i_B_X5_planRaise_20_4 d a (by omega)) /- B_X5_planRaise_20.inv4#1 -/⟩ (by omega) /- B_X5_planRaise_20.dec#1 -/
      ·
        have hcan : can i_p0_kitchen_rules_seats i_p0_kitchen_rules_stirs 0 (clF i_p0_kitchen_rules_seats v_p0_kitchen_state_friends) (clA i_p0_kitchen_rules_seats i_p0_kitchen_rules_stirs (fun y b => v_p0_kitchen_rules_after (y * 7 + b))) (fun k => k = x1) z10.toNat i_p0_kitchen_state_king i_p0_kitchen_state_bone := hnow.mp (Classical.byContradiction (fun w => absurd ((hid q_X5_isGoodNow_1_2).mpr w) (by assumption)))
        refine wp_bd1 (s_X5_tellRow _ _ _ _ _ _ _ _ _ v_p0_kitchen_state_friends i_p0_kitchen_rules_seats (fun k => k = x1) (by omega) /- pre X5_tellRow.1#1 -/ (by omega) /- pre X5_tellRow.2#1 -/ (by omega) /- pre X5_tellRow.3#1 -/ (by omega) /- pre X5_tellRow.4#1 -/ (by exact h5) /- pre X5_tellRow.5#1 -/ (by exact q_X2_serveAllKings_1_2) /- pre X5_tellRow.6#1 -/ (by omega) /- pre X5_tellRow.7#1 -/ (by omega) /- pre X5_tellRow.8#1 -/ (by omega) /- pre X5_tellRow.9#1 -/ (by omega) /- pre X5_tellRow.10#1 -/ (by omega) /- pre X5_tellRow.11#1 -/ (by omega) /- pre X5_tellRow.12#1 -/ (by omega) /- pre X5_tellRow.13#1 -/ (by omega) /- pre X5_tellRow.14#1 -/ (by intro d a b; omega) /- pre X5_tellRow.15#1 -/ (by exact hcan) /- pre X5_tellRow.16#1 -/) (fun w9 q_X5_tellRow_1 => ?_)
        try dsimp only at q_X5_tellRow_1
        obtain ⟨q_X5_tellRow_1_1, q_X5_tellRow_1_2⟩ := q_X5_tellRow_1
        refine wp_some ?_
        try dsimp only
        all_goals exact ⟨(by omega) /- post1#2 -/, (by first | exact h12 | (intro j a b; exact q_X5_tellRow_1_1 j a b (h12 j a b)) | (intro j a b; exact q_X5_tellRow_2_1 j a b (h12 j a b))) /- post2#2 -/, (by exact Or.inr ⟨⟨by omega, by omega⟩, hcan, i_B_X5_planRaise_20_4⟩) /- post3#2 -/, (by first | exact q_X5_tellRow_1_2 | exact q_X5_tellRow_2_2) /- post4#2 -/⟩
    ·
      refine wp_ck (z_ix_i.mpr ⟨⟨(by omega) /- ix.lo (z10 - (1 : Int))#1 -/, (by omega) /- ix.hi (z10 - (1 : Int))#1 -/⟩, (by omega) /- ix.big (z10 - (1 : Int))#1 -/⟩) ?_
      refine wp_bd1 (s_X5_pairsBefore _ _ _ _ _ _ v_p0_kitchen_state_friends (by omega) /- pre X5_pairsBefore.1#1 -/ (by omega) /- pre X5_pairsBefore.2#1 -/ (by omega) /- pre X5_pairsBefore.3#1 -/ (by omega) /- pre X5_pairsBefore.4#1 -/ (by exact h5) /- pre X5_pairsBefore.5#1 -/ (by exact q_X2_serveAllKings_1_2) /- pre X5_pairsBefore.6#1 -/ (by omega) /- pre X5_pairsBefore.7#1 -/ (by omega) /- pre X5_pairsBefore.8#1 -/) (fun z17 q_X5_pairsBefore_1 => ?_)
      try dsimp only at q_X5_pairsBefore_1
      have hg1 := i_B_X5_planRaise_20_3
      rw [if_neg (by omega)] at hg1
      have hgs := gds_up (by omega) hA (by omega) hg1 q_X5_pairsBefore_1
      have hnow := hgs z10 (by omega) (by omega) i_p0_kitchen_state_king i_p0_kitchen_state_bone h8 h9 h6 h7
      refine wp_ck (z_ix_i.mpr ⟨⟨(by omega) /- ix.lo z10#1 -/, (by omega) /- ix.hi z10#1 -/⟩, (by omega) /- ix.big z10#1 -/⟩) ?_
      refine wp_bnd ?_
      refine wp_bd1 (s_X5_isGoodNow _ _ _ _ (by omega) /- pre X5_isGoodNow.1#2 -/ (by omega) /- pre X5_isGoodNow.2#2 -/ (by omega) /- pre X5_isGoodNow.3#2 -/ (by omega) /- pre X5_isGoodNow.4#2 -/ (by omega) /- pre X5_isGoodNow.5#2 -/ (by omega) /- pre X5_isGoodNow.6#2 -/) (fun z19 q_X5_isGoodNow_2 => ?_)
      try dsimp only at q_X5_isGoodNow_2
      obtain ⟨q_X5_isGoodNow_2_1, q_X5_isGoodNow_2_2⟩ := q_X5_isGoodNow_2
      refine wp_ck (z_r32_i.mpr ⟨(by omega) /- z_r32.lo z19#1 -/, (by omega) /- z_r32.hi z19#1 -/⟩) ?_
      refine wp_if (fun c4 => ?_) (fun c4 => ?_)
      ·
        have hno : ¬ can i_p0_kitchen_rules_seats i_p0_kitchen_rules_stirs 0 (clF i_p0_kitchen_rules_seats v_p0_kitchen_state_friends) (clA i_p0_kitchen_rules_seats i_p0_kitchen_rules_stirs (fun y b => v_p0_kitchen_rules_after (y * 7 + b))) (fun k => k = x1) z10.toNat i_p0_kitchen_state_king i_p0_kitchen_state_bone := fun w => (hid q_X5_isGoodNow_2_2).mp (by assumption) (hnow.mpr w)
        refine wp_bndE (fun z21 hz21 => ?_)
        exact ih_B_X5_planRaise_20 _ _ ⟨(by omega) /- B_X5_planRaise_20.inv1#2 -/, (by omega) /- B_X5_planRaise_20.inv2#2 -/, (by rw [if_neg (by omega), hz21]; exact hgs) /- B_X5_planRaise_20.inv3#2 -/, (by intro d a b; by_cases e : d = z10; (rw [e]; exact hno); exact i_B_X5_planRaise_20_4 d a (by omega)) /- B_X5_planRaise_20.inv4#2 -/⟩ (by omega) /- B_X5_planRaise_20.dec#2 -/
      ·
        have hcan : can i_p0_kitchen_rules_seats i_p0_kitchen_rules_stirs 0 (clF i_p0_kitchen_rules_seats v_p0_kitchen_state_friends) (clA i_p0_kitchen_rules_seats i_p0_kitchen_rules_stirs (fun y b => v_p0_kitchen_rules_after (y * 7 + b))) (fun k => k = x1) z10.toNat i_p0_kitchen_state_king i_p0_kitchen_state_bone := hnow.mp (Classical.byContradiction (fun w => absurd ((hid q_X5_isGoodNow_2_2).mpr w) (by assumption)))
        refine wp_bd1 (s_X5_tellRow _ _ _ _ _ _ _ _ _ v_p0_kitchen_state_friends i_p0_kitchen_rules_seats (fun k => k = x1) (by omega) /- pre X5_tellRow.1#2 -/ (by omega) /- pre X5_tellRow.2#2 -/ (by omega) /- pre X5_tellRow.3#2 -/ (by omega) /- pre X5_tellRow.4#2 -/ (by exact h5) /- pre X5_tellRow.5#2 -/ (by exact q_X2_serveAllKings_1_2) /- pre X5_tellRow.6#2 -/ (by omega) /- pre X5_tellRow.7#2 -/ (by omega) /- pre X5_tellRow.8#2 -/ (by omega) /- pre X5_tellRow.9#2 -/ (by omega) /- pre X5_tellRow.10#2 -/ (by omega) /- pre X5_tellRow.11#2 -/ (by omega) /- pre X5_tellRow.12#2 -/ (by omega) /- pre X5_tellRow.13#2 -/ (by omega) /- pre X5_tellRow.14#2 -/ (by intro d a b; exact hgs d a (by omega)) /- pre X5_tellRow.15#2 -/ (by exact hcan) /- pre X5_tellRow.16#2 -/) (fun w9 q_X5_tellRow_2 => ?_)
        try dsimp only at q_X5_tellRow_2
        obtain ⟨q_X5_tellRow_2_1, q_X5_tellRow_2_2⟩ := q_X5_tellRow_2
        refine wp_some ?_
        try dsimp only
        all_goals exact ⟨(by omega) /- post1#3 -/, (by first | exact h12 | (intro j a b; exact q_X5_tellRow_1_1 j a b (h12 j a b)) | (intro j a b; exact q_X5_tellRow_2_1 j a b (h12 j a b))) /- post2#3 -/, (by exact Or.inr ⟨⟨by omega, by omega⟩, hcan, i_B_X5_planRaise_20_4⟩) /- post3#3 -/, (by first | exact q_X5_tellRow_1_2 | exact q_X5_tellRow_2_2) /- post4#3 -/⟩
