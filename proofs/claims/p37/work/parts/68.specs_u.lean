/-- a cell of stays is what its row asks -/
def stOK (n m : Int) (st b w : Int → Int) (k s : Int) : Prop :=
  (0 ≤ w (49 * k + s) ∧ w (49 * k + s) ≤ k) ∧ (∀ r, 0 ≤ r → r < m → thn n st b s r % 7 = s % 7 → 1 + w (49 * (k - 1) + thn n st b s r) ≤ w (49 * k + s)) ∧
  (w (49 * k + s) = 0 ∨ ∃ r, (0 ≤ r ∧ r < m) ∧ thn n st b s r % 7 = s % 7 ∧ w (49 * k + s) = 1 + w (49 * (k - 1) + thn n st b s r))
theorem stOK_up {n m k s i v : Int} {st b w : Int → Int} (h2 : 2 ≤ n) (h7 : n ≤ 7) (hr : rowsM n m b) (hs : vst n s) (hi : 49 * k ≤ i) (hn : ¬ 49 * k + s = i) (h : stOK n m st b w k s) : stOK n m st b (z_up w i v) k s := by
  have e : z_up w i v (49 * k + s) = w (49 * k + s) := z_up_n _ _ hn
  have e2 : ∀ r, 0 ≤ r → r < m → z_up w i v (49 * (k - 1) + thn n st b s r) = w (49 * (k - 1) + thn n st b s r) := by
    intro r a c
    have q := thn_rng (st := st) h2 h7 hr hs a c
    unfold vst at q
    exact z_up_n _ _ (by omega)
  obtain ⟨a, c, d⟩ := h
  refine ⟨by rw [e]; exact a, fun r f g t => by rw [e, e2 r f g]; exact c r f g t, ?_⟩
  rw [e]
  rcases d with d | ⟨r, f, g, t⟩
  · exact Or.inl d
  · exact Or.inr ⟨r, f, g, by rw [e2 r f.1 f.2]; exact t⟩
theorem stay_fix {n m N : Int} {st b w : Int → Int} (h2 : 2 ≤ n) (h7 : n ≤ 7) (hr : rowsM n m b) (h0 : ∀ j, 0 ≤ j → j < 49 → w j = 0) (h : ∀ k s, 1 ≤ k → k ≤ N → vst n s → stOK n m st b w k s) : ∀ (q : Nat) (s : Int), (q : Int) ≤ N → vst n s → w (49 * w (49 * (q : Int) + s) + s) = w (49 * (q : Int) + s) := by
  intro q
  induction q with
  | zero =>
    intro s _ hs
    have e : w (49 * ((0 : Nat) : Int) + s) = 0 := by
      rw [show 49 * ((0 : Nat) : Int) + s = s from by omega]
      exact h0 s hs.1 hs.2.1
    rw [e, show (49 : Int) * 0 + s = s from by omega]
    exact h0 s hs.1 hs.2.1
  | succ q ih =>
    intro s hq hs
    obtain ⟨a, c, d⟩ := h ((q + 1 : Nat) : Int) s (by omega) hq hs
    rcases d with d | ⟨r, f, g, t⟩
    · rw [d, show (49 : Int) * 0 + s = s from by omega]
      exact h0 s hs.1 hs.2.1
    · have tv := thn_rng (st := st) h2 h7 hr hs f.1 f.2
      have i := ih (thn n st b s r) (by omega) tv
      rw [show ((q + 1 : Nat) : Int) - 1 = (q : Int) from by omega] at t
      generalize hv : w (49 * ((q + 1 : Nat) : Int) + s) = v at *
      have e : w (49 * (q : Int) + thn n st b s r) = v - 1 := by omega
      rw [e] at i
      have v0 : 0 ≤ v - 1 := by
        by_cases z : (q : Int) = 0
        · rw [z, show (49 : Int) * 0 + thn n st b s r = thn n st b s r from by omega, h0 _ tv.1 tv.2.1] at e
          omega
        · have := (h (q : Int) (thn n st b s r) (by omega) (by omega) tv).1
          omega
      obtain ⟨a2, c2, _⟩ := h v s (by omega) (by omega) hs
      have := c2 r f.1 f.2 g
      omega
/-- a path of k days after which p is king -/
def pth (n m : Int) (st b : Int → Int) (p : Int) : Nat → Int → Prop
  | 0, s => s % 7 = p
  | k + 1, s => ∃ r, (0 ≤ r ∧ r < m) ∧ pth n m st b p k (thn n st b s r)
def few1 (n m : Int) (st b : Int → Int) (p : Int) (w : Int → Int) : Prop := ∀ s, 0 ≤ s → s < 49 → (0 ≤ w s ∧ w s ≤ 1000000) ∧ (vst n s → w s = 1000000 ∨ pth n m st b p (w s).toNat s)
def few2 (n m : Int) (st b : Int → Int) (p : Int) (w : Int → Int) (k : Int) : Prop := ∀ q : Nat, (q : Int) ≤ k → ∀ s, vst n s → pth n m st b p q s → w s ≤ q
def few3 (n m : Int) (st b : Int → Int) (p : Int) (w : Int → Int) (k z : Int) : Prop := ∀ q : Nat, (q : Int) ≤ k → ∀ s, vst n s → s < z → pth n m st b p q s → w s ≤ q
theorem few_next {n m p : Int} {st b w : Int → Int} (h2 : 2 ≤ n) (h7 : n ≤ 7) (hr : rowsM n m b) (f1 : few1 n m st b p w) (f2 : few2 n m st b p w 49) {s : Int} (hs : vst n s) (h0 : 1 ≤ w s) (h1 : w s ≤ 10) : ∃ r, (0 ≤ r ∧ r < m) ∧ w (thn n st b s r) + 1 = w s := by
  rcases (f1 s hs.1 hs.2.1).2 hs with e | e
  · omega
  · obtain ⟨q, hq⟩ : ∃ q : Nat, (w s).toNat = q + 1 := ⟨(w s).toNat - 1, by omega⟩
    rw [hq] at e
    obtain ⟨r, hr0, e2⟩ := e
    have tv := thn_rng (st := st) h2 h7 hr hs hr0.1 hr0.2
    have l := f2 q (by omega) _ tv e2
    refine ⟨r, hr0, ?_⟩
    have t1 := (f1 _ tv.1 tv.2.1)
    rcases t1.2 tv with g | g
    · omega
    · have l2 := f2 ((w (thn n st b s r)).toNat + 1) (by omega) s hs ⟨r, hr0, g⟩
      omega
theorem few1_up {n m p : Int} {st b w : Int → Int} (h2 : 2 ≤ n) (h7 : n ≤ 7) (hr : rowsM n m b) {s r : Int} (hs : vst n s) (r0 : 0 ≤ r) (r1 : r < m) (f1 : few1 n m st b p w) (c : w (thn n st b s r) + 1 < w s) : few1 n m st b p (z_up w s (w (thn n st b s r) + 1)) := by
  intro j a d
  have tv := thn_rng (st := st) h2 h7 hr hs r0 r1
  have q := f1 _ tv.1 tv.2.1
  have q2 := f1 s hs.1 hs.2.1
  rw [z_up_a]
  split
  · rename_i e
    refine ⟨by omega, fun _ => Or.inr ?_⟩
    rw [e]
    rcases q.2 tv with g | g
    · omega
    · rw [show (w (thn n st b s r) + 1).toNat = (w (thn n st b s r)).toNat + 1 from by omega]
      exact ⟨r, ⟨r0, r1⟩, g⟩
  · exact f1 j a d
theorem few2_up {n m p k s v : Int} {st b w : Int → Int} (f : few2 n m st b p w k) (c : v ≤ w s) : few2 n m st b p (z_up w s v) k := by
  intro q a t d e
  have := f q a t d e
  rw [z_up_a]
  split
  · rename_i g; rw [g] at this; omega
  · exact this
theorem few3_up {n m p k z s v : Int} {st b w : Int → Int} (f : few3 n m st b p w k z) (c : v ≤ w s) : few3 n m st b p (z_up w s v) k z := by
  intro q a t d l e
  have := f q a t d l e
  rw [z_up_a]
  split
  · rename_i g; rw [g] at this; omega
  · exact this
theorem few3_end {n m p k z : Int} {st b w : Int → Int} (h0 : 0 ≤ k) (f2 : few2 n m st b p w k) (f3 : few3 n m st b p w (k + 1) z) (h4 : vst n z → ∀ r, 0 ≤ r → r < m → w z ≤ w (thn n st b z r) + 1) (hr : vst n z → ∀ r, 0 ≤ r → r < m → vst n (thn n st b z r)) : few3 n m st b p w (k + 1) (z + 1) := by
  intro q a t d l e
  by_cases c : t < z
  · exact f3 q a t d c e
  · have tz : t = z := by omega
    subst tz
    by_cases g : (q : Int) ≤ k
    · exact f2 q g t d e
    · obtain ⟨j, hj⟩ : ∃ j : Nat, q = j + 1 := ⟨q - 1, by omega⟩
      subst hj
      obtain ⟨r, r0, e2⟩ := e
      have := f2 j (by omega) _ (hr d r r0.1 r0.2) e2
      have := h4 d r r0.1 r0.2
      omega
theorem z_up_id {w : Int → Int} {s : Int} : z_up w s (w s) = w := by
  funext j
  rw [z_up_a]
  split
  · rename_i e; rw [e]
  · rfl
/-! plans of the reference -/
theorem thn_cl {n m s r : Int} {st b : Int → Int} (h2 : 2 ≤ n) (h7 : n ≤ 7) (hr : rowsM n m b) (hs : vst n s) (r0 : 0 ≤ r) (r1 : r < m) : thn n st b s r / 7 = clA n m (fun y x => b (7 * y + x)) r (s / 7) ∧ thn n st b s r % 7 = hol n (s % 7) (clF n (fun k => st (9 + k)) (s % 7)) (clA n m (fun y x => b (7 * y + x)) r (s / 7)) := by
  obtain ⟨a, c, d, e⟩ := hs
  have q := rowM_use hr r0 r1 (i := s / 7) (by omega) e
  have w := hol_rng (k := s % 7) (f := st (9 + s % 7)) (by omega) q.1 q.2
  rw [clA_in r0 r1 (by omega) e, clF_in (by omega) d]
  unfold thn
  try dsimp only
  omega
theorem thn_gd {n m s r same : Int} {st b : Int → Int} {P : Int → Int → Prop} (h2 : 2 ≤ n) (h7 : n ≤ 7) (hr : rowsM n m b) (hs : vst n s) (r0 : 0 ≤ r) (r1 : r < m) : gd n same (clF n (fun k => st (9 + k))) (clA n m (fun y x => b (7 * y + x))) P (s % 7) (s / 7) r ↔ (thn n st b s r % 7 = s % 7 ∨ same = 0) ∧ P (thn n st b s r % 7) (thn n st b s r / 7) := by
  have e := thn_cl (st := st) h2 h7 hr hs r0 r1
  unfold gd
  rw [← e.2, ← e.1]
theorem stay_can {n m N : Int} {st b w : Int → Int} (h2 : 2 ≤ n) (h7 : n ≤ 7) (hr : rowsM n m b) (h0 : ∀ j, 0 ≤ j → j < 49 → w j = 0) (h : ∀ k s, 1 ≤ k → k ≤ N → vst n s → stOK n m st b w k s) : ∀ (q : Nat), (q : Int) ≤ N → ∀ s, vst n s → ∀ d : Nat, d ≤ q → ((d : Int) ≤ w (49 * (q : Int) + s) ↔ can n m 1 (clF n (fun k => st (9 + k))) (clA n m (fun y x => b (7 * y + x))) (fun _ => True) d (s % 7) (s / 7)) := by
  intro q
  induction q with
  | zero =>
    intro _ s hs d hd
    have e : d = 0 := by omega
    subst e
    have e : w (49 * ((0 : Nat) : Int) + s) = 0 := by
      rw [show 49 * ((0 : Nat) : Int) + s = s from by omega]
      exact h0 s hs.1 hs.2.1
    rw [e]
    exact ⟨fun _ => trivial, fun _ => by omega⟩
  | succ q ih =>
    intro hq s hs d hd
    obtain ⟨a, c, t⟩ := h ((q + 1 : Nat) : Int) s (by omega) hq hs
    rw [show ((q + 1 : Nat) : Int) - 1 = (q : Int) from by omega] at c t
    cases d with
    | zero => exact ⟨fun _ => trivial, fun _ => a.1⟩
    | succ d =>
      constructor
      · intro hl
        rcases t with t | ⟨r, f, g, t⟩
        · omega
        · have tv := thn_rng (st := st) h2 h7 hr hs f.1 f.2
          exact ⟨r, f, (thn_gd h2 h7 hr hs f.1 f.2).mpr ⟨Or.inl g, (ih (by omega) _ tv d (by omega)).mp (by omega)⟩⟩
      · rintro ⟨r, f, e⟩
        have e := (thn_gd h2 h7 hr hs f.1 f.2).mp e
        have tv := thn_rng (st := st) h2 h7 hr hs f.1 f.2
        have g := e.1.resolve_right (by decide)
        have u := c r f.1 f.2 g
        have v := (ih (by omega) _ tv d (by omega)).mpr e.2
        omega
theorem stay_rng {n m N : Int} {st b w : Int → Int} (h0 : ∀ j, 0 ≤ j → j < 49 → w j = 0) (h : ∀ k s, 1 ≤ k → k ≤ N → vst n s → stOK n m st b w k s) {k s : Int} (k0 : 0 ≤ k) (k1 : k ≤ N) (hs : vst n s) : 0 ≤ w (49 * k + s) ∧ w (49 * k + s) ≤ k := by
  by_cases e : k = 0
  · rw [e, show (49 : Int) * 0 + s = s from by omega, h0 s hs.1 hs.2.1]; omega
  · exact (h k s (by omega) k1 hs).1
theorem stay_most {n m N s : Int} {st b w : Int → Int} (h2 : 2 ≤ n) (h7 : n ≤ 7) (hr : rowsM n m b) (h0 : ∀ j, 0 ≤ j → j < 49 → w j = 0) (h : ∀ k s, 1 ≤ k → k ≤ N → vst n s → stOK n m st b w k s) (hN : 0 ≤ N) (hs : vst n s) : mostd (fun d => can n m 1 (clF n (fun k => st (9 + k))) (clA n m (fun y x => b (7 * y + x))) (fun _ => True) d (s % 7) (s / 7)) (N + 1) (w (49 * N + s)) := by
  have g := stay_rng h0 h hN (Int.le_refl N) hs
  have c := stay_can h2 h7 hr h0 h N.toNat (by omega) s hs
  rw [Int.toNat_of_nonneg hN] at c
  refine ⟨by omega, (c _ (by omega)).mp (by omega), fun d a e z => ?_⟩
  have := (c d.toNat (by omega)).mpr z
  omega
theorem stay_gd {n m N s r d : Int} {st b w : Int → Int} (h2 : 2 ≤ n) (h7 : n ≤ 7) (hr : rowsM n m b) (h0 : ∀ j, 0 ≤ j → j < 49 → w j = 0) (h : ∀ k s, 1 ≤ k → k ≤ N → vst n s → stOK n m st b w k s) (d0 : 0 ≤ d) (d1 : d ≤ N) (hs : vst n s) (r0 : 0 ≤ r) (r1 : r < m) : (thn n st b s r % 7 = s % 7 ∧ w (49 * d + thn n st b s r) = d) ↔ gd n 1 (clF n (fun k => st (9 + k))) (clA n m (fun y x => b (7 * y + x))) (can n m 1 (clF n (fun k => st (9 + k))) (clA n m (fun y x => b (7 * y + x))) (fun _ => True) d.toNat) (s % 7) (s / 7) r := by
  have tv := thn_rng (st := st) h2 h7 hr hs r0 r1
  have g := stay_rng h0 h d0 d1 tv
  have c := stay_can h2 h7 hr h0 h d.toNat (by omega) _ tv d.toNat (Nat.le_refl _)
  rw [Int.toNat_of_nonneg d0] at c
  rw [thn_gd h2 h7 hr hs r0 r1, ← c]
  constructor
  · intro z; exact ⟨Or.inl z.1, by omega⟩
  · intro z; exact ⟨z.1.resolve_right (by decide), by omega⟩
theorem pth_can {n m p : Int} {st b : Int → Int} (h2 : 2 ≤ n) (h7 : n ≤ 7) (hr : rowsM n m b) : ∀ (q : Nat) (s : Int), vst n s → (pth n m st b p q s ↔ can n m 0 (clF n (fun k => st (9 + k))) (clA n m (fun y x => b (7 * y + x))) (fun k => k = p) q (s % 7) (s / 7)) := by
  intro q
  induction q with
  | zero => intro s _; exact Iff.rfl
  | succ q ih =>
    intro s hs
    constructor
    · rintro ⟨r, f, e⟩
      exact ⟨r, f, (thn_gd h2 h7 hr hs f.1 f.2).mpr ⟨Or.inr rfl, (ih _ (thn_rng h2 h7 hr hs f.1 f.2)).mp e⟩⟩
    · rintro ⟨r, f, e⟩
      exact ⟨r, f, (ih _ (thn_rng h2 h7 hr hs f.1 f.2)).mpr ((thn_gd h2 h7 hr hs f.1 f.2).mp e).2⟩
theorem few_first {n m p s : Int} {st b w : Int → Int} (h2 : 2 ≤ n) (h7 : n ≤ 7) (hr : rowsM n m b) (f1 : few1 n m st b p w) (f2 : few2 n m st b p w 49) (hs : vst n s) : fstq 11 (fun t => can n m 0 (clF n (fun k => st (9 + k))) (clA n m (fun y x => b (7 * y + x))) (fun k => k = p) t.toNat (s % 7) (s / 7)) (if w s ≤ 10 then w s else -4) := by
  have g := f1 s hs.1 hs.2.1
  by_cases c : w s ≤ 10
  · rw [if_pos c]
    refine Or.inr ⟨by omega, (pth_can h2 h7 hr _ s hs).mp ((g.2 hs).resolve_left (by omega)), fun t a e z => ?_⟩
    have := f2 t.toNat (by omega) s hs ((pth_can h2 h7 hr _ s hs).mpr z)
    omega
  · rw [if_neg c]
    refine Or.inl ⟨rfl, fun t a e z => ?_⟩
    have := f2 t.toNat (by omega) s hs ((pth_can h2 h7 hr _ s hs).mpr z)
    omega
theorem few_gd {n m p s r : Int} {st b w : Int → Int} (h2 : 2 ≤ n) (h7 : n ≤ 7) (hr : rowsM n m b) (f1 : few1 n m st b p w) (f2 : few2 n m st b p w 49) (hs : vst n s) (w0 : 1 ≤ w s) (w1 : w s ≤ 10) (r0 : 0 ≤ r) (r1 : r < m) : (w (thn n st b s r) + 1 = w s) ↔ gd n 0 (clF n (fun k => st (9 + k))) (clA n m (fun y x => b (7 * y + x))) (can n m 0 (clF n (fun k => st (9 + k))) (clA n m (fun y x => b (7 * y + x))) (fun k => k = p) (w s - 1).toNat) (s % 7) (s / 7) r := by
  have tv := thn_rng (st := st) h2 h7 hr hs r0 r1
  have g := f1 _ tv.1 tv.2.1
  rw [thn_gd h2 h7 hr hs r0 r1, ← pth_can h2 h7 hr _ _ tv]
  constructor
  · intro z
    refine ⟨Or.inr rfl, ?_⟩
    rw [show w s - 1 = w (thn n st b s r) from by omega]
    exact (g.2 tv).resolve_left (by omega)
  · intro z
    have l := f2 _ (by omega) _ tv z.2
    have l2 := f2 ((w (thn n st b s r)).toNat + 1) (by omega) s hs ⟨r, ⟨r0, r1⟩, (g.2 tv).resolve_left (by omega)⟩
    omega
theorem pst_t {n m s r z same k0 b0 : Int} {st b : Int → Int} {Q : Int → Prop} {D i : Nat} (h2 : 2 ≤ n) (h7 : n ≤ 7) (hr : rowsM n m b) (hs : vst n s) (r0 : 0 ≤ r) (r1 : r < m) (e : pst n m same (clF n (fun k => st (9 + k))) (clA n m (fun y x => b (7 * y + x))) Q D k0 b0 i = (s % 7, s / 7)) (er : r = fsp n m same (clF n (fun k => st (9 + k))) (clA n m (fun y x => b (7 * y + x))) Q (D - 1 - i) (s % 7) (s / 7)) (ez : z = thn n st b s r) : pst n m same (clF n (fun k => st (9 + k))) (clA n m (fun y x => b (7 * y + x))) Q D k0 b0 (i + 1) = (z % 7, z / 7) ∧ r = prow n m same (clF n (fun k => st (9 + k))) (clA n m (fun y x => b (7 * y + x))) Q D k0 b0 i := by
  subst ez
  have hcl := thn_cl (st := st) h2 h7 hr hs r0 r1
  exact pst_s e er hcl.1 (by rw [hcl.1]; exact hcl.2)
/-- the least of those above lo, found from above -/
def fstd (lo hi : Int) (P : Int → Prop) (z : Int) : Prop := (z = -4 ∧ ∀ r, lo < r → r < hi → ¬ P r) ∨ ((lo < z ∧ z < hi) ∧ P z ∧ ∀ r, lo < r → r < z → ¬ P r)
theorem fstd_0 {hi : Int} {P : Int → Prop} : fstd (hi - 1) hi P (-4) := Or.inl ⟨rfl, fun r a b => by omega⟩
theorem fstd_yes {lo hi z : Int} {P : Int → Prop} (h1 : lo < hi) (p : P lo) : fstd (lo + -1) hi P lo := Or.inr ⟨by omega, p, fun r a b => by omega⟩
theorem fstd_no {lo hi z : Int} {P : Int → Prop} (h : fstd lo hi P z) (p : ¬ P lo) : fstd (lo + -1) hi P z := by
  have g : ∀ r, lo + -1 < r → ¬ lo < r → ¬ P r := fun r a b => by rw [show r = lo from by omega]; exact p
  rcases h with ⟨a, c⟩ | ⟨a, c, d⟩
  · exact Or.inl ⟨a, fun r u v => if w : lo < r then c r w v else g r u w⟩
  · exact Or.inr ⟨by omega, c, fun r u v => if w : lo < r then d r w v else g r u w⟩
theorem fstd_q {lo hi z : Int} {P : Int → Prop} (h : fstd lo hi P z) (l : lo < 0) (l2 : -1 ≤ lo) : fstq hi P z := by
  rcases h with ⟨a, c⟩ | ⟨a, c, d⟩
  · exact Or.inl ⟨a, fun r u v => c r (by omega) v⟩
  · exact Or.inr ⟨by omega, c, fun r u v => d r (by omega) v⟩
theorem fstq_ex {hi z : Int} {P : Int → Prop} (h : fstq hi P z) (e : ∃ r, (0 ≤ r ∧ r < hi) ∧ P r) : (0 ≤ z ∧ z < hi) ∧ P z := by
  rcases h with ⟨a, c⟩ | ⟨a, c, d⟩
  · obtain ⟨r, f, g⟩ := e; exact absurd g (c r f.1 f.2)
  · exact ⟨a, c⟩
theorem stay_fsp {n m N s d z : Int} {st b w : Int → Int} (h2 : 2 ≤ n) (h7 : n ≤ 7) (hr : rowsM n m b) (h0 : ∀ j, 0 ≤ j → j < 49 → w j = 0) (h : ∀ k s, 1 ≤ k → k ≤ N → vst n s → stOK n m st b w k s) (d0 : 0 ≤ d) (d1 : d ≤ N) (hs : vst n s) (hf : fstq m (fun r => thn n st b s r % 7 = s % 7 ∧ w (49 * d + thn n st b s r) = d) z) : z = fsp n m 1 (clF n (fun k => st (9 + k))) (clA n m (fun y x => b (7 * y + x))) (fun _ => True) d.toNat (s % 7) (s / 7) :=
  fsp_eq (fstq_iff (P := fun r => thn n st b s r % 7 = s % 7 ∧ w (49 * d + thn n st b s r) = d) (fun r a c => stay_gd h2 h7 hr h0 h d0 d1 hs a c) hf)
theorem few_fsp {n m p s z : Int} {st b w : Int → Int} (h2 : 2 ≤ n) (h7 : n ≤ 7) (hr : rowsM n m b) (f1 : few1 n m st b p w) (f2 : few2 n m st b p w 49) (hs : vst n s) (w0 : 1 ≤ w s) (w1 : w s ≤ 10) (hf : fstq m (fun r => w (thn n st b s r) + 1 = w s) z) : z = fsp n m 0 (clF n (fun k => st (9 + k))) (clA n m (fun y x => b (7 * y + x))) (fun k => k = p) (w s - 1).toNat (s % 7) (s / 7) :=
  fsp_eq (fstq_iff (P := fun r => w (thn n st b s r) + 1 = w s) (fun r a c => few_gd h2 h7 hr f1 f2 hs w0 w1 a c) hf)
set_option maxHeartbeats 1000000 in
theorem s_X12_longestFrom (v_p0_stays : (Int → Int)) (x1 : Int) (x2 : Int) (h1 : 0 ≤ x1) (h2 : x1 < 49) (h3 : 0 ≤ x2) (h4 : x2 ≤ 10) : wp (f_X12_longestFrom v_p0_stays x1 x2) (fun o => (o = v_p0_stays (49 * x2 + x1))) := by
  unfold f_X12_longestFrom
  refine wp_ck (z_ix_i.mpr ⟨⟨(by omega) /- ix.lo (((49 : Int) * x2) + x1)#1 -/, (by omega) /- ix.hi (((49 : Int) * x2) + x1)#1 -/⟩, (by omega) /- ix.big (((49 : Int) * x2) + x1)#1 -/⟩) ?_
  refine wp_some ?_
  try dsimp only
  all_goals exact (by rfl) /- post1#1 -/

set_option maxHeartbeats 4000000 in
theorem s_X12_findStays (i_p0_seats : Int) (i_p0_stirs : Int) (v_p0_st : (Int → Int)) (v_p0_brings : (Int → Int)) (v_p0_places : (Int → Int)) (v_p0_stays : (Int → Int)) (x1 : Int) (h1 : 2 ≤ i_p0_seats) (h2 : i_p0_seats ≤ 7) (h3 : 0 ≤ i_p0_stirs) (h4 : i_p0_stirs ≤ 5) (h5 : rowsM i_p0_seats i_p0_stirs v_p0_brings) (h6 : 1 ≤ x1) (h7 : x1 ≤ 10) : wp (f_X12_findStays i_p0_seats i_p0_stirs v_p0_st v_p0_brings v_p0_places v_p0_stays x1) (fun o => (∀ j, 0 ≤ j → j < 49 → o.2 j = 0) ∧ (∀ k s, 1 ≤ k → k ≤ x1 → vst i_p0_seats s → stOK i_p0_seats i_p0_stirs v_p0_st v_p0_brings o.2 k s)) := by
  unfold f_X12_findStays
  refine wp_bnd ?_
  refine wp_jn ?_
  refine wp_lq2 (fun (z48 : Int) (w49 : (Int → Int)) => (0 ≤ z48) ∧ (z48 ≤ 49) ∧ (∀ j, 0 ≤ j → j < z48 → w49 j = 0)) (fun (z48 : Int) (w49 : (Int → Int)) => (49 - z48).toNat) (fun again2 z48 w49 hI ih_B_X12_findStays_2 => ?_) 1000 _ _ ⟨(by omega) /- B_X12_findStays_2.init1#1 -/, (by omega) /- B_X12_findStays_2.init2#1 -/, (by intro j; omega) /- B_X12_findStays_2.init3#1 -/⟩ (by omega) /- B_X12_findStays_2.fuel#1 -/
  obtain ⟨i_B_X12_findStays_2_1, i_B_X12_findStays_2_2, i_B_X12_findStays_2_3⟩ := hI
  unfold B_X12_findStays_2
  refine wp_ck (z_r32_i.mpr ⟨(by omega) /- z_r32.lo z48#1 -/, (by omega) /- z_r32.hi z48#1 -/⟩) ?_
  refine wp_if (fun c1 => ?_) (fun c1 => ?_)
  ·
    refine wp_bnd ?_
    refine wp_lq3 (fun (z5 : Int) (w6 : (Int → Int)) (w7 : (Int → Int)) => (1 ≤ z5) ∧ (z5 ≤ x1 + 1) ∧ (∀ j, 0 ≤ j → j < 49 → w7 j = 0) ∧ (∀ k s, 1 ≤ k → k < z5 → vst i_p0_seats s → stOK i_p0_seats i_p0_stirs v_p0_st v_p0_brings w7 k s)) (fun (z5 : Int) (w6 : (Int → Int)) (w7 : (Int → Int)) => (x1 + 1 - z5).toNat) (fun again23 z5 w6 w7 hI ih_B_X12_findStays_23 => ?_) 1000 _ _ _ ⟨(by omega) /- B_X12_findStays_23.init1#1 -/, (by omega) /- B_X12_findStays_23.init2#1 -/, (by intro j a b; exact i_B_X12_findStays_2_3 j a (by omega)) /- B_X12_findStays_23.init3#1 -/, (by intro k s a b; omega) /- B_X12_findStays_23.init4#1 -/⟩ (by omega) /- B_X12_findStays_23.fuel#1 -/
    obtain ⟨i_B_X12_findStays_23_1, i_B_X12_findStays_23_2, i_B_X12_findStays_23_3, i_B_X12_findStays_23_4⟩ := hI
    unfold B_X12_findStays_23
    refine wp_ck (z_r32_i.mpr ⟨(by omega) /- z_r32.lo z5#1 -/, (by omega) /- z_r32.hi z5#1 -/⟩) ?_
    refine wp_ck (z_r32_i.mpr ⟨(by omega) /- z_r32.lo x1#1 -/, (by omega) /- z_r32.hi x1#1 -/⟩) ?_
    refine wp_if (fun c2 => ?_) (fun c2 => ?_)
    ·
      refine wp_some ?_
      try dsimp only
      all_goals exact ⟨(by exact i_B_X12_findStays_23_3) /- post1#1 -/, (by intro k s a b c; exact i_B_X12_findStays_23_4 k s a (by omega) c) /- post2#1 -/⟩
    ·
      refine wp_bnd ?_
      refine wp_lq3 (fun (z12 : Int) (w13 : (Int → Int)) (w14 : (Int → Int)) => (0 ≤ z12) ∧ (z12 ≤ 49) ∧ (∀ j, 0 ≤ j → j < 49 → w14 j = 0) ∧ (∀ k s, 1 ≤ k → k < z5 → vst i_p0_seats s → stOK i_p0_seats i_p0_stirs v_p0_st v_p0_brings w14 k s) ∧ (∀ s, s < z12 → vst i_p0_seats s → stOK i_p0_seats i_p0_stirs v_p0_st v_p0_brings w14 z5 s)) (fun (z12 : Int) (w13 : (Int → Int)) (w14 : (Int → Int)) => (49 - z12).toNat) (fun again30 z12 w13 w14 hI ih_B_X12_findStays_30 => ?_) 1000 _ _ _ ⟨(by omega) /- B_X12_findStays_30.init1#1 -/, (by omega) /- B_X12_findStays_30.init2#1 -/, (by exact i_B_X12_findStays_23_3) /- B_X12_findStays_30.init3#1 -/, (by exact i_B_X12_findStays_23_4) /- B_X12_findStays_30.init4#1 -/, (by intro s a b; unfold vst at b; omega) /- B_X12_findStays_30.init5#1 -/⟩ (by omega) /- B_X12_findStays_30.fuel#1 -/
      obtain ⟨i_B_X12_findStays_30_1, i_B_X12_findStays_30_2, i_B_X12_findStays_30_3, i_B_X12_findStays_30_4, i_B_X12_findStays_30_5⟩ := hI
      unfold B_X12_findStays_30
      refine wp_ck (z_r32_i.mpr ⟨(by omega) /- z_r32.lo z12#1 -/, (by omega) /- z_r32.hi z12#1 -/⟩) ?_
      refine wp_if (fun c3 => ?_) (fun c3 => ?_)
      ·
        refine wp_bndE (fun z17 hz17 => ?_)
        exact ih_B_X12_findStays_23 _ _ _ ⟨(by omega) /- B_X12_findStays_23.inv1#1 -/, (by omega) /- B_X12_findStays_23.inv2#1 -/, (by exact i_B_X12_findStays_30_3) /- B_X12_findStays_23.inv3#1 -/, (by intro k s a b c; by_cases e : k = z5; rw [e]; exact i_B_X12_findStays_30_5 s (by unfold vst at c; omega) c; exact i_B_X12_findStays_30_4 k s a (by omega) c) /- B_X12_findStays_23.inv4#1 -/⟩ (by omega) /- B_X12_findStays_23.dec#1 -/
      ·
        refine wp_bnd ?_
        refine wp_bnd ?_
        refine wp_jn ?_
        refine wp_lq3 (fun (z25 : Int) (z26 : Int) (w27 : (Int → Int)) => (0 ≤ z25) ∧ (z25 ≤ i_p0_stirs) ∧ (0 ≤ z26 ∧ z26 ≤ z5) ∧ (∀ r, 0 ≤ r → r < z25 → thn i_p0_seats v_p0_st v_p0_brings z12 r % 7 = z12 % 7 → 1 + w14 (49 * (z5 - 1) + thn i_p0_seats v_p0_st v_p0_brings z12 r) ≤ z26) ∧ (z26 = 0 ∨ ∃ r, (0 ≤ r ∧ r < z25) ∧ thn i_p0_seats v_p0_st v_p0_brings z12 r % 7 = z12 % 7 ∧ z26 = 1 + w14 (49 * (z5 - 1) + thn i_p0_seats v_p0_st v_p0_brings z12 r))) (fun (z25 : Int) (z26 : Int) (w27 : (Int → Int)) => (i_p0_stirs - z25).toNat) (fun again42 z25 z26 w27 hI ih_B_X12_findStays_42 => ?_) 1000 _ _ _ ⟨(by omega) /- B_X12_findStays_42.init1#1 -/, (by omega) /- B_X12_findStays_42.init2#1 -/, (by omega) /- B_X12_findStays_42.init3#1 -/, (by intro r; omega) /- B_X12_findStays_42.init4#1 -/, (by left; rfl) /- B_X12_findStays_42.init5#1 -/⟩ (by omega) /- B_X12_findStays_42.fuel#1 -/
        obtain ⟨i_B_X12_findStays_42_1, i_B_X12_findStays_42_2, i_B_X12_findStays_42_3, i_B_X12_findStays_42_4, i_B_X12_findStays_42_5⟩ := hI
        unfold B_X12_findStays_42
        refine wp_ck (z_r32_i.mpr ⟨(by omega) /- z_r32.lo z25#1 -/, (by omega) /- z_r32.hi z25#1 -/⟩) ?_
        refine wp_ck (z_r32_i.mpr ⟨(by omega) /- z_r32.lo i_p0_stirs#1 -/, (by omega) /- z_r32.hi i_p0_stirs#1 -/⟩) ?_
        refine wp_if (fun c4 => ?_) (fun c4 => ?_)
        ·
          refine wp_ck (z_ix_i.mpr ⟨⟨(by omega) /- ix.lo (((49 : Int) * z5) + z12)#1 -/, (by omega) /- ix.hi (((49 : Int) * z5) + z12)#1 -/⟩, (by omega) /- ix.big (((49 : Int) * z5) + z12)#1 -/⟩) ?_
          refine wp_bnd ?_
          refine wp_bndE (fun z24 hz24 => ?_)
          exact ih_B_X12_findStays_30 _ _ _ ⟨(by omega) /- B_X12_findStays_30.inv1#1 -/, (by omega) /- B_X12_findStays_30.inv2#1 -/, (by intro j a b; rw [z_up_n _ _ (by omega)]; exact i_B_X12_findStays_30_3 j a b) /- B_X12_findStays_30.inv3#1 -/, (by intro k s a b c; have c2 := c; unfold vst at c2; exact stOK_up h1 h2 h5 c (by omega) (by omega) (i_B_X12_findStays_30_4 k s a b c)) /- B_X12_findStays_30.inv4#1 -/, (by 
                                        intro s a c
                                        have c2 := c
                                        unfold vst at c2
                                        by_cases e : s = z12
                                        · rw [e] at c ⊢
                                          have u : ∀ r, 0 ≤ r → r < i_p0_stirs → z_up w14 (49 * z5 + z12) z26 (49 * (z5 - 1) + thn i_p0_seats v_p0_st v_p0_brings z12 r) = w14 (49 * (z5 - 1) + thn i_p0_seats v_p0_st v_p0_brings z12 r) := by
                                            intro r f g
                                            have q := thn_rng (st := v_p0_st) h1 h2 h5 c f g
                                            unfold vst at q
                                            exact z_up_n _ _ (by omega)
                                          refine ⟨by rw [z_up_s]; exact i_B_X12_findStays_42_3, fun r f g t => by rw [z_up_s, u r f g]; exact i_B_X12_findStays_42_4 r f (by omega) t, ?_⟩
                                          rw [z_up_s]
                                          rcases i_B_X12_findStays_42_5 with d | ⟨r, f, g, t⟩
                                          · exact Or.inl d
                                          · exact Or.inr ⟨r, ⟨f.1, by omega⟩, g, by rw [u r f.1 (by omega)]; exact t⟩
                                        · exact stOK_up h1 h2 h5 c (by omega) (by omega) (i_B_X12_findStays_30_5 s (by omega) c)) /- B_X12_findStays_30.inv5#1 -/⟩ (by omega) /- B_X12_findStays_30.dec#1 -/
        ·
          refine wp_ck (z_dv_i.mpr ⟨⟨⟨(by omega) /- dv.0 z12#1 -/, (by omega) /- dv.1 z12#1 -/⟩, (by omega) /- dv.2 z12#1 -/⟩, (by omega) /- dv.3 z12#1 -/⟩) ?_
          refine wp_ck (z_r32_i.mpr ⟨(by omega) /- z_r32.lo (z12 % (7 : Int))#1 -/, (by omega) /- z_r32.hi (z12 % (7 : Int))#1 -/⟩) ?_
          refine wp_ck (z_r32_i.mpr ⟨(by omega) /- z_r32.lo i_p0_seats#1 -/, (by omega) /- z_r32.hi i_p0_seats#1 -/⟩) ?_
          refine wp_if (fun c5 => ?_) (fun c5 => ?_)
          ·
            refine wp_ck (z_ix_i.mpr ⟨⟨(by omega) /- ix.lo (((49 : Int) * z5) + z12)#2 -/, (by omega) /- ix.hi (((49 : Int) * z5) + z12)#2 -/⟩, (by omega) /- ix.big (((49 : Int) * z5) + z12)#2 -/⟩) ?_
            refine wp_bnd ?_
            refine wp_bndE (fun z24 hz24 => ?_)
            exact ih_B_X12_findStays_30 _ _ _ ⟨(by omega) /- B_X12_findStays_30.inv1#2 -/, (by omega) /- B_X12_findStays_30.inv2#2 -/, (by intro j a b; rw [z_up_n _ _ (by omega)]; exact i_B_X12_findStays_30_3 j a b) /- B_X12_findStays_30.inv3#2 -/, (by intro k s a b c; have c2 := c; unfold vst at c2; exact stOK_up h1 h2 h5 c (by omega) (by omega) (i_B_X12_findStays_30_4 k s a b c)) /- B_X12_findStays_30.inv4#2 -/, (by 
                                        intro s a c
                                        have c2 := c
                                        unfold vst at c2
                                        by_cases e : s = z12
                                        · exfalso; rw [e] at c2; omega
                                        · exact stOK_up h1 h2 h5 c (by omega) (by omega) (i_B_X12_findStays_30_5 s (by omega) c)) /- B_X12_findStays_30.inv5#2 -/⟩ (by omega) /- B_X12_findStays_30.dec#2 -/
          ·
            refine wp_ck (z_dv_i.mpr ⟨⟨⟨(by omega) /- dv.0 z12#2 -/, (by omega) /- dv.1 z12#2 -/⟩, (by omega) /- dv.2 z12#2 -/⟩, (by omega) /- dv.3 z12#2 -/⟩) ?_
            refine wp_ck (z_r32_i.mpr ⟨(by omega) /- z_r32.lo (z12 / (7 : Int))#1 -/, (by omega) /- z_r32.hi (z12 / (7 : Int))#1 -/⟩) ?_
            refine wp_if (fun c6 => ?_) (fun c6 => ?_)
            ·
              refine wp_ck (z_ix_i.mpr ⟨⟨(by omega) /- ix.lo (((49 : Int) * z5) + z12)#3 -/, (by omega) /- ix.hi (((49 : Int) * z5) + z12)#3 -/⟩, (by omega) /- ix.big (((49 : Int) * z5) + z12)#3 -/⟩) ?_
              refine wp_bnd ?_
              refine wp_bndE (fun z24 hz24 => ?_)
              exact ih_B_X12_findStays_30 _ _ _ ⟨(by omega) /- B_X12_findStays_30.inv1#3 -/, (by omega) /- B_X12_findStays_30.inv2#3 -/, (by intro j a b; rw [z_up_n _ _ (by omega)]; exact i_B_X12_findStays_30_3 j a b) /- B_X12_findStays_30.inv3#3 -/, (by intro k s a b c; have c2 := c; unfold vst at c2; exact stOK_up h1 h2 h5 c (by omega) (by omega) (i_B_X12_findStays_30_4 k s a b c)) /- B_X12_findStays_30.inv4#3 -/, (by 
                                        intro s a c
                                        have c2 := c
                                        unfold vst at c2
                                        by_cases e : s = z12
                                        · exfalso; rw [e] at c2; omega
                                        · exact stOK_up h1 h2 h5 c (by omega) (by omega) (i_B_X12_findStays_30_5 s (by omega) c)) /- B_X12_findStays_30.inv5#3 -/⟩ (by omega) /- B_X12_findStays_30.dec#3 -/
            ·
              have hvz : vst i_p0_seats z12 := by unfold vst; omega
              refine wp_bd2 (s_X12_then _ _ _ _ _ _ i_p0_stirs (by omega) /- pre X12_then.1#1 -/ (by omega) /- pre X12_then.2#1 -/ (by omega) /- pre X12_then.3#1 -/ (by omega) /- pre X12_then.4#1 -/ (by exact h5) /- pre X12_then.5#1 -/ (by exact hvz) /- pre X12_then.6#1 -/ (by omega) /- pre X12_then.7#1 -/ (by omega) /- pre X12_then.8#1 -/) (fun z34 w35 q_X12_then_1 => ?_)
              try dsimp only at q_X12_then_1
              obtain ⟨q_X12_then_1_1, q_X12_then_1_2⟩ := q_X12_then_1
              have hvt := q_X12_then_1_2
              unfold vst at hvt
              refine wp_bnd ?_
              refine wp_ck (z_dv_i.mpr ⟨⟨⟨(by omega) /- dv.0 z36#1 -/, (by omega) /- dv.1 z36#1 -/⟩, (by omega) /- dv.2 z36#1 -/⟩, (by omega) /- dv.3 z36#1 -/⟩) ?_
              refine wp_ck (z_dv_i.mpr ⟨⟨⟨(by omega) /- dv.0 z12#3 -/, (by omega) /- dv.1 z12#3 -/⟩, (by omega) /- dv.2 z12#3 -/⟩, (by omega) /- dv.3 z12#3 -/⟩) ?_
              refine wp_ck (z_r32_i.mpr ⟨(by omega) /- z_r32.lo (z36 % (7 : Int))#1 -/, (by omega) /- z_r32.hi (z36 % (7 : Int))#1 -/⟩) ?_
              refine wp_jn ?_
              refine wp_if (fun c7 => ?_) (fun c7 => ?_)
              ·
                refine wp_bd1 (s_X12_longestFrom _ _ _ (by omega) /- pre X12_longestFrom.1#1 -/ (by omega) /- pre X12_longestFrom.2#1 -/ (by omega) /- pre X12_longestFrom.3#1 -/ (by omega) /- pre X12_longestFrom.4#1 -/) (fun z47 q_X12_longestFrom_1 => ?_)
                try dsimp only at q_X12_longestFrom_1
                have hlr : 0 ≤ z47 ∧ z47 ≤ z5 - 1 := by
                  rw [q_X12_longestFrom_1]
                  by_cases e : z5 = 1
                  · rw [e, show (49 : Int) * (1 - 1) + z34 = z34 from by omega, i_B_X12_findStays_30_3 z34 (by omega) (by omega)]; omega
                  · exact (i_B_X12_findStays_30_4 (z5 - 1) z34 (by omega) (by omega) q_X12_then_1_2).1
                refine wp_bnd ?_
                refine wp_ck (z_r32_i.mpr ⟨(by omega) /- z_r32.lo z40#1 -/, (by omega) /- z_r32.hi z40#1 -/⟩) ?_
                refine wp_ck (z_r32_i.mpr ⟨(by omega) /- z_r32.lo z26#1 -/, (by omega) /- z_r32.hi z26#1 -/⟩) ?_
                refine wp_if (fun c8 => ?_) (fun c8 => ?_)
                ·
                  refine wp_bnd ?_
                  refine wp_bndE (fun z44 hz44 => ?_)
                  exact ih_B_X12_findStays_42 _ _ _ ⟨(by omega) /- B_X12_findStays_42.inv1#1 -/, (by omega) /- B_X12_findStays_42.inv2#1 -/, (by omega) /- B_X12_findStays_42.inv3#1 -/, (by intro r a b t; by_cases e : r = z25; (subst e; rw [← q_X12_then_1_1] at t ⊢; first | (rw [← q_X12_longestFrom_1]; omega) | omega); (have := i_B_X12_findStays_42_4 r a (by omega) t; omega)) /- B_X12_findStays_42.inv4#1 -/, (by first | (rcases i_B_X12_findStays_42_5 with d | ⟨r, f, g, t⟩; (left; exact d); (right; exact ⟨r, ⟨f.1, by omega⟩, g, t⟩)) | (right; exact ⟨z25, ⟨by omega, by omega⟩, by rw [← q_X12_then_1_1]; assumption, by rw [← q_X12_then_1_1, ← q_X12_longestFrom_1]⟩) | (left; omega)) /- B_X12_findStays_42.inv5#1 -/⟩ (by omega) /- B_X12_findStays_42.dec#1 -/
                ·
                  refine wp_bnd ?_
                  refine wp_bndE (fun z46 hz46 => ?_)
                  exact ih_B_X12_findStays_42 _ _ _ ⟨(by omega) /- B_X12_findStays_42.inv1#2 -/, (by omega) /- B_X12_findStays_42.inv2#2 -/, (by omega) /- B_X12_findStays_42.inv3#2 -/, (by intro r a b t; by_cases e : r = z25; (subst e; rw [← q_X12_then_1_1] at t ⊢; first | (rw [← q_X12_longestFrom_1]; omega) | omega); (have := i_B_X12_findStays_42_4 r a (by omega) t; omega)) /- B_X12_findStays_42.inv4#2 -/, (by first | (rcases i_B_X12_findStays_42_5 with d | ⟨r, f, g, t⟩; (left; exact d); (right; exact ⟨r, ⟨f.1, by omega⟩, g, t⟩)) | (right; exact ⟨z25, ⟨by omega, by omega⟩, by rw [← q_X12_then_1_1]; assumption, by rw [← q_X12_then_1_1, ← q_X12_longestFrom_1]⟩) | (left; omega)) /- B_X12_findStays_42.inv5#2 -/⟩ (by omega) /- B_X12_findStays_42.dec#2 -/
              ·
                refine wp_bnd ?_
                refine wp_ck (z_r32_i.mpr ⟨(by omega) /- z_r32.lo z40#2 -/, (by omega) /- z_r32.hi z40#2 -/⟩) ?_
                refine wp_ck (z_r32_i.mpr ⟨(by omega) /- z_r32.lo z26#2 -/, (by omega) /- z_r32.hi z26#2 -/⟩) ?_
                refine wp_if (fun c9 => ?_) (fun c9 => ?_)
                ·
                  refine wp_bnd ?_
                  refine wp_bndE (fun z44 hz44 => ?_)
                  exact ih_B_X12_findStays_42 _ _ _ ⟨(by omega) /- B_X12_findStays_42.inv1#3 -/, (by omega) /- B_X12_findStays_42.inv2#3 -/, (by omega) /- B_X12_findStays_42.inv3#3 -/, (by intro r a b t; by_cases e : r = z25; (subst e; rw [← q_X12_then_1_1] at t ⊢; first | (rw [← q_X12_longestFrom_1]; omega) | omega); (have := i_B_X12_findStays_42_4 r a (by omega) t; omega)) /- B_X12_findStays_42.inv4#3 -/, (by first | (rcases i_B_X12_findStays_42_5 with d | ⟨r, f, g, t⟩; (left; exact d); (right; exact ⟨r, ⟨f.1, by omega⟩, g, t⟩)) | (right; exact ⟨z25, ⟨by omega, by omega⟩, by rw [← q_X12_then_1_1]; assumption, by rw [← q_X12_then_1_1, ← q_X12_longestFrom_1]⟩) | (left; omega)) /- B_X12_findStays_42.inv5#3 -/⟩ (by omega) /- B_X12_findStays_42.dec#3 -/
                ·
                  refine wp_bnd ?_
                  refine wp_bndE (fun z46 hz46 => ?_)
                  exact ih_B_X12_findStays_42 _ _ _ ⟨(by omega) /- B_X12_findStays_42.inv1#4 -/, (by omega) /- B_X12_findStays_42.inv2#4 -/, (by omega) /- B_X12_findStays_42.inv3#4 -/, (by intro r a b t; by_cases e : r = z25; (subst e; rw [← q_X12_then_1_1] at t ⊢; first | (rw [← q_X12_longestFrom_1]; omega) | omega); (have := i_B_X12_findStays_42_4 r a (by omega) t; omega)) /- B_X12_findStays_42.inv4#4 -/, (by first | (rcases i_B_X12_findStays_42_5 with d | ⟨r, f, g, t⟩; (left; exact d); (right; exact ⟨r, ⟨f.1, by omega⟩, g, t⟩)) | (right; exact ⟨z25, ⟨by omega, by omega⟩, by rw [← q_X12_then_1_1]; assumption, by rw [← q_X12_then_1_1, ← q_X12_longestFrom_1]⟩) | (left; omega)) /- B_X12_findStays_42.inv5#4 -/⟩ (by omega) /- B_X12_findStays_42.dec#4 -/
  ·
    refine wp_ck (z_ix_i.mpr ⟨⟨(by omega) /- ix.lo z48#1 -/, (by omega) /- ix.hi z48#1 -/⟩, (by omega) /- ix.big z48#1 -/⟩) ?_
    refine wp_bnd ?_
    refine wp_bndE (fun z53 hz53 => ?_)
    exact ih_B_X12_findStays_2 _ _ ⟨(by omega) /- B_X12_findStays_2.inv1#1 -/, (by omega) /- B_X12_findStays_2.inv2#1 -/, (by intro j a b; rw [z_up_a]; split; rfl; exact i_B_X12_findStays_2_3 j a (by omega)) /- B_X12_findStays_2.inv3#1 -/⟩ (by omega) /- B_X12_findStays_2.dec#1 -/

set_option maxHeartbeats 1000000 in
theorem s_X12_stateNow (v_p0_st : (Int → Int)) (n : Int) (h1 : 2 ≤ n) (h2 : n ≤ 7) (h3 : okM n v_p0_st) : wp (f_X12_stateNow v_p0_st) (fun o => (o = 7 * v_p0_st 7 + v_p0_st 8) ∧ (vst n o)) := by
  unfold f_X12_stateNow
  have ho1 := okM_1 h3
  refine wp_ck (z_ix_i.mpr ⟨⟨(by omega) /- ix.lo (7 : Int)#1 -/, (by omega) /- ix.hi (7 : Int)#1 -/⟩, (by omega) /- ix.big (7 : Int)#1 -/⟩) ?_
  refine wp_ck (z_ix_i.mpr ⟨⟨(by omega) /- ix.lo (8 : Int)#1 -/, (by omega) /- ix.hi (8 : Int)#1 -/⟩, (by omega) /- ix.big (8 : Int)#1 -/⟩) ?_
  refine wp_some ?_
  try dsimp only
  all_goals exact ⟨(by rfl) /- post1#1 -/, (by unfold vst; omega) /- post2#1 -/⟩

set_option maxHeartbeats 4000000 in
theorem s_X12_reign (i_p0_seats : Int) (i_p0_stirs : Int) (v_p0_st : (Int → Int)) (v_p0_brings : (Int → Int)) (v_p0_places : (Int → Int)) (v_p0_stays : (Int → Int)) (x1 : Int) (x2 : Int) (h1 : -2147483648 ≤ x1) (h2 : x1 < 2147483648) (h3 : -2147483648 ≤ x2) (h4 : x2 < 2147483648) (h5 : 2 ≤ i_p0_seats) (h6 : i_p0_seats ≤ 7) (h7 : 0 ≤ i_p0_stirs) (h8 : i_p0_stirs ≤ 5) (h9 : rowsM i_p0_seats i_p0_stirs v_p0_brings) (h10 : okM i_p0_seats v_p0_st) : wp (f_X12_reign i_p0_seats i_p0_stirs v_p0_st v_p0_brings v_p0_places v_p0_stays x1 x2) (fun o => (-4 ≤ o.1 ∧ o.1 ≤ 10) ∧ (Hid (¬ ((1 ≤ x1 ∧ x1 ≤ 10) ∧ (x2 = 0 ∨ (10 ≤ x2 ∧ x2 ≤ 19))) → o.1 = -1)) ∧ (Hid (((1 ≤ x1 ∧ x1 ≤ 10) ∧ (x2 = 0 ∨ (10 ≤ x2 ∧ x2 ≤ 19))) → i_p0_stirs = 0 → o.1 = -2)) ∧ (Hid (((1 ≤ x1 ∧ x1 ≤ 10) ∧ (x2 = 0 ∨ (10 ≤ x2 ∧ x2 ≤ 19))) → ¬ i_p0_stirs = 0 → ∃ l, mostd (fun d => can i_p0_seats i_p0_stirs 1 (clF i_p0_seats (fun k => v_p0_st (9 + k))) (clA i_p0_seats i_p0_stirs (fun y b => v_p0_brings (7 * y + b))) (fun _ => True) d (v_p0_st 8) (v_p0_st 7)) (x1 + 1) l ∧ o.1 = if x2 = 0 then l else if x2 - 10 < l then prow i_p0_seats i_p0_stirs 1 (clF i_p0_seats (fun k => v_p0_st (9 + k))) (clA i_p0_seats i_p0_stirs (fun y b => v_p0_brings (7 * y + b))) (fun _ => True) l.toNat (v_p0_st 8) (v_p0_st 7) (x2 - 10).toNat else -4))) := by
  unfold f_X12_reign
  refine wp_ck (z_r32_i.mpr ⟨(by omega) /- z_r32.lo x1#1 -/, (by omega) /- z_r32.hi x1#1 -/⟩) ?_
  refine wp_bd1 (s_X12_in _ _ _ (by omega) /- pre X12_in.1#1 -/ (by omega) /- pre X12_in.2#1 -/ (by omega) /- pre X12_in.3#1 -/ (by omega) /- pre X12_in.4#1 -/ (by omega) /- pre X12_in.5#1 -/ (by omega) /- pre X12_in.6#1 -/) (fun z2 q_X12_in_1 => ?_)
  try dsimp only at q_X12_in_1
  refine wp_ck (z_r32_i.mpr ⟨(by omega) /- z_r32.lo z2#1 -/, (by omega) /- z_r32.hi z2#1 -/⟩) ?_
  refine wp_if (fun c1 => ?_) (fun c1 => ?_)
  ·
    refine wp_some ?_
    try dsimp only
    all_goals exact ⟨(by omega) /- post1#1 -/, (by unfold Hid; intro _; rfl) /- post2#1 -/, (by unfold Hid; intro h _; exfalso; split at q_X12_in_1 <;> omega) /- post3#1 -/, (by unfold Hid; intro h _; exfalso; split at q_X12_in_1 <;> omega) /- post4#1 -/⟩
  ·
    have hn : 1 ≤ x1 ∧ x1 ≤ 10 := by split at q_X12_in_1 <;> omega
    clear q_X12_in_1
    refine wp_ck (z_r32_i.mpr ⟨(by omega) /- z_r32.lo x2#1 -/, (by omega) /- z_r32.hi x2#1 -/⟩) ?_
    refine wp_jnP0 (x2 = 0 ∨ (10 ≤ x2 ∧ x2 ≤ 19)) (fun pJ5 => ?_) (fun J5 hJ5 => ?_)
    ·
      refine wp_ck (z_r32_i.mpr ⟨(by omega) /- z_r32.lo i_p0_stirs#1 -/, (by omega) /- z_r32.hi i_p0_stirs#1 -/⟩) ?_
      refine wp_if (fun c2 => ?_) (fun c2 => ?_)
      ·
        refine wp_some ?_
        try dsimp only
        all_goals exact ⟨(by omega) /- post1#2 -/, (by unfold Hid; intro h; exfalso; omega) /- post2#2 -/, (by unfold Hid; intro _ _; rfl) /- post3#2 -/, (by unfold Hid; intro _ h; exact absurd (by assumption) h) /- post4#2 -/⟩
      ·
        refine wp_bd2 (s_X12_findStays _ _ _ _ _ _ _ (by omega) /- pre X12_findStays.1#1 -/ (by omega) /- pre X12_findStays.2#1 -/ (by omega) /- pre X12_findStays.3#1 -/ (by omega) /- pre X12_findStays.4#1 -/ (by exact h9) /- pre X12_findStays.5#1 -/ (by omega) /- pre X12_findStays.6#1 -/ (by omega) /- pre X12_findStays.7#1 -/) (fun w7 w8 q_X12_findStays_1 => ?_)
        try dsimp only at q_X12_findStays_1
        obtain ⟨q_X12_findStays_1_1, q_X12_findStays_1_2⟩ := q_X12_findStays_1
        refine wp_bd1 (s_X12_stateNow _ i_p0_seats (by omega) /- pre X12_stateNow.1#1 -/ (by omega) /- pre X12_stateNow.2#1 -/ (by exact h10) /- pre X12_stateNow.3#1 -/) (fun z9 q_X12_stateNow_1 => ?_)
        try dsimp only at q_X12_stateNow_1
        obtain ⟨q_X12_stateNow_1_1, q_X12_stateNow_1_2⟩ := q_X12_stateNow_1
        have he := hd_ (show z9 % 7 = v_p0_st 8 ∧ z9 / 7 = v_p0_st 7 from by have ho1 := okM_1 h10; omega)
        have hvn := q_X12_stateNow_1_2
        unfold vst at hvn
        refine wp_bnd ?_
        refine wp_bd1 (s_X12_longestFrom _ _ _ (by omega) /- pre X12_longestFrom.1#1 -/ (by omega) /- pre X12_longestFrom.2#1 -/ (by omega) /- pre X12_longestFrom.3#1 -/ (by omega) /- pre X12_longestFrom.4#1 -/) (fun z11 q_X12_longestFrom_1 => ?_)
        try dsimp only at q_X12_longestFrom_1
        have hz := q_X12_findStays_1_2 x1 z9 (by omega) (by omega) q_X12_stateNow_1_2
        have hzr := hz.1
        rw [← q_X12_longestFrom_1] at hzr
        have hfx := stay_fix h5 h6 h9 q_X12_findStays_1_1 (N := x1) q_X12_findStays_1_2 x1.toNat z9 (by omega) q_X12_stateNow_1_2
        rw [show ((x1.toNat : Nat) : Int) = x1 from by omega, ← q_X12_longestFrom_1] at hfx
        clear hz
        have hmo := stay_most h5 h6 h9 q_X12_findStays_1_1 (N := x1) q_X12_findStays_1_2 (by omega) q_X12_stateNow_1_2
        rw [← q_X12_longestFrom_1, (hid he).1, (hid he).2] at hmo
        refine wp_bnd ?_
        refine wp_if (fun c3 => ?_) (fun c3 => ?_)
        ·
          refine wp_some ?_
          try dsimp only
          all_goals exact ⟨(by omega) /- post1#3 -/, (by unfold Hid; intro h; exfalso; omega) /- post2#3 -/, (by unfold Hid; intro h _; exfalso; omega) /- post3#3 -/, (by unfold Hid; intro _ _; exact ⟨_, hmo, by rw [if_pos (by assumption)]⟩) /- post4#3 -/⟩
        ·
          refine wp_ck (z_r32_i.mpr ⟨(by omega) /- z_r32.lo (x2 - (10 : Int))#1 -/, (by omega) /- z_r32.hi (x2 - (10 : Int))#1 -/⟩) ?_
          refine wp_ck (z_r32_i.mpr ⟨(by omega) /- z_r32.lo z12#1 -/, (by omega) /- z_r32.hi z12#1 -/⟩) ?_
          refine wp_if (fun c4 => ?_) (fun c4 => ?_)
          ·
            refine wp_bnd ?_
            refine wp_bnd ?_
            refine wp_lq4 (fun (z17 : Int) (z18 : Int) (z19 : Int) (w20 : (Int → Int)) => (0 ≤ z17) ∧ (z17 ≤ x2 - 9) ∧ (vst i_p0_seats z19) ∧ (w8 (49 * (z11 - z17) + z19) = z11 - z17) ∧ (-4 ≤ z18 ∧ z18 < 5) ∧ (Hid (pst i_p0_seats i_p0_stirs 1 (clF i_p0_seats (fun k => v_p0_st (9 + k))) (clA i_p0_seats i_p0_stirs (fun y b => v_p0_brings (7 * y + b))) (fun _ => True) z11.toNat (v_p0_st 8) (v_p0_st 7) z17.toNat = (z19 % 7, z19 / 7))) ∧ (Hid (0 < z17 → z18 = prow i_p0_seats i_p0_stirs 1 (clF i_p0_seats (fun k => v_p0_st (9 + k))) (clA i_p0_seats i_p0_stirs (fun y b => v_p0_brings (7 * y + b))) (fun _ => True) z11.toNat (v_p0_st 8) (v_p0_st 7) (z17 - 1).toNat))) (fun (z17 : Int) (z18 : Int) (z19 : Int) (w20 : (Int → Int)) => (x2 - 9 - z17).toNat) (fun again86 z17 z18 z19 w20 hI ih_B_X12_reign_86 => ?_) 1000 _ _ _ _ ⟨(by omega) /- B_X12_reign_86.init1#1 -/, (by omega) /- B_X12_reign_86.init2#1 -/, (by exact q_X12_stateNow_1_2) /- B_X12_reign_86.init3#1 -/, (by rw [show z11 - 0 = z11 from by omega]; exact hfx) /- B_X12_reign_86.init4#1 -/, (by omega) /- B_X12_reign_86.init5#1 -/, (by unfold Hid; rw [(hid he).1, (hid he).2]; rfl) /- B_X12_reign_86.init6#1 -/, (by unfold Hid; intro h; omega) /- B_X12_reign_86.init7#1 -/⟩ (by omega) /- B_X12_reign_86.fuel#1 -/
            obtain ⟨i_B_X12_reign_86_1, i_B_X12_reign_86_2, i_B_X12_reign_86_3, i_B_X12_reign_86_4, i_B_X12_reign_86_5, i_B_X12_reign_86_6, i_B_X12_reign_86_7⟩ := hI
            unfold B_X12_reign_86
            refine wp_ck (z_r32_i.mpr ⟨(by omega) /- z_r32.lo z17#1 -/, (by omega) /- z_r32.hi z17#1 -/⟩) ?_
            refine wp_if (fun c5 => ?_) (fun c5 => ?_)
            ·
              refine wp_some ?_
              try dsimp only
              all_goals exact ⟨(by omega) /- post1#4 -/, (by unfold Hid; intro h; exfalso; omega) /- post2#4 -/, (by unfold Hid; intro h _; exfalso; omega) /- post3#4 -/, (by unfold Hid; intro _ _; refine ⟨_, hmo, ?_⟩; rw [if_neg (by omega), if_pos (by omega), hid i_B_X12_reign_86_7 (by omega)]; congr 1; omega) /- post4#4 -/⟩
            ·
              refine wp_bnd ?_
              refine wp_bndE (fun z24 hz24 => ?_)
              refine wp_jn ?_
              have hvs := i_B_X12_reign_86_3
              unfold vst at hvs
              have hex : Hid (∃ r, (0 ≤ r ∧ r < i_p0_stirs) ∧ (thn i_p0_seats v_p0_st v_p0_brings z19 r % 7 = z19 % 7 ∧ w8 (49 * (z11 - z17 - 1) + thn i_p0_seats v_p0_st v_p0_brings z19 r) = z11 - z17 - 1)) := by
                obtain ⟨_, _, d⟩ := q_X12_findStays_1_2 (z11 - z17) z19 (by omega) (by omega) i_B_X12_reign_86_3
                rw [i_B_X12_reign_86_4] at d
                rcases d with d | ⟨r, f, g, t⟩
                · omega
                · exact ⟨r, f, g, by omega⟩
              refine wp_lq3 (fun (z32 : Int) (z33 : Int) (w34 : (Int → Int)) => (-1 ≤ z32) ∧ (z32 < i_p0_stirs) ∧ (fstd z32 i_p0_stirs (fun r => (thn i_p0_seats v_p0_st v_p0_brings z19 r % 7 = z19 % 7 ∧ w8 (49 * (z11 - z17 - 1) + thn i_p0_seats v_p0_st v_p0_brings z19 r) = z11 - z17 - 1)) z33)) (fun (z32 : Int) (z33 : Int) (w34 : (Int → Int)) => (z32 + 1).toNat) (fun again107 z32 z33 w34 hI ih_B_X12_reign_107 => ?_) 1000 _ _ _ ⟨(by omega) /- B_X12_reign_107.init1#1 -/, (by omega) /- B_X12_reign_107.init2#1 -/, (by rw [hz24]; exact fstd_0) /- B_X12_reign_107.init3#1 -/⟩ (by omega) /- B_X12_reign_107.fuel#1 -/
              obtain ⟨i_B_X12_reign_107_1, i_B_X12_reign_107_2, i_B_X12_reign_107_3⟩ := hI
              unfold B_X12_reign_107
              refine wp_ck (z_r32_i.mpr ⟨(by omega) /- z_r32.lo z32#1 -/, (by omega) /- z_r32.hi z32#1 -/⟩) ?_
              refine wp_if (fun c6 => ?_) (fun c6 => ?_)
              ·
                have hfq := hd_ (fstd_q i_B_X12_reign_107_3 (by omega) (by omega))
                have hgr := (fstq_ex (hid hfq) (hid hex)).1
                have hgd := hd_ (fstq_ex (hid hfq) (hid hex)).2
                have hfp := hd_ (stay_fsp h5 h6 h9 q_X12_findStays_1_1 (N := x1) q_X12_findStays_1_2 (show 0 ≤ z11 - z17 - 1 by omega) (by omega) i_B_X12_reign_86_3 (hid hfq))
                refine wp_bd2 (s_X12_then _ _ _ _ _ _ i_p0_stirs (by omega) /- pre X12_then.1#1 -/ (by omega) /- pre X12_then.2#1 -/ (by omega) /- pre X12_then.3#1 -/ (by omega) /- pre X12_then.4#1 -/ (by exact h9) /- pre X12_then.5#1 -/ (by exact i_B_X12_reign_86_3) /- pre X12_then.6#1 -/ (by omega) /- pre X12_then.7#1 -/ (by omega) /- pre X12_then.8#1 -/) (fun z28 w29 q_X12_then_1 => ?_)
                try dsimp only at q_X12_then_1
                obtain ⟨q_X12_then_1_1, q_X12_then_1_2⟩ := q_X12_then_1
                have hps := hd_ (pst_t (st := v_p0_st) h5 h6 h9 i_B_X12_reign_86_3 hgr.1 hgr.2 (hid i_B_X12_reign_86_6) (by rw [show z11.toNat - 1 - z17.toNat = (z11 - z17 - 1).toNat from by omega]; exact hid hfp) q_X12_then_1_1)
                refine wp_bnd ?_
                refine wp_bndE (fun z31 hz31 => ?_)
                exact ih_B_X12_reign_86 _ _ _ _ ⟨(by omega) /- B_X12_reign_86.inv1#1 -/, (by omega) /- B_X12_reign_86.inv2#1 -/, (by exact q_X12_then_1_2) /- B_X12_reign_86.inv3#1 -/, (by have e := (hid hgd).2; rw [← q_X12_then_1_1] at e; subst hz31; rw [show z11 - (z17 + 1) = z11 - z17 - 1 from by omega]; exact e) /- B_X12_reign_86.inv4#1 -/, (by omega) /- B_X12_reign_86.inv5#1 -/, (by unfold Hid; rw [show z31.toNat = z17.toNat + 1 from by omega]; exact (hid hps).1) /- B_X12_reign_86.inv6#1 -/, (by unfold Hid; intro _; rw [(hid hps).2]; congr 1; omega) /- B_X12_reign_86.inv7#1 -/⟩ (by omega) /- B_X12_reign_86.dec#1 -/
              ·
                refine wp_bd2 (s_X12_then _ _ _ _ _ _ i_p0_stirs (by omega) /- pre X12_then.1#2 -/ (by omega) /- pre X12_then.2#2 -/ (by omega) /- pre X12_then.3#2 -/ (by omega) /- pre X12_then.4#2 -/ (by exact h9) /- pre X12_then.5#2 -/ (by exact i_B_X12_reign_86_3) /- pre X12_then.6#2 -/ (by omega) /- pre X12_then.7#2 -/ (by omega) /- pre X12_then.8#2 -/) (fun z37 w38 q_X12_then_2 => ?_)
                try dsimp only at q_X12_then_2
                obtain ⟨q_X12_then_2_1, q_X12_then_2_2⟩ := q_X12_then_2
                have hvt := q_X12_then_2_2
                unfold vst at hvt
                refine wp_bnd ?_
                refine wp_ck (z_dv_i.mpr ⟨⟨⟨(by omega) /- dv.0 z39#1 -/, (by omega) /- dv.1 z39#1 -/⟩, (by omega) /- dv.2 z39#1 -/⟩, (by omega) /- dv.3 z39#1 -/⟩) ?_
                refine wp_ck (z_dv_i.mpr ⟨⟨⟨(by omega) /- dv.0 z19#1 -/, (by omega) /- dv.1 z19#1 -/⟩, (by omega) /- dv.2 z19#1 -/⟩, (by omega) /- dv.3 z19#1 -/⟩) ?_
                refine wp_ck (z_r32_i.mpr ⟨(by omega) /- z_r32.lo (z39 % (7 : Int))#1 -/, (by omega) /- z_r32.hi (z39 % (7 : Int))#1 -/⟩) ?_
                refine wp_ck (z_r32_i.mpr ⟨(by omega) /- z_r32.lo (z19 % (7 : Int))#1 -/, (by omega) /- z_r32.hi (z19 % (7 : Int))#1 -/⟩) ?_
                refine wp_jn ?_
                refine wp_jn ?_
                refine wp_if (fun c7 => ?_) (fun c7 => ?_)
                ·
                  refine wp_bd1 (s_X12_longestFrom _ _ _ (by omega) /- pre X12_longestFrom.1#2 -/ (by omega) /- pre X12_longestFrom.2#2 -/ (by omega) /- pre X12_longestFrom.3#2 -/ (by omega) /- pre X12_longestFrom.4#2 -/) (fun z51 q_X12_longestFrom_2 => ?_)
                  try dsimp only at q_X12_longestFrom_2
                  have hlr : 0 ≤ z51 ∧ z51 ≤ 10 := by
                    rw [q_X12_longestFrom_2]
                    by_cases e : z11 - z17 - 1 = 0
                    · rw [e, show (49 : Int) * 0 + z37 = z37 from by omega, q_X12_findStays_1_1 z37 (by omega) (by omega)]; omega
                    · have := (q_X12_findStays_1_2 (z11 - z17 - 1) z37 (by omega) (by omega) q_X12_then_2_2).1; omega
                  refine wp_ck (z_r32_i.mpr ⟨(by omega) /- z_r32.lo z51#1 -/, (by omega) /- z_r32.hi z51#1 -/⟩) ?_
                  refine wp_ck (z_r32_i.mpr ⟨(by omega) /- z_r32.lo ((z12 - z17) - (1 : Int))#1 -/, (by omega) /- z_r32.hi ((z12 - z17) - (1 : Int))#1 -/⟩) ?_
                  refine wp_if (fun c8 => ?_) (fun c8 => ?_)
                  ·
                    refine wp_bnd ?_
                    refine wp_ck (z_r32_i.mpr ⟨(by omega) /- z_r32.lo z44#1 -/, (by omega) /- z_r32.hi z44#1 -/⟩) ?_
                    refine wp_if (fun c9 => ?_) (fun c9 => ?_)
                    ·
                      refine wp_bnd ?_
                      refine wp_bndE (fun z47 hz47 => ?_)
                      exact ih_B_X12_reign_107 _ _ _ ⟨(by omega) /- B_X12_reign_107.inv1#1 -/, (by omega) /- B_X12_reign_107.inv2#1 -/, (by first | (rw [hz49]; exact fstd_yes (z := z33) (by omega) (by show _ ∧ _; rw [← q_X12_then_2_1]; exact ⟨by assumption, by omega⟩)) | (rw [hz47]; refine fstd_no i_B_X12_reign_107_3 (fun c => ?_); replace c : _ ∧ _ := c; rw [← q_X12_then_2_1] at c; omega) | (exfalso; omega)) /- B_X12_reign_107.inv3#1 -/⟩ (by omega) /- B_X12_reign_107.dec#1 -/
                    ·
                      refine wp_bnd ?_
                      refine wp_bndE (fun z49 hz49 => ?_)
                      exact ih_B_X12_reign_107 _ _ _ ⟨(by omega) /- B_X12_reign_107.inv1#2 -/, (by omega) /- B_X12_reign_107.inv2#2 -/, (by first | (rw [hz49]; exact fstd_yes (z := z33) (by omega) (by show _ ∧ _; rw [← q_X12_then_2_1]; exact ⟨by assumption, by omega⟩)) | (rw [hz47]; refine fstd_no i_B_X12_reign_107_3 (fun c => ?_); replace c : _ ∧ _ := c; rw [← q_X12_then_2_1] at c; omega) | (exfalso; omega)) /- B_X12_reign_107.inv3#2 -/⟩ (by omega) /- B_X12_reign_107.dec#2 -/
                  ·
                    refine wp_bnd ?_
                    refine wp_ck (z_r32_i.mpr ⟨(by omega) /- z_r32.lo z44#2 -/, (by omega) /- z_r32.hi z44#2 -/⟩) ?_
                    refine wp_if (fun c10 => ?_) (fun c10 => ?_)
                    ·
                      refine wp_bnd ?_
                      refine wp_bndE (fun z47 hz47 => ?_)
                      exact ih_B_X12_reign_107 _ _ _ ⟨(by omega) /- B_X12_reign_107.inv1#3 -/, (by omega) /- B_X12_reign_107.inv2#3 -/, (by first | (rw [hz49]; exact fstd_yes (z := z33) (by omega) (by show _ ∧ _; rw [← q_X12_then_2_1]; exact ⟨by assumption, by omega⟩)) | (rw [hz47]; refine fstd_no i_B_X12_reign_107_3 (fun c => ?_); replace c : _ ∧ _ := c; rw [← q_X12_then_2_1] at c; omega) | (exfalso; omega)) /- B_X12_reign_107.inv3#3 -/⟩ (by omega) /- B_X12_reign_107.dec#3 -/
                    ·
                      refine wp_bnd ?_
                      refine wp_bndE (fun z49 hz49 => ?_)
                      exact ih_B_X12_reign_107 _ _ _ ⟨(by omega) /- B_X12_reign_107.inv1#4 -/, (by omega) /- B_X12_reign_107.inv2#4 -/, (by first | (rw [hz49]; exact fstd_yes (z := z33) (by omega) (by show _ ∧ _; rw [← q_X12_then_2_1]; exact ⟨by assumption, by omega⟩)) | (rw [hz47]; refine fstd_no i_B_X12_reign_107_3 (fun c => ?_); replace c : _ ∧ _ := c; rw [← q_X12_then_2_1] at c; omega) | (exfalso; omega)) /- B_X12_reign_107.inv3#4 -/⟩ (by omega) /- B_X12_reign_107.dec#4 -/
                ·
                  refine wp_bnd ?_
                  refine wp_ck (z_r32_i.mpr ⟨(by omega) /- z_r32.lo z44#3 -/, (by omega) /- z_r32.hi z44#3 -/⟩) ?_
                  refine wp_if (fun c11 => ?_) (fun c11 => ?_)
                  ·
                    refine wp_bnd ?_
                    refine wp_bndE (fun z47 hz47 => ?_)
                    exact ih_B_X12_reign_107 _ _ _ ⟨(by omega) /- B_X12_reign_107.inv1#5 -/, (by omega) /- B_X12_reign_107.inv2#5 -/, (by first | (rw [hz49]; exact fstd_yes (z := z33) (by omega) (by show _ ∧ _; rw [← q_X12_then_2_1]; exact ⟨by assumption, by omega⟩)) | (rw [hz47]; refine fstd_no i_B_X12_reign_107_3 (fun c => ?_); replace c : _ ∧ _ := c; rw [← q_X12_then_2_1] at c; omega) | (exfalso; omega)) /- B_X12_reign_107.inv3#5 -/⟩ (by omega) /- B_X12_reign_107.dec#5 -/
                  ·
                    refine wp_bnd ?_
                    refine wp_bndE (fun z49 hz49 => ?_)
                    exact ih_B_X12_reign_107 _ _ _ ⟨(by omega) /- B_X12_reign_107.inv1#6 -/, (by omega) /- B_X12_reign_107.inv2#6 -/, (by first | (rw [hz49]; exact fstd_yes (z := z33) (by omega) (by show _ ∧ _; rw [← q_X12_then_2_1]; exact ⟨by assumption, by omega⟩)) | (rw [hz47]; refine fstd_no i_B_X12_reign_107_3 (fun c => ?_); replace c : _ ∧ _ := c; rw [← q_X12_then_2_1] at c; omega) | (exfalso; omega)) /- B_X12_reign_107.inv3#6 -/⟩ (by omega) /- B_X12_reign_107.dec#6 -/
          ·
            refine wp_some ?_
            try dsimp only
            all_goals exact ⟨(by omega) /- post1#5 -/, (by unfold Hid; intro h; exfalso; omega) /- post2#5 -/, (by unfold Hid; intro h _; exfalso; omega) /- post3#5 -/, (by unfold Hid; intro _ _; refine ⟨_, hmo, ?_⟩; rw [if_neg (by omega), if_neg (by omega)]) /- post4#5 -/⟩
    refine wp_if (fun c12 => ?_) (fun c12 => ?_)
    ·
      exact hJ5  (by first | omega | (split at q_X12_in_2 <;> omega)) /- to J5#1 -/
    ·
      refine wp_bd1 (s_X12_in _ _ _ (by omega) /- pre X12_in.1#2 -/ (by omega) /- pre X12_in.2#2 -/ (by omega) /- pre X12_in.3#2 -/ (by omega) /- pre X12_in.4#2 -/ (by omega) /- pre X12_in.5#2 -/ (by omega) /- pre X12_in.6#2 -/) (fun z54 q_X12_in_2 => ?_)
      try dsimp only at q_X12_in_2
      refine wp_ck (z_r32_i.mpr ⟨(by omega) /- z_r32.lo z54#1 -/, (by omega) /- z_r32.hi z54#1 -/⟩) ?_
      refine wp_if (fun c13 => ?_) (fun c13 => ?_)
      ·
        refine wp_some ?_
        try dsimp only
        all_goals exact ⟨(by omega) /- post1#6 -/, (by unfold Hid; intro _; rfl) /- post2#6 -/, (by unfold Hid; intro h _; exfalso; split at q_X12_in_2 <;> omega) /- post3#6 -/, (by unfold Hid; intro h _; exfalso; split at q_X12_in_2 <;> omega) /- post4#6 -/⟩
      ·
        exact hJ5  (by first | omega | (split at q_X12_in_2 <;> omega)) /- to J5#2 -/
