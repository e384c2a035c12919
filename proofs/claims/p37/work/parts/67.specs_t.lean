/-- the state behind s by the stir r -/
noncomputable def thn (n : Int) (st b : Int → Int) (s r : Int) : Int := 7 * b (7 * r + s / 7) + hol n (s % 7) (st (9 + s % 7)) (b (7 * r + s / 7))
def vst (n s : Int) : Prop := 0 ≤ s ∧ s < 49 ∧ s % 7 < n ∧ s / 7 < n
theorem thn_rng {n m s r : Int} {st b : Int → Int} (h2 : 2 ≤ n) (h7 : n ≤ 7) (hr : rowsM n m b) (hs : vst n s) (h0 : 0 ≤ r) (h1 : r < m) : vst n (thn n st b s r) := by
  obtain ⟨a, c, d, e⟩ := hs
  have q := rowM_use hr h0 h1 (i := s / 7) (by omega) e
  have w := hol_rng (k := s % 7) (f := st (9 + s % 7)) (by omega) q.1 q.2
  unfold thn vst
  omega
/-- what stir r brings from state s to state t -/
noncomputable def rtm (n : Int) (st b : Int → Int) (same v s t : Int) : Int → Int := fun r => if thn n st b s r = t ∧ (same = 0 ∨ thn n st b s r % 7 = s % 7) then v else 0
theorem rtm_0 {n same s t : Int} {st b : Int → Int} : ∀ m : Nat, sumTo (rtm n st b same 0 s t) m = 0 := by
  intro m
  induction m with
  | zero => rfl
  | succ m ih =>
    show sumTo _ m + rtm n st b same 0 s t (m : Int) = 0
    rw [ih]
    unfold rtm
    split <;> rfl
theorem sum_split {F : Int → Int} : ∀ m : Nat, sumTo F (7 * m) = sumTo (fun b => sumTo (fun k => F (7 * b + k)) 7) m := by
  intro m
  induction m with
  | zero => rfl
  | succ m ih =>
    show sumTo F (7 * m + 7) = sumTo (fun b => sumTo (fun k => F (7 * b + k)) 7) m + sumTo (fun k => F (7 * (m : Int) + k)) 7
    rw [← ih]
    have e : ∀ d : Nat, sumTo F (7 * m + d) = sumTo F (7 * m) + sumTo (fun k => F (7 * (m : Int) + k)) d := by
      intro d
      induction d with
      | zero => show sumTo F (7 * m) = sumTo F (7 * m) + 0; rw [Int.add_zero]
      | succ d ih2 =>
        show sumTo F (7 * m + d) + F ((7 * m + d : Nat) : Int) = sumTo F (7 * m) + (sumTo (fun k => F (7 * (m : Int) + k)) d + F (7 * (m : Int) + (d : Int)))
        rw [ih2, show ((7 * m + d : Nat) : Int) = 7 * (m : Int) + (d : Int) from by omega]
        omega
    exact e 7
theorem sum_trunc {f : Int → Int} {n : Int} (h0 : 0 ≤ n) (h7 : n ≤ 7) (h : ∀ j, n ≤ j → j < 7 → f j = 0) : sumTo f 7 = sumTo f n.toNat := by
  have e : ∀ d : Nat, n.toNat + d ≤ 7 → sumTo f (n.toNat + d) = sumTo f n.toNat := by
    intro d
    induction d with
    | zero => intro _; rfl
    | succ d ih =>
      intro hd
      show sumTo f (n.toNat + d) + f ((n.toNat + d : Nat) : Int) = _
      rw [ih (by omega), h _ (by omega) (by omega), Int.add_zero]
  have := e (7 - n.toNat) (by omega)
  rw [show n.toNat + (7 - n.toNat) = 7 from by omega] at this
  exact this
theorem sum_addf {f g : Int → Int} : ∀ m : Nat, sumTo (fun j => f j + g j) m = sumTo f m + sumTo g m := by
  intro m
  induction m with
  | zero => rfl
  | succ m ih =>
    show sumTo (fun j => f j + g j) m + (f (m : Int) + g (m : Int)) = sumTo f m + f (m : Int) + (sumTo g m + g (m : Int))
    rw [ih]; omega
theorem sum_swap {f : Int → Int → Int} : ∀ (m k : Nat), sumTo (fun i => sumTo (fun j => f i j) k) m = sumTo (fun j => sumTo (fun i => f i j) m) k := by
  intro m
  induction m with
  | zero =>
    intro k
    show (0 : Int) = sumTo (fun _ => 0) k
    induction k with
    | zero => rfl
    | succ k ih => show (0 : Int) = sumTo (fun _ => 0) k + 0; omega
  | succ m ih =>
    intro k
    show sumTo (fun i => sumTo (fun j => f i j) k) m + sumTo (fun j => f (m : Int) j) k = sumTo (fun j => sumTo (fun i => f i j) m + f (m : Int) j) k
    rw [ih k, sum_addf]
theorem rtm_ltm {n same v k b k2 b2 S r : Int} {st br : Int → Int} (h2 : 2 ≤ n) (h7 : n ≤ 7) (hr : rowsM n S br) (k0 : 0 ≤ k) (k1 : k < n) (b0 : 0 ≤ b) (b1 : b < n) (k20 : 0 ≤ k2) (k21 : k2 < n) (b20 : 0 ≤ b2) (b21 : b2 < n) (r0 : 0 ≤ r) (r1 : r < S) : rtm n st br same v (7 * b + k) (7 * b2 + k2) r = ltm n (fun k => st (9 + k)) (fun r b => br (7 * r + b)) same v k b k2 b2 r := by
  unfold rtm ltm thn
  dsimp only
  rw [show (7 * b + k) / 7 = b from by omega, show (7 * b + k) % 7 = k from by omega]
  have q := rowM_use hr r0 r1 b0 b1
  have w := hol_rng (n := n) (k := k) (f := st (9 + k)) (by omega) q.1 q.2
  generalize hol n k (st (9 + k)) (br (7 * r + b)) = h at w ⊢
  by_cases c : (h = k2 ∧ br (7 * r + b) = b2) ∧ (k2 = k ∨ same = 0)
  · rw [if_pos c, if_pos (by omega)]
  · rw [if_neg c, if_neg (by omega)]
theorem ways_conv {n same S k2 b2 : Int} {st br w : Int → Int} {W : Int → Int → Int} (h2 : 2 ≤ n) (h7 : n ≤ 7) (hr : rowsM n S br) (hS : 0 ≤ S) (hW : ∀ k b, 0 ≤ k → k < n → 0 ≤ b → b < n → w (7 * b + k) = W k b) (hz : ∀ s, 0 ≤ s → s < 49 → ¬ vst n s → w s = 0) (k20 : 0 ≤ k2) (k21 : k2 < n) (b20 : 0 ≤ b2) (b21 : b2 < n) :
    sumTo (fun s => sumTo (rtm n st br same (w s) s (7 * b2 + k2)) S.toNat) 49 = sumTo (fun k => sumTo (fun b => sumTo (ltm n (fun k => st (9 + k)) (fun r b => br (7 * r + b)) same (W k b) k b k2 b2) S.toNat) n.toNat) n.toNat := by
  have zz : ∀ b k, 0 ≤ b → b < 7 → 0 ≤ k → k < 7 → (n ≤ b ∨ n ≤ k) → sumTo (rtm n st br same (w (7 * b + k)) (7 * b + k) (7 * b2 + k2)) S.toNat = 0 := by
    intro b k a1 a2 a3 a4 a5
    rw [hz (7 * b + k) (by omega) (by omega) (by unfold vst; omega)]
    exact rtm_0 _
  rw [show (49 : Nat) = 7 * 7 from rfl, sum_split (F := fun s => sumTo (rtm n st br same (w s) s (7 * b2 + k2)) S.toNat) 7]
  rw [sum_trunc (n := n) (by omega) h7 (fun b a c => by
    have e := sum_zero (n := 7) (f := fun k => sumTo (rtm n st br same (w (7 * b + k)) (7 * b + k) (7 * b2 + k2)) S.toNat) (fun k u v => zz b k (by omega) c u v (Or.inl a))
    exact e)]
  rw [sum_ext (g := fun b => sumTo (fun k => sumTo (rtm n st br same (w (7 * b + k)) (7 * b + k) (7 * b2 + k2)) S.toNat) n.toNat) n.toNat (fun b a c => sum_trunc (n := n) (by omega) h7 (fun k u v => zz b k a (by omega) (by omega) v (Or.inr u)))]
  rw [sum_swap]
  refine sum_ext n.toNat (fun k a c => ?_)
  refine sum_ext n.toNat (fun b u v => ?_)
  rw [hW k b a (by omega) u (by omega)]
  refine sum_ext S.toNat (fun r p q => ?_)
  exact rtm_ltm h2 h7 hr a (by omega) u (by omega) k20 k21 b20 b21 p (by omega)
theorem ways_king {n p : Int} {w : Int → Int} {W : Int → Int → Int} (h2 : 2 ≤ n) (h7 : n ≤ 7) (hW : ∀ k b, 0 ≤ k → k < n → 0 ≤ b → b < n → w (7 * b + k) = W k b) (hz : ∀ s, 0 ≤ s → s < 49 → ¬ vst n s → w s = 0) (p0 : 0 ≤ p) (p1 : p < n) : sumTo (fun s => if s % 7 = p then w s else 0) 49 = sumTo (fun b => W p b) n.toNat := by
  rw [show (49 : Nat) = 7 * 7 from rfl, sum_split (F := fun s => if s % 7 = p then w s else 0) 7]
  have e : ∀ b, 0 ≤ b → b < 7 → sumTo (fun k => if (7 * b + k) % 7 = p then w (7 * b + k) else 0) 7 = w (7 * b + p) := by
    intro b a c
    have g := sum_up (f := fun _ => (0 : Int)) (i := p) (v := w (7 * b + p)) p0 7
    rw [if_pos (by omega), show sumTo (fun _ => (0 : Int)) 7 = 0 from rfl] at g
    rw [← sum_ext (f := z_up (fun _ => (0 : Int)) p (w (7 * b + p))) 7 (fun k u v => by
      rw [z_up_a]
      by_cases d : k = p
      · rw [if_pos d, if_pos (by omega), d]
      · rw [if_neg d, if_neg (by omega)]), g]
    omega
  rw [sum_ext (g := fun b => w (7 * b + p)) 7 (fun b a c => e b a (by omega))]
  rw [sum_trunc (n := n) (by omega) h7 (fun b a c => hz _ (by omega) (by omega) (by unfold vst; omega))]
  exact sum_ext n.toNat (fun b a c => hW p b p0 p1 a (by omega))
theorem sum_same {n p : Int} {w : Int → Int} (h : ∀ s, 0 ≤ s → s < 49 → ¬ s % 7 = p → w s = 0) : sumTo w 49 = sumTo (fun s => if s % 7 = p then w s else 0) 49 := by
  refine sum_ext 49 (fun s a b => ?_)
  by_cases c : s % 7 = p
  · rw [if_pos c]
  · rw [if_neg c]; exact h s a (by omega) c
theorem lck_own {n s k0 b0 : Int} {fr : Int → Int} {A : Int → Int → Int} : ∀ (i : Nat) {k b : Int}, ¬ k = k0 → lck n s fr A 1 k0 b0 i k b = 0 := by
  intro i
  induction i with
  | zero => intro k b h; show (if k = k0 ∧ b = b0 then (1 : Int) else 0) = 0; rw [if_neg (fun z => h z.1)]
  | succ i ih =>
    intro k2 b2 h
    show sumTo _ _ = 0
    refine sum_zero (fun k a c => sum_zero (fun b u v => sum_zero (fun r p q => ?_)))
    unfold ltm
    by_cases d : (hol n k (fr k) (A r b) = k2 ∧ A r b = b2) ∧ (k2 = k ∨ (1 : Int) = 0)
    · rw [if_pos d]
      exact ih (by omega)
    · rw [if_neg d]
theorem lck_congr {n s same k0 b0 : Int} {fr fr2 : Int → Int} {A A2 : Int → Int → Int} (hf : ∀ k, 0 ≤ k → k < n → fr k = fr2 k) (hA : ∀ r b, 0 ≤ r → r < s → 0 ≤ b → b < n → A r b = A2 r b) : ∀ (i : Nat) (k b : Int), lck n s fr A same k0 b0 i k b = lck n s fr2 A2 same k0 b0 i k b := by
  intro i
  induction i with
  | zero => intro k b; rfl
  | succ i ih =>
    intro k2 b2
    show sumTo _ _ = sumTo _ _
    refine sum_ext n.toNat (fun k a c => sum_ext n.toNat (fun b u v => ?_))
    rw [ih k b]
    refine sum_ext s.toNat (fun r p q => ?_)
    unfold ltm
    rw [hf k a (by omega), hA r b p (by omega) u (by omega)]
set_option maxHeartbeats 1000000 in
theorem s_X12_common (x0 : Int) (x2 : Int) (h1 : 0 ≤ x0) (h2 : x0 < 4611686018427387904) (h3 : 0 ≤ x2) (h4 : x2 < 4611686018427387904) (h5 : 0 < x0 ∨ 0 < x2) : wp (f_X12_common x0 x2) (fun o => (0 < o ∧ o < 4611686018427387904) ∧ (o = gz x0 x2)) := by
  unfold f_X12_common
  refine wp_bnd ?_
  refine wp_bnd ?_
  refine wp_lq2 (fun (z3 : Int) (z4 : Int) => (0 ≤ z3 ∧ z3 < 4611686018427387904) ∧ (0 ≤ z4 ∧ z4 < 4611686018427387904) ∧ (0 < z4 ∨ 0 < z3) ∧ (Hid (gz z4 z3 = gz x0 x2))) (fun (z3 : Int) (z4 : Int) => eum z3 z4) (fun again6 z3 z4 hI ih_B_X12_common_6 => ?_) 1000 _ _ ⟨(by omega) /- B_X12_common_6.init1#1 -/, (by omega) /- B_X12_common_6.init2#1 -/, (by omega) /- B_X12_common_6.init3#1 -/, (by exact hd_ rfl) /- B_X12_common_6.init4#1 -/⟩ (by exact eum_le _ _) /- B_X12_common_6.fuel#1 -/
  obtain ⟨i_B_X12_common_6_1, i_B_X12_common_6_2, i_B_X12_common_6_3, i_B_X12_common_6_4⟩ := hI
  unfold B_X12_common_6
  refine wp_ck (z_r64_i.mpr ⟨(by omega) /- z_r64.lo z3#1 -/, (by omega) /- z_r64.hi z3#1 -/⟩) ?_
  refine wp_ck (z_r32_cmp _ _) ?_
  refine wp_if (fun c1 => ?_) (fun c1 => ?_)
  ·
    have hc0 := cmp_0.mp c1
    refine wp_some ?_
    try dsimp only
    all_goals exact ⟨(by omega) /- post1#1 -/, (by rw [← hid i_B_X12_common_6_4, hc0, gz_0 (by omega)]) /- post2#1 -/⟩
  ·
    have hc0 : ¬ z3 = 0 := fun h => c1 (cmp_0.mpr h)
    have hm0 : 0 ≤ z4 % z3 := rg_lo (by omega)
    have hm1 : z4 % z3 < z3 := rg_hi (by omega)
    refine wp_ck (w_dv_i.mpr ⟨⟨⟨(by omega) /- dv.0 z4#1 -/, (by omega) /- dv.1 z4#1 -/⟩, (by omega) /- dv.2 z4#1 -/⟩, (by omega) /- dv.3 z4#1 -/⟩) ?_
    refine wp_bndE (fun z8 hz8 => ?_)
    refine wp_bnd ?_
    refine wp_bnd ?_
    exact ih_B_X12_common_6 _ _ ⟨(by omega) /- B_X12_common_6.inv1#1 -/, (by omega) /- B_X12_common_6.inv2#1 -/, (by omega) /- B_X12_common_6.inv3#1 -/, (by subst hz8; unfold Hid; rw [gz_step (by omega) (by omega)]; exact i_B_X12_common_6_4) /- B_X12_common_6.inv4#1 -/⟩ (by subst hz8; exact eum_dec (by omega) (by omega) (by omega) (by omega)) /- B_X12_common_6.dec#1 -/

set_option maxHeartbeats 1000000 in
theorem s_X12_lowest (x0 : Int) (x2 : Int) (x4 : Int) (h1 : 0 ≤ x0) (h2 : x0 < 4611686018427387904) (h3 : 0 < x2) (h4 : x2 < 4611686018427387904) (h5 : -2147483648 ≤ x4) (h6 : x4 < 2147483648) : wp (f_X12_lowest x0 x2 x4) (fun o => (Hid (o = if x4 = 0 then x0 / gz x2 x0 else x2 / gz x2 x0))) := by
  unfold f_X12_lowest
  refine wp_bd1 (s_X12_common _ _ (by omega) /- pre X12_common.1#1 -/ (by omega) /- pre X12_common.2#1 -/ (by omega) /- pre X12_common.3#1 -/ (by omega) /- pre X12_common.4#1 -/ (by omega) /- pre X12_common.5#1 -/) (fun z1 q_X12_common_1 => ?_)
  try dsimp only at q_X12_common_1
  obtain ⟨q_X12_common_1_1, q_X12_common_1_2⟩ := q_X12_common_1
  refine wp_bnd ?_
  refine wp_ck (z_r32_i.mpr ⟨(by omega) /- z_r32.lo x4#1 -/, (by omega) /- z_r32.hi x4#1 -/⟩) ?_
  refine wp_if (fun c1 => ?_) (fun c1 => ?_)
  ·
    refine wp_ck (w_dv_i.mpr ⟨⟨⟨(by omega) /- dv.0 x0#1 -/, (by omega) /- dv.1 x0#1 -/⟩, (by omega) /- dv.2 x0#1 -/⟩, (by omega) /- dv.3 x0#1 -/⟩) ?_
    refine wp_some ?_
    try dsimp only
    all_goals exact (by unfold Hid; rw [if_pos (by assumption), ← q_X12_common_1_2]) /- post1#1 -/
  ·
    refine wp_ck (w_dv_i.mpr ⟨⟨⟨(by omega) /- dv.0 x2#1 -/, (by omega) /- dv.1 x2#1 -/⟩, (by omega) /- dv.2 x2#1 -/⟩, (by omega) /- dv.3 x2#1 -/⟩) ?_
    refine wp_some ?_
    try dsimp only
    all_goals exact (by unfold Hid; rw [if_neg (by assumption), ← q_X12_common_1_2]) /- post1#2 -/

set_option maxHeartbeats 1000000 in
theorem s_X12_power (x1 : Int) (x3 : Int) (h1 : 0 ≤ x1) (h2 : x1 ≤ 7) (h3 : 0 ≤ x3) (h4 : x3 ≤ 12) : wp (f_X12_power x1 x3) (fun o => (o = x1 ^ x3.toNat)) := by
  unfold f_X12_power
  refine wp_bnd ?_
  refine wp_bnd ?_
  refine wp_lq2 (fun (z3 : Int) (z4 : Int) => (0 ≤ z3) ∧ (z3 ≤ x3) ∧ (z4 = x1 ^ z3.toNat)) (fun (z3 : Int) (z4 : Int) => (x3 - z3).toNat) (fun again6 z3 z4 hI ih_B_X12_power_6 => ?_) 1000 _ _ ⟨(by omega) /- B_X12_power_6.init1#1 -/, (by omega) /- B_X12_power_6.init2#1 -/, (by exact (Int.pow_zero x1).symm) /- B_X12_power_6.init3#1 -/⟩ (by omega) /- B_X12_power_6.fuel#1 -/
  obtain ⟨i_B_X12_power_6_1, i_B_X12_power_6_2, i_B_X12_power_6_3⟩ := hI
  unfold B_X12_power_6
  refine wp_ck (z_r32_i.mpr ⟨(by omega) /- z_r32.lo z3#1 -/, (by omega) /- z_r32.hi z3#1 -/⟩) ?_
  refine wp_ck (z_r32_i.mpr ⟨(by omega) /- z_r32.lo x3#1 -/, (by omega) /- z_r32.hi x3#1 -/⟩) ?_
  refine wp_if (fun c1 => ?_) (fun c1 => ?_)
  ·
    refine wp_some ?_
    try dsimp only
    all_goals exact (by rw [i_B_X12_power_6_3]; congr 1; omega) /- post1#1 -/
  ·
    refine wp_bndE (fun z8 hz8 => ?_)
    refine wp_bndE (fun z9 hz9 => ?_)
    exact ih_B_X12_power_6 _ _ ⟨(by omega) /- B_X12_power_6.inv1#1 -/, (by omega) /- B_X12_power_6.inv2#1 -/, (by subst hz8 hz9; rw [pow_step i_B_X12_power_6_1, ← i_B_X12_power_6_3]) /- B_X12_power_6.inv3#1 -/⟩ (by omega) /- B_X12_power_6.dec#1 -/

set_option maxHeartbeats 1000000 in
theorem s_X12_firstWays (v_p0_st : (Int → Int)) (v_p0_ways : (Int → Int)) (n : Int) (h1 : 2 ≤ n) (h2 : n ≤ 7) (h3 : okM n v_p0_st) : wp (f_X12_firstWays v_p0_st v_p0_ways) (fun o => (o = z_up (z_fill v_p0_ways 49 0) (7 * v_p0_st 7 + v_p0_st 8) 1)) := by
  unfold f_X12_firstWays
  have ho1 := okM_1 h3
  refine wp_bnd ?_
  refine wp_jn ?_
  refine wp_lq2 (fun (z5 : Int) (w6 : (Int → Int)) => (0 ≤ z5) ∧ (z5 ≤ 49) ∧ (w6 = z_fill v_p0_ways z5 0)) (fun (z5 : Int) (w6 : (Int → Int)) => (49 - z5).toNat) (fun again2 z5 w6 hI ih_B_X12_firstWays_2 => ?_) 1000 _ _ ⟨(by omega) /- B_X12_firstWays_2.init1#1 -/, (by omega) /- B_X12_firstWays_2.init2#1 -/, (by funext j; rw [z_fill_a, if_neg (by omega)]) /- B_X12_firstWays_2.init3#1 -/⟩ (by omega) /- B_X12_firstWays_2.fuel#1 -/
  obtain ⟨i_B_X12_firstWays_2_1, i_B_X12_firstWays_2_2, i_B_X12_firstWays_2_3⟩ := hI
  unfold B_X12_firstWays_2
  refine wp_ck (z_r32_i.mpr ⟨(by omega) /- z_r32.lo z5#1 -/, (by omega) /- z_r32.hi z5#1 -/⟩) ?_
  refine wp_if (fun c1 => ?_) (fun c1 => ?_)
  ·
    refine wp_ck (z_ix_i.mpr ⟨⟨(by omega) /- ix.lo (7 : Int)#1 -/, (by omega) /- ix.hi (7 : Int)#1 -/⟩, (by omega) /- ix.big (7 : Int)#1 -/⟩) ?_
    refine wp_ck (z_ix_i.mpr ⟨⟨(by omega) /- ix.lo (8 : Int)#1 -/, (by omega) /- ix.hi (8 : Int)#1 -/⟩, (by omega) /- ix.big (8 : Int)#1 -/⟩) ?_
    refine wp_ck (z_ix_i.mpr ⟨⟨(by omega) /- ix.lo (((7 : Int) * (v_p0_st (7 : Int))) + (v_p0_st (8 : Int)))#1 -/, (by omega) /- ix.hi (((7 : Int) * (v_p0_st (7 : Int))) + (v_p0_st (8 : Int)))#1 -/⟩, (by omega) /- ix.big (((7 : Int) * (v_p0_st (7 : Int))) + (v_p0_st (8 : Int)))#1 -/⟩) ?_
    refine wp_bnd ?_
    refine wp_some ?_
    try dsimp only
    all_goals exact (by rw [i_B_X12_firstWays_2_3]; congr 2; omega) /- post1#1 -/
  ·
    refine wp_ck (z_ix_i.mpr ⟨⟨(by omega) /- ix.lo z5#1 -/, (by omega) /- ix.hi z5#1 -/⟩, (by omega) /- ix.big z5#1 -/⟩) ?_
    refine wp_bnd ?_
    refine wp_bndE (fun z10 hz10 => ?_)
    exact ih_B_X12_firstWays_2 _ _ ⟨(by omega) /- B_X12_firstWays_2.inv1#1 -/, (by omega) /- B_X12_firstWays_2.inv2#1 -/, (by subst hz10; rw [i_B_X12_firstWays_2_3]; exact z_fill_s i_B_X12_firstWays_2_1) /- B_X12_firstWays_2.inv3#1 -/⟩ (by omega) /- B_X12_firstWays_2.dec#1 -/

set_option maxHeartbeats 1000000 in
theorem s_X12_then (i_p0_seats : Int) (v_p0_st : (Int → Int)) (v_p0_brings : (Int → Int)) (v_p0_places : (Int → Int)) (x1 : Int) (x2 : Int) (i_p0_stirs : Int) (h1 : 2 ≤ i_p0_seats) (h2 : i_p0_seats ≤ 7) (h3 : 0 ≤ i_p0_stirs) (h4 : i_p0_stirs ≤ 5) (h5 : rowsM i_p0_seats i_p0_stirs v_p0_brings) (h6 : vst i_p0_seats x1) (h7 : 0 ≤ x2) (h8 : x2 < i_p0_stirs) : wp (f_X12_then i_p0_seats v_p0_st v_p0_brings v_p0_places x1 x2) (fun o => (o.1 = thn i_p0_seats v_p0_st v_p0_brings x1 x2) ∧ (vst i_p0_seats o.1)) := by
  unfold f_X12_then
  have hv := h6
  unfold vst at hv
  have hru := rowM_use h5 h7 h8 (i := x1 / 7) (by omega) (by omega)
  refine wp_ck (z_dv_i.mpr ⟨⟨⟨(by omega) /- dv.0 x1#1 -/, (by omega) /- dv.1 x1#1 -/⟩, (by omega) /- dv.2 x1#1 -/⟩, (by omega) /- dv.3 x1#1 -/⟩) ?_
  refine wp_ck (z_ix_i.mpr ⟨⟨(by omega) /- ix.lo (((7 : Int) * x2) + (x1 / (7 : Int)))#1 -/, (by omega) /- ix.hi (((7 : Int) * x2) + (x1 / (7 : Int)))#1 -/⟩, (by omega) /- ix.big (((7 : Int) * x2) + (x1 / (7 : Int)))#1 -/⟩) ?_
  refine wp_ck (z_dv_i.mpr ⟨⟨⟨(by omega) /- dv.0 x1#2 -/, (by omega) /- dv.1 x1#2 -/⟩, (by omega) /- dv.2 x1#2 -/⟩, (by omega) /- dv.3 x1#2 -/⟩) ?_
  refine wp_ck (z_dv_i.mpr ⟨⟨⟨(by omega) /- dv.0 x1#3 -/, (by omega) /- dv.1 x1#3 -/⟩, (by omega) /- dv.2 x1#3 -/⟩, (by omega) /- dv.3 x1#3 -/⟩) ?_
  refine wp_bd2 (s_X12_nextBy _ _ _ _ _ _ _ i_p0_stirs (by omega) /- pre X12_nextBy.1#1 -/ (by omega) /- pre X12_nextBy.2#1 -/ (by omega) /- pre X12_nextBy.3#1 -/ (by omega) /- pre X12_nextBy.4#1 -/ (by exact h5) /- pre X12_nextBy.5#1 -/ (by omega) /- pre X12_nextBy.6#1 -/ (by omega) /- pre X12_nextBy.7#1 -/ (by omega) /- pre X12_nextBy.8#1 -/ (by omega) /- pre X12_nextBy.9#1 -/ (by omega) /- pre X12_nextBy.10#1 -/ (by omega) /- pre X12_nextBy.11#1 -/) (fun z1 w2 q_X12_nextBy_1 => ?_)
  try dsimp only at q_X12_nextBy_1
  obtain ⟨q_X12_nextBy_1_1, q_X12_nextBy_1_2⟩ := q_X12_nextBy_1
  have hq : z1 = hol i_p0_seats (x1 % 7) (v_p0_st (9 + x1 % 7)) (v_p0_brings (7 * x2 + x1 / 7)) := hol_eq (by omega) q_X12_nextBy_1_1.1.1 q_X12_nextBy_1_1.1.2 q_X12_nextBy_1_1.2
  have hqe : 7 * v_p0_brings (7 * x2 + x1 / 7) + z1 = thn i_p0_seats v_p0_st v_p0_brings x1 x2 := by rw [hq]; rfl
  refine wp_some ?_
  try dsimp only
  all_goals exact ⟨(by exact hqe) /- post1#1 -/, (by rw [hqe]; exact thn_rng h1 h2 h5 h6 h7 h8) /- post2#1 -/⟩

set_option maxHeartbeats 4000000 in
theorem s_X12_nextWays (i_p0_seats : Int) (i_p0_stirs : Int) (v_p0_st : (Int → Int)) (v_p0_brings : (Int → Int)) (v_p0_places : (Int → Int)) (v_p0_ways : (Int → Int)) (v_p0_waysThen : (Int → Int)) (x1 : Int) (h1 : 2 ≤ i_p0_seats) (h2 : i_p0_seats ≤ 7) (h3 : 0 ≤ i_p0_stirs) (h4 : i_p0_stirs ≤ 5) (h5 : rowsM i_p0_seats i_p0_stirs v_p0_brings) (h6 : x1 = 0 ∨ x1 = 1) (h7 : ∀ j, 0 ≤ j → j < 49 → 0 ≤ v_p0_ways j) (h8 : ∀ j, 0 ≤ j → j < 49 → 0 < v_p0_ways j → vst i_p0_seats j) (h9 : sumTo v_p0_ways 49 ≤ 1000000000000000) : wp (f_X12_nextWays i_p0_seats i_p0_stirs v_p0_st v_p0_brings v_p0_places v_p0_ways v_p0_waysThen x1) (fun o => (∀ j, 0 ≤ j → j < 49 → 0 ≤ o.2.1 j) ∧ (∀ j, 0 ≤ j → j < 49 → 0 < o.2.1 j → vst i_p0_seats j) ∧ (sumTo o.2.1 49 ≤ 5 * sumTo v_p0_ways 49) ∧ (∀ t, 0 ≤ t → t < 49 → o.2.1 t = sumTo (fun s => sumTo (rtm i_p0_seats v_p0_st v_p0_brings x1 (v_p0_ways s) s t) i_p0_stirs.toNat) 49)) := by
  unfold f_X12_nextWays
  refine wp_bnd ?_
  refine wp_jn ?_
  refine wp_lq2 (fun (z44 : Int) (w45 : (Int → Int)) => (0 ≤ z44) ∧ (z44 ≤ 49) ∧ (w45 = z_fill v_p0_waysThen z44 0)) (fun (z44 : Int) (w45 : (Int → Int)) => (49 - z44).toNat) (fun again2 z44 w45 hI ih_B_X12_nextWays_2 => ?_) 1000 _ _ ⟨(by omega) /- B_X12_nextWays_2.init1#1 -/, (by omega) /- B_X12_nextWays_2.init2#1 -/, (by funext j; rw [z_fill_a, if_neg (by omega)]) /- B_X12_nextWays_2.init3#1 -/⟩ (by omega) /- B_X12_nextWays_2.fuel#1 -/
  obtain ⟨i_B_X12_nextWays_2_1, i_B_X12_nextWays_2_2, i_B_X12_nextWays_2_3⟩ := hI
  unfold B_X12_nextWays_2
  refine wp_ck (z_r32_i.mpr ⟨(by omega) /- z_r32.lo z44#1 -/, (by omega) /- z_r32.hi z44#1 -/⟩) ?_
  refine wp_if (fun c1 => ?_) (fun c1 => ?_)
  ·
    refine wp_bnd ?_
    refine wp_jn ?_
    refine wp_lq3 (fun (z15 : Int) (w16 : (Int → Int)) (w17 : (Int → Int)) => (0 ≤ z15) ∧ (z15 ≤ 49) ∧ (∀ j, 0 ≤ j → j < 49 → 0 ≤ w17 j) ∧ (∀ j, 0 ≤ j → j < 49 → 0 < w17 j → vst i_p0_seats j) ∧ (sumTo w17 49 ≤ 5 * sumTo v_p0_ways z15.toNat) ∧ (∀ t, 0 ≤ t → t < 49 → w17 t = sumTo (fun s => sumTo (rtm i_p0_seats v_p0_st v_p0_brings x1 (v_p0_ways s) s t) i_p0_stirs.toNat) z15.toNat)) (fun (z15 : Int) (w16 : (Int → Int)) (w17 : (Int → Int)) => (49 - z15).toNat) (fun again23 z15 w16 w17 hI ih_B_X12_nextWays_23 => ?_) 1000 _ _ _ ⟨(by omega) /- B_X12_nextWays_23.init1#1 -/, (by omega) /- B_X12_nextWays_23.init2#1 -/, (by intro j a b; rw [i_B_X12_nextWays_2_3, z_fill_in a (by omega)]; decide) /- B_X12_nextWays_23.init3#1 -/, (by intro j a b; rw [i_B_X12_nextWays_2_3, z_fill_in a (by omega)]; intro h; exact absurd h (by decide)) /- B_X12_nextWays_23.init4#1 -/, (by rw [i_B_X12_nextWays_2_3, show z44 = 49 from by omega]; exact Int.le_of_eq (sum_fill0 49 (by decide))) /- B_X12_nextWays_23.init5#1 -/, (by intro t a b; rw [i_B_X12_nextWays_2_3, z_fill_in a (by omega)]; rfl) /- B_X12_nextWays_23.init6#1 -/⟩ (by omega) /- B_X12_nextWays_23.fuel#1 -/
    obtain ⟨i_B_X12_nextWays_23_1, i_B_X12_nextWays_23_2, i_B_X12_nextWays_23_3, i_B_X12_nextWays_23_4, i_B_X12_nextWays_23_5, i_B_X12_nextWays_23_6⟩ := hI
    unfold B_X12_nextWays_23
    refine wp_ck (z_r32_i.mpr ⟨(by omega) /- z_r32.lo z15#1 -/, (by omega) /- z_r32.hi z15#1 -/⟩) ?_
    refine wp_if (fun c2 => ?_) (fun c2 => ?_)
    ·
      refine wp_bnd ?_
      refine wp_lq2 (fun (z9 : Int) (w10 : (Int → Int)) => (0 ≤ z9) ∧ (z9 ≤ 49) ∧ (∀ j, 0 ≤ j → j < z9 → w10 j = w17 j)) (fun (z9 : Int) (w10 : (Int → Int)) => (49 - z9).toNat) (fun again108 z9 w10 hI ih_B_X12_nextWays_108 => ?_) 1000 _ _ ⟨(by omega) /- B_X12_nextWays_108.init1#1 -/, (by omega) /- B_X12_nextWays_108.init2#1 -/, (by intro j; omega) /- B_X12_nextWays_108.init3#1 -/⟩ (by omega) /- B_X12_nextWays_108.fuel#1 -/
      obtain ⟨i_B_X12_nextWays_108_1, i_B_X12_nextWays_108_2, i_B_X12_nextWays_108_3⟩ := hI
      unfold B_X12_nextWays_108
      refine wp_ck (z_r32_i.mpr ⟨(by omega) /- z_r32.lo z9#1 -/, (by omega) /- z_r32.hi z9#1 -/⟩) ?_
      refine wp_if (fun c3 => ?_) (fun c3 => ?_)
      ·
        refine wp_some ?_
        try dsimp only
        all_goals exact ⟨(by intro j a b; rw [i_B_X12_nextWays_108_3 j a (by omega)]; exact i_B_X12_nextWays_23_3 j a b) /- post1#1 -/, (by intro j a b; rw [i_B_X12_nextWays_108_3 j a (by omega)]; exact i_B_X12_nextWays_23_4 j a b) /- post2#1 -/, (by rw [sum_ext (f := w10) (g := w17) 49 (fun j a b => i_B_X12_nextWays_108_3 j a (by omega))]; rw [show z15.toNat = 49 from by omega] at i_B_X12_nextWays_23_5; exact i_B_X12_nextWays_23_5) /- post3#1 -/, (by intro t a b; rw [i_B_X12_nextWays_108_3 t a (by omega), i_B_X12_nextWays_23_6 t a b, show z15.toNat = 49 from by omega]) /- post4#1 -/⟩
      ·
        refine wp_ck (z_ix_i.mpr ⟨⟨(by omega) /- ix.lo z9#1 -/, (by omega) /- ix.hi z9#1 -/⟩, (by omega) /- ix.big z9#1 -/⟩) ?_
        refine wp_ck (z_ix_i.mpr ⟨⟨(by omega) /- ix.lo z9#2 -/, (by omega) /- ix.hi z9#2 -/⟩, (by omega) /- ix.big z9#2 -/⟩) ?_
        refine wp_bnd ?_
        refine wp_bndE (fun z14 hz14 => ?_)
        exact ih_B_X12_nextWays_108 _ _ ⟨(by omega) /- B_X12_nextWays_108.inv1#1 -/, (by omega) /- B_X12_nextWays_108.inv2#1 -/, (by intro j a b; rw [z_up_a]; split; rename_i e; rw [e]; exact i_B_X12_nextWays_108_3 j a (by omega)) /- B_X12_nextWays_108.inv3#1 -/⟩ (by omega) /- B_X12_nextWays_108.dec#1 -/
    ·
      refine wp_bnd ?_
      have hw0 := h7 z15 (by omega) (by omega)
      have hw1 := sum_one (m := 49) h7 (i := z15) (by omega) (by omega)
      have hss := sum_s (f := v_p0_ways) (z := z15) (by omega)
      refine wp_lq3 (fun (z21 : Int) (w22 : (Int → Int)) (w23 : (Int → Int)) => (0 ≤ z21) ∧ (z21 ≤ i_p0_stirs) ∧ (∀ j, 0 ≤ j → j < 49 → 0 ≤ w23 j) ∧ (∀ j, 0 ≤ j → j < 49 → 0 < w23 j → vst i_p0_seats j) ∧ (sumTo w23 49 ≤ 5 * sumTo v_p0_ways z15.toNat + z21 * v_p0_ways z15) ∧ (∀ t, 0 ≤ t → t < 49 → w23 t = sumTo (fun s => sumTo (rtm i_p0_seats v_p0_st v_p0_brings x1 (v_p0_ways s) s t) i_p0_stirs.toNat) z15.toNat + sumTo (rtm i_p0_seats v_p0_st v_p0_brings x1 (v_p0_ways z15) z15 t) z21.toNat)) (fun (z21 : Int) (w22 : (Int → Int)) (w23 : (Int → Int)) => (i_p0_stirs - z21).toNat) (fun again31 z21 w22 w23 hI ih_B_X12_nextWays_31 => ?_) 1000 _ _ _ ⟨(by omega) /- B_X12_nextWays_31.init1#1 -/, (by omega) /- B_X12_nextWays_31.init2#1 -/, (by exact i_B_X12_nextWays_23_3) /- B_X12_nextWays_31.init3#1 -/, (by exact i_B_X12_nextWays_23_4) /- B_X12_nextWays_31.init4#1 -/, (by rw [Int.zero_mul]; omega) /- B_X12_nextWays_31.init5#1 -/, (by intro t a b; rw [i_B_X12_nextWays_23_6 t a b]; show _ = _ + (0 : Int); rw [Int.add_zero]) /- B_X12_nextWays_31.init6#1 -/⟩ (by omega) /- B_X12_nextWays_31.fuel#1 -/
      obtain ⟨i_B_X12_nextWays_31_1, i_B_X12_nextWays_31_2, i_B_X12_nextWays_31_3, i_B_X12_nextWays_31_4, i_B_X12_nextWays_31_5, i_B_X12_nextWays_31_6⟩ := hI
      unfold B_X12_nextWays_31
      have hm5 := mul5 (z := z21) hw0 (by omega)
      refine wp_ck (z_r32_i.mpr ⟨(by omega) /- z_r32.lo z21#1 -/, (by omega) /- z_r32.hi z21#1 -/⟩) ?_
      refine wp_ck (z_r32_i.mpr ⟨(by omega) /- z_r32.lo i_p0_stirs#1 -/, (by omega) /- z_r32.hi i_p0_stirs#1 -/⟩) ?_
      refine wp_if (fun c4 => ?_) (fun c4 => ?_)
      ·
        refine wp_bndE (fun z27 hz27 => ?_)
        exact ih_B_X12_nextWays_23 _ _ _ ⟨(by omega) /- B_X12_nextWays_23.inv1#1 -/, (by omega) /- B_X12_nextWays_23.inv2#1 -/, (by exact i_B_X12_nextWays_31_3) /- B_X12_nextWays_23.inv3#1 -/, (by exact i_B_X12_nextWays_31_4) /- B_X12_nextWays_23.inv4#1 -/, (by subst hz27; rw [hss]; omega) /- B_X12_nextWays_23.inv5#1 -/, (by intro t a b; subst hz27; rw [sum_s (by omega), i_B_X12_nextWays_31_6 t a b, show z21.toNat = i_p0_stirs.toNat from by omega]) /- B_X12_nextWays_23.inv6#1 -/⟩ (by omega) /- B_X12_nextWays_23.dec#1 -/
      ·
        refine wp_ck (z_ix_i.mpr ⟨⟨(by omega) /- ix.lo z15#1 -/, (by omega) /- ix.hi z15#1 -/⟩, (by omega) /- ix.big z15#1 -/⟩) ?_
        refine wp_ck (z_r64_i.mpr ⟨(by omega) /- z_r64.lo (v_p0_ways z15)#1 -/, (by omega) /- z_r64.hi (v_p0_ways z15)#1 -/⟩) ?_
        refine wp_ck (z_r32_cmp _ _) ?_
        refine wp_if (fun c5 => ?_) (fun c5 => ?_)
        ·
          refine wp_bndE (fun z30 hz30 => ?_)
          exact ih_B_X12_nextWays_23 _ _ _ ⟨(by omega) /- B_X12_nextWays_23.inv1#2 -/, (by omega) /- B_X12_nextWays_23.inv2#2 -/, (by exact i_B_X12_nextWays_31_3) /- B_X12_nextWays_23.inv3#2 -/, (by exact i_B_X12_nextWays_31_4) /- B_X12_nextWays_23.inv4#2 -/, (by subst hz30; rw [hss]; omega) /- B_X12_nextWays_23.inv5#2 -/, (by intro t a b; subst hz30; have hz0 : v_p0_ways z15 = 0 := (by have := cmp_gt (x := v_p0_ways z15) (y := 0); omega); rw [sum_s (by omega), i_B_X12_nextWays_31_6 t a b, hz0, rtm_0, rtm_0]) /- B_X12_nextWays_23.inv6#2 -/⟩ (by omega) /- B_X12_nextWays_23.dec#2 -/
        ·
          have hvs := h8 z15 (by omega) (by omega) (by have := cmp_gt (x := v_p0_ways z15) (y := 0); omega)
          refine wp_bd2 (s_X12_then _ _ _ _ _ _ i_p0_stirs (by omega) /- pre X12_then.1#1 -/ (by omega) /- pre X12_then.2#1 -/ (by omega) /- pre X12_then.3#1 -/ (by omega) /- pre X12_then.4#1 -/ (by exact h5) /- pre X12_then.5#1 -/ (by exact hvs) /- pre X12_then.6#1 -/ (by omega) /- pre X12_then.7#1 -/ (by omega) /- pre X12_then.8#1 -/) (fun z31 w32 q_X12_then_1 => ?_)
          try dsimp only at q_X12_then_1
          obtain ⟨q_X12_then_1_1, q_X12_then_1_2⟩ := q_X12_then_1
          have hvt := q_X12_then_1_2
          unfold vst at hvt
          have hmu : (z21 + 1) * v_p0_ways z15 = z21 * v_p0_ways z15 + v_p0_ways z15 := by rw [Int.add_mul, Int.one_mul]
          have hw3 := i_B_X12_nextWays_31_3 z31 (by omega) (by omega)
          refine wp_bnd ?_
          refine wp_ck (z_ix_i.mpr ⟨⟨(by omega) /- ix.lo z33#1 -/, (by omega) /- ix.hi z33#1 -/⟩, (by omega) /- ix.big z33#1 -/⟩) ?_
          refine wp_ck (z_r32_i.mpr ⟨(by omega) /- z_r32.lo x1#1 -/, (by omega) /- z_r32.hi x1#1 -/⟩) ?_
          refine wp_jn ?_
          refine wp_if (fun c6 => ?_) (fun c6 => ?_)
          ·
            refine wp_ck (z_ix_i.mpr ⟨⟨(by omega) /- ix.lo z15#2 -/, (by omega) /- ix.hi z15#2 -/⟩, (by omega) /- ix.big z15#2 -/⟩) ?_
            refine wp_ck (z_ix_i.mpr ⟨⟨(by omega) /- ix.lo z35#1 -/, (by omega) /- ix.hi z35#1 -/⟩, (by omega) /- ix.big z35#1 -/⟩) ?_
            refine wp_bnd ?_
            refine wp_bndE (fun z39 hz39 => ?_)
            exact ih_B_X12_nextWays_31 _ _ _ ⟨(by omega) /- B_X12_nextWays_31.inv1#1 -/, (by omega) /- B_X12_nextWays_31.inv2#1 -/, (by intro j a b; rw [z_up_a]; split; omega; exact i_B_X12_nextWays_31_3 j a b) /- B_X12_nextWays_31.inv3#1 -/, (by intro j a b; rw [z_up_a]; split; rename_i e; intro _; rw [e]; exact q_X12_then_1_2; exact i_B_X12_nextWays_31_4 j a b) /- B_X12_nextWays_31.inv4#1 -/, (by rw [sum_up (by omega), if_pos (by omega)]; first | (subst hz39; rw [hmu]; omega) | (subst hz43; rw [hmu]; omega)) /- B_X12_nextWays_31.inv5#1 -/, (by 
                                        intro t a b
                                        have w := i_B_X12_nextWays_31_6 t a b
                                        subst hz39
                                        rw [sum_s i_B_X12_nextWays_31_1, z_up_a]
                                        unfold rtm
                                        rw [← q_X12_then_1_1]
                                        by_cases e : t = z31
                                        · rw [if_pos e, if_pos ⟨e.symm, Or.inl (by assumption)⟩, ← e, w]; unfold rtm; omega
                                        · rw [if_neg e, if_neg (fun z => e z.1.symm), w]; unfold rtm; omega) /- B_X12_nextWays_31.inv6#1 -/⟩ (by omega) /- B_X12_nextWays_31.dec#1 -/
          ·
            refine wp_ck (z_dv_i.mpr ⟨⟨⟨(by omega) /- dv.0 z33#1 -/, (by omega) /- dv.1 z33#1 -/⟩, (by omega) /- dv.2 z33#1 -/⟩, (by omega) /- dv.3 z33#1 -/⟩) ?_
            refine wp_ck (z_dv_i.mpr ⟨⟨⟨(by omega) /- dv.0 z15#1 -/, (by omega) /- dv.1 z15#1 -/⟩, (by omega) /- dv.2 z15#1 -/⟩, (by omega) /- dv.3 z15#1 -/⟩) ?_
            refine wp_ck (z_r32_i.mpr ⟨(by omega) /- z_r32.lo (z33 % (7 : Int))#1 -/, (by omega) /- z_r32.hi (z33 % (7 : Int))#1 -/⟩) ?_
            refine wp_ck (z_r32_i.mpr ⟨(by omega) /- z_r32.lo (z15 % (7 : Int))#1 -/, (by omega) /- z_r32.hi (z15 % (7 : Int))#1 -/⟩) ?_
            refine wp_if (fun c7 => ?_) (fun c7 => ?_)
            ·
              refine wp_ck (z_ix_i.mpr ⟨⟨(by omega) /- ix.lo z15#3 -/, (by omega) /- ix.hi z15#3 -/⟩, (by omega) /- ix.big z15#3 -/⟩) ?_
              refine wp_ck (z_ix_i.mpr ⟨⟨(by omega) /- ix.lo z35#2 -/, (by omega) /- ix.hi z35#2 -/⟩, (by omega) /- ix.big z35#2 -/⟩) ?_
              refine wp_bnd ?_
              refine wp_bndE (fun z39 hz39 => ?_)
              exact ih_B_X12_nextWays_31 _ _ _ ⟨(by omega) /- B_X12_nextWays_31.inv1#2 -/, (by omega) /- B_X12_nextWays_31.inv2#2 -/, (by intro j a b; rw [z_up_a]; split; omega; exact i_B_X12_nextWays_31_3 j a b) /- B_X12_nextWays_31.inv3#2 -/, (by intro j a b; rw [z_up_a]; split; rename_i e; intro _; rw [e]; exact q_X12_then_1_2; exact i_B_X12_nextWays_31_4 j a b) /- B_X12_nextWays_31.inv4#2 -/, (by rw [sum_up (by omega), if_pos (by omega)]; first | (subst hz39; rw [hmu]; omega) | (subst hz43; rw [hmu]; omega)) /- B_X12_nextWays_31.inv5#2 -/, (by 
                                        intro t a b
                                        have w := i_B_X12_nextWays_31_6 t a b
                                        subst hz39
                                        rw [sum_s i_B_X12_nextWays_31_1, z_up_a]
                                        unfold rtm
                                        rw [← q_X12_then_1_1]
                                        by_cases e : t = z31
                                        · rw [if_pos e, if_pos ⟨e.symm, Or.inr (by assumption)⟩, ← e, w]; unfold rtm; omega
                                        · rw [if_neg e, if_neg (fun z => e z.1.symm), w]; unfold rtm; omega) /- B_X12_nextWays_31.inv6#2 -/⟩ (by omega) /- B_X12_nextWays_31.dec#2 -/
            ·
              refine wp_ck (z_ix_i.mpr ⟨⟨(by omega) /- ix.lo z33#2 -/, (by omega) /- ix.hi z33#2 -/⟩, (by omega) /- ix.big z33#2 -/⟩) ?_
              refine wp_bnd ?_
              refine wp_bndE (fun z43 hz43 => ?_)
              exact ih_B_X12_nextWays_31 _ _ _ ⟨(by omega) /- B_X12_nextWays_31.inv1#3 -/, (by omega) /- B_X12_nextWays_31.inv2#3 -/, (by intro j a b; rw [z_up_a]; split; omega; exact i_B_X12_nextWays_31_3 j a b) /- B_X12_nextWays_31.inv3#3 -/, (by intro j a b; rw [z_up_a]; split; rename_i e; intro _; rw [e]; exact q_X12_then_1_2; exact i_B_X12_nextWays_31_4 j a b) /- B_X12_nextWays_31.inv4#3 -/, (by rw [sum_up (by omega), if_pos (by omega)]; first | (subst hz39; rw [hmu]; omega) | (subst hz43; rw [hmu]; omega)) /- B_X12_nextWays_31.inv5#3 -/, (by 
                                        intro t a b
                                        have w := i_B_X12_nextWays_31_6 t a b
                                        subst hz43
                                        rw [sum_s i_B_X12_nextWays_31_1, z_up_a]
                                        unfold rtm
                                        rw [← q_X12_then_1_1, if_neg (show ¬ (z31 = t ∧ (x1 = 0 ∨ z31 % 7 = z15 % 7)) by omega)]
                                        by_cases e : t = z31
                                        · rw [if_pos e, ← e, w]; unfold rtm; omega
                                        · rw [if_neg e, w]; unfold rtm; omega) /- B_X12_nextWays_31.inv6#3 -/⟩ (by omega) /- B_X12_nextWays_31.dec#3 -/
  ·
    refine wp_ck (z_ix_i.mpr ⟨⟨(by omega) /- ix.lo z44#1 -/, (by omega) /- ix.hi z44#1 -/⟩, (by omega) /- ix.big z44#1 -/⟩) ?_
    refine wp_bnd ?_
    refine wp_bndE (fun z49 hz49 => ?_)
    exact ih_B_X12_nextWays_2 _ _ ⟨(by omega) /- B_X12_nextWays_2.inv1#1 -/, (by omega) /- B_X12_nextWays_2.inv2#1 -/, (by subst hz49; rw [i_B_X12_nextWays_2_3]; exact z_fill_s i_B_X12_nextWays_2_1) /- B_X12_nextWays_2.inv3#1 -/⟩ (by omega) /- B_X12_nextWays_2.dec#1 -/

set_option maxHeartbeats 1000000 in
theorem s_X12_chance (i_p0_seats : Int) (i_p0_stirs : Int) (v_p0_st : (Int → Int)) (v_p0_brings : (Int → Int)) (v_p0_places : (Int → Int)) (v_p0_ways : (Int → Int)) (v_p0_waysThen : (Int → Int)) (x1 : Int) (x2 : Int) (x3 : Int) (h1 : -2147483648 ≤ x1) (h2 : x1 < 2147483648) (h3 : -2147483648 ≤ x2) (h4 : x2 < 2147483648) (h5 : -2147483648 ≤ x3) (h6 : x3 < 2147483648) (h7 : 2 ≤ i_p0_seats) (h8 : i_p0_seats ≤ 7) (h9 : 0 ≤ i_p0_stirs) (h10 : i_p0_stirs ≤ 5) (h11 : rowsM i_p0_seats i_p0_stirs v_p0_brings) (h12 : okM i_p0_seats v_p0_st) : wp (f_X12_chance i_p0_seats i_p0_stirs v_p0_st v_p0_brings v_p0_places v_p0_ways v_p0_waysThen x1 x2 x3) (fun o => (Hid (¬ ((0 ≤ x1 ∧ x1 < i_p0_seats) ∧ (0 ≤ x2 ∧ x2 ≤ 10) ∧ (x3 = 0 ∨ x3 = 1)) → o.1 = -1)) ∧ (Hid (((0 ≤ x1 ∧ x1 < i_p0_seats) ∧ (0 ≤ x2 ∧ x2 ≤ 10) ∧ (x3 = 0 ∨ x3 = 1)) → i_p0_stirs = 0 → o.1 = -2)) ∧ (Hid (((0 ≤ x1 ∧ x1 < i_p0_seats) ∧ (0 ≤ x2 ∧ x2 ≤ 10) ∧ (x3 = 0 ∨ x3 = 1)) → ¬ i_p0_stirs = 0 → o.1 = if x3 = 0 then (sumTo (fun b => lck i_p0_seats i_p0_stirs (fun k => v_p0_st (9 + k)) (fun y b => v_p0_brings (7 * y + b)) 0 (v_p0_st 8) (v_p0_st 7) x2.toNat x1 b) i_p0_seats.toNat) / gz (i_p0_stirs ^ x2.toNat) (sumTo (fun b => lck i_p0_seats i_p0_stirs (fun k => v_p0_st (9 + k)) (fun y b => v_p0_brings (7 * y + b)) 0 (v_p0_st 8) (v_p0_st 7) x2.toNat x1 b) i_p0_seats.toNat) else (i_p0_stirs ^ x2.toNat) / gz (i_p0_stirs ^ x2.toNat) (sumTo (fun b => lck i_p0_seats i_p0_stirs (fun k => v_p0_st (9 + k)) (fun y b => v_p0_brings (7 * y + b)) 0 (v_p0_st 8) (v_p0_st 7) x2.toNat x1 b) i_p0_seats.toNat)))) := by
  unfold f_X12_chance
  have ho1 := okM_1 h12
  refine wp_bd1 (s_X12_isSeat _ _ (by omega) /- pre X12_isSeat.1#1 -/ (by omega) /- pre X12_isSeat.2#1 -/ (by omega) /- pre X12_isSeat.3#1 -/ (by omega) /- pre X12_isSeat.4#1 -/) (fun z1 q_X12_isSeat_1 => ?_)
  try dsimp only at q_X12_isSeat_1
  refine wp_ck (z_r32_i.mpr ⟨(by omega) /- z_r32.lo z1#1 -/, (by omega) /- z_r32.hi z1#1 -/⟩) ?_
  refine wp_if (fun c1 => ?_) (fun c1 => ?_)
  ·
    have hk : ¬ (0 ≤ x1 ∧ x1 < i_p0_seats) := by split at q_X12_isSeat_1 <;> omega
    clear q_X12_isSeat_1
    refine wp_some ?_
    try dsimp only
    all_goals exact ⟨(by unfold Hid; intro _; rfl) /- post1#1 -/, (by unfold Hid; intro h; exfalso; exact hk h.1) /- post2#1 -/, (by unfold Hid; intro h; exfalso; exact hk h.1) /- post3#1 -/⟩
  ·
    have hk : 0 ≤ x1 ∧ x1 < i_p0_seats := by split at q_X12_isSeat_1 <;> omega
    clear q_X12_isSeat_1
    refine wp_ck (z_r32_i.mpr ⟨(by omega) /- z_r32.lo x2#1 -/, (by omega) /- z_r32.hi x2#1 -/⟩) ?_
    refine wp_bd1 (s_X12_in _ _ _ (by omega) /- pre X12_in.1#1 -/ (by omega) /- pre X12_in.2#1 -/ (by omega) /- pre X12_in.3#1 -/ (by omega) /- pre X12_in.4#1 -/ (by omega) /- pre X12_in.5#1 -/ (by omega) /- pre X12_in.6#1 -/) (fun z4 q_X12_in_1 => ?_)
    try dsimp only at q_X12_in_1
    refine wp_ck (z_r32_i.mpr ⟨(by omega) /- z_r32.lo z4#1 -/, (by omega) /- z_r32.hi z4#1 -/⟩) ?_
    refine wp_if (fun c2 => ?_) (fun c2 => ?_)
    ·
      have hn : ¬ (0 ≤ x2 ∧ x2 ≤ 10) := by split at q_X12_in_1 <;> omega
      clear q_X12_in_1
      refine wp_some ?_
      try dsimp only
      all_goals exact ⟨(by unfold Hid; intro _; rfl) /- post1#2 -/, (by unfold Hid; intro h; exfalso; exact hn h.2.1) /- post2#2 -/, (by unfold Hid; intro h; exfalso; exact hn h.2.1) /- post3#2 -/⟩
    ·
      have hn : 0 ≤ x2 ∧ x2 ≤ 10 := by split at q_X12_in_1 <;> omega
      clear q_X12_in_1
      refine wp_bd1 (s_X12_isTold _ (by omega) /- pre X12_isTold.1#1 -/ (by omega) /- pre X12_isTold.2#1 -/) (fun z6 q_X12_isTold_1 => ?_)
      try dsimp only at q_X12_isTold_1
      refine wp_ck (z_r32_i.mpr ⟨(by omega) /- z_r32.lo z6#1 -/, (by omega) /- z_r32.hi z6#1 -/⟩) ?_
      refine wp_if (fun c3 => ?_) (fun c3 => ?_)
      ·
        have hw : ¬ (x3 = 0 ∨ x3 = 1) := by split at q_X12_isTold_1 <;> omega
        clear q_X12_isTold_1
        refine wp_some ?_
        try dsimp only
        all_goals exact ⟨(by unfold Hid; intro _; rfl) /- post1#3 -/, (by unfold Hid; intro h; exfalso; exact hw h.2.2) /- post2#3 -/, (by unfold Hid; intro h; exfalso; exact hw h.2.2) /- post3#3 -/⟩
      ·
        have hw : (x3 = 0 ∨ x3 = 1) := by split at q_X12_isTold_1 <;> omega
        clear q_X12_isTold_1
        refine wp_ck (z_r32_i.mpr ⟨(by omega) /- z_r32.lo i_p0_stirs#1 -/, (by omega) /- z_r32.hi i_p0_stirs#1 -/⟩) ?_
        refine wp_if (fun c4 => ?_) (fun c4 => ?_)
        ·
          refine wp_some ?_
          try dsimp only
          all_goals exact ⟨(by unfold Hid; intro h; exact absurd ⟨hk, hn, hw⟩ h) /- post1#4 -/, (by unfold Hid; intro _ _; rfl) /- post2#4 -/, (by unfold Hid; intro _ h; exact absurd (by assumption) h) /- post3#4 -/⟩
        ·
          refine wp_bd1 (s_X12_firstWays _ _ i_p0_seats (by omega) /- pre X12_firstWays.1#1 -/ (by omega) /- pre X12_firstWays.2#1 -/ (by exact h12) /- pre X12_firstWays.3#1 -/) (fun w9 q_X12_firstWays_1 => ?_)
          try dsimp only at q_X12_firstWays_1
          refine wp_bnd ?_
          refine wp_jn ?_
          refine wp_lq4 (fun (z31 : Int) (w32 : (Int → Int)) (w33 : (Int → Int)) (w34 : (Int → Int)) => (0 ≤ z31) ∧ (z31 ≤ x2) ∧ (∀ j, 0 ≤ j → j < 49 → 0 ≤ w33 j) ∧ (∀ j, 0 ≤ j → j < 49 → 0 < w33 j → vst i_p0_seats j) ∧ (sumTo w33 49 ≤ (5 : Int) ^ z31.toNat) ∧ (∀ k b, 0 ≤ k → k < i_p0_seats → 0 ≤ b → b < i_p0_seats → w33 (7 * b + k) = lck i_p0_seats i_p0_stirs (fun k => v_p0_st (9 + k)) (fun y b => v_p0_brings (7 * y + b)) 0 (v_p0_st 8) (v_p0_st 7) z31.toNat k b)) (fun (z31 : Int) (w32 : (Int → Int)) (w33 : (Int → Int)) (w34 : (Int → Int)) => (x2 - z31).toNat) (fun again49 z31 w32 w33 w34 hI ih_B_X12_chance_49 => ?_) 1000 _ _ _ _ ⟨(by omega) /- B_X12_chance_49.init1#1 -/, (by omega) /- B_X12_chance_49.init2#1 -/, (by intro j a b; rw [q_X12_firstWays_1, z_up_a]; split; decide; rw [z_fill_in a b]; decide) /- B_X12_chance_49.init3#1 -/, (by intro j a b; rw [q_X12_firstWays_1, z_up_a]; split; (rename_i e; intro _; unfold vst; omega); (rw [z_fill_in a b]; intro h; exact absurd h (by decide))) /- B_X12_chance_49.init4#1 -/, (by rw [q_X12_firstWays_1, sum_up (by omega), if_pos (by omega), sum_fill0 49 (by decide), z_fill_in (by omega) (by omega)]; decide) /- B_X12_chance_49.init5#1 -/, (by intro k b k0 k1 b0 b1; rw [q_X12_firstWays_1, z_up_a]; show _ = if k = v_p0_st 8 ∧ b = v_p0_st 7 then (1 : Int) else 0; by_cases e : k = v_p0_st 8 ∧ b = v_p0_st 7; (rw [if_pos e, if_pos (by omega)]); (rw [if_neg e, if_neg (by omega), z_fill_in (by omega) (by omega)])) /- B_X12_chance_49.init6#1 -/⟩ (by omega) /- B_X12_chance_49.fuel#1 -/
          obtain ⟨i_B_X12_chance_49_1, i_B_X12_chance_49_2, i_B_X12_chance_49_3, i_B_X12_chance_49_4, i_B_X12_chance_49_5, i_B_X12_chance_49_6⟩ := hI
          unfold B_X12_chance_49
          have hp5 := pow5_r i_B_X12_chance_49_1 (by omega)
          refine wp_ck (z_r32_i.mpr ⟨(by omega) /- z_r32.lo z31#1 -/, (by omega) /- z_r32.hi z31#1 -/⟩) ?_
          refine wp_if (fun c5 => ?_) (fun c5 => ?_)
          ·
            refine wp_bnd ?_
            refine wp_bnd ?_
            refine wp_jn ?_
            have hp5b := hp5
            refine wp_lq2 (fun (z21 : Int) (z22 : Int) => (0 ≤ z21) ∧ (z21 ≤ 49) ∧ (0 ≤ z22) ∧ (z22 ≤ sumTo w33 z21.toNat) ∧ (Hid (z22 = sumTo (fun s => if s % 7 = x1 then w33 s else 0) z21.toNat))) (fun (z21 : Int) (z22 : Int) => (49 - z21).toNat) (fun again72 z21 z22 hI ih_B_X12_chance_72 => ?_) 1000 _ _ ⟨(by omega) /- B_X12_chance_72.init1#1 -/, (by omega) /- B_X12_chance_72.init2#1 -/, (by omega) /- B_X12_chance_72.init3#1 -/, (by exact Int.le_refl _) /- B_X12_chance_72.init4#1 -/, (by exact hd_ rfl) /- B_X12_chance_72.init5#1 -/⟩ (by omega) /- B_X12_chance_72.fuel#1 -/
            obtain ⟨i_B_X12_chance_72_1, i_B_X12_chance_72_2, i_B_X12_chance_72_3, i_B_X12_chance_72_4, i_B_X12_chance_72_5⟩ := hI
            unfold B_X12_chance_72
            have hsm := sum_mono (f := w33) (m := 49) i_B_X12_chance_49_3 z21.toNat (by omega)
            have hss := sum_s (f := w33) (z := z21) (by omega)
            have hs0 := sum_0 (f := w33) z21.toNat (fun j a b => i_B_X12_chance_49_3 j a (by omega))
            have hwn := fun (h : z21 < 49) => i_B_X12_chance_49_3 z21 (by omega) h
            refine wp_ck (z_r32_i.mpr ⟨(by omega) /- z_r32.lo z21#1 -/, (by omega) /- z_r32.hi z21#1 -/⟩) ?_
            refine wp_if (fun c6 => ?_) (fun c6 => ?_)
            ·
              refine wp_bd1 (s_X12_power _ _ (by omega) /- pre X12_power.1#1 -/ (by omega) /- pre X12_power.2#1 -/ (by omega) /- pre X12_power.3#1 -/ (by omega) /- pre X12_power.4#1 -/) (fun z19 q_X12_power_1 => ?_)
              try dsimp only at q_X12_power_1
              have hpb := powb_r (b := i_p0_stirs) (z := x2) (by omega) (by omega) (by omega) (by omega)
              have hpp := powb_p (b := i_p0_stirs) (z := x2) (by omega) (by omega) (by omega) (by omega)
              rw [← q_X12_power_1] at hpb hpp
              refine wp_bd1 (s_X12_lowest _ _ _ (by omega) /- pre X12_lowest.1#1 -/ (by omega) /- pre X12_lowest.2#1 -/ (by omega) /- pre X12_lowest.3#1 -/ (by omega) /- pre X12_lowest.4#1 -/ (by omega) /- pre X12_lowest.5#1 -/ (by omega) /- pre X12_lowest.6#1 -/) (fun z20 q_X12_lowest_1 => ?_)
              try dsimp only at q_X12_lowest_1
              refine wp_some ?_
              try dsimp only
              all_goals exact ⟨(by unfold Hid; intro h; exact absurd ⟨hk, hn, hw⟩ h) /- post1#5 -/, (by unfold Hid; intro _ h; exact absurd h (by assumption)) /- post2#5 -/, (by unfold Hid; intro _ _; rw [hid q_X12_lowest_1, q_X12_power_1, hid i_B_X12_chance_72_5, show z21.toNat = 49 from by omega, ways_king (by omega) (by omega) i_B_X12_chance_49_6 (fun s a b c => by have p := i_B_X12_chance_49_3 s a b; by_cases e : 0 < w33 s; exact absurd (i_B_X12_chance_49_4 s a b e) c; omega) hk.1 hk.2, show z31 = x2 from by omega]) /- post3#5 -/⟩
            ·
              refine wp_ck (z_dv_i.mpr ⟨⟨⟨(by omega) /- dv.0 z21#1 -/, (by omega) /- dv.1 z21#1 -/⟩, (by omega) /- dv.2 z21#1 -/⟩, (by omega) /- dv.3 z21#1 -/⟩) ?_
              refine wp_ck (z_r32_i.mpr ⟨(by omega) /- z_r32.lo (z21 % (7 : Int))#1 -/, (by omega) /- z_r32.hi (z21 % (7 : Int))#1 -/⟩) ?_
              refine wp_ck (z_r32_i.mpr ⟨(by omega) /- z_r32.lo x1#1 -/, (by omega) /- z_r32.hi x1#1 -/⟩) ?_
              refine wp_if (fun c7 => ?_) (fun c7 => ?_)
              ·
                refine wp_ck (z_ix_i.mpr ⟨⟨(by omega) /- ix.lo z21#1 -/, (by omega) /- ix.hi z21#1 -/⟩, (by omega) /- ix.big z21#1 -/⟩) ?_
                refine wp_bndE (fun z29 hz29 => ?_)
                refine wp_bndE (fun z30 hz30 => ?_)
                exact ih_B_X12_chance_72 _ _ ⟨(by omega) /- B_X12_chance_72.inv1#1 -/, (by omega) /- B_X12_chance_72.inv2#1 -/, (by have := hwn (by omega); omega) /- B_X12_chance_72.inv3#1 -/, (by first | (subst hz30; rw [hss]; omega) | (subst hz28; rw [hss]; have := hwn (by omega); omega) | (subst hz24; rw [hss]; omega)) /- B_X12_chance_72.inv4#1 -/, (by unfold Hid; first | (subst hz30 hz29; rw [sum_s (by omega), ← hid i_B_X12_chance_72_5, if_pos (by assumption)]) | (subst hz28 hz27; rw [sum_s (by omega), ← hid i_B_X12_chance_72_5, if_neg (by assumption)])) /- B_X12_chance_72.inv5#1 -/⟩ (by omega) /- B_X12_chance_72.dec#1 -/
              ·
                refine wp_bndE (fun z27 hz27 => ?_)
                refine wp_bndE (fun z28 hz28 => ?_)
                exact ih_B_X12_chance_72 _ _ ⟨(by omega) /- B_X12_chance_72.inv1#2 -/, (by omega) /- B_X12_chance_72.inv2#2 -/, (by have := hwn (by omega); omega) /- B_X12_chance_72.inv3#2 -/, (by first | (subst hz30; rw [hss]; omega) | (subst hz28; rw [hss]; have := hwn (by omega); omega) | (subst hz24; rw [hss]; omega)) /- B_X12_chance_72.inv4#2 -/, (by unfold Hid; first | (subst hz30 hz29; rw [sum_s (by omega), ← hid i_B_X12_chance_72_5, if_pos (by assumption)]) | (subst hz28 hz27; rw [sum_s (by omega), ← hid i_B_X12_chance_72_5, if_neg (by assumption)])) /- B_X12_chance_72.inv5#2 -/⟩ (by omega) /- B_X12_chance_72.dec#2 -/
          ·
            refine wp_bd3 (s_X12_nextWays _ _ _ _ _ _ _ _ (by omega) /- pre X12_nextWays.1#1 -/ (by omega) /- pre X12_nextWays.2#1 -/ (by omega) /- pre X12_nextWays.3#1 -/ (by omega) /- pre X12_nextWays.4#1 -/ (by exact h11) /- pre X12_nextWays.5#1 -/ (by omega) /- pre X12_nextWays.6#1 -/ (by exact i_B_X12_chance_49_3) /- pre X12_nextWays.7#1 -/ (by exact i_B_X12_chance_49_4) /- pre X12_nextWays.8#1 -/ (by omega) /- pre X12_nextWays.9#1 -/) (fun w37 w38 w39 q_X12_nextWays_1 => ?_)
            try dsimp only at q_X12_nextWays_1
            obtain ⟨q_X12_nextWays_1_1, q_X12_nextWays_1_2, q_X12_nextWays_1_3, q_X12_nextWays_1_4⟩ := q_X12_nextWays_1
            refine wp_bndE (fun z40 hz40 => ?_)
            exact ih_B_X12_chance_49 _ _ _ _ ⟨(by omega) /- B_X12_chance_49.inv1#1 -/, (by omega) /- B_X12_chance_49.inv2#1 -/, (by exact q_X12_nextWays_1_1) /- B_X12_chance_49.inv3#1 -/, (by exact q_X12_nextWays_1_2) /- B_X12_chance_49.inv4#1 -/, (by first | (subst hz40; rw [pow_step i_B_X12_chance_49_1]; omega) | (subst hz34; rw [pow_step i_B_X12_chance_49_1]; omega)) /- B_X12_chance_49.inv5#1 -/, (by intro k2 b2 k0 k1 b0 b1; subst hz40; rw [show (z31 + 1).toNat = z31.toNat + 1 from by omega, q_X12_nextWays_1_4 _ (by omega) (by omega)]; exact ways_conv (by omega) (by omega) h11 (by omega) i_B_X12_chance_49_6 (fun s a b c => by have p := i_B_X12_chance_49_3 s a b; by_cases e : 0 < w33 s; exact absurd (i_B_X12_chance_49_4 s a b e) c; omega) k0 k1 b0 b1) /- B_X12_chance_49.inv6#1 -/⟩ (by omega) /- B_X12_chance_49.dec#1 -/

set_option maxHeartbeats 1000000 in
theorem s_X12_lasts (i_p0_seats : Int) (i_p0_stirs : Int) (v_p0_st : (Int → Int)) (v_p0_brings : (Int → Int)) (v_p0_places : (Int → Int)) (v_p0_ways : (Int → Int)) (v_p0_waysThen : (Int → Int)) (x1 : Int) (x2 : Int) (h1 : -2147483648 ≤ x1) (h2 : x1 < 2147483648) (h3 : -2147483648 ≤ x2) (h4 : x2 < 2147483648) (h5 : 2 ≤ i_p0_seats) (h6 : i_p0_seats ≤ 7) (h7 : 0 ≤ i_p0_stirs) (h8 : i_p0_stirs ≤ 5) (h9 : rowsM i_p0_seats i_p0_stirs v_p0_brings) (h10 : okM i_p0_seats v_p0_st) : wp (f_X12_lasts i_p0_seats i_p0_stirs v_p0_st v_p0_brings v_p0_places v_p0_ways v_p0_waysThen x1 x2) (fun o => (Hid (¬ ((0 ≤ x1 ∧ x1 ≤ 10) ∧ (x2 = 0 ∨ x2 = 1)) → o.1 = -1)) ∧ (Hid (((0 ≤ x1 ∧ x1 ≤ 10) ∧ (x2 = 0 ∨ x2 = 1)) → i_p0_stirs = 0 → o.1 = -2)) ∧ (Hid (((0 ≤ x1 ∧ x1 ≤ 10) ∧ (x2 = 0 ∨ x2 = 1)) → ¬ i_p0_stirs = 0 → o.1 = if x2 = 0 then (sumTo (fun b => lck i_p0_seats i_p0_stirs (fun k => v_p0_st (9 + k)) (fun y b => v_p0_brings (7 * y + b)) 1 (v_p0_st 8) (v_p0_st 7) x1.toNat (v_p0_st 8) b) i_p0_seats.toNat) / gz (i_p0_stirs ^ x1.toNat) (sumTo (fun b => lck i_p0_seats i_p0_stirs (fun k => v_p0_st (9 + k)) (fun y b => v_p0_brings (7 * y + b)) 1 (v_p0_st 8) (v_p0_st 7) x1.toNat (v_p0_st 8) b) i_p0_seats.toNat) else (i_p0_stirs ^ x1.toNat) / gz (i_p0_stirs ^ x1.toNat) (sumTo (fun b => lck i_p0_seats i_p0_stirs (fun k => v_p0_st (9 + k)) (fun y b => v_p0_brings (7 * y + b)) 1 (v_p0_st 8) (v_p0_st 7) x1.toNat (v_p0_st 8) b) i_p0_seats.toNat)))) := by
  unfold f_X12_lasts
  have ho1 := okM_1 h10
  refine wp_ck (z_r32_i.mpr ⟨(by omega) /- z_r32.lo x1#1 -/, (by omega) /- z_r32.hi x1#1 -/⟩) ?_
  refine wp_bd1 (s_X12_in _ _ _ (by omega) /- pre X12_in.1#1 -/ (by omega) /- pre X12_in.2#1 -/ (by omega) /- pre X12_in.3#1 -/ (by omega) /- pre X12_in.4#1 -/ (by omega) /- pre X12_in.5#1 -/ (by omega) /- pre X12_in.6#1 -/) (fun z2 q_X12_in_1 => ?_)
  try dsimp only at q_X12_in_1
  refine wp_ck (z_r32_i.mpr ⟨(by omega) /- z_r32.lo z2#1 -/, (by omega) /- z_r32.hi z2#1 -/⟩) ?_
  refine wp_if (fun c1 => ?_) (fun c1 => ?_)
  ·
    have hn : ¬ (0 ≤ x1 ∧ x1 ≤ 10) := by split at q_X12_in_1 <;> omega
    clear q_X12_in_1
    refine wp_some ?_
    try dsimp only
    all_goals exact ⟨(by unfold Hid; intro _; rfl) /- post1#1 -/, (by unfold Hid; intro h; exfalso; exact hn h.1) /- post2#1 -/, (by unfold Hid; intro h; exfalso; exact hn h.1) /- post3#1 -/⟩
  ·
    have hn : 0 ≤ x1 ∧ x1 ≤ 10 := by split at q_X12_in_1 <;> omega
    clear q_X12_in_1
    refine wp_bd1 (s_X12_isTold _ (by omega) /- pre X12_isTold.1#1 -/ (by omega) /- pre X12_isTold.2#1 -/) (fun z4 q_X12_isTold_1 => ?_)
    try dsimp only at q_X12_isTold_1
    refine wp_ck (z_r32_i.mpr ⟨(by omega) /- z_r32.lo z4#1 -/, (by omega) /- z_r32.hi z4#1 -/⟩) ?_
    refine wp_if (fun c2 => ?_) (fun c2 => ?_)
    ·
      have hw : ¬ (x2 = 0 ∨ x2 = 1) := by split at q_X12_isTold_1 <;> omega
      clear q_X12_isTold_1
      refine wp_some ?_
      try dsimp only
      all_goals exact ⟨(by unfold Hid; intro _; rfl) /- post1#2 -/, (by unfold Hid; intro h; exfalso; exact hw h.2) /- post2#2 -/, (by unfold Hid; intro h; exfalso; exact hw h.2) /- post3#2 -/⟩
    ·
      have hw : (x2 = 0 ∨ x2 = 1) := by split at q_X12_isTold_1 <;> omega
      clear q_X12_isTold_1
      refine wp_ck (z_r32_i.mpr ⟨(by omega) /- z_r32.lo i_p0_stirs#1 -/, (by omega) /- z_r32.hi i_p0_stirs#1 -/⟩) ?_
      refine wp_if (fun c3 => ?_) (fun c3 => ?_)
      ·
        refine wp_some ?_
        try dsimp only
        all_goals exact ⟨(by unfold Hid; intro h; exact absurd ⟨hn, hw⟩ h) /- post1#3 -/, (by unfold Hid; intro _ _; rfl) /- post2#3 -/, (by unfold Hid; intro _ h; exact absurd (by assumption) h) /- post3#3 -/⟩
      ·
        refine wp_bd1 (s_X12_firstWays _ _ i_p0_seats (by omega) /- pre X12_firstWays.1#1 -/ (by omega) /- pre X12_firstWays.2#1 -/ (by exact h10) /- pre X12_firstWays.3#1 -/) (fun w7 q_X12_firstWays_1 => ?_)
        try dsimp only at q_X12_firstWays_1
        refine wp_bnd ?_
        refine wp_jn ?_
        refine wp_lq4 (fun (z25 : Int) (w26 : (Int → Int)) (w27 : (Int → Int)) (w28 : (Int → Int)) => (0 ≤ z25) ∧ (z25 ≤ x1) ∧ (∀ j, 0 ≤ j → j < 49 → 0 ≤ w27 j) ∧ (∀ j, 0 ≤ j → j < 49 → 0 < w27 j → vst i_p0_seats j) ∧ (sumTo w27 49 ≤ (5 : Int) ^ z25.toNat) ∧ (∀ k b, 0 ≤ k → k < i_p0_seats → 0 ≤ b → b < i_p0_seats → w27 (7 * b + k) = lck i_p0_seats i_p0_stirs (fun k => v_p0_st (9 + k)) (fun y b => v_p0_brings (7 * y + b)) 1 (v_p0_st 8) (v_p0_st 7) z25.toNat k b)) (fun (z25 : Int) (w26 : (Int → Int)) (w27 : (Int → Int)) (w28 : (Int → Int)) => (x1 - z25).toNat) (fun again40 z25 w26 w27 w28 hI ih_B_X12_lasts_40 => ?_) 1000 _ _ _ _ ⟨(by omega) /- B_X12_lasts_40.init1#1 -/, (by omega) /- B_X12_lasts_40.init2#1 -/, (by intro j a b; rw [q_X12_firstWays_1, z_up_a]; split; decide; rw [z_fill_in a b]; decide) /- B_X12_lasts_40.init3#1 -/, (by intro j a b; rw [q_X12_firstWays_1, z_up_a]; split; (rename_i e; intro _; unfold vst; omega); (rw [z_fill_in a b]; intro h; exact absurd h (by decide))) /- B_X12_lasts_40.init4#1 -/, (by rw [q_X12_firstWays_1, sum_up (by omega), if_pos (by omega), sum_fill0 49 (by decide), z_fill_in (by omega) (by omega)]; decide) /- B_X12_lasts_40.init5#1 -/, (by intro k b k0 k1 b0 b1; rw [q_X12_firstWays_1, z_up_a]; show _ = if k = v_p0_st 8 ∧ b = v_p0_st 7 then (1 : Int) else 0; by_cases e : k = v_p0_st 8 ∧ b = v_p0_st 7; (rw [if_pos e, if_pos (by omega)]); (rw [if_neg e, if_neg (by omega), z_fill_in (by omega) (by omega)])) /- B_X12_lasts_40.init6#1 -/⟩ (by omega) /- B_X12_lasts_40.fuel#1 -/
        obtain ⟨i_B_X12_lasts_40_1, i_B_X12_lasts_40_2, i_B_X12_lasts_40_3, i_B_X12_lasts_40_4, i_B_X12_lasts_40_5, i_B_X12_lasts_40_6⟩ := hI
        unfold B_X12_lasts_40
        have hp5 := pow5_r i_B_X12_lasts_40_1 (by omega)
        refine wp_ck (z_r32_i.mpr ⟨(by omega) /- z_r32.lo z25#1 -/, (by omega) /- z_r32.hi z25#1 -/⟩) ?_
        refine wp_if (fun c4 => ?_) (fun c4 => ?_)
        ·
          refine wp_bnd ?_
          refine wp_bnd ?_
          refine wp_jn ?_
          have hp5b := hp5
          refine wp_lq2 (fun (z19 : Int) (z20 : Int) => (0 ≤ z19) ∧ (z19 ≤ 49) ∧ (0 ≤ z20) ∧ (z20 ≤ sumTo w27 z19.toNat) ∧ (Hid (z20 = sumTo (fun s => w27 s) z19.toNat))) (fun (z19 : Int) (z20 : Int) => (49 - z19).toNat) (fun again61 z19 z20 hI ih_B_X12_lasts_61 => ?_) 1000 _ _ ⟨(by omega) /- B_X12_lasts_61.init1#1 -/, (by omega) /- B_X12_lasts_61.init2#1 -/, (by omega) /- B_X12_lasts_61.init3#1 -/, (by exact Int.le_refl _) /- B_X12_lasts_61.init4#1 -/, (by exact hd_ rfl) /- B_X12_lasts_61.init5#1 -/⟩ (by omega) /- B_X12_lasts_61.fuel#1 -/
          obtain ⟨i_B_X12_lasts_61_1, i_B_X12_lasts_61_2, i_B_X12_lasts_61_3, i_B_X12_lasts_61_4, i_B_X12_lasts_61_5⟩ := hI
          unfold B_X12_lasts_61
          have hsm := sum_mono (f := w27) (m := 49) i_B_X12_lasts_40_3 z19.toNat (by omega)
          have hss := sum_s (f := w27) (z := z19) (by omega)
          have hs0 := sum_0 (f := w27) z19.toNat (fun j a b => i_B_X12_lasts_40_3 j a (by omega))
          have hwn := fun (h : z19 < 49) => i_B_X12_lasts_40_3 z19 (by omega) h
          refine wp_ck (z_r32_i.mpr ⟨(by omega) /- z_r32.lo z19#1 -/, (by omega) /- z_r32.hi z19#1 -/⟩) ?_
          refine wp_if (fun c5 => ?_) (fun c5 => ?_)
          ·
            refine wp_bd1 (s_X12_power _ _ (by omega) /- pre X12_power.1#1 -/ (by omega) /- pre X12_power.2#1 -/ (by omega) /- pre X12_power.3#1 -/ (by omega) /- pre X12_power.4#1 -/) (fun z17 q_X12_power_1 => ?_)
            try dsimp only at q_X12_power_1
            have hpb := powb_r (b := i_p0_stirs) (z := x1) (by omega) (by omega) (by omega) (by omega)
            have hpp := powb_p (b := i_p0_stirs) (z := x1) (by omega) (by omega) (by omega) (by omega)
            rw [← q_X12_power_1] at hpb hpp
            refine wp_bd1 (s_X12_lowest _ _ _ (by omega) /- pre X12_lowest.1#1 -/ (by omega) /- pre X12_lowest.2#1 -/ (by omega) /- pre X12_lowest.3#1 -/ (by omega) /- pre X12_lowest.4#1 -/ (by omega) /- pre X12_lowest.5#1 -/ (by omega) /- pre X12_lowest.6#1 -/) (fun z18 q_X12_lowest_1 => ?_)
            try dsimp only at q_X12_lowest_1
            refine wp_some ?_
            try dsimp only
            all_goals exact ⟨(by unfold Hid; intro h; exact absurd ⟨hn, hw⟩ h) /- post1#4 -/, (by unfold Hid; intro _ h; exact absurd h (by assumption)) /- post2#4 -/, (by unfold Hid; intro _ _; rw [hid q_X12_lowest_1, q_X12_power_1, hid i_B_X12_lasts_61_5, show z19.toNat = 49 from by omega, sum_same (n := i_p0_seats) (p := v_p0_st 8) (fun s a b c => by have p := i_B_X12_lasts_40_3 s a b; by_cases e : 0 < w27 s; (have v := i_B_X12_lasts_40_4 s a b e; unfold vst at v; have g := i_B_X12_lasts_40_6 (s % 7) (s / 7) (by omega) (by omega) (by omega) (by omega); rw [show 7 * (s / 7) + s % 7 = s from by omega, lck_own _ c] at g; exact g); omega), ways_king (by omega) (by omega) i_B_X12_lasts_40_6 (fun s a b c => by have p := i_B_X12_lasts_40_3 s a b; by_cases e : 0 < w27 s; exact absurd (i_B_X12_lasts_40_4 s a b e) c; omega) (by omega) (by omega), show z25 = x1 from by omega]) /- post3#4 -/⟩
          ·
            refine wp_ck (z_ix_i.mpr ⟨⟨(by omega) /- ix.lo z19#1 -/, (by omega) /- ix.hi z19#1 -/⟩, (by omega) /- ix.big z19#1 -/⟩) ?_
            refine wp_bndE (fun z23 hz23 => ?_)
            refine wp_bndE (fun z24 hz24 => ?_)
            exact ih_B_X12_lasts_61 _ _ ⟨(by omega) /- B_X12_lasts_61.inv1#1 -/, (by omega) /- B_X12_lasts_61.inv2#1 -/, (by have := hwn (by omega); omega) /- B_X12_lasts_61.inv3#1 -/, (by first | (subst hz30; rw [hss]; omega) | (subst hz28; rw [hss]; have := hwn (by omega); omega) | (subst hz24; rw [hss]; omega)) /- B_X12_lasts_61.inv4#1 -/, (by unfold Hid; subst hz24 hz23; rw [sum_s (by omega), ← hid i_B_X12_lasts_61_5]) /- B_X12_lasts_61.inv5#1 -/⟩ (by omega) /- B_X12_lasts_61.dec#1 -/
        ·
          refine wp_bd3 (s_X12_nextWays _ _ _ _ _ _ _ _ (by omega) /- pre X12_nextWays.1#1 -/ (by omega) /- pre X12_nextWays.2#1 -/ (by omega) /- pre X12_nextWays.3#1 -/ (by omega) /- pre X12_nextWays.4#1 -/ (by exact h9) /- pre X12_nextWays.5#1 -/ (by omega) /- pre X12_nextWays.6#1 -/ (by exact i_B_X12_lasts_40_3) /- pre X12_nextWays.7#1 -/ (by exact i_B_X12_lasts_40_4) /- pre X12_nextWays.8#1 -/ (by omega) /- pre X12_nextWays.9#1 -/) (fun w31 w32 w33 q_X12_nextWays_1 => ?_)
          try dsimp only at q_X12_nextWays_1
          obtain ⟨q_X12_nextWays_1_1, q_X12_nextWays_1_2, q_X12_nextWays_1_3, q_X12_nextWays_1_4⟩ := q_X12_nextWays_1
          refine wp_bndE (fun z34 hz34 => ?_)
          exact ih_B_X12_lasts_40 _ _ _ _ ⟨(by omega) /- B_X12_lasts_40.inv1#1 -/, (by omega) /- B_X12_lasts_40.inv2#1 -/, (by exact q_X12_nextWays_1_1) /- B_X12_lasts_40.inv3#1 -/, (by exact q_X12_nextWays_1_2) /- B_X12_lasts_40.inv4#1 -/, (by first | (subst hz40; rw [pow_step i_B_X12_lasts_40_1]; omega) | (subst hz34; rw [pow_step i_B_X12_lasts_40_1]; omega)) /- B_X12_lasts_40.inv5#1 -/, (by intro k2 b2 k0 k1 b0 b1; subst hz34; rw [show (z25 + 1).toNat = z25.toNat + 1 from by omega, q_X12_nextWays_1_4 _ (by omega) (by omega)]; exact ways_conv (by omega) (by omega) h9 (by omega) i_B_X12_lasts_40_6 (fun s a b c => by have p := i_B_X12_lasts_40_3 s a b; by_cases e : 0 < w27 s; exact absurd (i_B_X12_lasts_40_4 s a b e) c; omega) k0 k1 b0 b1) /- B_X12_lasts_40.inv6#1 -/⟩ (by omega) /- B_X12_lasts_40.dec#1 -/
