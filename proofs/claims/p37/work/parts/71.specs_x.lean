def hR (w : Int → Int) (lo N : Int) : Prop := ∀ d s, lo ≤ d → d ≤ N → 0 ≤ s → s < 49 → 0 ≤ w (49 * d + s) ∧ w (49 * d + s) ≤ (5 : Int) ^ (N - d).toNat
def hE (n m : Int) (st b w : Int → Int) (d s : Int) : Prop := vst n s → 0 < w (49 * d + s) → ∃ r, (0 ≤ r ∧ r < m) ∧ thn n st b s r % 7 = st (32 + d) ∧ 0 < w (49 * d + 49 + thn n st b s r)
theorem hR_up {w : Int → Int} {lo N i v : Int} (h : hR w lo N) (hi : i < 49 * lo) : hR (z_up w i v) lo N := by
  intro d s a b c e
  rw [z_up_n _ _ (by omega)]
  exact h d s a b c e
theorem hE_up {n m : Int} {st b w : Int → Int} {d s i v : Int} (h2 : 2 ≤ n) (h7 : n ≤ 7) (hr : rowsM n m b) (h : hE n m st b w d s) (hi : i < 49 * d + 49) (hn : ¬ 49 * d + s = i) : hE n m st b (z_up w i v) d s := by
  intro a c
  rw [z_up_n _ _ hn] at c
  obtain ⟨r, f, g, t⟩ := h a c
  have q := thn_rng (st := st) h2 h7 hr a f.1 f.2
  unfold vst at q
  exact ⟨r, f, g, by rw [z_up_n _ _ (by omega)]; exact t⟩
theorem pow5_6 {z : Int} (h0 : 0 ≤ z) (h1 : z ≤ 6) : 1 ≤ (5 : Int) ^ z.toNat ∧ (5 : Int) ^ z.toNat ≤ 15625 := by
  have : ∀ k : Nat, k ≤ 6 → 1 ≤ (5 : Int) ^ k ∧ (5 : Int) ^ k ≤ 15625 := by decide +kernel
  exact this z.toNat (by omega)
def hX (n m : Int) (st b w : Int → Int) (d s : Int) : Prop := vst n s → w (49 * d + s) = sumTo (fun r => if thn n st b s r % 7 = st (32 + d) then w (49 * d + 49 + thn n st b s r) else 0) m.toNat
theorem hX_up {n m : Int} {st b w : Int → Int} {d s i v : Int} (h2 : 2 ≤ n) (h7 : n ≤ 7) (hr : rowsM n m b) (h : hX n m st b w d s) (hi : i < 49 * d + 49) (hn : ¬ 49 * d + s = i) : hX n m st b (z_up w i v) d s := by
  intro a
  rw [z_up_n _ _ hn, h a]
  refine sum_ext m.toNat (fun r p q => ?_)
  have c := thn_rng (st := st) h2 h7 hr a p (by omega)
  unfold vst at c
  rw [z_up_n _ _ (by omega)]
theorem sum_if {A : Int → Int} {q W : Int} : ∀ m : Nat, sumTo (fun r => if A r = q then W else 0) m = sumTo (fun r => if A r = q then 1 else 0) m * W := by
  intro m
  induction m with
  | zero => show (0 : Int) = 0 * W; omega
  | succ m ih =>
    show sumTo (fun r => if A r = q then W else 0) m + (if A (m : Int) = q then W else 0) = (sumTo (fun r => if A r = q then 1 else 0) m + (if A (m : Int) = q then 1 else 0)) * W
    rw [ih, Int.add_mul]
    split
    · rw [Int.one_mul]
    · rw [Int.zero_mul]
theorem bt_v {P : Int → Prop} {t : Int} {m : Nat} (h0 : 0 ≤ t) (h1 : t < 32) (hm : m < 32) : (bt (bitsOf P m) t = 1 ∧ t < (m : Int) ∧ P t) ∨ (bt (bitsOf P m) t = 0 ∧ ¬ (t < (m : Int) ∧ P t)) := by
  have q := bt_bits (P := P) h0 h1 m hm
  rcases bt01 (bitsOf P m) t with e | e
  · exact Or.inr ⟨e, q.mp e⟩
  · refine Or.inl ⟨e, ?_⟩
    exact Classical.byContradiction (fun z => by have := q.mpr z; omega)
theorem popc_cnt {A : Int → Int} {q : Int} {m : Nat} (hm : m ≤ 5) : popc (bitsOf (fun t => A t = q) m) = sumTo (fun t => if A t = q then 1 else 0) m := by
  have e : ∀ t : Int, 0 ≤ t → t < 32 → bt (bitsOf (fun t => A t = q) m) t = if t < (m : Int) then (if A t = q then 1 else 0) else 0 := by
    intro t h0 h1
    rcases bt_v (P := fun t => A t = q) (m := m) h0 h1 (by omega) with ⟨a, b, c⟩ | ⟨a, b⟩
    · rw [a, if_pos b, if_pos c]
    · rw [a]
      by_cases d : t < (m : Int)
      · rw [if_pos d, if_neg (fun z => b ⟨d, z⟩)]
      · rw [if_neg d]
  unfold popc
  rw [e 0 (by omega) (by omega), e 1 (by omega) (by omega), e 2 (by omega) (by omega), e 3 (by omega) (by omega), e 4 (by omega) (by omega)]
  have c : m = 0 ∨ m = 1 ∨ m = 2 ∨ m = 3 ∨ m = 4 ∨ m = 5 := by omega
  generalize hv : (fun t : Int => if A t = q then (1 : Int) else 0) = v
  have ev : ∀ t, (if A t = q then (1 : Int) else 0) = v t := fun t => by rw [← hv]
  rw [ev, ev, ev, ev, ev]
  rcases c with c | c | c | c | c | c <;> subst c <;> simp [sumTo] <;> omega
theorem thn_hist {n m k q r bb_ : Int} {st b : Int → Int} (h2 : 2 ≤ n) (h7 : n ≤ 7) (hr : rowsM n m b) (k0 : 0 ≤ k) (k1 : k < n) (b0 : 0 ≤ bb_) (b1 : bb_ < n) (q0 : 0 ≤ q) (q1 : q < n) (r0 : 0 ≤ r) (r1 : r < m) : (thn n st b (7 * bb_ + k) r % 7 = q ↔ b (7 * r + bb_) = plc n k (st (9 + k)) q) ∧ (b (7 * r + bb_) = plc n k (st (9 + k)) q → thn n st b (7 * bb_ + k) r = 7 * plc n k (st (9 + k)) q + q) := by
  have p := rowM_use hr r0 r1 b0 b1
  unfold thn
  rw [show (7 * bb_ + k) / 7 = bb_ from by omega, show (7 * bb_ + k) % 7 = k from by omega]
  have w := hol_rng (n := n) (k := k) (f := st (9 + k)) (by omega) p.1 p.2
  obtain ⟨x, hx, ex⟩ := plc_sur (n := n) (k := k) (f := st (9 + k)) (by omega) p.1 p.2
  have eh := hol_eq (n := n) (k := k) (f := st (9 + k)) (by omega) hx.1 hx.2 ex
  have iff1 : hol n k (st (9 + k)) (b (7 * r + bb_)) = q ↔ b (7 * r + bb_) = plc n k (st (9 + k)) q := by
    constructor
    · intro z
      rw [← eh] at z
      rw [← ex, z]
    · intro z
      exact (hol_eq (by omega) q0 q1 z.symm).symm
  refine ⟨?_, ?_⟩
  · rw [← iff1]
    constructor
    · intro z; omega
    · intro z; omega
  · intro z
    rw [iff1.mpr z, z]
/-- the reference's words for the past -/
def mseen (st : Int → Int) : Int → Int := fun i => st (32 + i)
def mfr (st : Int → Int) : Int → Int := fun k => st (9 + k)
def mA (b : Int → Int) : Int → Int → Int := fun r x => b (7 * r + x)
def mS (n : Int) (st : Int → Int) (d : Int) : Int := 7 * hb n (st 8) (st 7) (mfr st) (mseen st) d + hk (st 8) (mseen st) d
def bpr (F : Int → Int) (N : Int) : Nat → Int
  | 0 => 1
  | j + 1 => F (N - 1 - (j : Int)) * bpr F N j
theorem bpr_prod {F : Int → Int} {N : Int} : ∀ j : Nat, (j : Int) ≤ N → prodTo F (N - j).toNat * bpr F N j = prodTo F N.toNat := by
  intro j
  induction j with
  | zero => intro _; show prodTo F (N - 0).toNat * 1 = _; rw [Int.mul_one, Int.sub_zero]
  | succ j ih =>
    intro h
    rw [← ih (by omega), show (N - (j : Int)).toNat = (N - ((j + 1 : Nat) : Int)).toNat + 1 from by omega]
    show prodTo F (N - ((j + 1 : Nat) : Int)).toNat * (F (N - 1 - (j : Int)) * bpr F N j) = (prodTo F (N - ((j + 1 : Nat) : Int)).toNat * F (((N - ((j + 1 : Nat) : Int)).toNat : Nat) : Int)) * bpr F N j
    rw [show (((N - ((j + 1 : Nat) : Int)).toNat : Nat) : Int) = N - 1 - (j : Int) from by omega, Int.mul_assoc]
theorem hk_r {n : Int} {st : Int → Int} (ho : okM n st) {d : Int} (h0 : 0 ≤ d) (h1 : d ≤ st 31) : 0 ≤ hk (st 8) (mseen st) d ∧ hk (st 8) (mseen st) d < n := by
  unfold hk
  split
  · exact ho.2.1
  · exact ho.2.2.2.2.2.2.2.2 (d - 1) (by omega) (by (try dsimp only); omega)
theorem hb_r {n : Int} {st : Int → Int} (hn : 2 ≤ n) (ho : okM n st) (d : Int) : 0 ≤ hb n (st 8) (st 7) (mfr st) (mseen st) d ∧ hb n (st 8) (st 7) (mfr st) (mseen st) d < n := by
  unfold hb
  split
  · exact ho.1
  · exact plc_rng (by omega)
theorem mS_v {n : Int} {st : Int → Int} (hn : 2 ≤ n) (h7 : n ≤ 7) (ho : okM n st) {d : Int} (h0 : 0 ≤ d) (h1 : d ≤ st 31) : vst n (mS n st d) := by
  have a := hk_r ho h0 h1
  have c := hb_r hn ho d
  unfold mS vst
  omega
theorem mS_go {n m : Int} {st b : Int → Int} (h2 : 2 ≤ n) (h7 : n ≤ 7) (hr : rowsM n m b) (ho : okM n st) {d r : Int} (h0 : 0 ≤ d) (h1 : d < st 31) (r0 : 0 ≤ r) (r1 : r < m) : (thn n st b (mS n st d) r % 7 = st (32 + d) ↔ mA b r (hb n (st 8) (st 7) (mfr st) (mseen st) d) = hb n (st 8) (st 7) (mfr st) (mseen st) (d + 1)) ∧ (thn n st b (mS n st d) r % 7 = st (32 + d) → thn n st b (mS n st d) r = mS n st (d + 1)) := by
  have a := hk_r ho h0 (show d ≤ st 31 by omega)
  have c := hb_r h2 ho d
  have sq := ho.2.2.2.2.2.2.2.2 d h0 (by (try dsimp only); omega)
  dsimp only at sq
  have q := thn_hist (n := n) (m := m) (st := st) (b := b) h2 h7 hr a.1 a.2 c.1 c.2 sq.1 sq.2 r0 r1
  have e : hb n (st 8) (st 7) (mfr st) (mseen st) (d + 1) = plc n (hk (st 8) (mseen st) d) (st (9 + hk (st 8) (mseen st) d)) (st (32 + d)) := hb_s h0
  refine ⟨by rw [e]; exact q.1, fun z => ?_⟩
  have w := q.2 (q.1.mp z)
  show thn n st b (7 * hb n (st 8) (st 7) (mfr st) (mseen st) d + hk (st 8) (mseen st) d) r = 7 * hb n (st 8) (st 7) (mfr st) (mseen st) (d + 1) + hk (st 8) (mseen st) (d + 1)
  rw [w, e, hk_s h0]
  rfl
theorem hist_prod {n m : Int} {st b w : Int → Int} (h2 : 2 ≤ n) (h7 : n ≤ 7) (hm0 : 0 ≤ m) (hm : m ≤ 5) (hr : rowsM n m b) (ho : okM n st) (h1 : ∀ s, 0 ≤ s → s < 49 → w (49 * st 31 + s) = 1) (hx : ∀ d s, 0 ≤ d → d < st 31 → hX n m st b w d s) : ∀ j : Nat, (j : Int) ≤ st 31 → w (49 * (st 31 - j) + mS n st (st 31 - j)) = bpr (fun i => popc (fitq n m (st 8) (st 7) (mfr st) (mseen st) (mA b) i)) (st 31) j := by
  intro j
  induction j with
  | zero =>
    intro _
    have v := mS_v h2 h7 ho (d := st 31) ho.2.2.2.1.1 (Int.le_refl _)
    unfold vst at v
    rw [show st 31 - ((0 : Nat) : Int) = st 31 from by omega]
    exact h1 _ v.1 v.2.1
  | succ j ih =>
    intro hj
    have q := ih (by omega)
    have ed : st 31 - ((j + 1 : Nat) : Int) + 1 = st 31 - (j : Int) := by omega
    generalize hdd : st 31 - ((j + 1 : Nat) : Int) = d at ed ⊢
    have hd0 : 0 ≤ d := by omega
    have hd1 : d < st 31 := by omega
    rw [← ed] at q
    have v := mS_v h2 h7 ho hd0 (show d ≤ st 31 by omega)
    rw [hx d _ hd0 hd1 v]
    have e1 : sumTo (fun r => if thn n st b (mS n st d) r % 7 = st (32 + d) then w (49 * d + 49 + thn n st b (mS n st d) r) else 0) m.toNat = sumTo (fun r => if mA b r (hb n (st 8) (st 7) (mfr st) (mseen st) d) = hb n (st 8) (st 7) (mfr st) (mseen st) (d + 1) then w (49 * (d + 1) + mS n st (d + 1)) else 0) m.toNat := by
      refine sum_ext m.toNat (fun r p u => ?_)
      have g := mS_go h2 h7 hr ho hd0 hd1 p (show r < m by omega)
      by_cases c : thn n st b (mS n st d) r % 7 = st (32 + d)
      · rw [if_pos c, if_pos (g.1.mp c), g.2 c]
        congr 1
        omega
      · rw [if_neg c, if_neg (fun z => c (g.1.mpr z))]
    rw [e1, sum_if (A := fun r => mA b r (hb n (st 8) (st 7) (mfr st) (mseen st) d)), q]
    show _ = popc (fitq n m (st 8) (st 7) (mfr st) (mseen st) (mA b) (st 31 - 1 - (j : Int))) * _
    rw [show st 31 - 1 - (j : Int) = d from by omega]
    unfold fitq
    rw [popc_cnt (A := fun t => mA b t (hb n (st 8) (st 7) (mfr st) (mseen st) d)) (by omega)]
theorem hist_tot {n m : Int} {st b w : Int → Int} (h2 : 2 ≤ n) (h7 : n ≤ 7) (hm0 : 0 ≤ m) (hm : m ≤ 5) (hr : rowsM n m b) (ho : okM n st) (h1 : ∀ s, 0 ≤ s → s < 49 → w (49 * st 31 + s) = 1) (hx : ∀ d s, 0 ≤ d → d < st 31 → hX n m st b w d s) : w (7 * st 7 + st 8) = prq n m (st 8) (st 7) (mfr st) (mseen st) (mA b) (st 31).toNat := by
  have h31 := ho.2.2.2.1.1
  have q := hist_prod h2 h7 hm0 hm hr ho h1 hx (st 31).toNat (by omega)
  have p := bpr_prod (F := fun i => popc (fitq n m (st 8) (st 7) (mfr st) (mseen st) (mA b) i)) (N := st 31) (st 31).toNat (by omega)
  rw [show st 31 - (((st 31).toNat : Nat) : Int) = 0 from by omega] at q p
  have e0 : mS n st 0 = 7 * st 7 + st 8 := rfl
  rw [e0, show (49 : Int) * 0 + (7 * st 7 + st 8) = 7 * st 7 + st 8 from by omega] at q
  rw [q]
  unfold prq
  rw [← p]
  show _ = 1 * _
  rw [Int.one_mul]
theorem bpr_nn {n m k0 b0 N : Int} {fr seen : Int → Int} {A : Int → Int → Int} : ∀ j : Nat, 0 ≤ bpr (fun i => popc (fitq n m k0 b0 fr seen A i)) N j := by
  intro j
  induction j with
  | zero => show (0 : Int) ≤ 1; decide
  | succ j ih => exact Int.mul_nonneg (popc_r _).1 ih
theorem pos_r {x y : Int} (hy : 0 ≤ y) (h : 0 < x * y) : 0 < y := by
  rcases Int.lt_or_eq_of_le hy with c | c
  · exact c
  · rw [← c, Int.mul_zero] at h; omega
theorem pos_l {x y : Int} (hx : 0 ≤ x) (h : 0 < x * y) : 0 < x := by
  rcases Int.lt_or_eq_of_le hx with c | c
  · exact c
  · rw [← c, Int.zero_mul] at h; omega
/-- which stirs can go on a day -/
theorem hist_go {n m : Int} {st b w : Int → Int} (h2 : 2 ≤ n) (h7 : n ≤ 7) (hm0 : 0 ≤ m) (hm : m ≤ 5) (hr : rowsM n m b) (ho : okM n st) (h1 : ∀ s, 0 ≤ s → s < 49 → w (49 * st 31 + s) = 1) (hx : ∀ d s, 0 ≤ d → d < st 31 → hX n m st b w d s) {d : Int} (d0 : 0 ≤ d) (d1 : d < st 31) :
    (0 < prq n m (st 8) (st 7) (mfr st) (mseen st) (mA b) (st 31).toNat → (∀ r, 0 ≤ r → r < m → ((thn n st b (mS n st d) r % 7 = st (32 + d) ∧ 0 < w (49 * d + 49 + thn n st b (mS n st d) r)) ↔ mA b r (hb n (st 8) (st 7) (mfr st) (mseen st) d) = hb n (st 8) (st 7) (mfr st) (mseen st) (d + 1))) ∧ ∃ t, 0 ≤ t ∧ t < m ∧ mA b t (hb n (st 8) (st 7) (mfr st) (mseen st) d) = hb n (st 8) (st 7) (mfr st) (mseen st) (d + 1)) ∧
    (d = 0 → ¬ 0 < prq n m (st 8) (st 7) (mfr st) (mseen st) (mA b) (st 31).toNat → ∀ r, 0 ≤ r → r < m → ¬ (thn n st b (mS n st d) r % 7 = st (32 + d) ∧ 0 < w (49 * d + 49 + thn n st b (mS n st d) r))) := by
  have q := hist_prod h2 h7 hm0 hm hr ho h1 hx (st 31 - 1 - d).toNat (by omega)
  have qd := hist_prod h2 h7 hm0 hm hr ho h1 hx (st 31 - d).toNat (by omega)
  have pd := bpr_prod (F := fun i => popc (fitq n m (st 8) (st 7) (mfr st) (mseen st) (mA b) i)) (N := st 31) (st 31 - d).toNat (by omega)
  have ed : bpr (fun i => popc (fitq n m (st 8) (st 7) (mfr st) (mseen st) (mA b) i)) (st 31) (st 31 - d).toNat = popc (fitq n m (st 8) (st 7) (mfr st) (mseen st) (mA b) d) * bpr (fun i => popc (fitq n m (st 8) (st 7) (mfr st) (mseen st) (mA b) i)) (st 31) (st 31 - 1 - d).toNat := by
    rw [show (st 31 - d).toNat = (st 31 - 1 - d).toNat + 1 from by omega]
    show popc (fitq n m (st 8) (st 7) (mfr st) (mseen st) (mA b) (st 31 - 1 - (((st 31 - 1 - d).toNat : Nat) : Int))) * _ = _
    rw [show st 31 - 1 - (((st 31 - 1 - d).toNat : Nat) : Int) = d from by omega]
  rw [show st 31 - (((st 31 - 1 - d).toNat : Nat) : Int) = d + 1 from by omega] at q
  have nn := bpr_nn (n := n) (m := m) (k0 := st 8) (b0 := st 7) (fr := mfr st) (seen := mseen st) (A := mA b) (N := st 31) (st 31 - 1 - d).toNat
  have nd := bpr_nn (n := n) (m := m) (k0 := st 8) (b0 := st 7) (fr := mfr st) (seen := mseen st) (A := mA b) (N := st 31) (st 31 - d).toNat
  have pn := (popc_r (fitq n m (st 8) (st 7) (mfr st) (mseen st) (mA b) d)).1
  have ex : 0 < popc (fitq n m (st 8) (st 7) (mfr st) (mseen st) (mA b) d) → ∃ t, 0 ≤ t ∧ t < m ∧ mA b t (hb n (st 8) (st 7) (mfr st) (mseen st) d) = hb n (st 8) (st 7) (mfr st) (mseen st) (d + 1) := by
    intro hp
    refine Classical.byContradiction (fun z => ?_)
    have e : popc (fitq n m (st 8) (st 7) (mfr st) (mseen st) (mA b) d) = 0 := by
      unfold fitq
      rw [popc_cnt (A := fun t => mA b t (hb n (st 8) (st 7) (mfr st) (mseen st) d)) (by omega)]
      exact sum_zero (fun t a c => if_neg (fun y => z ⟨t, a, c, y⟩))
    omega
  refine ⟨fun hp => ?_, fun e hp r r0 r1 z => ?_⟩
  · unfold prq at hp
    rw [← pd] at hp
    have hd := pos_r nd hp
    rw [ed] at hd
    have hw := pos_r nn hd
    rw [← q] at hw
    refine ⟨fun r r0 r1 => ?_, ex (pos_l pn hd)⟩
    have g := mS_go h2 h7 hr ho d0 d1 r0 r1
    constructor
    · rintro ⟨a, _⟩
      exact g.1.mp a
    · intro a
      have a2 := g.1.mpr a
      refine ⟨a2, ?_⟩
      rw [g.2 a2, show 49 * d + 49 + mS n st (d + 1) = 49 * (d + 1) + mS n st (d + 1) from by omega]
      exact hw
  · have g := mS_go h2 h7 hr ho d0 d1 r0 r1
    have hw := z.2
    rw [g.2 z.1, show 49 * d + 49 + mS n st (d + 1) = 49 * (d + 1) + mS n st (d + 1) from by omega, q] at hw
    apply hp
    unfold prq
    rw [← pd, ed, e]
    have hc : 0 < popc (fitq n m (st 8) (st 7) (mfr st) (mseen st) (mA b) 0) := by
      rw [e] at g
      have y := g.1.mp (by rw [e] at z; exact z.1)
      unfold fitq
      rw [popc_cnt (A := fun t => mA b t (hb n (st 8) (st 7) (mfr st) (mseen st) 0)) (by omega)]
      have o := sum_one (f := fun t => if mA b t (hb n (st 8) (st 7) (mfr st) (mseen st) 0) = hb n (st 8) (st 7) (mfr st) (mseen st) (0 + 1) then 1 else 0) (m := m.toNat) (fun j a c => by (try dsimp only); split <;> decide) (i := r) r0 (by omega)
      rw [if_pos y] at o
      omega
    rw [show (st 31 - (((st 31 - 0).toNat : Nat) : Int)).toNat = 0 from by omega]
    show 0 < 1 * (_ * _)
    rw [Int.one_mul]
    rw [e] at hw
    exact Int.mul_pos hc hw
set_option maxHeartbeats 4000000 in
theorem s_X12_findHistories (i_p0_seats : Int) (i_p0_stirs : Int) (v_p0_st : (Int → Int)) (v_p0_brings : (Int → Int)) (v_p0_places : (Int → Int)) (v_p0_goesOn : (Int → Int)) (h1 : 2 ≤ i_p0_seats) (h2 : i_p0_seats ≤ 7) (h3 : 0 ≤ i_p0_stirs) (h4 : i_p0_stirs ≤ 5) (h5 : rowsM i_p0_seats i_p0_stirs v_p0_brings) (h6 : okM i_p0_seats v_p0_st) : wp (f_X12_findHistories i_p0_seats i_p0_stirs v_p0_st v_p0_brings v_p0_places v_p0_goesOn) (fun o => (hR o.2 0 (v_p0_st 31)) ∧ (∀ d s, 0 ≤ d → d < v_p0_st 31 → hE i_p0_seats i_p0_stirs v_p0_st v_p0_brings o.2 d s) ∧ (∀ d s, 0 ≤ d → d < v_p0_st 31 → hX i_p0_seats i_p0_stirs v_p0_st v_p0_brings o.2 d s) ∧ (∀ s, 0 ≤ s → s < 49 → o.2 (49 * v_p0_st 31 + s) = 1)) := by
  unfold f_X12_findHistories
  have ho1 := okM_1 h6
  refine wp_ck (z_ix_i.mpr ⟨⟨(by omega) /- ix.lo (31 : Int)#1 -/, (by omega) /- ix.hi (31 : Int)#1 -/⟩, (by omega) /- ix.big (31 : Int)#1 -/⟩) ?_
  refine wp_bndE (fun z1 hz1 => ?_)
  refine wp_bnd ?_
  refine wp_jn ?_
  subst hz1
  refine wp_lq2 (fun (z41 : Int) (w42 : (Int → Int)) => (0 ≤ z41) ∧ (z41 ≤ 49) ∧ (∀ s, 0 ≤ s → s < z41 → w42 (49 * v_p0_st 31 + s) = 1)) (fun (z41 : Int) (w42 : (Int → Int)) => (49 - z41).toNat) (fun again10 z41 w42 hI ih_B_X12_findHistories_10 => ?_) 1000 _ _ ⟨(by omega) /- B_X12_findHistories_10.init1#1 -/, (by omega) /- B_X12_findHistories_10.init2#1 -/, (by intro s; omega) /- B_X12_findHistories_10.init3#1 -/⟩ (by omega) /- B_X12_findHistories_10.fuel#1 -/
  obtain ⟨i_B_X12_findHistories_10_1, i_B_X12_findHistories_10_2, i_B_X12_findHistories_10_3⟩ := hI
  unfold B_X12_findHistories_10
  refine wp_ck (z_r32_i.mpr ⟨(by omega) /- z_r32.lo z41#1 -/, (by omega) /- z_r32.hi z41#1 -/⟩) ?_
  refine wp_if (fun c1 => ?_) (fun c1 => ?_)
  ·
    refine wp_bndE (fun z5 hz5 => ?_)
    refine wp_lq3 (fun (z6 : Int) (w7 : (Int → Int)) (w8 : (Int → Int)) => (-1 ≤ z6) ∧ (z6 < v_p0_st 31) ∧ (hR w8 (z6 + 1) (v_p0_st 31)) ∧ (∀ d s, z6 + 1 ≤ d → d < v_p0_st 31 → hE i_p0_seats i_p0_stirs v_p0_st v_p0_brings w8 d s) ∧ (∀ d s, z6 + 1 ≤ d → d < v_p0_st 31 → hX i_p0_seats i_p0_stirs v_p0_st v_p0_brings w8 d s) ∧ (∀ s, 0 ≤ s → s < 49 → w8 (49 * v_p0_st 31 + s) = 1)) (fun (z6 : Int) (w7 : (Int → Int)) (w8 : (Int → Int)) => (z6 + 1).toNat) (fun again38 z6 w7 w8 hI ih_B_X12_findHistories_38 => ?_) 1000 _ _ _ ⟨(by omega) /- B_X12_findHistories_38.init1#1 -/, (by omega) /- B_X12_findHistories_38.init2#1 -/, (by 
                                        intro d s a b c e
                                        have f : d = v_p0_st 31 := by omega
                                        rw [f]
                                        rw [i_B_X12_findHistories_10_3 s c (by omega), show v_p0_st 31 - v_p0_st 31 = 0 from by omega]; decide) /- B_X12_findHistories_38.init3#1 -/, (by intro d s a b; omega) /- B_X12_findHistories_38.init4#1 -/, (by intro d s a b; omega) /- B_X12_findHistories_38.init5#1 -/, (by intro s a b; exact i_B_X12_findHistories_10_3 s a (by omega)) /- B_X12_findHistories_38.init6#1 -/⟩ (by omega) /- B_X12_findHistories_38.fuel#1 -/
    obtain ⟨i_B_X12_findHistories_38_1, i_B_X12_findHistories_38_2, i_B_X12_findHistories_38_3, i_B_X12_findHistories_38_4, i_B_X12_findHistories_38_5, i_B_X12_findHistories_38_6⟩ := hI
    unfold B_X12_findHistories_38
    have hpw := fun (h : 0 ≤ z6) => pow5_6 (z := v_p0_st 31 - z6 - 1) (by omega) (by omega)
    have hps := fun (h : 0 ≤ z6) => pow_step (b := 5) (z := v_p0_st 31 - z6 - 1) (by omega)
    refine wp_ck (z_r32_i.mpr ⟨(by omega) /- z_r32.lo z6#1 -/, (by omega) /- z_r32.hi z6#1 -/⟩) ?_
    refine wp_if (fun c2 => ?_) (fun c2 => ?_)
    ·
      refine wp_some ?_
      try dsimp only
      all_goals exact ⟨(by intro d s a b; exact i_B_X12_findHistories_38_3 d s (by omega) b) /- post1#1 -/, (by intro d s a b; exact i_B_X12_findHistories_38_4 d s (by omega) b) /- post2#1 -/, (by intro d s a b; exact i_B_X12_findHistories_38_5 d s (by omega) b) /- post3#1 -/, (by exact i_B_X12_findHistories_38_6) /- post4#1 -/⟩
    ·
      have hpw1 := hpw (by omega)
      have hps1 := hps (by omega)
      rw [show v_p0_st 31 - z6 - 1 + 1 = v_p0_st 31 - z6 from by omega] at hps1
      refine wp_bnd ?_
      refine wp_lq3 (fun (z12 : Int) (w13 : (Int → Int)) (w14 : (Int → Int)) => (0 ≤ z12) ∧ (z12 ≤ 49) ∧ (hR w14 (z6 + 1) (v_p0_st 31)) ∧ (∀ d s, z6 + 1 ≤ d → d < v_p0_st 31 → hE i_p0_seats i_p0_stirs v_p0_st v_p0_brings w14 d s) ∧ (∀ s, 0 ≤ s → s < z12 → 0 ≤ w14 (49 * z6 + s) ∧ w14 (49 * z6 + s) ≤ (5 : Int) ^ (v_p0_st 31 - z6).toNat) ∧ (∀ s, 0 ≤ s → s < z12 → hE i_p0_seats i_p0_stirs v_p0_st v_p0_brings w14 z6 s) ∧ (∀ d s, z6 + 1 ≤ d → d < v_p0_st 31 → hX i_p0_seats i_p0_stirs v_p0_st v_p0_brings w14 d s) ∧ (∀ s, 0 ≤ s → s < z12 → hX i_p0_seats i_p0_stirs v_p0_st v_p0_brings w14 z6 s) ∧ (∀ s, 0 ≤ s → s < 49 → w14 (49 * v_p0_st 31 + s) = 1)) (fun (z12 : Int) (w13 : (Int → Int)) (w14 : (Int → Int)) => (49 - z12).toNat) (fun again44 z12 w13 w14 hI ih_B_X12_findHistories_44 => ?_) 1000 _ _ _ ⟨(by omega) /- B_X12_findHistories_44.init1#1 -/, (by omega) /- B_X12_findHistories_44.init2#1 -/, (by exact i_B_X12_findHistories_38_3) /- B_X12_findHistories_44.init3#1 -/, (by exact i_B_X12_findHistories_38_4) /- B_X12_findHistories_44.init4#1 -/, (by intro s; omega) /- B_X12_findHistories_44.init5#1 -/, (by intro s; omega) /- B_X12_findHistories_44.init6#1 -/, (by exact i_B_X12_findHistories_38_5) /- B_X12_findHistories_44.init7#1 -/, (by intro s; omega) /- B_X12_findHistories_44.init8#1 -/, (by exact i_B_X12_findHistories_38_6) /- B_X12_findHistories_44.init9#1 -/⟩ (by omega) /- B_X12_findHistories_44.fuel#1 -/
      obtain ⟨i_B_X12_findHistories_44_1, i_B_X12_findHistories_44_2, i_B_X12_findHistories_44_3, i_B_X12_findHistories_44_4, i_B_X12_findHistories_44_5, i_B_X12_findHistories_44_6, i_B_X12_findHistories_44_7, i_B_X12_findHistories_44_8, i_B_X12_findHistories_44_9⟩ := hI
      unfold B_X12_findHistories_44
      refine wp_ck (z_r32_i.mpr ⟨(by omega) /- z_r32.lo z12#1 -/, (by omega) /- z_r32.hi z12#1 -/⟩) ?_
      refine wp_if (fun c3 => ?_) (fun c3 => ?_)
      ·
        refine wp_bndE (fun z17 hz17 => ?_)
        exact ih_B_X12_findHistories_38 _ _ _ ⟨(by omega) /- B_X12_findHistories_38.inv1#1 -/, (by omega) /- B_X12_findHistories_38.inv2#1 -/, (by intro d s a b c e; by_cases f : d = z6; (rw [f]; exact i_B_X12_findHistories_44_5 s c (by omega)); exact i_B_X12_findHistories_44_3 d s (by omega) b c e) /- B_X12_findHistories_38.inv3#1 -/, (by intro d s a b; by_cases f : d = z6; (rw [f]; intro v; exact i_B_X12_findHistories_44_6 s v.1 (by have := v.2.1; omega) v); exact i_B_X12_findHistories_44_4 d s (by omega) b) /- B_X12_findHistories_38.inv4#1 -/, (by intro d s a b; by_cases f : d = z6; (rw [f]; intro v; exact i_B_X12_findHistories_44_8 s v.1 (by have := v.2.1; omega) v); exact i_B_X12_findHistories_44_7 d s (by omega) b) /- B_X12_findHistories_38.inv5#1 -/, (by exact i_B_X12_findHistories_44_9) /- B_X12_findHistories_38.inv6#1 -/⟩ (by omega) /- B_X12_findHistories_38.dec#1 -/
      ·
        refine wp_ck (z_ix_i.mpr ⟨⟨(by omega) /- ix.lo (((49 : Int) * z6) + z12)#1 -/, (by omega) /- ix.hi (((49 : Int) * z6) + z12)#1 -/⟩, (by omega) /- ix.big (((49 : Int) * z6) + z12)#1 -/⟩) ?_
        refine wp_bnd ?_
        refine wp_bnd ?_
        refine wp_lq3 (fun (z20 : Int) (w21 : (Int → Int)) (w22 : (Int → Int)) => (0 ≤ z20) ∧ (z20 ≤ i_p0_stirs) ∧ (hR w22 (z6 + 1) (v_p0_st 31)) ∧ (∀ d s, z6 + 1 ≤ d → d < v_p0_st 31 → hE i_p0_seats i_p0_stirs v_p0_st v_p0_brings w22 d s) ∧ (∀ s, 0 ≤ s → s < z12 → 0 ≤ w22 (49 * z6 + s) ∧ w22 (49 * z6 + s) ≤ (5 : Int) ^ (v_p0_st 31 - z6).toNat) ∧ (∀ s, 0 ≤ s → s < z12 → hE i_p0_seats i_p0_stirs v_p0_st v_p0_brings w22 z6 s) ∧ (0 ≤ w22 (49 * z6 + z12) ∧ w22 (49 * z6 + z12) ≤ z20 * (5 : Int) ^ (v_p0_st 31 - z6 - 1).toNat) ∧ (0 < w22 (49 * z6 + z12) → ∃ r, (0 ≤ r ∧ r < z20) ∧ thn i_p0_seats v_p0_st v_p0_brings z12 r % 7 = v_p0_st (32 + z6) ∧ 0 < w22 (49 * z6 + 49 + thn i_p0_seats v_p0_st v_p0_brings z12 r)) ∧ (∀ d s, z6 + 1 ≤ d → d < v_p0_st 31 → hX i_p0_seats i_p0_stirs v_p0_st v_p0_brings w22 d s) ∧ (∀ s, 0 ≤ s → s < z12 → hX i_p0_seats i_p0_stirs v_p0_st v_p0_brings w22 z6 s) ∧ (vst i_p0_seats z12 → w22 (49 * z6 + z12) = sumTo (fun r => if thn i_p0_seats v_p0_st v_p0_brings z12 r % 7 = v_p0_st (32 + z6) then w22 (49 * z6 + 49 + thn i_p0_seats v_p0_st v_p0_brings z12 r) else 0) z20.toNat) ∧ (∀ s, 0 ≤ s → s < 49 → w22 (49 * v_p0_st 31 + s) = 1)) (fun (z20 : Int) (w21 : (Int → Int)) (w22 : (Int → Int)) => (i_p0_stirs - z20).toNat) (fun again65 z20 w21 w22 hI ih_B_X12_findHistories_65 => ?_) 1000 _ _ _ ⟨(by omega) /- B_X12_findHistories_65.init1#1 -/, (by omega) /- B_X12_findHistories_65.init2#1 -/, (by exact hR_up i_B_X12_findHistories_44_3 (by omega)) /- B_X12_findHistories_65.init3#1 -/, (by intro d s a b; intro v; exact hE_up h1 h2 h5 (i_B_X12_findHistories_44_4 d s a b) (by omega) (by have := v.1; omega) v) /- B_X12_findHistories_65.init4#1 -/, (by intro s a b; rw [z_up_n _ _ (by omega)]; exact i_B_X12_findHistories_44_5 s a b) /- B_X12_findHistories_65.init5#1 -/, (by intro s a b; exact hE_up h1 h2 h5 (i_B_X12_findHistories_44_6 s a b) (by omega) (by omega)) /- B_X12_findHistories_65.init6#1 -/, (by rw [z_up_s, Int.zero_mul]; omega) /- B_X12_findHistories_65.init7#1 -/, (by rw [z_up_s]; intro h; omega) /- B_X12_findHistories_65.init8#1 -/, (by intro d s a b; intro v; exact hX_up h1 h2 h5 (i_B_X12_findHistories_44_7 d s a b) (by omega) (by have := v.1; omega) v) /- B_X12_findHistories_65.init9#1 -/, (by intro s a b; exact hX_up h1 h2 h5 (i_B_X12_findHistories_44_8 s a b) (by omega) (by omega)) /- B_X12_findHistories_65.init10#1 -/, (by intro _; rw [z_up_s]; rfl) /- B_X12_findHistories_65.init11#1 -/, (by intro s a b; rw [z_up_n _ _ (by omega)]; exact i_B_X12_findHistories_44_9 s a b) /- B_X12_findHistories_65.init12#1 -/⟩ (by omega) /- B_X12_findHistories_65.fuel#1 -/
        obtain ⟨i_B_X12_findHistories_65_1, i_B_X12_findHistories_65_2, i_B_X12_findHistories_65_3, i_B_X12_findHistories_65_4, i_B_X12_findHistories_65_5, i_B_X12_findHistories_65_6, i_B_X12_findHistories_65_7, i_B_X12_findHistories_65_8, i_B_X12_findHistories_65_9, i_B_X12_findHistories_65_10, i_B_X12_findHistories_65_11, i_B_X12_findHistories_65_12⟩ := hI
        unfold B_X12_findHistories_65
        have hm5 := mul5 (z := z20) (v := (5 : Int) ^ (v_p0_st 31 - z6 - 1).toNat) (by omega) (by omega)
        have hw := okM_w h6 z6 (by omega) (by omega)
        refine wp_ck (z_r32_i.mpr ⟨(by omega) /- z_r32.lo z20#1 -/, (by omega) /- z_r32.hi z20#1 -/⟩) ?_
        refine wp_ck (z_r32_i.mpr ⟨(by omega) /- z_r32.lo i_p0_stirs#1 -/, (by omega) /- z_r32.hi i_p0_stirs#1 -/⟩) ?_
        refine wp_if (fun c4 => ?_) (fun c4 => ?_)
        ·
          refine wp_bndE (fun z26 hz26 => ?_)
          exact ih_B_X12_findHistories_44 _ _ _ ⟨(by omega) /- B_X12_findHistories_44.inv1#1 -/, (by omega) /- B_X12_findHistories_44.inv2#1 -/, (by exact i_B_X12_findHistories_65_3) /- B_X12_findHistories_44.inv3#1 -/, (by exact i_B_X12_findHistories_65_4) /- B_X12_findHistories_44.inv4#1 -/, (by intro s a b; by_cases e : s = z12; (rw [e]; omega); exact i_B_X12_findHistories_65_5 s a (by omega)) /- B_X12_findHistories_44.inv5#1 -/, (by intro s a b; by_cases e : s = z12; (rw [e]; intro v c; obtain ⟨r, f, g, t⟩ := i_B_X12_findHistories_65_8 c; exact ⟨r, ⟨f.1, by omega⟩, g, t⟩); exact i_B_X12_findHistories_65_6 s a (by omega)) /- B_X12_findHistories_44.inv6#1 -/, (by exact i_B_X12_findHistories_65_9) /- B_X12_findHistories_44.inv7#1 -/, (by intro s a b; by_cases e : s = z12; (rw [e]; intro v; rw [i_B_X12_findHistories_65_11 v, show z20.toNat = i_p0_stirs.toNat from by omega]); exact i_B_X12_findHistories_65_10 s a (by omega)) /- B_X12_findHistories_44.inv8#1 -/, (by exact i_B_X12_findHistories_65_12) /- B_X12_findHistories_44.inv9#1 -/⟩ (by omega) /- B_X12_findHistories_44.dec#1 -/
        ·
          refine wp_ck (z_dv_i.mpr ⟨⟨⟨(by omega) /- dv.0 z12#1 -/, (by omega) /- dv.1 z12#1 -/⟩, (by omega) /- dv.2 z12#1 -/⟩, (by omega) /- dv.3 z12#1 -/⟩) ?_
          refine wp_ck (z_r32_i.mpr ⟨(by omega) /- z_r32.lo (z12 % (7 : Int))#1 -/, (by omega) /- z_r32.hi (z12 % (7 : Int))#1 -/⟩) ?_
          refine wp_ck (z_r32_i.mpr ⟨(by omega) /- z_r32.lo i_p0_seats#1 -/, (by omega) /- z_r32.hi i_p0_seats#1 -/⟩) ?_
          refine wp_if (fun c5 => ?_) (fun c5 => ?_)
          ·
            refine wp_bndE (fun z29 hz29 => ?_)
            exact ih_B_X12_findHistories_44 _ _ _ ⟨(by omega) /- B_X12_findHistories_44.inv1#2 -/, (by omega) /- B_X12_findHistories_44.inv2#2 -/, (by exact i_B_X12_findHistories_65_3) /- B_X12_findHistories_44.inv3#2 -/, (by exact i_B_X12_findHistories_65_4) /- B_X12_findHistories_44.inv4#2 -/, (by intro s a b; by_cases e : s = z12; (rw [e]; omega); exact i_B_X12_findHistories_65_5 s a (by omega)) /- B_X12_findHistories_44.inv5#2 -/, (by intro s a b; by_cases e : s = z12; (rw [e]; intro v; exfalso; unfold vst at v; omega); exact i_B_X12_findHistories_65_6 s a (by omega)) /- B_X12_findHistories_44.inv6#2 -/, (by exact i_B_X12_findHistories_65_9) /- B_X12_findHistories_44.inv7#2 -/, (by intro s a b; by_cases e : s = z12; (rw [e]; intro v; exfalso; unfold vst at v; omega); exact i_B_X12_findHistories_65_10 s a (by omega)) /- B_X12_findHistories_44.inv8#2 -/, (by exact i_B_X12_findHistories_65_12) /- B_X12_findHistories_44.inv9#2 -/⟩ (by omega) /- B_X12_findHistories_44.dec#2 -/
          ·
            refine wp_ck (z_dv_i.mpr ⟨⟨⟨(by omega) /- dv.0 z12#2 -/, (by omega) /- dv.1 z12#2 -/⟩, (by omega) /- dv.2 z12#2 -/⟩, (by omega) /- dv.3 z12#2 -/⟩) ?_
            refine wp_ck (z_r32_i.mpr ⟨(by omega) /- z_r32.lo (z12 / (7 : Int))#1 -/, (by omega) /- z_r32.hi (z12 / (7 : Int))#1 -/⟩) ?_
            refine wp_if (fun c6 => ?_) (fun c6 => ?_)
            ·
              refine wp_bndE (fun z31 hz31 => ?_)
              exact ih_B_X12_findHistories_44 _ _ _ ⟨(by omega) /- B_X12_findHistories_44.inv1#3 -/, (by omega) /- B_X12_findHistories_44.inv2#3 -/, (by exact i_B_X12_findHistories_65_3) /- B_X12_findHistories_44.inv3#3 -/, (by exact i_B_X12_findHistories_65_4) /- B_X12_findHistories_44.inv4#3 -/, (by intro s a b; by_cases e : s = z12; (rw [e]; omega); exact i_B_X12_findHistories_65_5 s a (by omega)) /- B_X12_findHistories_44.inv5#3 -/, (by intro s a b; by_cases e : s = z12; (rw [e]; intro v; exfalso; unfold vst at v; omega); exact i_B_X12_findHistories_65_6 s a (by omega)) /- B_X12_findHistories_44.inv6#3 -/, (by exact i_B_X12_findHistories_65_9) /- B_X12_findHistories_44.inv7#3 -/, (by intro s a b; by_cases e : s = z12; (rw [e]; intro v; exfalso; unfold vst at v; omega); exact i_B_X12_findHistories_65_10 s a (by omega)) /- B_X12_findHistories_44.inv8#3 -/, (by exact i_B_X12_findHistories_65_12) /- B_X12_findHistories_44.inv9#3 -/⟩ (by omega) /- B_X12_findHistories_44.dec#3 -/
            ·
              have hvz : vst i_p0_seats z12 := by unfold vst; omega
              refine wp_bd2 (s_X12_then _ _ _ _ _ _ i_p0_stirs (by omega) /- pre X12_then.1#1 -/ (by omega) /- pre X12_then.2#1 -/ (by omega) /- pre X12_then.3#1 -/ (by omega) /- pre X12_then.4#1 -/ (by exact h5) /- pre X12_then.5#1 -/ (by exact hvz) /- pre X12_then.6#1 -/ (by omega) /- pre X12_then.7#1 -/ (by omega) /- pre X12_then.8#1 -/) (fun z32 w33 q_X12_then_1 => ?_)
              try dsimp only at q_X12_then_1
              obtain ⟨q_X12_then_1_1, q_X12_then_1_2⟩ := q_X12_then_1
              have hvt := q_X12_then_1_2
              unfold vst at hvt
              have hg := i_B_X12_findHistories_65_3 (z6 + 1) z32 (by omega) (by omega) (by omega) (by omega)
              rw [show 49 * (z6 + 1) + z32 = 49 * z6 + 49 + z32 from by omega, show v_p0_st 31 - (z6 + 1) = v_p0_st 31 - z6 - 1 from by omega] at hg
              have hmu : (z20 + 1) * (5 : Int) ^ (v_p0_st 31 - z6 - 1).toNat = z20 * (5 : Int) ^ (v_p0_st 31 - z6 - 1).toNat + (5 : Int) ^ (v_p0_st 31 - z6 - 1).toNat := by rw [Int.add_mul, Int.one_mul]
              refine wp_bnd ?_
              refine wp_ck (z_ix_i.mpr ⟨⟨(by omega) /- ix.lo (((49 : Int) * z6) + z12)#2 -/, (by omega) /- ix.hi (((49 : Int) * z6) + z12)#2 -/⟩, (by omega) /- ix.big (((49 : Int) * z6) + z12)#2 -/⟩) ?_
              refine wp_ck (z_dv_i.mpr ⟨⟨⟨(by omega) /- dv.0 z34#1 -/, (by omega) /- dv.1 z34#1 -/⟩, (by omega) /- dv.2 z34#1 -/⟩, (by omega) /- dv.3 z34#1 -/⟩) ?_
              refine wp_ck (z_ix_i.mpr ⟨⟨(by omega) /- ix.lo ((32 : Int) + z6)#1 -/, (by omega) /- ix.hi ((32 : Int) + z6)#1 -/⟩, (by omega) /- ix.big ((32 : Int) + z6)#1 -/⟩) ?_
              refine wp_ck (z_r32_i.mpr ⟨(by omega) /- z_r32.lo (z34 % (7 : Int))#1 -/, (by omega) /- z_r32.hi (z34 % (7 : Int))#1 -/⟩) ?_
              refine wp_ck (z_r32_i.mpr ⟨(by omega) /- z_r32.lo (v_p0_st ((32 : Int) + z6))#1 -/, (by omega) /- z_r32.hi (v_p0_st ((32 : Int) + z6))#1 -/⟩) ?_
              refine wp_if (fun c7 => ?_) (fun c7 => ?_)
              ·
                refine wp_ck (z_ix_i.mpr ⟨⟨(by omega) /- ix.lo ((((49 : Int) * z6) + (49 : Int)) + z34)#1 -/, (by omega) /- ix.hi ((((49 : Int) * z6) + (49 : Int)) + z34)#1 -/⟩, (by omega) /- ix.big ((((49 : Int) * z6) + (49 : Int)) + z34)#1 -/⟩) ?_
                refine wp_ck (z_ix_i.mpr ⟨⟨(by omega) /- ix.lo (((49 : Int) * z6) + z12)#3 -/, (by omega) /- ix.hi (((49 : Int) * z6) + z12)#3 -/⟩, (by omega) /- ix.big (((49 : Int) * z6) + z12)#3 -/⟩) ?_
                refine wp_bnd ?_
                refine wp_bndE (fun z40 hz40 => ?_)
                exact ih_B_X12_findHistories_65 _ _ _ ⟨(by omega) /- B_X12_findHistories_65.inv1#1 -/, (by omega) /- B_X12_findHistories_65.inv2#1 -/, (by exact hR_up i_B_X12_findHistories_65_3 (by omega)) /- B_X12_findHistories_65.inv3#1 -/, (by intro d s a b; intro v; exact hE_up h1 h2 h5 (i_B_X12_findHistories_65_4 d s a b) (by omega) (by have := v.1; omega) v) /- B_X12_findHistories_65.inv4#1 -/, (by intro s a b; rw [z_up_n _ _ (by omega)]; exact i_B_X12_findHistories_65_5 s a b) /- B_X12_findHistories_65.inv5#1 -/, (by intro s a b; exact hE_up h1 h2 h5 (i_B_X12_findHistories_65_6 s a b) (by omega) (by omega)) /- B_X12_findHistories_65.inv6#1 -/, (by rw [z_up_s]; first | (subst hz40; rw [hmu]; omega) | (subst hz38; rw [hmu]; omega)) /- B_X12_findHistories_65.inv7#1 -/, (by 
                                        rw [z_up_s]
                                        intro c
                                        by_cases e : 0 < w22 (49 * z6 + 49 + z32)
                                        · exact ⟨z20, ⟨by omega, by omega⟩, by rw [← q_X12_then_1_1]; assumption, by rw [z_up_n _ _ (by rw [← q_X12_then_1_1]; omega), ← q_X12_then_1_1]; exact e⟩
                                        · obtain ⟨r, f, g, t⟩ := i_B_X12_findHistories_65_8 (by omega)
                                          have q := thn_rng (st := v_p0_st) h1 h2 h5 hvz f.1 (show r < i_p0_stirs by omega)
                                          unfold vst at q
                                          exact ⟨r, ⟨f.1, by omega⟩, g, by rw [z_up_n _ _ (by omega)]; exact t⟩) /- B_X12_findHistories_65.inv8#1 -/, (by intro d s a b; intro v; exact hX_up h1 h2 h5 (i_B_X12_findHistories_65_9 d s a b) (by omega) (by have := v.1; omega) v) /- B_X12_findHistories_65.inv9#1 -/, (by intro s a b; exact hX_up h1 h2 h5 (i_B_X12_findHistories_65_10 s a b) (by omega) (by omega)) /- B_X12_findHistories_65.inv10#1 -/, (by 
                                        intro v
                                        subst hz40
                                        rw [sum_s i_B_X12_findHistories_65_1, z_up_s, i_B_X12_findHistories_65_11 v, if_pos (by rw [← q_X12_then_1_1]; assumption), ← q_X12_then_1_1, z_up_n _ _ (by omega)]
                                        congr 1
                                        refine sum_ext z20.toNat (fun r p q => ?_)
                                        have c := thn_rng (st := v_p0_st) h1 h2 h5 v p (show r < i_p0_stirs by omega)
                                        unfold vst at c
                                        rw [z_up_n _ _ (by omega)]) /- B_X12_findHistories_65.inv11#1 -/, (by intro s a b; rw [z_up_n _ _ (by omega)]; exact i_B_X12_findHistories_65_12 s a b) /- B_X12_findHistories_65.inv12#1 -/⟩ (by omega) /- B_X12_findHistories_65.dec#1 -/
              ·
                refine wp_ck (z_ix_i.mpr ⟨⟨(by omega) /- ix.lo (((49 : Int) * z6) + z12)#4 -/, (by omega) /- ix.hi (((49 : Int) * z6) + z12)#4 -/⟩, (by omega) /- ix.big (((49 : Int) * z6) + z12)#4 -/⟩) ?_
                refine wp_bnd ?_
                refine wp_bndE (fun z38 hz38 => ?_)
                exact ih_B_X12_findHistories_65 _ _ _ ⟨(by omega) /- B_X12_findHistories_65.inv1#2 -/, (by omega) /- B_X12_findHistories_65.inv2#2 -/, (by exact hR_up i_B_X12_findHistories_65_3 (by omega)) /- B_X12_findHistories_65.inv3#2 -/, (by intro d s a b; intro v; exact hE_up h1 h2 h5 (i_B_X12_findHistories_65_4 d s a b) (by omega) (by have := v.1; omega) v) /- B_X12_findHistories_65.inv4#2 -/, (by intro s a b; rw [z_up_n _ _ (by omega)]; exact i_B_X12_findHistories_65_5 s a b) /- B_X12_findHistories_65.inv5#2 -/, (by intro s a b; exact hE_up h1 h2 h5 (i_B_X12_findHistories_65_6 s a b) (by omega) (by omega)) /- B_X12_findHistories_65.inv6#2 -/, (by rw [z_up_s]; first | (subst hz40; rw [hmu]; omega) | (subst hz38; rw [hmu]; omega)) /- B_X12_findHistories_65.inv7#2 -/, (by 
                                        rw [z_up_s]
                                        intro c
                                        obtain ⟨r, f, g, t⟩ := i_B_X12_findHistories_65_8 (by omega)
                                        have q := thn_rng (st := v_p0_st) h1 h2 h5 hvz f.1 (show r < i_p0_stirs by omega)
                                        unfold vst at q
                                        exact ⟨r, ⟨f.1, by omega⟩, g, by rw [z_up_n _ _ (by omega)]; exact t⟩) /- B_X12_findHistories_65.inv8#2 -/, (by intro d s a b; intro v; exact hX_up h1 h2 h5 (i_B_X12_findHistories_65_9 d s a b) (by omega) (by have := v.1; omega) v) /- B_X12_findHistories_65.inv9#2 -/, (by intro s a b; exact hX_up h1 h2 h5 (i_B_X12_findHistories_65_10 s a b) (by omega) (by omega)) /- B_X12_findHistories_65.inv10#2 -/, (by 
                                        intro v
                                        subst hz38
                                        rw [sum_s i_B_X12_findHistories_65_1, z_up_s, i_B_X12_findHistories_65_11 v, if_neg (by rw [← q_X12_then_1_1]; assumption)]
                                        congr 1
                                        refine sum_ext z20.toNat (fun r p q => ?_)
                                        have c := thn_rng (st := v_p0_st) h1 h2 h5 v p (show r < i_p0_stirs by omega)
                                        unfold vst at c
                                        rw [z_up_n _ _ (by omega)]) /- B_X12_findHistories_65.inv11#2 -/, (by intro s a b; rw [z_up_n _ _ (by omega)]; exact i_B_X12_findHistories_65_12 s a b) /- B_X12_findHistories_65.inv12#2 -/⟩ (by omega) /- B_X12_findHistories_65.dec#2 -/
  ·
    refine wp_ck (z_ix_i.mpr ⟨⟨(by omega) /- ix.lo (((49 : Int) * z1) + z41)#1 -/, (by omega) /- ix.hi (((49 : Int) * z1) + z41)#1 -/⟩, (by omega) /- ix.big (((49 : Int) * z1) + z41)#1 -/⟩) ?_
    refine wp_bnd ?_
    refine wp_bndE (fun z46 hz46 => ?_)
    exact ih_B_X12_findHistories_10 _ _ ⟨(by omega) /- B_X12_findHistories_10.inv1#1 -/, (by omega) /- B_X12_findHistories_10.inv2#1 -/, (by intro s a b; rw [z_up_a]; split; rfl; exact i_B_X12_findHistories_10_3 s a (by omega)) /- B_X12_findHistories_10.inv3#1 -/⟩ (by omega) /- B_X12_findHistories_10.dec#1 -/

set_option maxHeartbeats 1000000 in
theorem s_X12_canGo (i_p0_seats : Int) (v_p0_st : (Int → Int)) (v_p0_brings : (Int → Int)) (v_p0_places : (Int → Int)) (v_p0_goesOn : (Int → Int)) (x1 : Int) (x2 : Int) (x3 : Int) (i_p0_stirs : Int) (h1 : 2 ≤ i_p0_seats) (h2 : i_p0_seats ≤ 7) (h3 : 0 ≤ i_p0_stirs) (h4 : i_p0_stirs ≤ 5) (h5 : rowsM i_p0_seats i_p0_stirs v_p0_brings) (h6 : 0 ≤ x1) (h7 : x1 < 6) (h8 : vst i_p0_seats x2) (h9 : 0 ≤ x3) (h10 : x3 < i_p0_stirs) (h11 : 0 ≤ v_p0_st (32 + x1)) (h12 : v_p0_st (32 + x1) < 7) (h13 : ∀ s, 0 ≤ s → s < 49 → 0 ≤ v_p0_goesOn (49 * x1 + 49 + s) ∧ v_p0_goesOn (49 * x1 + 49 + s) ≤ 15625) : wp (f_X12_canGo i_p0_seats v_p0_st v_p0_brings v_p0_places v_p0_goesOn x1 x2 x3) (fun o => ((o.1 = 1 ∧ (thn i_p0_seats v_p0_st v_p0_brings x2 x3 % 7 = v_p0_st (32 + x1) ∧ 0 < v_p0_goesOn (49 * x1 + 49 + thn i_p0_seats v_p0_st v_p0_brings x2 x3))) ∨ (o.1 = 0 ∧ ¬ (thn i_p0_seats v_p0_st v_p0_brings x2 x3 % 7 = v_p0_st (32 + x1) ∧ 0 < v_p0_goesOn (49 * x1 + 49 + thn i_p0_seats v_p0_st v_p0_brings x2 x3))))) := by
  unfold f_X12_canGo
  refine wp_bd2 (s_X12_then _ _ _ _ _ _ i_p0_stirs (by omega) /- pre X12_then.1#1 -/ (by omega) /- pre X12_then.2#1 -/ (by omega) /- pre X12_then.3#1 -/ (by omega) /- pre X12_then.4#1 -/ (by exact h5) /- pre X12_then.5#1 -/ (by exact h8) /- pre X12_then.6#1 -/ (by omega) /- pre X12_then.7#1 -/ (by omega) /- pre X12_then.8#1 -/) (fun z1 w2 q_X12_then_1 => ?_)
  try dsimp only at q_X12_then_1
  obtain ⟨q_X12_then_1_1, q_X12_then_1_2⟩ := q_X12_then_1
  have hvt := q_X12_then_1_2
  unfold vst at hvt
  have hg := h13 z1 (by omega) (by omega)
  refine wp_bnd ?_
  refine wp_ck (z_dv_i.mpr ⟨⟨⟨(by omega) /- dv.0 z3#1 -/, (by omega) /- dv.1 z3#1 -/⟩, (by omega) /- dv.2 z3#1 -/⟩, (by omega) /- dv.3 z3#1 -/⟩) ?_
  refine wp_ck (z_ix_i.mpr ⟨⟨(by omega) /- ix.lo ((32 : Int) + x1)#1 -/, (by omega) /- ix.hi ((32 : Int) + x1)#1 -/⟩, (by omega) /- ix.big ((32 : Int) + x1)#1 -/⟩) ?_
  refine wp_ck (z_r32_i.mpr ⟨(by omega) /- z_r32.lo (z3 % (7 : Int))#1 -/, (by omega) /- z_r32.hi (z3 % (7 : Int))#1 -/⟩) ?_
  refine wp_ck (z_r32_i.mpr ⟨(by omega) /- z_r32.lo (v_p0_st ((32 : Int) + x1))#1 -/, (by omega) /- z_r32.hi (v_p0_st ((32 : Int) + x1))#1 -/⟩) ?_
  refine wp_if (fun c1 => ?_) (fun c1 => ?_)
  ·
    refine wp_ck (z_ix_i.mpr ⟨⟨(by omega) /- ix.lo ((((49 : Int) * x1) + (49 : Int)) + z3)#1 -/, (by omega) /- ix.hi ((((49 : Int) * x1) + (49 : Int)) + z3)#1 -/⟩, (by omega) /- ix.big ((((49 : Int) * x1) + (49 : Int)) + z3)#1 -/⟩) ?_
    refine wp_ck (z_r32_i.mpr ⟨(by omega) /- z_r32.lo (v_p0_goesOn ((((49 : Int) * x1) + (49 : Int)) + z3))#1 -/, (by omega) /- z_r32.hi (v_p0_goesOn ((((49 : Int) * x1) + (49 : Int)) + z3))#1 -/⟩) ?_
    refine wp_if (fun c2 => ?_) (fun c2 => ?_)
    ·
      refine wp_some ?_
      try dsimp only
      all_goals exact (by rw [← q_X12_then_1_1]; omega) /- post1#1 -/
    ·
      refine wp_some ?_
      try dsimp only
      all_goals exact (by rw [← q_X12_then_1_1]; omega) /- post1#2 -/
  ·
    refine wp_some ?_
    try dsimp only
    all_goals exact (by rw [← q_X12_then_1_1]; omega) /- post1#3 -/

set_option maxHeartbeats 4000000 in
theorem s_X12_histories (i_p0_seats : Int) (i_p0_stirs : Int) (v_p0_st : (Int → Int)) (v_p0_brings : (Int → Int)) (v_p0_places : (Int → Int)) (v_p0_goesOn : (Int → Int)) (x1 : Int) (h1 : -2147483648 ≤ x1) (h2 : x1 < 2147483648) (h3 : 2 ≤ i_p0_seats) (h4 : i_p0_seats ≤ 7) (h5 : 0 ≤ i_p0_stirs) (h6 : i_p0_stirs ≤ 5) (h7 : rowsM i_p0_seats i_p0_stirs v_p0_brings) (h8 : okM i_p0_seats v_p0_st) : wp (f_X12_histories i_p0_seats i_p0_stirs v_p0_st v_p0_brings v_p0_places v_p0_goesOn x1) (fun o => (Hid (¬ (x1 = 0 ∨ (10 ≤ x1 ∧ x1 < 16)) → o.1 = -1)) ∧ (Hid (x1 = 0 → o.1 = prq i_p0_seats i_p0_stirs (v_p0_st 8) (v_p0_st 7) (mfr v_p0_st) (mseen v_p0_st) (mA v_p0_brings) (v_p0_st 31).toNat)) ∧ (Hid ((10 ≤ x1 ∧ x1 < 16) → (prq i_p0_seats i_p0_stirs (v_p0_st 8) (v_p0_st 7) (mfr v_p0_st) (mseen v_p0_st) (mA v_p0_brings) (v_p0_st 31).toNat = 0 ∨ ¬ x1 - 10 < v_p0_st 31) → o.1 = -4)) ∧ (Hid ((10 ≤ x1 ∧ x1 < 16) → ¬ prq i_p0_seats i_p0_stirs (v_p0_st 8) (v_p0_st 7) (mfr v_p0_st) (mseen v_p0_st) (mA v_p0_brings) (v_p0_st 31).toNat = 0 → x1 - 10 < v_p0_st 31 → fstq i_p0_stirs (fun t => mA v_p0_brings t (hb i_p0_seats (v_p0_st 8) (v_p0_st 7) (mfr v_p0_st) (mseen v_p0_st) (x1 - 10)) = hb i_p0_seats (v_p0_st 8) (v_p0_st 7) (mfr v_p0_st) (mseen v_p0_st) (x1 - 10 + 1)) o.1))) := by
  unfold f_X12_histories
  have ho1 := okM_1 h8
  refine wp_ck (z_r32_i.mpr ⟨(by omega) /- z_r32.lo x1#1 -/, (by omega) /- z_r32.hi x1#1 -/⟩) ?_
  refine wp_jnP0 (x1 = 0 ∨ (10 ≤ x1 ∧ x1 ≤ 15)) (fun pJ2 => ?_) (fun J2 hJ2 => ?_)
  ·
    have hJ : x1 = 0 ∨ (10 ≤ x1 ∧ x1 < 16) := by omega
    refine wp_bd2 (s_X12_findHistories _ _ _ _ _ _ (by omega) /- pre X12_findHistories.1#1 -/ (by omega) /- pre X12_findHistories.2#1 -/ (by omega) /- pre X12_findHistories.3#1 -/ (by omega) /- pre X12_findHistories.4#1 -/ (by exact h7) /- pre X12_findHistories.5#1 -/ (by exact h8) /- pre X12_findHistories.6#1 -/) (fun w3 w4 q_X12_findHistories_1 => ?_)
    try dsimp only at q_X12_findHistories_1
    obtain ⟨q_X12_findHistories_1_1, q_X12_findHistories_1_2, q_X12_findHistories_1_3, q_X12_findHistories_1_4⟩ := q_X12_findHistories_1
    refine wp_bd1 (s_X12_stateNow _ i_p0_seats (by omega) /- pre X12_stateNow.1#1 -/ (by omega) /- pre X12_stateNow.2#1 -/ (by exact h8) /- pre X12_stateNow.3#1 -/) (fun z5 q_X12_stateNow_1 => ?_)
    try dsimp only at q_X12_stateNow_1
    obtain ⟨q_X12_stateNow_1_1, q_X12_stateNow_1_2⟩ := q_X12_stateNow_1
    have hvn := q_X12_stateNow_1_2
    unfold vst at hvn
    have hz0 := q_X12_findHistories_1_1 0 z5 (by omega) (by omega) (by omega) (by omega)
    have htot := hist_tot h3 h4 h5 h6 h7 h8 q_X12_findHistories_1_4 q_X12_findHistories_1_3
    rw [← q_X12_stateNow_1_1] at htot
    have hp6 := pow5_6 (z := v_p0_st 31 - 0) (by omega) (by omega)
    rw [show (49 : Int) * 0 + z5 = z5 from by omega] at hz0
    refine wp_bnd ?_
    refine wp_if (fun c1 => ?_) (fun c1 => ?_)
    ·
      refine wp_ck (z_ix_i.mpr ⟨⟨(by omega) /- ix.lo z6#1 -/, (by omega) /- ix.hi z6#1 -/⟩, (by omega) /- ix.big z6#1 -/⟩) ?_
      refine wp_some ?_
      try dsimp only
      all_goals exact ⟨(by unfold Hid; intro h; exfalso; exact h hJ) /- post1#1 -/, (by unfold Hid; intro _; exact htot) /- post2#1 -/, (by unfold Hid; intro h; exfalso; omega) /- post3#1 -/, (by unfold Hid; intro h; exfalso; omega) /- post4#1 -/⟩
    ·
      refine wp_ck (z_ix_i.mpr ⟨⟨(by omega) /- ix.lo z6#2 -/, (by omega) /- ix.hi z6#2 -/⟩, (by omega) /- ix.big z6#2 -/⟩) ?_
      refine wp_ck (z_r32_i.mpr ⟨(by omega) /- z_r32.lo (w4 z6)#1 -/, (by omega) /- z_r32.hi (w4 z6)#1 -/⟩) ?_
      refine wp_if (fun c2 => ?_) (fun c2 => ?_)
      ·
        refine wp_some ?_
        try dsimp only
        all_goals exact ⟨(by unfold Hid; intro h; exfalso; exact h hJ) /- post1#2 -/, (by unfold Hid; intro h; exfalso; omega) /- post2#2 -/, (by unfold Hid; intro _ _; rfl) /- post3#2 -/, (by unfold Hid; intro _ h; exfalso; exact h (by rw [← htot]; assumption)) /- post4#2 -/⟩
      ·
        refine wp_ck (z_ix_i.mpr ⟨⟨(by omega) /- ix.lo (31 : Int)#1 -/, (by omega) /- ix.hi (31 : Int)#1 -/⟩, (by omega) /- ix.big (31 : Int)#1 -/⟩) ?_
        refine wp_ck (z_r32_i.mpr ⟨(by omega) /- z_r32.lo (x1 - (10 : Int))#1 -/, (by omega) /- z_r32.hi (x1 - (10 : Int))#1 -/⟩) ?_
        refine wp_ck (z_r32_i.mpr ⟨(by omega) /- z_r32.lo (v_p0_st (31 : Int))#1 -/, (by omega) /- z_r32.hi (v_p0_st (31 : Int))#1 -/⟩) ?_
        refine wp_if (fun c3 => ?_) (fun c3 => ?_)
        ·
          refine wp_bnd ?_
          refine wp_bnd ?_
          refine wp_lq4 (fun (z12 : Int) (z13 : Int) (z14 : Int) (w15 : (Int → Int)) => (0 ≤ z12) ∧ (z12 ≤ x1 - 9) ∧ (vst i_p0_seats z14) ∧ (0 < w4 (49 * z12 + z14)) ∧ (-4 ≤ z13 ∧ z13 < 5) ∧ (Hid (z14 = mS i_p0_seats v_p0_st z12)) ∧ (Hid (0 < z12 → fstq i_p0_stirs (fun t => mA v_p0_brings t (hb i_p0_seats (v_p0_st 8) (v_p0_st 7) (mfr v_p0_st) (mseen v_p0_st) (z12 - 1)) = hb i_p0_seats (v_p0_st 8) (v_p0_st 7) (mfr v_p0_st) (mseen v_p0_st) (z12 - 1 + 1)) z13))) (fun (z12 : Int) (z13 : Int) (z14 : Int) (w15 : (Int → Int)) => (x1 - 9 - z12).toNat) (fun again72 z12 z13 z14 w15 hI ih_B_X12_histories_72 => ?_) 1000 _ _ _ _ ⟨(by omega) /- B_X12_histories_72.init1#1 -/, (by omega) /- B_X12_histories_72.init2#1 -/, (by exact q_X12_stateNow_1_2) /- B_X12_histories_72.init3#1 -/, (by rw [show (49 : Int) * 0 + z5 = z5 from by omega]; omega) /- B_X12_histories_72.init4#1 -/, (by omega) /- B_X12_histories_72.init5#1 -/, (by unfold Hid; rw [q_X12_stateNow_1_1]; rfl) /- B_X12_histories_72.init6#1 -/, (by unfold Hid; intro h; exfalso; omega) /- B_X12_histories_72.init7#1 -/⟩ (by omega) /- B_X12_histories_72.fuel#1 -/
          obtain ⟨i_B_X12_histories_72_1, i_B_X12_histories_72_2, i_B_X12_histories_72_3, i_B_X12_histories_72_4, i_B_X12_histories_72_5, i_B_X12_histories_72_6, i_B_X12_histories_72_7⟩ := hI
          unfold B_X12_histories_72
          refine wp_ck (z_r32_i.mpr ⟨(by omega) /- z_r32.lo z12#1 -/, (by omega) /- z_r32.hi z12#1 -/⟩) ?_
          refine wp_if (fun c4 => ?_) (fun c4 => ?_)
          ·
            refine wp_some ?_
            try dsimp only
            all_goals exact ⟨(by unfold Hid; intro h; exfalso; exact h hJ) /- post1#3 -/, (by unfold Hid; intro h; exfalso; omega) /- post2#3 -/, (by unfold Hid; intro _ h; exfalso; rcases h with h | h; (rw [← htot] at h; omega); exact h (by assumption)) /- post3#3 -/, (by unfold Hid; intro _ _ _; have w := hid i_B_X12_histories_72_7 (by omega); rw [show z12 - 1 = x1 - 10 from by omega] at w; exact w) /- post4#3 -/⟩
          ·
            refine wp_bnd ?_
            refine wp_bndE (fun z19 hz19 => ?_)
            refine wp_jn ?_
            have hex := q_X12_findHistories_1_2 z12 z14 (by omega) (by omega) i_B_X12_histories_72_3 i_B_X12_histories_72_4
            have hw := okM_w h8 z12 (by omega) (by omega)
            have hgb : ∀ s, 0 ≤ s → s < 49 → 0 ≤ w4 (49 * z12 + 49 + s) ∧ w4 (49 * z12 + 49 + s) ≤ 15625 := by
              intro s a b
              have e := q_X12_findHistories_1_1 (z12 + 1) s (by omega) (by omega) a b
              have p := pow5_6 (z := v_p0_st 31 - (z12 + 1)) (by omega) (by omega)
              rw [show 49 * (z12 + 1) + s = 49 * z12 + 49 + s from by omega] at e
              omega
            refine wp_lq3 (fun (z27 : Int) (z28 : Int) (w29 : (Int → Int)) => (-1 ≤ z27) ∧ (z27 < i_p0_stirs) ∧ ((z28 = -4 ∧ ∀ r, z27 < r → r < i_p0_stirs → ¬ (thn i_p0_seats v_p0_st v_p0_brings z14 r % 7 = v_p0_st (32 + z12) ∧ 0 < w4 (49 * z12 + 49 + thn i_p0_seats v_p0_st v_p0_brings z14 r))) ∨ ((0 ≤ z28 ∧ z28 < i_p0_stirs) ∧ (thn i_p0_seats v_p0_st v_p0_brings z14 z28 % 7 = v_p0_st (32 + z12) ∧ 0 < w4 (49 * z12 + 49 + thn i_p0_seats v_p0_st v_p0_brings z14 z28)))) ∧ (Hid (z28 = -4 ∨ (z27 < z28 ∧ ∀ t, z27 < t → t < z28 → ¬ (thn i_p0_seats v_p0_st v_p0_brings z14 t % 7 = v_p0_st (32 + z12) ∧ 0 < w4 (49 * z12 + 49 + thn i_p0_seats v_p0_st v_p0_brings z14 t)))))) (fun (z27 : Int) (z28 : Int) (w29 : (Int → Int)) => (z27 + 1).toNat) (fun again92 z27 z28 w29 hI ih_B_X12_histories_92 => ?_) 1000 _ _ _ ⟨(by omega) /- B_X12_histories_92.init1#1 -/, (by omega) /- B_X12_histories_92.init2#1 -/, (by left; exact ⟨rfl, by intro r; omega⟩) /- B_X12_histories_92.init3#1 -/, (by unfold Hid; exact Or.inl rfl) /- B_X12_histories_92.init4#1 -/⟩ (by omega) /- B_X12_histories_92.fuel#1 -/
            obtain ⟨i_B_X12_histories_92_1, i_B_X12_histories_92_2, i_B_X12_histories_92_3, i_B_X12_histories_92_4⟩ := hI
            unfold B_X12_histories_92
            refine wp_ck (z_r32_i.mpr ⟨(by omega) /- z_r32.lo z27#1 -/, (by omega) /- z_r32.hi z27#1 -/⟩) ?_
            refine wp_if (fun c5 => ?_) (fun c5 => ?_)
            ·
              have hgd : (0 ≤ z28 ∧ z28 < i_p0_stirs) ∧ (thn i_p0_seats v_p0_st v_p0_brings z14 z28 % 7 = v_p0_st (32 + z12) ∧ 0 < w4 (49 * z12 + 49 + thn i_p0_seats v_p0_st v_p0_brings z14 z28)) := by
                rcases i_B_X12_histories_92_3 with h | h
                · obtain ⟨r, a, b⟩ := hex; exact absurd b (h.2 r (by omega) a.2)
                · exact h
              refine wp_bd2 (s_X12_then _ _ _ _ _ _ i_p0_stirs (by omega) /- pre X12_then.1#1 -/ (by omega) /- pre X12_then.2#1 -/ (by omega) /- pre X12_then.3#1 -/ (by omega) /- pre X12_then.4#1 -/ (by exact h7) /- pre X12_then.5#1 -/ (by exact i_B_X12_histories_72_3) /- pre X12_then.6#1 -/ (by omega) /- pre X12_then.7#1 -/ (by omega) /- pre X12_then.8#1 -/) (fun z23 w24 q_X12_then_1 => ?_)
              try dsimp only at q_X12_then_1
              obtain ⟨q_X12_then_1_1, q_X12_then_1_2⟩ := q_X12_then_1
              refine wp_bnd ?_
              refine wp_bndE (fun z26 hz26 => ?_)
              exact ih_B_X12_histories_72 _ _ _ _ ⟨(by omega) /- B_X12_histories_72.inv1#1 -/, (by omega) /- B_X12_histories_72.inv2#1 -/, (by exact q_X12_then_1_2) /- B_X12_histories_72.inv3#1 -/, (by subst hz26; have e := hgd.2.2; rw [← q_X12_then_1_1] at e; rw [show 49 * (z12 + 1) + z23 = 49 * z12 + 49 + z23 from by omega]; exact e) /- B_X12_histories_72.inv4#1 -/, (by omega) /- B_X12_histories_72.inv5#1 -/, (by unfold Hid; subst hz26; have e := hid i_B_X12_histories_72_6; have g := mS_go h3 h4 h7 h8 (d := z12) (r := z28) (by omega) (by omega) hgd.1.1 hgd.1.2; rw [← e] at g; rw [q_X12_then_1_1]; exact g.2 hgd.2.1) /- B_X12_histories_72.inv6#1 -/, (by 
                                        unfold Hid
                                        intro _
                                        subst hz26
                                        rw [show z12 + 1 - 1 = z12 from by omega]
                                        have e := hid i_B_X12_histories_72_6
                                        have g := fun (r : Int) (r0 : 0 ≤ r) (r1 : r < i_p0_stirs) => mS_go h3 h4 h7 h8 (d := z12) (r := r) (by omega) (by omega) r0 r1
                                        rw [← e] at g
                                        refine Or.inr ⟨hgd.1, (g z28 hgd.1.1 hgd.1.2).1.mp hgd.2.1, fun t a b c => ?_⟩
                                        rcases hid i_B_X12_histories_92_4 with h | h
                                        · omega
                                        · have gt := g t a (by omega)
                                          have gz := g z28 hgd.1.1 hgd.1.2
                                          have c2 := gt.1.mpr c
                                          refine h.2 t (by omega) b ⟨c2, ?_⟩
                                          rw [gt.2 c2, ← gz.2 hgd.2.1]
                                          exact hgd.2.2) /- B_X12_histories_72.inv7#1 -/⟩ (by omega) /- B_X12_histories_72.dec#1 -/
            ·
              refine wp_bd2 (s_X12_canGo _ _ _ _ _ _ _ _ i_p0_stirs (by omega) /- pre X12_canGo.1#1 -/ (by omega) /- pre X12_canGo.2#1 -/ (by omega) /- pre X12_canGo.3#1 -/ (by omega) /- pre X12_canGo.4#1 -/ (by exact h7) /- pre X12_canGo.5#1 -/ (by omega) /- pre X12_canGo.6#1 -/ (by omega) /- pre X12_canGo.7#1 -/ (by exact i_B_X12_histories_72_3) /- pre X12_canGo.8#1 -/ (by omega) /- pre X12_canGo.9#1 -/ (by omega) /- pre X12_canGo.10#1 -/ (by omega) /- pre X12_canGo.11#1 -/ (by omega) /- pre X12_canGo.12#1 -/ (by exact hgb) /- pre X12_canGo.13#1 -/) (fun z32 w33 q_X12_canGo_1 => ?_)
              try dsimp only at q_X12_canGo_1
              refine wp_ck (z_r32_i.mpr ⟨(by omega) /- z_r32.lo z32#1 -/, (by omega) /- z_r32.hi z32#1 -/⟩) ?_
              refine wp_if (fun c6 => ?_) (fun c6 => ?_)
              ·
                refine wp_bnd ?_
                refine wp_bndE (fun z36 hz36 => ?_)
                exact ih_B_X12_histories_92 _ _ _ ⟨(by omega) /- B_X12_histories_92.inv1#1 -/, (by omega) /- B_X12_histories_92.inv2#1 -/, (by rcases q_X12_canGo_1 with hq | hq; (first | (exfalso; omega) | (right; exact ⟨⟨by omega, by omega⟩, hq.2⟩)); (first | (exfalso; omega) | (rcases i_B_X12_histories_92_3 with h | h; (left; refine ⟨h.1, fun r a b c => ?_⟩; by_cases e : r = z27; (rw [e] at c; exact hq.2 c); exact h.2 r (by omega) b c); (right; exact h)))) /- B_X12_histories_92.inv3#1 -/, (by unfold Hid; rcases hid i_B_X12_histories_92_4 with h | h; exact Or.inl h; (rcases q_X12_canGo_1 with hq | hq; (exfalso; omega); exact Or.inr ⟨by omega, fun t a b c => by by_cases e : t = z27; (rw [e] at c; exact hq.2 c); exact h.2 t (by omega) b c⟩)) /- B_X12_histories_92.inv4#1 -/⟩ (by omega) /- B_X12_histories_92.dec#1 -/
              ·
                refine wp_bnd ?_
                refine wp_bndE (fun z38 hz38 => ?_)
                exact ih_B_X12_histories_92 _ _ _ ⟨(by omega) /- B_X12_histories_92.inv1#2 -/, (by omega) /- B_X12_histories_92.inv2#2 -/, (by rcases q_X12_canGo_1 with hq | hq; (first | (exfalso; omega) | (right; exact ⟨⟨by omega, by omega⟩, hq.2⟩)); (first | (exfalso; omega) | (rcases i_B_X12_histories_92_3 with h | h; (left; refine ⟨h.1, fun r a b c => ?_⟩; by_cases e : r = z27; (rw [e] at c; exact hq.2 c); exact h.2 r (by omega) b c); (right; exact h)))) /- B_X12_histories_92.inv3#2 -/, (by unfold Hid; exact Or.inr ⟨by omega, fun t a b => by omega⟩) /- B_X12_histories_92.inv4#2 -/⟩ (by omega) /- B_X12_histories_92.dec#2 -/
        ·
          refine wp_some ?_
          try dsimp only
          all_goals exact ⟨(by unfold Hid; intro h; exfalso; exact h hJ) /- post1#4 -/, (by unfold Hid; intro h; exfalso; omega) /- post2#4 -/, (by unfold Hid; intro _ _; rfl) /- post3#4 -/, (by unfold Hid; intro _ _ h; exfalso; omega) /- post4#4 -/⟩
  refine wp_if (fun c7 => ?_) (fun c7 => ?_)
  ·
    exact hJ2  (by omega) /- to J2#1 -/
  ·
    refine wp_bd1 (s_X12_in _ _ _ (by omega) /- pre X12_in.1#1 -/ (by omega) /- pre X12_in.2#1 -/ (by omega) /- pre X12_in.3#1 -/ (by omega) /- pre X12_in.4#1 -/ (by omega) /- pre X12_in.5#1 -/ (by omega) /- pre X12_in.6#1 -/) (fun z39 q_X12_in_1 => ?_)
    try dsimp only at q_X12_in_1
    refine wp_ck (z_r32_i.mpr ⟨(by omega) /- z_r32.lo z39#1 -/, (by omega) /- z_r32.hi z39#1 -/⟩) ?_
    refine wp_if (fun c8 => ?_) (fun c8 => ?_)
    ·
      refine wp_some ?_
      try dsimp only
      all_goals exact ⟨(by unfold Hid; intro _; rfl) /- post1#5 -/, (by unfold Hid; intro h; exfalso; omega) /- post2#5 -/, (by unfold Hid; intro h; exfalso; split at q_X12_in_1 <;> omega) /- post3#5 -/, (by unfold Hid; intro h; exfalso; split at q_X12_in_1 <;> omega) /- post4#5 -/⟩
    ·
      exact hJ2  (by omega) /- to J2#2 -/

set_option maxHeartbeats 4000000 in
theorem s_X12_could (i_p0_seats : Int) (i_p0_stirs : Int) (v_p0_st : (Int → Int)) (v_p0_brings : (Int → Int)) (v_p0_places : (Int → Int)) (v_p0_goesOn : (Int → Int)) (v_p0_isThere : (Int → Int)) (v_p0_isThereThen : (Int → Int)) (x1 : Int) (h1 : -2147483648 ≤ x1) (h2 : x1 < 2147483648) (h3 : 2 ≤ i_p0_seats) (h4 : i_p0_seats ≤ 7) (h5 : 0 ≤ i_p0_stirs) (h6 : i_p0_stirs ≤ 5) (h7 : rowsM i_p0_seats i_p0_stirs v_p0_brings) (h8 : okM i_p0_seats v_p0_st) : wp (f_X12_could i_p0_seats i_p0_stirs v_p0_st v_p0_brings v_p0_places v_p0_goesOn v_p0_isThere v_p0_isThereThen x1) (fun o => (Hid (¬ (0 ≤ x1 ∧ x1 < v_p0_st 31) → o.1 = -1)) ∧ (Hid ((0 ≤ x1 ∧ x1 < v_p0_st 31) → o.1 = if 0 < prq i_p0_seats i_p0_stirs (v_p0_st 8) (v_p0_st 7) (mfr v_p0_st) (mseen v_p0_st) (mA v_p0_brings) (v_p0_st 31).toNat then fitq i_p0_seats i_p0_stirs (v_p0_st 8) (v_p0_st 7) (mfr v_p0_st) (mseen v_p0_st) (mA v_p0_brings) x1 else 0))) := by
  unfold f_X12_could
  have ho1 := okM_1 h8
  refine wp_ck (z_r32_i.mpr ⟨(by omega) /- z_r32.lo x1#1 -/, (by omega) /- z_r32.hi x1#1 -/⟩) ?_
  refine wp_ck (z_ix_i.mpr ⟨⟨(by omega) /- ix.lo (31 : Int)#1 -/, (by omega) /- ix.hi (31 : Int)#1 -/⟩, (by omega) /- ix.big (31 : Int)#1 -/⟩) ?_
  refine wp_ck (z_r32_i.mpr ⟨(by omega) /- z_r32.lo ((v_p0_st (31 : Int)) - (1 : Int))#1 -/, (by omega) /- z_r32.hi ((v_p0_st (31 : Int)) - (1 : Int))#1 -/⟩) ?_
  refine wp_bd1 (s_X12_in _ _ _ (by omega) /- pre X12_in.1#1 -/ (by omega) /- pre X12_in.2#1 -/ (by omega) /- pre X12_in.3#1 -/ (by omega) /- pre X12_in.4#1 -/ (by omega) /- pre X12_in.5#1 -/ (by omega) /- pre X12_in.6#1 -/) (fun z3 q_X12_in_1 => ?_)
  try dsimp only at q_X12_in_1
  refine wp_ck (z_r32_i.mpr ⟨(by omega) /- z_r32.lo z3#1 -/, (by omega) /- z_r32.hi z3#1 -/⟩) ?_
  refine wp_if (fun c1 => ?_) (fun c1 => ?_)
  ·
    have hk : ¬ (0 ≤ x1 ∧ x1 < v_p0_st 31) := by split at q_X12_in_1 <;> omega
    clear q_X12_in_1
    refine wp_some ?_
    try dsimp only
    all_goals exact ⟨(by unfold Hid; intro _; rfl) /- post1#1 -/, (by unfold Hid; intro h; exact absurd h hk) /- post2#1 -/⟩
  ·
    have hk : 0 ≤ x1 ∧ x1 < v_p0_st 31 := by split at q_X12_in_1 <;> omega
    clear q_X12_in_1
    refine wp_bd2 (s_X12_findHistories _ _ _ _ _ _ (by omega) /- pre X12_findHistories.1#1 -/ (by omega) /- pre X12_findHistories.2#1 -/ (by omega) /- pre X12_findHistories.3#1 -/ (by omega) /- pre X12_findHistories.4#1 -/ (by exact h7) /- pre X12_findHistories.5#1 -/ (by exact h8) /- pre X12_findHistories.6#1 -/) (fun w5 w6 q_X12_findHistories_1 => ?_)
    try dsimp only at q_X12_findHistories_1
    obtain ⟨q_X12_findHistories_1_1, q_X12_findHistories_1_2, q_X12_findHistories_1_3, q_X12_findHistories_1_4⟩ := q_X12_findHistories_1
    have hgo := fun (d : Int) (d0 : 0 ≤ d) (d1 : d < v_p0_st 31) => hist_go h3 h4 h5 h6 h7 h8 q_X12_findHistories_1_4 q_X12_findHistories_1_3 d0 d1
    refine wp_bnd ?_
    refine wp_bnd ?_
    refine wp_jn ?_
    refine wp_lq2 (fun (z68 : Int) (w69 : (Int → Int)) => (0 ≤ z68) ∧ (z68 ≤ 49) ∧ (∀ j, 0 ≤ j → j < z68 → (w69 j = 0 ∨ w69 j = 1) ∧ (¬ w69 j = 0 → vst i_p0_seats j)) ∧ (Hid (∀ j, 0 ≤ j → j < z68 → (¬ w69 j = 0 ↔ j = 7 * v_p0_st 7 + v_p0_st 8)))) (fun (z68 : Int) (w69 : (Int → Int)) => (49 - z68).toNat) (fun again29 z68 w69 hI ih_B_X12_could_29 => ?_) 1000 _ _ ⟨(by omega) /- B_X12_could_29.init1#1 -/, (by omega) /- B_X12_could_29.init2#1 -/, (by intro j; omega) /- B_X12_could_29.init3#1 -/, (by unfold Hid; intro j; omega) /- B_X12_could_29.init4#1 -/⟩ (by omega) /- B_X12_could_29.fuel#1 -/
    obtain ⟨i_B_X12_could_29_1, i_B_X12_could_29_2, i_B_X12_could_29_3, i_B_X12_could_29_4⟩ := hI
    unfold B_X12_could_29
    refine wp_ck (z_r32_i.mpr ⟨(by omega) /- z_r32.lo z68#1 -/, (by omega) /- z_r32.hi z68#1 -/⟩) ?_
    refine wp_if (fun c2 => ?_) (fun c2 => ?_)
    ·
      refine wp_bnd ?_
      refine wp_lq5 (fun (z12 : Int) (z13 : Int) (w14 : (Int → Int)) (w15 : (Int → Int)) (w16 : (Int → Int)) => (0 ≤ z12) ∧ (z12 ≤ x1 + 1) ∧ (∀ j, 0 ≤ j → j < 49 → (w15 j = 0 ∨ w15 j = 1) ∧ (¬ w15 j = 0 → vst i_p0_seats j)) ∧ (Hid (∀ j, 0 ≤ j → j < 49 → (¬ w15 j = 0 ↔ (j = mS i_p0_seats v_p0_st z12 ∧ (z12 = 0 ∨ 0 < prq i_p0_seats i_p0_stirs (v_p0_st 8) (v_p0_st 7) (mfr v_p0_st) (mseen v_p0_st) (mA v_p0_brings) (v_p0_st 31).toNat))))) ∧ (Hid (0 < z12 → z13 = if 0 < prq i_p0_seats i_p0_stirs (v_p0_st 8) (v_p0_st 7) (mfr v_p0_st) (mseen v_p0_st) (mA v_p0_brings) (v_p0_st 31).toNat then fitq i_p0_seats i_p0_stirs (v_p0_st 8) (v_p0_st 7) (mfr v_p0_st) (mseen v_p0_st) (mA v_p0_brings) (z12 - 1) else 0))) (fun (z12 : Int) (z13 : Int) (w14 : (Int → Int)) (w15 : (Int → Int)) (w16 : (Int → Int)) => (x1 + 1 - z12).toNat) (fun again62 z12 z13 w14 w15 w16 hI ih_B_X12_could_62 => ?_) 1000 _ _ _ _ _ ⟨(by omega) /- B_X12_could_62.init1#1 -/, (by omega) /- B_X12_could_62.init2#1 -/, (by intro j a b; exact i_B_X12_could_29_3 j a (by omega)) /- B_X12_could_62.init3#1 -/, (by unfold Hid; intro j a b; rw [hid i_B_X12_could_29_4 j a (by omega)]; exact ⟨fun h => ⟨h, Or.inl rfl⟩, fun h => h.1⟩) /- B_X12_could_62.init4#1 -/, (by unfold Hid; intro h; exfalso; omega) /- B_X12_could_62.init5#1 -/⟩ (by omega) /- B_X12_could_62.fuel#1 -/
      obtain ⟨i_B_X12_could_62_1, i_B_X12_could_62_2, i_B_X12_could_62_3, i_B_X12_could_62_4, i_B_X12_could_62_5⟩ := hI
      unfold B_X12_could_62
      refine wp_ck (z_r32_i.mpr ⟨(by omega) /- z_r32.lo z12#1 -/, (by omega) /- z_r32.hi z12#1 -/⟩) ?_
      refine wp_if (fun c3 => ?_) (fun c3 => ?_)
      ·
        refine wp_some ?_
        try dsimp only
        all_goals exact ⟨(by unfold Hid; intro h; exact absurd hk h) /- post1#2 -/, (by unfold Hid; intro _; have w := hid i_B_X12_could_62_5 (by omega); rw [show z12 - 1 = x1 from by omega] at w; exact w) /- post2#2 -/⟩
      ·
        refine wp_bnd ?_
        refine wp_bnd ?_
        refine wp_jn ?_
        have hw := okM_w h8 z12 (by omega) (by omega)
        have hgb : ∀ s, 0 ≤ s → s < 49 → 0 ≤ w6 (49 * z12 + 49 + s) ∧ w6 (49 * z12 + 49 + s) ≤ 15625 := by
          intro s a b
          have e := q_X12_findHistories_1_1 (z12 + 1) s (by omega) (by omega) a b
          have p := pow5_6 (z := v_p0_st 31 - (z12 + 1)) (by omega) (by omega)
          rw [show 49 * (z12 + 1) + s = 49 * z12 + 49 + s from by omega] at e
          omega
        refine wp_lq2 (fun (z62 : Int) (w63 : (Int → Int)) => (0 ≤ z62) ∧ (z62 ≤ 49) ∧ (∀ j, 0 ≤ j → j < z62 → (w63 j = 0 ∨ w63 j = 1) ∧ (¬ w63 j = 0 → vst i_p0_seats j)) ∧ (Hid (∀ j, 0 ≤ j → j < z62 → w63 j = 0))) (fun (z62 : Int) (w63 : (Int → Int)) => (49 - z62).toNat) (fun again72 z62 w63 hI ih_B_X12_could_72 => ?_) 1000 _ _ ⟨(by omega) /- B_X12_could_72.init1#1 -/, (by omega) /- B_X12_could_72.init2#1 -/, (by intro j; omega) /- B_X12_could_72.init3#1 -/, (by unfold Hid; intro j; omega) /- B_X12_could_72.init4#1 -/⟩ (by omega) /- B_X12_could_72.fuel#1 -/
        obtain ⟨i_B_X12_could_72_1, i_B_X12_could_72_2, i_B_X12_could_72_3, i_B_X12_could_72_4⟩ := hI
        unfold B_X12_could_72
        refine wp_ck (z_r32_i.mpr ⟨(by omega) /- z_r32.lo z62#1 -/, (by omega) /- z_r32.hi z62#1 -/⟩) ?_
        refine wp_if (fun c4 => ?_) (fun c4 => ?_)
        ·
          refine wp_bnd ?_
          refine wp_jn ?_
          refine wp_lq4 (fun (z36 : Int) (z37 : Int) (w38 : (Int → Int)) (w39 : (Int → Int)) => (0 ≤ z36) ∧ (z36 ≤ 49) ∧ (∀ j, 0 ≤ j → j < 49 → (w39 j = 0 ∨ w39 j = 1) ∧ (¬ w39 j = 0 → vst i_p0_seats j)) ∧ (Hid (z37 = if mS i_p0_seats v_p0_st z12 < z36 ∧ 0 < prq i_p0_seats i_p0_stirs (v_p0_st 8) (v_p0_st 7) (mfr v_p0_st) (mseen v_p0_st) (mA v_p0_brings) (v_p0_st 31).toNat then fitq i_p0_seats i_p0_stirs (v_p0_st 8) (v_p0_st 7) (mfr v_p0_st) (mseen v_p0_st) (mA v_p0_brings) z12 else 0)) ∧ (Hid (∀ j, 0 ≤ j → j < 49 → (¬ w39 j = 0 ↔ (j = mS i_p0_seats v_p0_st (z12 + 1) ∧ mS i_p0_seats v_p0_st z12 < z36 ∧ 0 < prq i_p0_seats i_p0_stirs (v_p0_st 8) (v_p0_st 7) (mfr v_p0_st) (mseen v_p0_st) (mA v_p0_brings) (v_p0_st 31).toNat))))) (fun (z36 : Int) (z37 : Int) (w38 : (Int → Int)) (w39 : (Int → Int)) => (49 - z36).toNat) (fun again96 z36 z37 w38 w39 hI ih_B_X12_could_96 => ?_) 1000 _ _ _ _ ⟨(by omega) /- B_X12_could_96.init1#1 -/, (by omega) /- B_X12_could_96.init2#1 -/, (by intro j a b; exact i_B_X12_could_72_3 j a (by omega)) /- B_X12_could_96.init3#1 -/, (by unfold Hid; have v := mS_v h3 h4 h8 (d := z12) (by omega) (by omega); unfold vst at v; rw [if_neg (by omega)]) /- B_X12_could_96.init4#1 -/, (by unfold Hid; intro j a b; have v := mS_v h3 h4 h8 (d := z12) (by omega) (by omega); unfold vst at v; rw [hid i_B_X12_could_72_4 j a (by omega)]; constructor; (intro h; exact absurd rfl h); (intro h; exfalso; omega)) /- B_X12_could_96.init5#1 -/⟩ (by omega) /- B_X12_could_96.fuel#1 -/
          obtain ⟨i_B_X12_could_96_1, i_B_X12_could_96_2, i_B_X12_could_96_3, i_B_X12_could_96_4, i_B_X12_could_96_5⟩ := hI
          unfold B_X12_could_96
          refine wp_ck (z_r32_i.mpr ⟨(by omega) /- z_r32.lo z36#1 -/, (by omega) /- z_r32.hi z36#1 -/⟩) ?_
          refine wp_if (fun c5 => ?_) (fun c5 => ?_)
          ·
            refine wp_bnd ?_
            refine wp_lq2 (fun (z29 : Int) (w30 : (Int → Int)) => (0 ≤ z29) ∧ (z29 ≤ 49) ∧ (∀ j, 0 ≤ j → j < z29 → (w30 j = 0 ∨ w30 j = 1) ∧ (¬ w30 j = 0 → vst i_p0_seats j)) ∧ (Hid (∀ j, 0 ≤ j → j < z29 → w30 j = w39 j))) (fun (z29 : Int) (w30 : (Int → Int)) => (49 - z29).toNat) (fun again173 z29 w30 hI ih_B_X12_could_173 => ?_) 1000 _ _ ⟨(by omega) /- B_X12_could_173.init1#1 -/, (by omega) /- B_X12_could_173.init2#1 -/, (by intro j; omega) /- B_X12_could_173.init3#1 -/, (by unfold Hid; intro j; omega) /- B_X12_could_173.init4#1 -/⟩ (by omega) /- B_X12_could_173.fuel#1 -/
            obtain ⟨i_B_X12_could_173_1, i_B_X12_could_173_2, i_B_X12_could_173_3, i_B_X12_could_173_4⟩ := hI
            unfold B_X12_could_173
            have h26 := fun (h : z29 < 49) => i_B_X12_could_96_3 z29 (by omega) h
            refine wp_ck (z_r32_i.mpr ⟨(by omega) /- z_r32.lo z29#1 -/, (by omega) /- z_r32.hi z29#1 -/⟩) ?_
            refine wp_if (fun c6 => ?_) (fun c6 => ?_)
            ·
              refine wp_bndE (fun z33 hz33 => ?_)
              exact ih_B_X12_could_62 _ _ _ _ _ ⟨(by omega) /- B_X12_could_62.inv1#1 -/, (by omega) /- B_X12_could_62.inv2#1 -/, (by intro j a b; exact i_B_X12_could_173_3 j a (by omega)) /- B_X12_could_62.inv3#1 -/, (by 
                                        unfold Hid
                                        intro j a b
                                        have v := mS_v h3 h4 h8 (d := z12) (by omega) (by omega)
                                        unfold vst at v
                                        subst hz33
                                        rw [hid i_B_X12_could_173_4 j a (by omega), hid i_B_X12_could_96_5 j a b]
                                        exact ⟨fun z => ⟨z.1, Or.inr z.2.2⟩, fun z => ⟨z.1, by omega, by rcases z.2 with y | y; omega; exact y⟩⟩) /- B_X12_could_62.inv4#1 -/, (by 
                                        unfold Hid
                                        intro _
                                        have v := mS_v h3 h4 h8 (d := z12) (by omega) (by omega)
                                        unfold vst at v
                                        subst hz33
                                        rw [show z12 + 1 - 1 = z12 from by omega, hid i_B_X12_could_96_4]
                                        by_cases y : 0 < prq i_p0_seats i_p0_stirs (v_p0_st 8) (v_p0_st 7) (mfr v_p0_st) (mseen v_p0_st) (mA v_p0_brings) (v_p0_st 31).toNat
                                        · rw [if_pos ⟨by omega, y⟩, if_pos y]
                                        · rw [if_neg (fun z => y z.2), if_neg y]) /- B_X12_could_62.inv5#1 -/⟩ (by omega) /- B_X12_could_62.dec#1 -/
            ·
              refine wp_ck (z_ix_i.mpr ⟨⟨(by omega) /- ix.lo z29#1 -/, (by omega) /- ix.hi z29#1 -/⟩, (by omega) /- ix.big z29#1 -/⟩) ?_
              refine wp_ck (z_ix_i.mpr ⟨⟨(by omega) /- ix.lo z29#2 -/, (by omega) /- ix.hi z29#2 -/⟩, (by omega) /- ix.big z29#2 -/⟩) ?_
              refine wp_ck (z_bB_i.mpr (by omega) /- bB (w26 z29)#1 -/) ?_
              refine wp_bnd ?_
              refine wp_bndE (fun z35 hz35 => ?_)
              exact ih_B_X12_could_173 _ _ ⟨(by omega) /- B_X12_could_173.inv1#1 -/, (by omega) /- B_X12_could_173.inv2#1 -/, (by intro j a b; rw [z_up_a]; split; (rename_i e; have := h26 (by omega); rw [e]; exact this); exact i_B_X12_could_173_3 j a (by omega)) /- B_X12_could_173.inv3#1 -/, (by unfold Hid; intro j a b; rw [z_up_a]; split; (rename_i e; rw [e]); exact hid i_B_X12_could_173_4 j a (by omega)) /- B_X12_could_173.inv4#1 -/⟩ (by omega) /- B_X12_could_173.dec#1 -/
          ·
            refine wp_bnd ?_
            refine wp_lq4 (fun (z43 : Int) (z44 : Int) (w45 : (Int → Int)) (w46 : (Int → Int)) => (0 ≤ z43) ∧ (z43 ≤ i_p0_stirs) ∧ (∀ j, 0 ≤ j → j < 49 → (w46 j = 0 ∨ w46 j = 1) ∧ (¬ w46 j = 0 → vst i_p0_seats j)) ∧ (Hid ((w15 z36 = 0 → z44 = z37 ∧ (∀ j, 0 ≤ j → j < 49 → w46 j = w39 j)) ∧ (¬ w15 z36 = 0 → z44 = (if 0 < prq i_p0_seats i_p0_stirs (v_p0_st 8) (v_p0_st 7) (mfr v_p0_st) (mseen v_p0_st) (mA v_p0_brings) (v_p0_st 31).toNat then bitsOf (fun t => mA v_p0_brings t (hb i_p0_seats (v_p0_st 8) (v_p0_st 7) (mfr v_p0_st) (mseen v_p0_st) (z12)) = hb i_p0_seats (v_p0_st 8) (v_p0_st 7) (mfr v_p0_st) (mseen v_p0_st) (z12 + 1)) z43.toNat else 0) ∧ (∀ j, 0 ≤ j → j < 49 → (¬ w46 j = 0 ↔ (j = mS i_p0_seats v_p0_st (z12 + 1) ∧ 0 < prq i_p0_seats i_p0_stirs (v_p0_st 8) (v_p0_st 7) (mfr v_p0_st) (mseen v_p0_st) (mA v_p0_brings) (v_p0_st 31).toNat ∧ ∃ t, 0 ≤ t ∧ t < z43 ∧ (fun t => mA v_p0_brings t (hb i_p0_seats (v_p0_st 8) (v_p0_st 7) (mfr v_p0_st) (mseen v_p0_st) (z12)) = hb i_p0_seats (v_p0_st 8) (v_p0_st 7) (mfr v_p0_st) (mseen v_p0_st) (z12 + 1)) t))))))) (fun (z43 : Int) (z44 : Int) (w45 : (Int → Int)) (w46 : (Int → Int)) => (i_p0_stirs - z43).toNat) (fun again106 z43 z44 w45 w46 hI ih_B_X12_could_106 => ?_) 1000 _ _ _ _ ⟨(by omega) /- B_X12_could_106.init1#1 -/, (by omega) /- B_X12_could_106.init2#1 -/, (by exact i_B_X12_could_96_3) /- B_X12_could_106.init3#1 -/, (by 
                                        unfold Hid
                                        refine ⟨fun _ => ⟨rfl, fun _ _ _ => rfl⟩, fun hw => ?_⟩
                                        have e := (hid i_B_X12_could_62_4 z36 (by omega) (by omega)).mp hw
                                        have e1 := hid i_B_X12_could_96_4
                                        rw [if_neg (by omega)] at e1
                                        refine ⟨?_, fun j a b => ?_⟩
                                        · rw [e1]
                                          split
                                          · rfl
                                          · rfl
                                        · rw [hid i_B_X12_could_96_5 j a b]
                                          constructor
                                          · intro h; exfalso; omega
                                          · rintro ⟨_, _, t, t0, t1, _⟩; exfalso; omega) /- B_X12_could_106.init4#1 -/⟩ (by omega) /- B_X12_could_106.fuel#1 -/
            obtain ⟨i_B_X12_could_106_1, i_B_X12_could_106_2, i_B_X12_could_106_3, i_B_X12_could_106_4⟩ := hI
            unfold B_X12_could_106
            have h15 := i_B_X12_could_62_3 z36 (by omega) (by omega)
            refine wp_ck (z_r32_i.mpr ⟨(by omega) /- z_r32.lo z43#1 -/, (by omega) /- z_r32.hi z43#1 -/⟩) ?_
            refine wp_ck (z_r32_i.mpr ⟨(by omega) /- z_r32.lo i_p0_stirs#1 -/, (by omega) /- z_r32.hi i_p0_stirs#1 -/⟩) ?_
            refine wp_if (fun c7 => ?_) (fun c7 => ?_)
            ·
              refine wp_bndE (fun z50 hz50 => ?_)
              exact ih_B_X12_could_96 _ _ _ _ ⟨(by omega) /- B_X12_could_96.inv1#1 -/, (by omega) /- B_X12_could_96.inv2#1 -/, (by exact i_B_X12_could_106_3) /- B_X12_could_96.inv3#1 -/, (by 
                                        unfold Hid
                                        have w := hid i_B_X12_could_106_4
                                        have e1 := hid i_B_X12_could_96_4
                                        have ew := hid i_B_X12_could_62_4 z36 (by omega) (by omega)
                                        subst hz50
                                        by_cases c : w15 z36 = 0
                                        · rw [(w.1 c).1, e1]
                                          by_cases d : mS i_p0_seats v_p0_st z12 = z36
                                          · have f : ¬ 0 < prq i_p0_seats i_p0_stirs (v_p0_st 8) (v_p0_st 7) (mfr v_p0_st) (mseen v_p0_st) (mA v_p0_brings) (v_p0_st 31).toNat := fun y => (ew.mpr ⟨d.symm, Or.inr y⟩) c
                                            rw [if_neg (fun y => f y.2), if_neg (fun y => f y.2)]
                                          · by_cases g : mS i_p0_seats v_p0_st z12 < z36
                                            · by_cases y : 0 < prq i_p0_seats i_p0_stirs (v_p0_st 8) (v_p0_st 7) (mfr v_p0_st) (mseen v_p0_st) (mA v_p0_brings) (v_p0_st 31).toNat
                                              · rw [if_pos ⟨g, y⟩, if_pos ⟨by omega, y⟩]
                                              · rw [if_neg (fun z => y z.2), if_neg (fun z => y z.2)]
                                            · rw [if_neg (fun z => g z.1), if_neg (fun z => by have := z.1; omega)]
                                        · rw [(w.2 c).1]
                                          have d := (ew.mp c).1
                                          by_cases y : 0 < prq i_p0_seats i_p0_stirs (v_p0_st 8) (v_p0_st 7) (mfr v_p0_st) (mseen v_p0_st) (mA v_p0_brings) (v_p0_st 31).toNat
                                          · rw [if_pos y, if_pos ⟨by omega, y⟩, show z43.toNat = i_p0_stirs.toNat from by omega]
                                            rfl
                                          · rw [if_neg y, if_neg (fun z => y z.2)]) /- B_X12_could_96.inv4#1 -/, (by 
                                        unfold Hid
                                        intro j a b
                                        have w := hid i_B_X12_could_106_4
                                        have e1 := hid i_B_X12_could_96_5 j a b
                                        have ew := hid i_B_X12_could_62_4 z36 (by omega) (by omega)
                                        subst hz50
                                        by_cases c : w15 z36 = 0
                                        · rw [(w.1 c).2 j a b, e1]
                                          by_cases d : mS i_p0_seats v_p0_st z12 = z36
                                          · have f : ¬ 0 < prq i_p0_seats i_p0_stirs (v_p0_st 8) (v_p0_st 7) (mfr v_p0_st) (mseen v_p0_st) (mA v_p0_brings) (v_p0_st 31).toNat := fun y => (ew.mpr ⟨d.symm, Or.inr y⟩) c
                                            exact ⟨fun z => absurd z.2.2 f, fun z => absurd z.2.2 f⟩
                                          · exact ⟨fun z => ⟨z.1, by have := z.2.1; omega, z.2.2⟩, fun z => ⟨z.1, by have := z.2.1; omega, z.2.2⟩⟩
                                        · rw [(w.2 c).2 j a b]
                                          have d := (ew.mp c).1
                                          constructor
                                          · rintro ⟨y1, y2, _⟩
                                            exact ⟨y1, by omega, y2⟩
                                          · rintro ⟨y1, _, y2⟩
                                            obtain ⟨t, t0, t1, t2⟩ := ((hgo z12 (by omega) (by omega)).1 y2).2
                                            exact ⟨y1, y2, t, t0, by omega, t2⟩) /- B_X12_could_96.inv5#1 -/⟩ (by omega) /- B_X12_could_96.dec#1 -/
            ·
              refine wp_ck (z_ix_i.mpr ⟨⟨(by omega) /- ix.lo z36#1 -/, (by omega) /- ix.hi z36#1 -/⟩, (by omega) /- ix.big z36#1 -/⟩) ?_
              refine wp_ck (z_r32_i.mpr ⟨(by omega) /- z_r32.lo (w15 z36)#1 -/, (by omega) /- z_r32.hi (w15 z36)#1 -/⟩) ?_
              refine wp_if (fun c8 => ?_) (fun c8 => ?_)
              ·
                refine wp_bndE (fun z52 hz52 => ?_)
                exact ih_B_X12_could_96 _ _ _ _ ⟨(by omega) /- B_X12_could_96.inv1#2 -/, (by omega) /- B_X12_could_96.inv2#2 -/, (by exact i_B_X12_could_106_3) /- B_X12_could_96.inv3#2 -/, (by 
                                        unfold Hid
                                        have w := hid i_B_X12_could_106_4
                                        have e1 := hid i_B_X12_could_96_4
                                        have ew := hid i_B_X12_could_62_4 z36 (by omega) (by omega)
                                        subst hz52
                                        have c : w15 z36 = 0 := by assumption
                                        rw [(w.1 c).1, e1]
                                        by_cases d : mS i_p0_seats v_p0_st z12 = z36
                                        · have f : ¬ 0 < prq i_p0_seats i_p0_stirs (v_p0_st 8) (v_p0_st 7) (mfr v_p0_st) (mseen v_p0_st) (mA v_p0_brings) (v_p0_st 31).toNat := fun y => (ew.mpr ⟨d.symm, Or.inr y⟩) c
                                          rw [if_neg (fun y => f y.2), if_neg (fun y => f y.2)]
                                        · by_cases g : mS i_p0_seats v_p0_st z12 < z36
                                          · by_cases y : 0 < prq i_p0_seats i_p0_stirs (v_p0_st 8) (v_p0_st 7) (mfr v_p0_st) (mseen v_p0_st) (mA v_p0_brings) (v_p0_st 31).toNat
                                            · rw [if_pos ⟨g, y⟩, if_pos ⟨by omega, y⟩]
                                            · rw [if_neg (fun z => y z.2), if_neg (fun z => y z.2)]
                                          · rw [if_neg (fun z => g z.1), if_neg (fun z => by have := z.1; omega)]) /- B_X12_could_96.inv4#2 -/, (by 
                                        unfold Hid
                                        intro j a b
                                        have w := hid i_B_X12_could_106_4
                                        have e1 := hid i_B_X12_could_96_5 j a b
                                        have ew := hid i_B_X12_could_62_4 z36 (by omega) (by omega)
                                        subst hz52
                                        have c : w15 z36 = 0 := by assumption
                                        rw [(w.1 c).2 j a b, e1]
                                        by_cases d : mS i_p0_seats v_p0_st z12 = z36
                                        · have f : ¬ 0 < prq i_p0_seats i_p0_stirs (v_p0_st 8) (v_p0_st 7) (mfr v_p0_st) (mseen v_p0_st) (mA v_p0_brings) (v_p0_st 31).toNat := fun y => (ew.mpr ⟨d.symm, Or.inr y⟩) c
                                          exact ⟨fun z => absurd z.2.2 f, fun z => absurd z.2.2 f⟩
                                        · exact ⟨fun z => ⟨z.1, by have := z.2.1; omega, z.2.2⟩, fun z => ⟨z.1, by have := z.2.1; omega, z.2.2⟩⟩) /- B_X12_could_96.inv5#2 -/⟩ (by omega) /- B_X12_could_96.dec#2 -/
              ·
                have hvz := h15.2 (by assumption)
                refine wp_bd2 (s_X12_canGo _ _ _ _ _ _ _ _ i_p0_stirs (by omega) /- pre X12_canGo.1#1 -/ (by omega) /- pre X12_canGo.2#1 -/ (by omega) /- pre X12_canGo.3#1 -/ (by omega) /- pre X12_canGo.4#1 -/ (by exact h7) /- pre X12_canGo.5#1 -/ (by omega) /- pre X12_canGo.6#1 -/ (by omega) /- pre X12_canGo.7#1 -/ (by exact hvz) /- pre X12_canGo.8#1 -/ (by omega) /- pre X12_canGo.9#1 -/ (by omega) /- pre X12_canGo.10#1 -/ (by omega) /- pre X12_canGo.11#1 -/ (by omega) /- pre X12_canGo.12#1 -/ (by exact hgb) /- pre X12_canGo.13#1 -/) (fun z53 w54 q_X12_canGo_1 => ?_)
                try dsimp only at q_X12_canGo_1
                refine wp_ck (z_r32_i.mpr ⟨(by omega) /- z_r32.lo z53#1 -/, (by omega) /- z_r32.hi z53#1 -/⟩) ?_
                refine wp_if (fun c9 => ?_) (fun c9 => ?_)
                ·
                  refine wp_bndE (fun z56 hz56 => ?_)
                  exact ih_B_X12_could_106 _ _ _ _ ⟨(by omega) /- B_X12_could_106.inv1#1 -/, (by omega) /- B_X12_could_106.inv2#1 -/, (by first | exact i_B_X12_could_106_3 | (intro j a b; rw [z_up_a]; split; (rename_i e; exact ⟨Or.inr rfl, fun _ => by rw [e]; exact q_X12_then_1_2⟩); exact i_B_X12_could_106_3 j a b)) /- B_X12_could_106.inv3#1 -/, (by 
                                        unfold Hid
                                        refine ⟨fun z => absurd z (by assumption), fun hw => ?_⟩
                                        have w := (hid i_B_X12_could_106_4).2 hw
                                        have e := (hid i_B_X12_could_62_4 z36 (by omega) (by omega)).mp hw
                                        have g := hgo z12 (by omega) (by omega)
                                        have ng : ¬ (thn i_p0_seats v_p0_st v_p0_brings z36 z43 % 7 = v_p0_st (32 + z12) ∧ 0 < w6 (49 * z12 + 49 + thn i_p0_seats v_p0_st v_p0_brings z36 z43)) := by
                                          rcases q_X12_canGo_1 with hq | hq
                                          · omega
                                          · exact hq.2
                                        rw [e.1] at ng
                                        subst hz56
                                        refine ⟨?_, fun j a b => ?_⟩
                                        · rw [w.1]
                                          by_cases y : 0 < prq i_p0_seats i_p0_stirs (v_p0_st 8) (v_p0_st 7) (mfr v_p0_st) (mseen v_p0_st) (mA v_p0_brings) (v_p0_st 31).toNat
                                          · rw [if_pos y, if_pos y, bits_fz (P := (fun t => mA v_p0_brings t (hb i_p0_seats (v_p0_st 8) (v_p0_st 7) (mfr v_p0_st) (mseen v_p0_st) z12) = hb i_p0_seats (v_p0_st 8) (v_p0_st 7) (mfr v_p0_st) (mseen v_p0_st) (z12 + 1))) (z := z43) (by omega) (fun z => ng (((g.1 y).1 z43 (by omega) (by omega)).mpr z))]
                                          · rw [if_neg y, if_neg y]
                                        · rw [w.2 j a b]
                                          constructor
                                          · rintro ⟨y1, y2, t, t0, t1, t2⟩
                                            exact ⟨y1, y2, t, t0, by omega, t2⟩
                                          · rintro ⟨y1, y2, t, t0, t1, t2⟩
                                            refine ⟨y1, y2, t, t0, ?_, t2⟩
                                            by_cases f : t = z43
                                            · exfalso; rw [f] at t2; exact ng (((g.1 y2).1 z43 (by omega) (by omega)).mpr t2)
                                            · omega) /- B_X12_could_106.inv4#1 -/⟩ (by omega) /- B_X12_could_106.dec#1 -/
                ·
                  refine wp_bndE (fun z57 hz57 => ?_)
                  refine wp_bd2 (s_X12_then _ _ _ _ _ _ i_p0_stirs (by omega) /- pre X12_then.1#1 -/ (by omega) /- pre X12_then.2#1 -/ (by omega) /- pre X12_then.3#1 -/ (by omega) /- pre X12_then.4#1 -/ (by exact h7) /- pre X12_then.5#1 -/ (by exact hvz) /- pre X12_then.6#1 -/ (by omega) /- pre X12_then.7#1 -/ (by omega) /- pre X12_then.8#1 -/) (fun z58 w59 q_X12_then_1 => ?_)
                  try dsimp only at q_X12_then_1
                  obtain ⟨q_X12_then_1_1, q_X12_then_1_2⟩ := q_X12_then_1
                  have hvt := q_X12_then_1_2
                  unfold vst at hvt
                  refine wp_ck (z_ix_i.mpr ⟨⟨(by omega) /- ix.lo z58#1 -/, (by omega) /- ix.hi z58#1 -/⟩, (by omega) /- ix.big z58#1 -/⟩) ?_
                  refine wp_ck (z_bB_i.mpr (by omega) /- bB (1 : Int)#1 -/) ?_
                  refine wp_bnd ?_
                  refine wp_bndE (fun z61 hz61 => ?_)
                  exact ih_B_X12_could_106 _ _ _ _ ⟨(by omega) /- B_X12_could_106.inv1#2 -/, (by omega) /- B_X12_could_106.inv2#2 -/, (by first | exact i_B_X12_could_106_3 | (intro j a b; rw [z_up_a]; split; (rename_i e; exact ⟨Or.inr rfl, fun _ => by rw [e]; exact q_X12_then_1_2⟩); exact i_B_X12_could_106_3 j a b)) /- B_X12_could_106.inv3#2 -/, (by 
                                        unfold Hid
                                        refine ⟨fun z => absurd z (by assumption), fun hw => ?_⟩
                                        have w := (hid i_B_X12_could_106_4).2 hw
                                        have e := (hid i_B_X12_could_62_4 z36 (by omega) (by omega)).mp hw
                                        have g := hgo z12 (by omega) (by omega)
                                        have yg : thn i_p0_seats v_p0_st v_p0_brings z36 z43 % 7 = v_p0_st (32 + z12) ∧ 0 < w6 (49 * z12 + 49 + thn i_p0_seats v_p0_st v_p0_brings z36 z43) := by
                                          rcases q_X12_canGo_1 with hq | hq
                                          · exact hq.2
                                          · exact absurd hq.1 (by assumption)
                                        have yp : 0 < prq i_p0_seats i_p0_stirs (v_p0_st 8) (v_p0_st 7) (mfr v_p0_st) (mseen v_p0_st) (mA v_p0_brings) (v_p0_st 31).toNat := by
                                          rcases e.2 with z | z
                                          · refine Classical.byContradiction (fun y => ?_)
                                            rw [e.1] at yg
                                            exact g.2 z y z43 (by omega) (by omega) yg
                                          · exact z
                                        have et : z58 = mS i_p0_seats v_p0_st (z12 + 1) := by
                                          rw [q_X12_then_1_1, e.1]
                                          rw [e.1] at yg
                                          exact (mS_go h3 h4 h7 h8 (d := z12) (r := z43) (by omega) (by omega) (by omega) (by omega)).2 yg.1
                                        rw [e.1] at yg
                                        have pt := ((g.1 yp).1 z43 (by omega) (by omega)).mp yg
                                        subst hz61 hz57
                                        refine ⟨?_, fun j a b => ?_⟩
                                        · rw [w.1, if_pos yp, if_pos yp, bits_tz (P := (fun t => mA v_p0_brings t (hb i_p0_seats (v_p0_st 8) (v_p0_st 7) (mfr v_p0_st) (mseen v_p0_st) z12) = hb i_p0_seats (v_p0_st 8) (v_p0_st 7) (mfr v_p0_st) (mseen v_p0_st) (z12 + 1))) (z := z43) (by omega) pt]
                                        · rw [z_up_a]
                                          by_cases f : j = z58
                                          · rw [if_pos f]
                                            exact ⟨fun _ => ⟨f.trans et, yp, z43, by omega, by omega, pt⟩, fun _ => by decide⟩
                                          · rw [if_neg f, w.2 j a b]
                                            constructor
                                            · rintro ⟨y1, _⟩; exfalso; exact f (y1.trans et.symm)
                                            · rintro ⟨y1, _⟩; exfalso; exact f (y1.trans et.symm)) /- B_X12_could_106.inv4#2 -/⟩ (by omega) /- B_X12_could_106.dec#2 -/
        ·
          refine wp_ck (z_ix_i.mpr ⟨⟨(by omega) /- ix.lo z62#1 -/, (by omega) /- ix.hi z62#1 -/⟩, (by omega) /- ix.big z62#1 -/⟩) ?_
          refine wp_ck (z_bB_i.mpr (by omega) /- bB (0 : Int)#1 -/) ?_
          refine wp_bnd ?_
          refine wp_bndE (fun z67 hz67 => ?_)
          exact ih_B_X12_could_72 _ _ ⟨(by omega) /- B_X12_could_72.inv1#1 -/, (by omega) /- B_X12_could_72.inv2#1 -/, (by intro j a b; rw [z_up_a]; split; exact ⟨Or.inl rfl, fun h => absurd rfl h⟩; exact i_B_X12_could_72_3 j a (by omega)) /- B_X12_could_72.inv3#1 -/, (by unfold Hid; intro j a b; rw [z_up_a]; split; rfl; exact hid i_B_X12_could_72_4 j a (by omega)) /- B_X12_could_72.inv4#1 -/⟩ (by omega) /- B_X12_could_72.dec#1 -/
    ·
      refine wp_bd1 (s_X12_stateNow _ i_p0_seats (by omega) /- pre X12_stateNow.1#1 -/ (by omega) /- pre X12_stateNow.2#1 -/ (by exact h8) /- pre X12_stateNow.3#1 -/) (fun z72 q_X12_stateNow_1 => ?_)
      try dsimp only at q_X12_stateNow_1
      obtain ⟨q_X12_stateNow_1_1, q_X12_stateNow_1_2⟩ := q_X12_stateNow_1
      have hvn := q_X12_stateNow_1_2
      unfold vst at hvn
      refine wp_ck (z_r32_i.mpr ⟨(by omega) /- z_r32.lo z72#1 -/, (by omega) /- z_r32.hi z72#1 -/⟩) ?_
      refine wp_if (fun c10 => ?_) (fun c10 => ?_)
      ·
        refine wp_ck (z_ix_i.mpr ⟨⟨(by omega) /- ix.lo z68#1 -/, (by omega) /- ix.hi z68#1 -/⟩, (by omega) /- ix.big z68#1 -/⟩) ?_
        refine wp_ck (z_bB_i.mpr (by omega) /- bB (1 : Int)#2 -/) ?_
        refine wp_bnd ?_
        refine wp_bndE (fun z77 hz77 => ?_)
        exact ih_B_X12_could_29 _ _ ⟨(by omega) /- B_X12_could_29.inv1#1 -/, (by omega) /- B_X12_could_29.inv2#1 -/, (by intro j a b; rw [z_up_a]; split; (rename_i e; first | exact ⟨Or.inr rfl, fun _ => by rw [e]; first | assumption | (have := q_X12_stateNow_1_2; rw [← (show z68 = z72 by assumption)] at this; exact this)⟩ | exact ⟨Or.inl rfl, fun h => absurd rfl h⟩); exact i_B_X12_could_29_3 j a (by omega)) /- B_X12_could_29.inv3#1 -/, (by unfold Hid; intro j a b; rw [z_up_a]; split; (rename_i e; constructor; (intro _; rw [e]; have := q_X12_stateNow_1_1; omega); (intro _; decide)); exact hid i_B_X12_could_29_4 j a (by omega)) /- B_X12_could_29.inv4#1 -/⟩ (by omega) /- B_X12_could_29.dec#1 -/
      ·
        refine wp_ck (z_ix_i.mpr ⟨⟨(by omega) /- ix.lo z68#2 -/, (by omega) /- ix.hi z68#2 -/⟩, (by omega) /- ix.big z68#2 -/⟩) ?_
        refine wp_ck (z_bB_i.mpr (by omega) /- bB (0 : Int)#2 -/) ?_
        refine wp_bnd ?_
        refine wp_bndE (fun z75 hz75 => ?_)
        exact ih_B_X12_could_29 _ _ ⟨(by omega) /- B_X12_could_29.inv1#2 -/, (by omega) /- B_X12_could_29.inv2#2 -/, (by intro j a b; rw [z_up_a]; split; (rename_i e; first | exact ⟨Or.inr rfl, fun _ => by rw [e]; first | assumption | (have := q_X12_stateNow_1_2; rw [← (show z68 = z72 by assumption)] at this; exact this)⟩ | exact ⟨Or.inl rfl, fun h => absurd rfl h⟩); exact i_B_X12_could_29_3 j a (by omega)) /- B_X12_could_29.inv3#2 -/, (by unfold Hid; intro j a b; rw [z_up_a]; split; (rename_i e; constructor; (intro h; exact absurd rfl h); (intro h; exfalso; have := q_X12_stateNow_1_1; omega)); exact hid i_B_X12_could_29_4 j a (by omega)) /- B_X12_could_29.inv4#2 -/⟩ (by omega) /- B_X12_could_29.dec#2 -/
