theorem sh_l (w2 w3 : Nat → Int32) {j : Nat} (hj : j < 4) : ∀ (k i m : Nat) (w : Nat → Int32), i + k = 40 → Option.map Prod.fst (lq2 (B_X12_sheet_40 w2 w3 (nI j)) (m + k + 1) (nI i) w) = some (1 : Int32)
  | 0, i, m, w, h => by
    have hi : i = 40 := by omega
    subst hi
    show Option.map Prod.fst (B_X12_sheet_40 w2 w3 (nI j) (lq2 (B_X12_sheet_40 w2 w3 (nI j)) m) (nI 40) w) = some (1 : Int32)
    rw [B_X12_sheet_40, if_pos (show (40 : Int32) ≤ nI 40 from by decide)]
    rfl
  | k + 1, i, m, w, h => by
    have e : m + (k + 1) + 1 = (m + k + 1) + 1 := by omega
    rw [e]
    show Option.map Prod.fst (B_X12_sheet_40 w2 w3 (nI j) (lq2 (B_X12_sheet_40 w2 w3 (nI j)) (m + k + 1)) (nI i) w) = some (1 : Int32)
    have h1 : ¬ (40 : Int32) ≤ nI i := nge_l (n := 40) (by decide) (by rw [nI_toInt (by omega)]; omega)
    have h2 : ixB (((40 : Int32) * nI j) + nI i) 160 = true := by
      have e2 : ((40 : Int32) * nI j) + nI i = nI (40 * j + i) := by rw [show (40 : Int32) = nI 40 from rfl, pk_mul, nI_add]
      rw [e2]
      simp only [ixB, Bool.and_eq_true, decide_eq_true_eq]
      rw [nI_toInt (by omega)]
      exact ⟨by omega, by omega⟩
    rw [B_X12_sheet_40, if_neg h1, h2, ck_e, bnd_e, bnd_e, nI_1]
    exact sh_l w2 w3 hj k (i + 1) m _ (by omega)


def facN : Nat → Nat
  | 0 => 1
  | n + 1 => (n + 1) * facN n
def TT (n j : Nat) : Nat := if j ≤ n then facN n / (facN j * facN (n - j)) * 3 ^ (n - j) else 0
def FT (n : Nat) : Nat → Int64 := fun j => lN (TT n j)
def rowN (s : Int32) (w : Nat → Int64) (i : Nat) : Nat → Int64 := fun j => if 1 ≤ j ∧ j ≤ i then w j * ((s - (1 : Int32))).toInt64 + w (j - 1) else w j
theorem ix_t {n N : Nat} (h : n < N) (hN : N < 2 ^ 31) : ixB (nI n) N = true := by
  simp only [ixB, Bool.and_eq_true, decide_eq_true_eq]
  rw [nI_toInt (by omega)]
  exact ⟨by omega, by omega⟩
theorem rowN_step (s : Int32) (w : Nat → Int64) (i : Nat) : rowN s (vp_updL w (i + 1) (w (i + 1) * ((s - (1 : Int32))).toInt64 + w i)) i = rowN s w (i + 1) := by
  funext j
  unfold rowN vp_updL
  by_cases hj : j = i + 1
  · subst hj
    rw [if_neg (show ¬ (1 ≤ i + 1 ∧ i + 1 ≤ i) by omega), if_pos (show i + 1 = i + 1 from rfl), if_pos (show 1 ≤ i + 1 ∧ i + 1 ≤ i + 1 by omega)]
    rfl
  · by_cases hc : 1 ≤ j ∧ j ≤ i
    · rw [if_pos hc, if_pos (show 1 ≤ j ∧ j ≤ i + 1 by omega), if_neg hj, if_neg (show ¬ j - 1 = i + 1 by omega)]
    · rw [if_neg hc, if_neg (show ¬ (1 ≤ j ∧ j ≤ i + 1) by omega), if_neg hj]
theorem tw_in (J : (Nat → Int64) → Option (Int64 × (Nat → Int64))) (s : Int32) : ∀ (i m : Nat) (w : Nat → Int64), i < 13 → lq2 (B_X3_triesWithFinds_25 J s) (m + i + 1) (nI i) w = J (rowN s w i)
  | 0, m, w, h => by
    have e : rowN s w 0 = w := by
      funext j
      unfold rowN
      rw [if_neg (by omega)]
    show B_X3_triesWithFinds_25 J s (lq2 (B_X3_triesWithFinds_25 J s) m) (nI 0) w = _
    rw [B_X3_triesWithFinds_25, if_pos (show nI 0 ≤ 0 from by decide), e]
  | i + 1, m, w, h => by
    have e : m + (i + 1) + 1 = (m + i + 1) + 1 := by omega
    rw [e]
    show B_X3_triesWithFinds_25 J s (lq2 (B_X3_triesWithFinds_25 J s) (m + i + 1)) (nI (i + 1)) w = _
    have h0 : ¬ nI (i + 1) ≤ 0 := nI_nle (by omega) (by omega)
    have h2 : nI (i + 1) - (1 : Int32) = nI i := nI_pred i
    have h3 : nI (i + 1) + (-1 : Int32) = nI i := pk_m1 i
    rw [B_X3_triesWithFinds_25, if_neg h0, h2, h3, ix_t (show i + 1 < 13 by omega) (by decide), ix_t (show i < 13 by omega) (by decide), ck_e, ck_e, ck_e, bnd_e, bnd_e, nI_clamp (n := i + 1) (by omega), nI_clamp (n := i) (by omega), tw_in J s i m _ (by omega), rowN_step]
theorem tw_row {i j : Nat} (hi : i < 12) : vp_updL (rowN (4 : Int32) (FT i) (i + 1)) ((0 : Int32)).toNatClampNeg ((rowN (4 : Int32) (FT i) (i + 1)) ((0 : Int32)).toNatClampNeg * (((4 : Int32) - (1 : Int32))).toInt64) j = FT (i + 1) j := by
  by_cases hj : j < 13
  · exact co2 (N := 12) (M := 13) (P := fun i j => vp_updL (rowN (4 : Int32) (FT i) (i + 1)) ((0 : Int32)).toNatClampNeg ((rowN (4 : Int32) (FT i) (i + 1)) ((0 : Int32)).toNatClampNeg * (((4 : Int32) - (1 : Int32))).toInt64) j = FT (i + 1) j) (by decide +kernel) hi hj
  · have h0 : ((0 : Int32)).toNatClampNeg = 0 := by decide
    rw [h0]
    unfold vp_updL rowN FT TT
    rw [if_neg (show ¬ j = 0 by omega), if_neg (show ¬ (1 ≤ j ∧ j ≤ i + 1) by omega), if_neg (show ¬ j ≤ i by omega), if_neg (show ¬ j ≤ i + 1 by omega)]
theorem tw_out (J : (Nat → Int64) → Option (Int64 × (Nat → Int64))) (n : Nat) (hn : n < 13) : ∀ (d i m : Nat), i + d = n → lq2 (B_X3_triesWithFinds_17 (nI n) J (4 : Int32)) (m + d + 1) (nI (i + 1)) (FT i) = J (FT n)
  | 0, i, m, h => by
    have hi : i = n := by omega
    subst hi
    show B_X3_triesWithFinds_17 (nI i) J (4 : Int32) (lq2 (B_X3_triesWithFinds_17 (nI i) J (4 : Int32)) m) (nI (i + 1)) (FT i) = _
    rw [B_X3_triesWithFinds_17, if_pos (nI_lt (show i < i + 1 by omega) (by omega))]
  | d + 1, i, m, h => by
    have e : m + (d + 1) + 1 = (m + d + 1) + 1 := by omega
    rw [e]
    show B_X3_triesWithFinds_17 (nI n) J (4 : Int32) (lq2 (B_X3_triesWithFinds_17 (nI n) J (4 : Int32)) (m + d + 1)) (nI (i + 1)) (FT i) = _
    have h0 : ¬ nI n < nI (i + 1) := nI_nlt (show i + 1 ≤ n by omega) (by omega)
    have hf : (1000 : Nat) = (998 - i) + (i + 1) + 1 := by omega
    rw [B_X3_triesWithFinds_17, if_neg h0, bnd_e, jn_e, hf, tw_in _ _ (i + 1) (998 - i) _ (by omega), show ixB (0 : Int32) 13 = true from by decide, ck_e, ck_e, bnd_e, bnd_e, nI_1, show vp_updL (rowN (4 : Int32) (FT i) (i + 1)) ((0 : Int32)).toNatClampNeg ((rowN (4 : Int32) (FT i) (i + 1)) ((0 : Int32)).toNatClampNeg * (((4 : Int32) - (1 : Int32))).toInt64) = FT (i + 1) from funext fun j => tw_row (by omega)]
    exact tw_out J n hn d (i + 1) m (by omega)
theorem tw_fill : ∀ (d i m : Nat), i + d = 13 → lq2 (B_J7_fill_d0a16_6 (Int32.ofNat 13) 13 (0 : Int64)) (m + d + 1) (nI i) (fun _ => (0 : Int64)) = some (fun _ => (0 : Int64))
  | 0, i, m, h => by
    have hi : i = 13 := by omega
    subst hi
    show B_J7_fill_d0a16_6 (Int32.ofNat 13) 13 (0 : Int64) (lq2 (B_J7_fill_d0a16_6 (Int32.ofNat 13) 13 (0 : Int64)) m) (nI 13) (fun _ => (0 : Int64)) = _
    rw [B_J7_fill_d0a16_6, if_pos (show Int32.ofNat 13 ≤ nI 13 from by decide)]
  | d + 1, i, m, h => by
    have e : m + (d + 1) + 1 = (m + d + 1) + 1 := by omega
    rw [e]
    show B_J7_fill_d0a16_6 (Int32.ofNat 13) 13 (0 : Int64) (lq2 (B_J7_fill_d0a16_6 (Int32.ofNat 13) 13 (0 : Int64)) (m + d + 1)) (nI i) (fun _ => (0 : Int64)) = _
    have h0 : ¬ Int32.ofNat 13 ≤ nI i := nI_ge (show i < 13 by omega) (by decide)
    have hu : vp_updL (fun _ => (0 : Int64)) (nI i).toNatClampNeg (0 : Int64) = (fun _ => (0 : Int64)) := by
      funext j
      unfold vp_updL
      rw [ite_self]
    rw [B_J7_fill_d0a16_6, if_neg h0, ix_t (show i < 13 by omega) (by decide), ck_e, bnd_e, bnd_e, hu, nI_1]
    exact tw_fill d (i + 1) m (by omega)
theorem tw_0 : vp_updL (fun _ => (0 : Int64)) ((0 : Int32)).toNatClampNeg (1 : Int64) = FT 0 := by
  funext j
  by_cases hj : j < 13
  · exact co_dec (N := 13) (P := fun j => vp_updL (fun _ => (0 : Int64)) ((0 : Int32)).toNatClampNeg (1 : Int64) j = FT 0 j) (by decide +kernel) hj
  · have h0 : ((0 : Int32)).toNatClampNeg = 0 := by decide
    rw [h0]
    unfold vp_updL FT TT
    rw [if_neg (show ¬ j = 0 by omega), if_neg (show ¬ j ≤ 0 by omega)]
    rfl
theorem tw (m n : Nat) (hn : n < 13) : f_X3_triesWithFinds (4 : Int32) (fun _ => (0 : Int64)) (nI m) (nI n) = lq2 (B_X3_triesWithFinds_107 (nI n) (FT n)) 1000 (nI m) (0 : Int64) := by
  have hfl : f_J7_fill_d0a16 13 (fun _ => (0 : Int64)) (0 : Int64) = some (fun _ => (0 : Int64)) := tw_fill 13 0 986 rfl
  have hf : (1000 : Nat) = (999 - n) + n + 1 := by omega
  have ho := tw_out (fun (w4 : (Nat → Int64)) => (bnd (0 : Int64) (fun (z6 : Int64) => (bnd (nI m) (fun (z7 : Int32) => (lq2 (B_X3_triesWithFinds_107 (nI n) w4) 1000 z7 z6)))))) n hn n 0 (999 - n) (by omega)
  rw [← hf] at ho
  rw [f_X3_triesWithFinds, hfl, bd1_e, show ixB (0 : Int32) 13 = true from by decide, ck_e, bnd_e, bnd_e, jn_e, tw_0]
  exact ho
noncomputable def blX (m n k : Nat) : Option Int64 := Option.map Prod.fst (bd2 (lq2 (B_X3_triesWithFinds_107 (nI n) (FT n)) 1000 (nI m) (0 : Int64)) (fun (z2 : Int64) (w3 : (Nat → Int64)) => (bd1 (f_X3_power (4 : Int32) (nI n)) (fun (z4 : Int64) => (bd1 (f_X3_part z2 z4 (nI k)) (fun (z5 : Int64) => (some (z5, w3))))))))

set_option maxRecDepth 100000 in
set_option maxHeartbeats 4000000 in
theorem zz_feed (x1 : Int64) : ∃ r : Int32, (Option.map Prod.fst (f_X11_feed (0 : Int32) (fun _ => (0 : Int32)) x1)) = some r ∧ (Option.map Prod.fst (f_X12_feed (0 : Int32) (fun _ => (0 : Int32)) x1)) = some r := by
  have hx : (Option.map Prod.fst (f_X11_feed (0 : Int32) (fun _ => (0 : Int32)) x1)) = some 8 := by
    rw [f_X11_feed, f_X9_append, if_pos (show ((0 : Int32) + (8 : Int32)) ≤ (320 : Int32) from by decide), bnd_e]
    exact congrArg (fun y => Option.map Prod.fst (bd3 y _)) ((ap_s x1 999 (56 : Int32) (0 : Int32) _ (by decide) (by decide)).trans ((ap_s x1 998 ((56 : Int32) + (-8 : Int32)) ((0 : Int32) + (1 : Int32)) _ (by decide) (by decide)).trans ((ap_s x1 997 (((56 : Int32) + (-8 : Int32)) + (-8 : Int32)) (((0 : Int32) + (1 : Int32)) + (1 : Int32)) _ (by decide) (by decide)).trans ((ap_s x1 996 ((((56 : Int32) + (-8 : Int32)) + (-8 : Int32)) + (-8 : Int32)) ((((0 : Int32) + (1 : Int32)) + (1 : Int32)) + (1 : Int32)) _ (by decide) (by decide)).trans ((ap_s x1 995 (((((56 : Int32) + (-8 : Int32)) + (-8 : Int32)) + (-8 : Int32)) + (-8 : Int32)) (((((0 : Int32) + (1 : Int32)) + (1 : Int32)) + (1 : Int32)) + (1 : Int32)) _ (by decide) (by decide)).trans ((ap_s x1 994 ((((((56 : Int32) + (-8 : Int32)) + (-8 : Int32)) + (-8 : Int32)) + (-8 : Int32)) + (-8 : Int32)) ((((((0 : Int32) + (1 : Int32)) + (1 : Int32)) + (1 : Int32)) + (1 : Int32)) + (1 : Int32)) _ (by decide) (by decide)).trans ((ap_s x1 993 (((((((56 : Int32) + (-8 : Int32)) + (-8 : Int32)) + (-8 : Int32)) + (-8 : Int32)) + (-8 : Int32)) + (-8 : Int32)) (((((((0 : Int32) + (1 : Int32)) + (1 : Int32)) + (1 : Int32)) + (1 : Int32)) + (1 : Int32)) + (1 : Int32)) _ (by decide) (by decide)).trans ((ap_s x1 992 ((((((((56 : Int32) + (-8 : Int32)) + (-8 : Int32)) + (-8 : Int32)) + (-8 : Int32)) + (-8 : Int32)) + (-8 : Int32)) + (-8 : Int32)) ((((((((0 : Int32) + (1 : Int32)) + (1 : Int32)) + (1 : Int32)) + (1 : Int32)) + (1 : Int32)) + (1 : Int32)) + (1 : Int32)) _ (by decide) (by decide)).trans (ap_e x1 991 (((((((((56 : Int32) + (-8 : Int32)) + (-8 : Int32)) + (-8 : Int32)) + (-8 : Int32)) + (-8 : Int32)) + (-8 : Int32)) + (-8 : Int32)) + (-8 : Int32)) (((((((((0 : Int32) + (1 : Int32)) + (1 : Int32)) + (1 : Int32)) + (1 : Int32)) + (1 : Int32)) + (1 : Int32)) + (1 : Int32)) + (1 : Int32)) _ (by decide))))))))))
  have hk : (Option.map Prod.fst (f_X12_feed (0 : Int32) (fun _ => (0 : Int32)) x1)) = some 8 := by
    rw [f_X12_feed, if_pos (show ((0 : Int32) + (8 : Int32)) ≤ (320 : Int32) from by decide), bnd_e]
    exact congrArg (fun y => Option.map Prod.fst y) ((fd_s x1 999 (56 : Int32) (0 : Int32) _ (by decide) (by decide)).trans ((fd_s x1 998 ((56 : Int32) + (-8 : Int32)) ((0 : Int32) + (1 : Int32)) _ (by decide) (by decide)).trans ((fd_s x1 997 (((56 : Int32) + (-8 : Int32)) + (-8 : Int32)) (((0 : Int32) + (1 : Int32)) + (1 : Int32)) _ (by decide) (by decide)).trans ((fd_s x1 996 ((((56 : Int32) + (-8 : Int32)) + (-8 : Int32)) + (-8 : Int32)) ((((0 : Int32) + (1 : Int32)) + (1 : Int32)) + (1 : Int32)) _ (by decide) (by decide)).trans ((fd_s x1 995 (((((56 : Int32) + (-8 : Int32)) + (-8 : Int32)) + (-8 : Int32)) + (-8 : Int32)) (((((0 : Int32) + (1 : Int32)) + (1 : Int32)) + (1 : Int32)) + (1 : Int32)) _ (by decide) (by decide)).trans ((fd_s x1 994 ((((((56 : Int32) + (-8 : Int32)) + (-8 : Int32)) + (-8 : Int32)) + (-8 : Int32)) + (-8 : Int32)) ((((((0 : Int32) + (1 : Int32)) + (1 : Int32)) + (1 : Int32)) + (1 : Int32)) + (1 : Int32)) _ (by decide) (by decide)).trans ((fd_s x1 993 (((((((56 : Int32) + (-8 : Int32)) + (-8 : Int32)) + (-8 : Int32)) + (-8 : Int32)) + (-8 : Int32)) + (-8 : Int32)) (((((((0 : Int32) + (1 : Int32)) + (1 : Int32)) + (1 : Int32)) + (1 : Int32)) + (1 : Int32)) + (1 : Int32)) _ (by decide) (by decide)).trans ((fd_s x1 992 ((((((((56 : Int32) + (-8 : Int32)) + (-8 : Int32)) + (-8 : Int32)) + (-8 : Int32)) + (-8 : Int32)) + (-8 : Int32)) + (-8 : Int32)) ((((((((0 : Int32) + (1 : Int32)) + (1 : Int32)) + (1 : Int32)) + (1 : Int32)) + (1 : Int32)) + (1 : Int32)) + (1 : Int32)) _ (by decide) (by decide)).trans (fd_e x1 991 (((((((((56 : Int32) + (-8 : Int32)) + (-8 : Int32)) + (-8 : Int32)) + (-8 : Int32)) + (-8 : Int32)) + (-8 : Int32)) + (-8 : Int32)) + (-8 : Int32)) (((((((((0 : Int32) + (1 : Int32)) + (1 : Int32)) + (1 : Int32)) + (1 : Int32)) + (1 : Int32)) + (1 : Int32)) + (1 : Int32)) + (1 : Int32)) _ (by decide))))))))))
  exact ⟨8, hx, hk⟩
theorem z_feed (x1 : Int64) : ∃ (r : Int32) (xo1 : Int32) (xo2 : (Nat → Int32)), f_X11_feed (0 : Int32) (fun _ => (0 : Int32)) x1 = some (r, xo1, xo2) ∧ ∃ (ko1 : Int32), ∃ (ko2 : (Nat → Int32)), f_X12_feed (0 : Int32) (fun _ => (0 : Int32)) x1 = some (r, ko1, ko2) := by
  obtain ⟨r, h1, h2⟩ := zz_feed x1
  obtain ⟨xo1, xo2, h1⟩ := ex3 h1
  obtain ⟨ko1, ko2, h2⟩ := ex3 h2
  exact ⟨r, xo1, xo2, h1, ko1, ko2, h2⟩
set_option maxRecDepth 100000 in
set_option maxHeartbeats 4000000 in
theorem zz_end (x1 : Int32) : ∃ r : Int32, (Option.map Prod.fst (f_X11_end (0 : Int32) x1)) = some r ∧ (Option.map Prod.fst (f_X12_end (0 : Int32) x1)) = some r := by
  rcases rgg x1 0 0 (by decide) with h | h | ⟨g1, g2, j, hj, -, rfl⟩
  · exact ⟨-1, by first | (rw [f_X11_end, if_pos (show x1 < (0 : Int32) from lt_l (by decide) h)]; done) | (rw [f_X11_end, if_pos (show x1 < (0 : Int32) from lt_l (by decide) h)]; rfl), by first | (rw [f_X12_end, b0 (in_L (lo := (0 : Int64)) (hi := ((0 : Int32)).toInt64) h)]; done) | (rw [f_X12_end, b0 (in_L (lo := (0 : Int64)) (hi := ((0 : Int32)).toInt64) h)]; rfl)⟩
  · exact ⟨-1, by first | (rw [f_X11_end, if_neg (show ¬ x1 < (0 : Int32) from nlt_l (n := 0) (by decide) (by omega)), if_neg (show ¬ x1 ≤ (0 : Int32) from nle_l (n := 0) (by decide) (by omega))]; done) | (rw [f_X11_end, if_neg (show ¬ x1 < (0 : Int32) from nlt_l (n := 0) (by decide) (by omega)), if_neg (show ¬ x1 ≤ (0 : Int32) from nle_l (n := 0) (by decide) (by omega))]; rfl), by first | (rw [f_X12_end, b0 (in_H (lo := (0 : Int64)) (hi := ((0 : Int32)).toInt64) h)]; done) | (rw [f_X12_end, b0 (in_H (lo := (0 : Int64)) (hi := ((0 : Int32)).toInt64) h)]; rfl)⟩
  · exact eqs (co_dec (N := 1) (P := fun j => (Option.map Prod.fst (f_X11_end (0 : Int32) (nI j))) = (Option.map Prod.fst (f_X12_end (0 : Int32) (nI j))) ∧ ((Option.map Prod.fst (f_X11_end (0 : Int32) (nI j)))).isSome = true) (by decide +kernel) hj)
theorem z_end (x1 : Int32) : ∃ (r : Int32) (xo1 : Int32), f_X11_end (0 : Int32) x1 = some (r, xo1) ∧ ∃ (ko1 : Int32), f_X12_end (0 : Int32) x1 = some (r, ko1) := by
  obtain ⟨r, h1, h2⟩ := zz_end x1
  obtain ⟨xo1, h1⟩ := ex2 h1
  obtain ⟨ko1, h2⟩ := ex2 h2
  exact ⟨r, xo1, h1, ko1, h2⟩
set_option maxRecDepth 100000 in
set_option maxHeartbeats 4000000 in
theorem zz_text  : ∃ r : Int32, (Option.map Prod.fst (f_X11_text (4 : Int32) (0 : Int32) (fun _ => (0 : Int32)) (fun _ => (0 : Int32)) (0 : Int32) (0 : Int32) (0 : Int32) (0 : Int32) (fun _ => (0 : Int32)) (fun _ => (0 : Int32)) u_fill_0 (fun _ => (0 : Int32)) (fun _ => (0 : Int32)) (0 : Int32) (0 : Int32) (0 : Int32) (fun _ => (0 : Int32)) (0 : Int32) (fun _ => (0 : Int32)) (fun _ => (0 : Int32)) (fun _ => (0 : Int32)) (fun _ => (0 : Int32)) u_fill_0 (fun _ => (0 : Int32)) (fun _ => (0 : Int32)) (fun _ => (0 : Int32)))) = some r ∧ (Option.map Prod.fst (f_X12_text u_X12_init215_0 u_X12_init215_1 (0 : Int32) (0 : Int32) (0 : Int32) (0 : Int32) (0 : Int32) u_X12_init215_2 u_X12_init215_3 u_X12_init215_4 u_X12_init211_4 u_X12_init211_5 (fun _ => (0 : Int32)))) = some r := by
  exact eqs ⟨by decide +kernel, by decide +kernel⟩
theorem z_text  : ∃ (r : Int32) (xo1 : Int32) (xo2 : Int32) (xo3 : Int32) (xo4 : (Nat → Int32)) (xo5 : (Nat → Int32)) (xo6 : Int32) (xo7 : Int32) (xo8 : Int32) (xo9 : Int32) (xo10 : (Nat → Int32)) (xo11 : (Nat → Int32)) (xo12 : (Nat → Int32)) (xo13 : (Nat → Int32)) (xo14 : (Nat → Int32)) (xo15 : Int32) (xo16 : Int32) (xo17 : Int32) (xo18 : Int32) (xo19 : Int32) (xo20 : Int32) (xo21 : Int32) (xo22 : Int32) (xo23 : Int32) (xo24 : Int32) (xo25 : Int32) (xo26 : (Nat → Int32)) (xo27 : Int32) (xo28 : Int32) (xo29 : Int32) (xo30 : Int32) (xo31 : (Nat → Int32)) (xo32 : (Nat → Int32)) (xo33 : (Nat → Int32)) (xo34 : (Nat → Int32)) (xo35 : (Nat → Int32)), f_X11_text (4 : Int32) (0 : Int32) (fun _ => (0 : Int32)) (fun _ => (0 : Int32)) (0 : Int32) (0 : Int32) (0 : Int32) (0 : Int32) (fun _ => (0 : Int32)) (fun _ => (0 : Int32)) u_fill_0 (fun _ => (0 : Int32)) (fun _ => (0 : Int32)) (0 : Int32) (0 : Int32) (0 : Int32) (fun _ => (0 : Int32)) (0 : Int32) (fun _ => (0 : Int32)) (fun _ => (0 : Int32)) (fun _ => (0 : Int32)) (fun _ => (0 : Int32)) u_fill_0 (fun _ => (0 : Int32)) (fun _ => (0 : Int32)) (fun _ => (0 : Int32)) = some (r, xo1, xo2, xo3, xo4, xo5, xo6, xo7, xo8, xo9, xo10, xo11, xo12, xo13, xo14, xo15, xo16, xo17, xo18, xo19, xo20, xo21, xo22, xo23, xo24, xo25, xo26, xo27, xo28, xo29, xo30, xo31, xo32, xo33, xo34, xo35) ∧ ∃ (ko1 : Int32), ∃ (ko2 : Int32), ∃ (ko3 : Int32), ∃ (ko4 : Int32), ∃ (ko5 : Int32), ∃ (ko6 : Int32), ∃ (ko7 : Int32), ∃ (ko8 : Int32), ∃ (ko9 : Int32), ∃ (ko10 : Int32), ∃ (ko11 : Int32), ∃ (ko12 : Int32), ∃ (ko13 : Int32), ∃ (ko14 : (Nat → Int32)), ∃ (ko15 : (Nat → Int32)), ∃ (ko16 : (Nat → Int32)), ∃ (ko17 : (Nat → Int32)), ∃ (ko18 : (Nat → Int32)), f_X12_text u_X12_init215_0 u_X12_init215_1 (0 : Int32) (0 : Int32) (0 : Int32) (0 : Int32) (0 : Int32) u_X12_init215_2 u_X12_init215_3 u_X12_init215_4 u_X12_init211_4 u_X12_init211_5 (fun _ => (0 : Int32)) = some (r, ko1, ko2, ko3, ko4, ko5, ko6, ko7, ko8, ko9, ko10, ko11, ko12, ko13, ko14, ko15, ko16, ko17, ko18) := by
  obtain ⟨r, h1, h2⟩ := zz_text 
  obtain ⟨xo1, xo2, xo3, xo4, xo5, xo6, xo7, xo8, xo9, xo10, xo11, xo12, xo13, xo14, xo15, xo16, xo17, xo18, xo19, xo20, xo21, xo22, xo23, xo24, xo25, xo26, xo27, xo28, xo29, xo30, xo31, xo32, xo33, xo34, xo35, h1⟩ := ex36 h1
  obtain ⟨ko1, ko2, ko3, ko4, ko5, ko6, ko7, ko8, ko9, ko10, ko11, ko12, ko13, ko14, ko15, ko16, ko17, ko18, h2⟩ := ex19 h2
  exact ⟨r, xo1, xo2, xo3, xo4, xo5, xo6, xo7, xo8, xo9, xo10, xo11, xo12, xo13, xo14, xo15, xo16, xo17, xo18, xo19, xo20, xo21, xo22, xo23, xo24, xo25, xo26, xo27, xo28, xo29, xo30, xo31, xo32, xo33, xo34, xo35, h1, ko1, ko2, ko3, ko4, ko5, ko6, ko7, ko8, ko9, ko10, ko11, ko12, ko13, ko14, ko15, ko16, ko17, ko18, h2⟩
set_option maxRecDepth 100000 in
set_option maxHeartbeats 4000000 in
theorem zz_fault  : ∃ r : Int32, (f_X11_fault (0 : Int32)) = some r ∧ (f_X12_fault (0 : Int32)) = some r := by
  exact eqs ⟨by decide +kernel, by decide +kernel⟩
theorem z_fault  : ∃ (r : Int32), f_X11_fault (0 : Int32) = some r ∧ f_X12_fault (0 : Int32) = some r := by
  obtain ⟨r, h1, h2⟩ := zz_fault 
  exact ⟨r, h1, h2⟩
set_option maxRecDepth 100000 in
set_option maxHeartbeats 4000000 in
theorem zz_rule (x1 : Int32) : ∃ r : Int32, (f_X11_rule (4 : Int32) (0 : Int32) (0 : Int32) (0 : Int32) (0 : Int32) x1) = some r ∧ (f_X12_rule u_X12_init215_0 u_X12_init215_1 u_X12_init215_2 x1) = some r := by
  rcases rgg x1 0 4 (by decide) with h | h | ⟨g1, g2, j, hj, -, rfl⟩
  · have e0 : ¬ x1 = (0 : Int32) := ne_l (n := 0) (by decide) (by omega)
    have e1 : ¬ x1 = (1 : Int32) := ne_l (n := 1) (by decide) (by omega)
    have e2 : ¬ x1 = (2 : Int32) := ne_l (n := 2) (by decide) (by omega)
    have e3 : ¬ x1 = (3 : Int32) := ne_l (n := 3) (by decide) (by omega)
    have e4 : ¬ x1 = (4 : Int32) := ne_l (n := 4) (by decide) (by omega)
    exact ⟨-1, by first | (rw [f_X11_rule, if_neg e0, if_neg e1, if_neg e2, if_neg e3, if_neg e4]; done) | (rw [f_X11_rule, if_neg e0, if_neg e1, if_neg e2, if_neg e3, if_neg e4]; rfl), by first | (rw [f_X12_rule, if_neg e0, if_neg e1, if_neg e2, if_neg e3, if_neg e4]; done) | (rw [f_X12_rule, if_neg e0, if_neg e1, if_neg e2, if_neg e3, if_neg e4]; rfl)⟩
  · have e0 : ¬ x1 = (0 : Int32) := ne_l (n := 0) (by decide) (by omega)
    have e1 : ¬ x1 = (1 : Int32) := ne_l (n := 1) (by decide) (by omega)
    have e2 : ¬ x1 = (2 : Int32) := ne_l (n := 2) (by decide) (by omega)
    have e3 : ¬ x1 = (3 : Int32) := ne_l (n := 3) (by decide) (by omega)
    have e4 : ¬ x1 = (4 : Int32) := ne_l (n := 4) (by decide) (by omega)
    exact ⟨-1, by first | (rw [f_X11_rule, if_neg e0, if_neg e1, if_neg e2, if_neg e3, if_neg e4]; done) | (rw [f_X11_rule, if_neg e0, if_neg e1, if_neg e2, if_neg e3, if_neg e4]; rfl), by first | (rw [f_X12_rule, if_neg e0, if_neg e1, if_neg e2, if_neg e3, if_neg e4]; done) | (rw [f_X12_rule, if_neg e0, if_neg e1, if_neg e2, if_neg e3, if_neg e4]; rfl)⟩
  · exact eqs (co_dec (N := 5) (P := fun j => (f_X11_rule (4 : Int32) (0 : Int32) (0 : Int32) (0 : Int32) (0 : Int32) (nI j)) = (f_X12_rule u_X12_init215_0 u_X12_init215_1 u_X12_init215_2 (nI j)) ∧ ((f_X11_rule (4 : Int32) (0 : Int32) (0 : Int32) (0 : Int32) (0 : Int32) (nI j))).isSome = true) (by decide +kernel) hj)
theorem z_rule (x1 : Int32) : ∃ (r : Int32), f_X11_rule (4 : Int32) (0 : Int32) (0 : Int32) (0 : Int32) (0 : Int32) x1 = some r ∧ f_X12_rule u_X12_init215_0 u_X12_init215_1 u_X12_init215_2 x1 = some r := by
  obtain ⟨r, h1, h2⟩ := zz_rule x1
  exact ⟨r, h1, h2⟩
set_option maxRecDepth 100000 in
set_option maxHeartbeats 4000000 in
theorem zz_pot (x1 : Int32) : ∃ r : Int32, (f_X11_pot (4 : Int32) (fun _ => (0 : Int32)) x1) = some r ∧ (f_X12_pot u_X12_init215_0 u_X12_init215_2 x1) = some r := by
  rcases seat_c x1 with ⟨h1, h2⟩ | ⟨h1, h2, j, hj, rfl⟩
  · exact ⟨-1, by first | (rw [f_X11_pot, b0 h1]; done) | (rw [f_X11_pot, b0 h1]; rfl), by first | (rw [f_X12_pot, b0 h2]; done) | (rw [f_X12_pot, b0 h2]; rfl)⟩
  · exact eqs (co_dec (N := 4) (P := fun j => (f_X11_pot (4 : Int32) (fun _ => (0 : Int32)) (nI j)) = (f_X12_pot u_X12_init215_0 u_X12_init215_2 (nI j)) ∧ ((f_X11_pot (4 : Int32) (fun _ => (0 : Int32)) (nI j))).isSome = true) (by decide +kernel) hj)
theorem z_pot (x1 : Int32) : ∃ (r : Int32), f_X11_pot (4 : Int32) (fun _ => (0 : Int32)) x1 = some r ∧ f_X12_pot u_X12_init215_0 u_X12_init215_2 x1 = some r := by
  obtain ⟨r, h1, h2⟩ := zz_pot x1
  exact ⟨r, h1, h2⟩
set_option maxRecDepth 100000 in
set_option maxHeartbeats 4000000 in
theorem zz_one (x1 : Int32) (x2 : Int32) : ∃ r : Int32, (f_X11_one (4 : Int32) (fun _ => (0 : Int32)) (fun _ => (0 : Int32)) u_fill_0 (fun _ => (0 : Int32)) x1 x2) = some r ∧ (f_X12_one u_X12_init215_0 u_X12_init215_2 u_X12_init215_4 x1 x2) = some r := by
  rcases seat_c x1 with ⟨h1, h2⟩ | ⟨h1, h2, j, hj, rfl⟩
  · exact ⟨-1, by first | (rw [f_X11_one, b0 h1]; done) | (rw [f_X11_one, b0 h1]; rfl), by first | (rw [f_X12_one, b0 h2]; done) | (rw [f_X12_one, b0 h2]; rfl)⟩
  · rcases rgg x2 0 3 (by decide) with h | h | ⟨g1, g2, i, hi, -, rfl⟩
    · have e0 : ¬ x2 = (0 : Int32) := ne_l (n := 0) (by decide) (by omega)
      have e1 : ¬ x2 = (1 : Int32) := ne_l (n := 1) (by decide) (by omega)
      have e2 : ¬ x2 = (2 : Int32) := ne_l (n := 2) (by decide) (by omega)
      have e3 : ¬ x2 = (3 : Int32) := ne_l (n := 3) (by decide) (by omega)
      exact ⟨-1, by first | (rw [f_X11_one, b1 h1, if_neg e0, if_neg e1, if_neg e2, if_neg e3]; done) | (rw [f_X11_one, b1 h1, if_neg e0, if_neg e1, if_neg e2, if_neg e3]; rfl), by first | (rw [f_X12_one, b1 h2, if_neg e0, if_neg e1, if_neg e2, if_neg e3]; done) | (rw [f_X12_one, b1 h2, if_neg e0, if_neg e1, if_neg e2, if_neg e3]; rfl)⟩
    · have e0 : ¬ x2 = (0 : Int32) := ne_l (n := 0) (by decide) (by omega)
      have e1 : ¬ x2 = (1 : Int32) := ne_l (n := 1) (by decide) (by omega)
      have e2 : ¬ x2 = (2 : Int32) := ne_l (n := 2) (by decide) (by omega)
      have e3 : ¬ x2 = (3 : Int32) := ne_l (n := 3) (by decide) (by omega)
      exact ⟨-1, by first | (rw [f_X11_one, b1 h1, if_neg e0, if_neg e1, if_neg e2, if_neg e3]; done) | (rw [f_X11_one, b1 h1, if_neg e0, if_neg e1, if_neg e2, if_neg e3]; rfl), by first | (rw [f_X12_one, b1 h2, if_neg e0, if_neg e1, if_neg e2, if_neg e3]; done) | (rw [f_X12_one, b1 h2, if_neg e0, if_neg e1, if_neg e2, if_neg e3]; rfl)⟩
    · exact eqs (co2 (N := 4) (M := 4) (P := fun j i => (f_X11_one (4 : Int32) (fun _ => (0 : Int32)) (fun _ => (0 : Int32)) u_fill_0 (fun _ => (0 : Int32)) (nI j) (nI i)) = (f_X12_one u_X12_init215_0 u_X12_init215_2 u_X12_init215_4 (nI j) (nI i)) ∧ ((f_X11_one (4 : Int32) (fun _ => (0 : Int32)) (fun _ => (0 : Int32)) u_fill_0 (fun _ => (0 : Int32)) (nI j) (nI i))).isSome = true) (by decide +kernel) hj hi)
theorem z_one (x1 : Int32) (x2 : Int32) : ∃ (r : Int32), f_X11_one (4 : Int32) (fun _ => (0 : Int32)) (fun _ => (0 : Int32)) u_fill_0 (fun _ => (0 : Int32)) x1 x2 = some r ∧ f_X12_one u_X12_init215_0 u_X12_init215_2 u_X12_init215_4 x1 x2 = some r := by
  obtain ⟨r, h1, h2⟩ := zz_one x1 x2
  exact ⟨r, h1, h2⟩
set_option maxRecDepth 100000 in
set_option maxHeartbeats 4000000 in
theorem zz_stir (x1 : Int32) (x2 : Int32) : ∃ r : Int32, (f_X11_stir (4 : Int32) (0 : Int32) x1 x2) = some r ∧ (f_X12_stir u_X12_init215_0 u_X12_init215_1 (fun _ => (0 : Int32)) x1 x2) = some r := by
  exact ⟨-1, by first | (rw [f_X11_stir, b0 (stir_c x1).1]; done) | (rw [f_X11_stir, b0 (stir_c x1).1]; rfl), by first | (rw [f_X12_stir, b0 (stir_c x1).2]; done) | (rw [f_X12_stir, b0 (stir_c x1).2]; rfl)⟩
theorem z_stir (x1 : Int32) (x2 : Int32) : ∃ (r : Int32), f_X11_stir (4 : Int32) (0 : Int32) x1 x2 = some r ∧ f_X12_stir u_X12_init215_0 u_X12_init215_1 (fun _ => (0 : Int32)) x1 x2 = some r := by
  obtain ⟨r, h1, h2⟩ := zz_stir x1 x2
  exact ⟨r, h1, h2⟩
set_option maxRecDepth 100000 in
set_option maxHeartbeats 4000000 in
theorem zz_befriend (x1 : Int32) (x2 : Int32) (x3 : Int32) (hb : ∃ k, k < 2 ∧ x3 = nI k) : ∃ r : Int32, (Option.map Prod.fst (f_X11_befriend (4 : Int32) (fun _ => (0 : Int32)) x1 x2 x3)) = some r ∧ (Option.map Prod.fst (f_X12_befriend u_X12_init215_0 u_X12_init215_2 x1 x2 x3)) = some r := by
  rcases seat_c x1 with ⟨h1, h2⟩ | ⟨h1, h2, j, hj, rfl⟩
  · exact ⟨-1, by first | (rw [f_X11_befriend, b0 h1]; done) | (rw [f_X11_befriend, b0 h1]; rfl), by first | (rw [f_X12_befriend, b0 h2]; done) | (rw [f_X12_befriend, b0 h2]; rfl)⟩
  · rcases seat_c x2 with ⟨g1, g2⟩ | ⟨g1, g2, i, hi, rfl⟩
    · exact ⟨-1, by first | (rw [f_X11_befriend, b1 h1, b0 g1]; done) | (rw [f_X11_befriend, b1 h1, b0 g1]; rfl), by first | (rw [f_X12_befriend, b1 h2, b0 g2]; done) | (rw [f_X12_befriend, b1 h2, b0 g2]; rfl)⟩
    · obtain ⟨k, hk, rfl⟩ := hb
      exact eqs (co3 (N := 4) (M := 4) (K := 2) (P := fun j i k => (Option.map Prod.fst (f_X11_befriend (4 : Int32) (fun _ => (0 : Int32)) (nI j) (nI i) (nI k))) = (Option.map Prod.fst (f_X12_befriend u_X12_init215_0 u_X12_init215_2 (nI j) (nI i) (nI k))) ∧ ((Option.map Prod.fst (f_X11_befriend (4 : Int32) (fun _ => (0 : Int32)) (nI j) (nI i) (nI k)))).isSome = true) (by decide +kernel) hj hi hk)
theorem z_befriend (x1 : Int32) (x2 : Int32) (x3 : Int32) (hb : ∃ k, k < 2 ∧ x3 = nI k) : ∃ (r : Int32) (xo1 : (Nat → Int32)), f_X11_befriend (4 : Int32) (fun _ => (0 : Int32)) x1 x2 x3 = some (r, xo1) ∧ ∃ (ko1 : (Nat → Int32)), f_X12_befriend u_X12_init215_0 u_X12_init215_2 x1 x2 x3 = some (r, ko1) := by
  obtain ⟨r, h1, h2⟩ := zz_befriend x1 x2 x3 hb
  obtain ⟨xo1, h1⟩ := ex2 h1
  obtain ⟨ko1, h2⟩ := ex2 h2
  exact ⟨r, xo1, h1, ko1, h2⟩
set_option maxRecDepth 100000 in
set_option maxHeartbeats 4000000 in
theorem zz_spoon (x1 : Int32) (x2 : Int32) : ∃ r : Int32, (Option.map Prod.fst (f_X11_spoon (4 : Int32) u_fill_0 x1 x2)) = some r ∧ (Option.map Prod.fst (f_X12_spoon u_X12_init215_0 u_X12_init215_2 x1 x2)) = some r := by
  rcases seat_c x1 with ⟨h1, h2⟩ | ⟨h1, h2, j, hj, rfl⟩
  · exact ⟨-1, by first | (rw [f_X11_spoon, b0 h1]; done) | (rw [f_X11_spoon, b0 h1]; rfl), by first | (rw [f_X12_spoon, b0 h2]; done) | (rw [f_X12_spoon, b0 h2]; rfl)⟩
  · rcases rgg x2 1 9 (by decide) with h | h | ⟨g1, g2, i, hi, hi2, rfl⟩
    · exact ⟨-1, by first | (rw [f_X11_spoon, b1 h1, if_pos (show x2 < (1 : Int32) from lt_l (by decide) h)]; done) | (rw [f_X11_spoon, b1 h1, if_pos (show x2 < (1 : Int32) from lt_l (by decide) h)]; rfl), by first | (rw [f_X12_spoon, b1 h2, b0 (in_L (lo := (1 : Int64)) (hi := (9 : Int64)) h)]; done) | (rw [f_X12_spoon, b1 h2, b0 (in_L (lo := (1 : Int64)) (hi := (9 : Int64)) h)]; rfl)⟩
    · exact ⟨-1, by first | (rw [f_X11_spoon, b1 h1, if_neg (show ¬ x2 < (1 : Int32) from nlt_l (n := 1) (by decide) (by omega)), if_neg (show ¬ x2 ≤ (9 : Int32) from nle_l (n := 9) (by decide) (by omega))]; done) | (rw [f_X11_spoon, b1 h1, if_neg (show ¬ x2 < (1 : Int32) from nlt_l (n := 1) (by decide) (by omega)), if_neg (show ¬ x2 ≤ (9 : Int32) from nle_l (n := 9) (by decide) (by omega))]; rfl), by first | (rw [f_X12_spoon, b1 h2, b0 (in_H (lo := (1 : Int64)) (hi := (9 : Int64)) h)]; done) | (rw [f_X12_spoon, b1 h2, b0 (in_H (lo := (1 : Int64)) (hi := (9 : Int64)) h)]; rfl)⟩
    · exact eqs (co2 (N := 4) (M := 10) (P := fun j i => 1 ≤ i → (Option.map Prod.fst (f_X11_spoon (4 : Int32) u_fill_0 (nI j) (nI i))) = (Option.map Prod.fst (f_X12_spoon u_X12_init215_0 u_X12_init215_2 (nI j) (nI i))) ∧ ((Option.map Prod.fst (f_X11_spoon (4 : Int32) u_fill_0 (nI j) (nI i)))).isSome = true) (by decide +kernel) hj hi hi2)
theorem z_spoon (x1 : Int32) (x2 : Int32) : ∃ (r : Int32) (xo1 : (Nat → Int32)), f_X11_spoon (4 : Int32) u_fill_0 x1 x2 = some (r, xo1) ∧ ∃ (ko1 : (Nat → Int32)), f_X12_spoon u_X12_init215_0 u_X12_init215_2 x1 x2 = some (r, ko1) := by
  obtain ⟨r, h1, h2⟩ := zz_spoon x1 x2
  obtain ⟨xo1, h1⟩ := ex2 h1
  obtain ⟨ko1, h2⟩ := ex2 h2
  exact ⟨r, xo1, h1, ko1, h2⟩
set_option maxRecDepth 100000 in
set_option maxHeartbeats 4000000 in
theorem zz_crown (x1 : Int32) : ∃ r : Int32, (Option.map Prod.fst (f_X11_crown (4 : Int32) (0 : Int32) x1)) = some r ∧ (Option.map Prod.fst (f_X12_crown u_X12_init215_0 u_X12_init215_2 x1)) = some r := by
  rcases seat_c x1 with ⟨h1, h2⟩ | ⟨h1, h2, j, hj, rfl⟩
  · exact ⟨-1, by first | (rw [f_X11_crown, b0 h1]; done) | (rw [f_X11_crown, b0 h1]; rfl), by first | (rw [f_X12_crown, b0 h2]; done) | (rw [f_X12_crown, b0 h2]; rfl)⟩
  · exact eqs (co_dec (N := 4) (P := fun j => (Option.map Prod.fst (f_X11_crown (4 : Int32) (0 : Int32) (nI j))) = (Option.map Prod.fst (f_X12_crown u_X12_init215_0 u_X12_init215_2 (nI j))) ∧ ((Option.map Prod.fst (f_X11_crown (4 : Int32) (0 : Int32) (nI j)))).isSome = true) (by decide +kernel) hj)
theorem z_crown (x1 : Int32) : ∃ (r : Int32) (xo1 : Int32), f_X11_crown (4 : Int32) (0 : Int32) x1 = some (r, xo1) ∧ ∃ (ko1 : (Nat → Int32)), f_X12_crown u_X12_init215_0 u_X12_init215_2 x1 = some (r, ko1) := by
  obtain ⟨r, h1, h2⟩ := zz_crown x1
  obtain ⟨xo1, h1⟩ := ex2 h1
  obtain ⟨ko1, h2⟩ := ex2 h2
  exact ⟨r, xo1, h1, ko1, h2⟩
set_option maxRecDepth 100000 in
set_option maxHeartbeats 4000000 in
theorem zz_fill (x1 : Int32) (x2 : Int32) : ∃ r : Int32, (Option.map Prod.fst (f_X11_fill (4 : Int32) (fun _ => (0 : Int32)) x1 x2)) = some r ∧ (Option.map Prod.fst (f_X12_fill u_X12_init215_0 u_X12_init215_2 x1 x2)) = some r := by
  rcases seat_c x1 with ⟨h1, h2⟩ | ⟨h1, h2, j, hj, rfl⟩
  · exact ⟨-1, by first | (rw [f_X11_fill, b0 h1]; done) | (rw [f_X11_fill, b0 h1]; rfl), by first | (rw [f_X12_fill, b0 h2]; done) | (rw [f_X12_fill, b0 h2]; rfl)⟩
  · rcases rgg x2 0 9 (by decide) with h | h | ⟨g1, g2, i, hi, hi2, rfl⟩
    · exact ⟨-1, by first | (rw [f_X11_fill, b1 h1, if_pos (show x2 < (0 : Int32) from lt_l (by decide) h)]; done) | (rw [f_X11_fill, b1 h1, if_pos (show x2 < (0 : Int32) from lt_l (by decide) h)]; rfl), by first | (rw [f_X12_fill, b1 h2, b0 (in_L (lo := (0 : Int64)) (hi := (9 : Int64)) h)]; done) | (rw [f_X12_fill, b1 h2, b0 (in_L (lo := (0 : Int64)) (hi := (9 : Int64)) h)]; rfl)⟩
    · exact ⟨-1, by first | (rw [f_X11_fill, b1 h1, if_neg (show ¬ x2 < (0 : Int32) from nlt_l (n := 0) (by decide) (by omega)), if_neg (show ¬ x2 ≤ (9 : Int32) from nle_l (n := 9) (by decide) (by omega))]; done) | (rw [f_X11_fill, b1 h1, if_neg (show ¬ x2 < (0 : Int32) from nlt_l (n := 0) (by decide) (by omega)), if_neg (show ¬ x2 ≤ (9 : Int32) from nle_l (n := 9) (by decide) (by omega))]; rfl), by first | (rw [f_X12_fill, b1 h2, b0 (in_H (lo := (0 : Int64)) (hi := (9 : Int64)) h)]; done) | (rw [f_X12_fill, b1 h2, b0 (in_H (lo := (0 : Int64)) (hi := (9 : Int64)) h)]; rfl)⟩
    · exact eqs (co2 (N := 4) (M := 10) (P := fun j i => 0 ≤ i → (Option.map Prod.fst (f_X11_fill (4 : Int32) (fun _ => (0 : Int32)) (nI j) (nI i))) = (Option.map Prod.fst (f_X12_fill u_X12_init215_0 u_X12_init215_2 (nI j) (nI i))) ∧ ((Option.map Prod.fst (f_X11_fill (4 : Int32) (fun _ => (0 : Int32)) (nI j) (nI i)))).isSome = true) (by decide +kernel) hj hi hi2)
theorem z_fill (x1 : Int32) (x2 : Int32) : ∃ (r : Int32) (xo1 : (Nat → Int32)), f_X11_fill (4 : Int32) (fun _ => (0 : Int32)) x1 x2 = some (r, xo1) ∧ ∃ (ko1 : (Nat → Int32)), f_X12_fill u_X12_init215_0 u_X12_init215_2 x1 x2 = some (r, ko1) := by
  obtain ⟨r, h1, h2⟩ := zz_fill x1 x2
  obtain ⟨xo1, h1⟩ := ex2 h1
  obtain ⟨ko1, h2⟩ := ex2 h2
  exact ⟨r, xo1, h1, ko1, h2⟩
set_option maxRecDepth 100000 in
set_option maxHeartbeats 4000000 in
theorem zz_bowl (x1 : Int32) (x2 : Int32) (x3 : Int32) : ∃ r : Int32, (f_X11_bowl (4 : Int32) (0 : Int32) x1 x2 x3) = some r ∧ (f_X12_bowl u_X12_init215_0 u_X12_init215_1 x1 x2 x3) = some r := by
  rcases seat_c x1 with ⟨h1, h2⟩ | ⟨h1, h2, j, hj, e⟩
  · exact ⟨-1, by first | (rw [f_X11_bowl, b0 h1]; done) | (rw [f_X11_bowl, b0 h1]; rfl), by first | (rw [f_X12_bowl, b0 h2]; done) | (rw [f_X12_bowl, b0 h2]; rfl)⟩
  · rcases seat_c x2 with ⟨g1, g2⟩ | ⟨g1, g2, i, hi, e2⟩
    · exact ⟨-1, by first | (rw [f_X11_bowl, b1 h1, b0 g1]; done) | (rw [f_X11_bowl, b1 h1, b0 g1]; rfl), by first | (rw [f_X12_bowl, b1 h2, b0 g2]; done) | (rw [f_X12_bowl, b1 h2, b0 g2]; rfl)⟩
    · exact ⟨-1, by first | (rw [f_X11_bowl, b1 h1, b1 g1, b0 (stir_c x3).1]; done) | (rw [f_X11_bowl, b1 h1, b1 g1, b0 (stir_c x3).1]; rfl), by first | (rw [f_X12_bowl, b1 h2, b1 g2, b0 (stir_c x3).2]; done) | (rw [f_X12_bowl, b1 h2, b1 g2, b0 (stir_c x3).2]; rfl)⟩
theorem z_bowl (x1 : Int32) (x2 : Int32) (x3 : Int32) : ∃ (r : Int32), f_X11_bowl (4 : Int32) (0 : Int32) x1 x2 x3 = some r ∧ f_X12_bowl u_X12_init215_0 u_X12_init215_1 x1 x2 x3 = some r := by
  obtain ⟨r, h1, h2⟩ := zz_bowl x1 x2 x3
  exact ⟨r, h1, h2⟩
set_option maxRecDepth 100000 in
set_option maxHeartbeats 4000000 in
theorem zz_ladle (x1 : Int32) (x2 : Int32) (x3 : Int32) : ∃ r : Int32, (f_X11_ladle (4 : Int32) (0 : Int32) x1 x2 x3) = some r ∧ (f_X12_ladle u_X12_init215_0 u_X12_init215_1 x1 x2 x3) = some r := by
  rcases seat_c x1 with ⟨h1, h2⟩ | ⟨h1, h2, j, hj, e⟩
  · exact ⟨-1, by first | (rw [f_X11_ladle, b0 h1]; done) | (rw [f_X11_ladle, b0 h1]; rfl), by first | (rw [f_X12_ladle, b0 h2]; done) | (rw [f_X12_ladle, b0 h2]; rfl)⟩
  · rcases seat_c x2 with ⟨g1, g2⟩ | ⟨g1, g2, i, hi, e2⟩
    · exact ⟨-1, by first | (rw [f_X11_ladle, b1 h1, b0 g1]; done) | (rw [f_X11_ladle, b1 h1, b0 g1]; rfl), by first | (rw [f_X12_ladle, b1 h2, b0 g2]; done) | (rw [f_X12_ladle, b1 h2, b0 g2]; rfl)⟩
    · exact ⟨-1, by first | (rw [f_X11_ladle, b1 h1, b1 g1, b0 (stir_c x3).1]; done) | (rw [f_X11_ladle, b1 h1, b1 g1, b0 (stir_c x3).1]; rfl), by first | (rw [f_X12_ladle, b1 h2, b1 g2, b0 (stir_c x3).2]; done) | (rw [f_X12_ladle, b1 h2, b1 g2, b0 (stir_c x3).2]; rfl)⟩
theorem z_ladle (x1 : Int32) (x2 : Int32) (x3 : Int32) : ∃ (r : Int32), f_X11_ladle (4 : Int32) (0 : Int32) x1 x2 x3 = some r ∧ f_X12_ladle u_X12_init215_0 u_X12_init215_1 x1 x2 x3 = some r := by
  obtain ⟨r, h1, h2⟩ := zz_ladle x1 x2 x3
  exact ⟨r, h1, h2⟩
set_option maxRecDepth 100000 in
set_option maxHeartbeats 4000000 in
theorem zz_next (x1 : Int32) (x2 : Int32) : ∃ r : Int32, (f_X11_next (4 : Int32) (0 : Int32) x1 x2) = some r ∧ (f_X12_next u_X12_init215_0 u_X12_init215_1 x1 x2) = some r := by
  rcases seat_c x1 with ⟨h1, h2⟩ | ⟨h1, h2, j, hj, e⟩
  · exact ⟨-1, by first | (rw [f_X11_next, b0 h1]; done) | (rw [f_X11_next, b0 h1]; rfl), by first | (rw [f_X12_next, b0 h2]; done) | (rw [f_X12_next, b0 h2]; rfl)⟩
  · exact ⟨-1, by first | (rw [f_X11_next, b1 h1, b0 (stir_c x2).1]; done) | (rw [f_X11_next, b1 h1, b0 (stir_c x2).1]; rfl), by first | (rw [f_X12_next, b1 h2, b0 (stir_c x2).2]; done) | (rw [f_X12_next, b1 h2, b0 (stir_c x2).2]; rfl)⟩
theorem z_next (x1 : Int32) (x2 : Int32) : ∃ (r : Int32), f_X11_next (4 : Int32) (0 : Int32) x1 x2 = some r ∧ f_X12_next u_X12_init215_0 u_X12_init215_1 x1 x2 = some r := by
  obtain ⟨r, h1, h2⟩ := zz_next x1 x2
  exact ⟨r, h1, h2⟩
set_option maxRecDepth 100000 in
set_option maxHeartbeats 4000000 in
theorem zz_day (x1 : Int32) : ∃ r : Int32, (f_X11_day (0 : Int32) (0 : Int32) x1) = some r ∧ (f_X12_day u_X12_init215_1 u_X12_init215_2 x1) = some r := by
  exact ⟨-1, by first | (rw [f_X11_day, b0 (stir_c x1).1]; done) | (rw [f_X11_day, b0 (stir_c x1).1]; rfl), by first | (rw [f_X12_day, b0 (stir_c x1).2]; done) | (rw [f_X12_day, b0 (stir_c x1).2]; rfl)⟩
theorem z_day (x1 : Int32) : ∃ (r : Int32), f_X11_day (0 : Int32) (0 : Int32) x1 = some r ∧ f_X12_day u_X12_init215_1 u_X12_init215_2 x1 = some r := by
  obtain ⟨r, h1, h2⟩ := zz_day x1
  exact ⟨r, h1, h2⟩
set_option maxRecDepth 100000 in
set_option maxHeartbeats 4000000 in
theorem zz_hungry  : ∃ r : Int32, (f_X11_hungry (4 : Int32) (fun _ => (0 : Int32)) (0 : Int32) (fun _ => (0 : Int32))) = some r ∧ (f_X12_hungry u_X12_init215_0 u_X12_init215_2 u_X12_init215_4) = some r := by
  exact eqs ⟨by decide +kernel, by decide +kernel⟩
theorem z_hungry  : ∃ (r : Int32), f_X11_hungry (4 : Int32) (fun _ => (0 : Int32)) (0 : Int32) (fun _ => (0 : Int32)) = some r ∧ f_X12_hungry u_X12_init215_0 u_X12_init215_2 u_X12_init215_4 = some r := by
  obtain ⟨r, h1, h2⟩ := zz_hungry 
  exact ⟨r, h1, h2⟩
set_option maxRecDepth 100000 in
set_option maxHeartbeats 4000000 in
theorem zz_chance (x1 : Int32) (x2 : Int32) (x3 : Int32) : ∃ r : Int64, (f_X11_chance (4 : Int32) (0 : Int32) x1 x2 x3) = some r ∧ (f_X12_chance u_X12_init215_0 u_X12_init215_1 x1 x2 x3) = some r := by
  rcases seat_c x1 with ⟨s1, s2⟩ | ⟨s1, s2, k, hk, e3⟩
  · exact ⟨-1, by first | (rw [f_X11_chance, b0 s1]; done) | (rw [f_X11_chance, b0 s1]; rfl), by first | (rw [f_X12_chance, b0 s2]; done) | (rw [f_X12_chance, b0 s2]; rfl)⟩
  · rcases rgg x2 0 10 (by decide) with h | h | ⟨g1, g2, j, hj, -, e⟩
    · exact ⟨-1, by first | (rw [f_X11_chance, b1 s1, if_pos (show x2 < (0 : Int32) from lt_l (by decide) h)]; done) | (rw [f_X11_chance, b1 s1, if_pos (show x2 < (0 : Int32) from lt_l (by decide) h)]; rfl), by first | (rw [f_X12_chance, b1 s2, b0 (in_L (lo := (0 : Int64)) (hi := (10 : Int64)) h)]; done) | (rw [f_X12_chance, b1 s2, b0 (in_L (lo := (0 : Int64)) (hi := (10 : Int64)) h)]; rfl)⟩
    · exact ⟨-1, by first | (rw [f_X11_chance, b1 s1, if_neg (show ¬ x2 < (0 : Int32) from nlt_l (n := 0) (by decide) (by omega)), if_pos (show (10 : Int32) < x2 from gt_l (by decide) h)]; done) | (rw [f_X11_chance, b1 s1, if_neg (show ¬ x2 < (0 : Int32) from nlt_l (n := 0) (by decide) (by omega)), if_pos (show (10 : Int32) < x2 from gt_l (by decide) h)]; rfl), by first | (rw [f_X12_chance, b1 s2, b0 (in_H (lo := (0 : Int64)) (hi := (10 : Int64)) h)]; done) | (rw [f_X12_chance, b1 s2, b0 (in_H (lo := (0 : Int64)) (hi := (10 : Int64)) h)]; rfl)⟩
    · rcases part_c x3 with ⟨h1, h2⟩ | ⟨h1, h2, i, hi, rfl⟩
      · exact ⟨-1, by first | (rw [f_X11_chance, b1 s1, if_neg (show ¬ x2 < (0 : Int32) from nlt_l (n := 0) (by decide) g1), if_neg (show ¬ (10 : Int32) < x2 from ngt_l (n := 10) (by decide) g2), b0 h1]; done) | (rw [f_X11_chance, b1 s1, if_neg (show ¬ x2 < (0 : Int32) from nlt_l (n := 0) (by decide) g1), if_neg (show ¬ (10 : Int32) < x2 from ngt_l (n := 10) (by decide) g2), b0 h1]; rfl), by first | (rw [f_X12_chance, b1 s2, b1 (in_I (lo := (0 : Int64)) (hi := (10 : Int64)) g1 g2), b0 h2]; done) | (rw [f_X12_chance, b1 s2, b1 (in_I (lo := (0 : Int64)) (hi := (10 : Int64)) g1 g2), b0 h2]; rfl)⟩
      · subst e; subst e3
        exact eqs (co3 (N := 4) (M := 11) (K := 2) (P := fun k j i => (f_X11_chance (4 : Int32) (0 : Int32) (nI k) (nI j) (nI i)) = (f_X12_chance u_X12_init215_0 u_X12_init215_1 (nI k) (nI j) (nI i)) ∧ ((f_X11_chance (4 : Int32) (0 : Int32) (nI k) (nI j) (nI i))).isSome = true) (by decide +kernel) hk hj hi)
theorem z_chance (x1 : Int32) (x2 : Int32) (x3 : Int32) : ∃ (r : Int64), f_X11_chance (4 : Int32) (0 : Int32) x1 x2 x3 = some r ∧ f_X12_chance u_X12_init215_0 u_X12_init215_1 x1 x2 x3 = some r := by
  obtain ⟨r, h1, h2⟩ := zz_chance x1 x2 x3
  exact ⟨r, h1, h2⟩
set_option maxRecDepth 100000 in
set_option maxHeartbeats 4000000 in
theorem zz_lasts (x1 : Int32) (x2 : Int32) : ∃ r : Int64, (f_X11_lasts (0 : Int32) x1 x2) = some r ∧ (f_X12_lasts u_X12_init215_1 x1 x2) = some r := by
  rcases rgg x1 0 10 (by decide) with h | h | ⟨g1, g2, j, hj, -, e⟩
  · exact ⟨-1, by first | (rw [f_X11_lasts, if_pos (show x1 < (0 : Int32) from lt_l (by decide) h)]; done) | (rw [f_X11_lasts, if_pos (show x1 < (0 : Int32) from lt_l (by decide) h)]; rfl), by first | (rw [f_X12_lasts, b0 (in_L (lo := (0 : Int64)) (hi := (10 : Int64)) h)]; done) | (rw [f_X12_lasts, b0 (in_L (lo := (0 : Int64)) (hi := (10 : Int64)) h)]; rfl)⟩
  · exact ⟨-1, by first | (rw [f_X11_lasts, if_neg (show ¬ x1 < (0 : Int32) from nlt_l (n := 0) (by decide) (by omega)), if_pos (show (10 : Int32) < x1 from gt_l (by decide) h)]; done) | (rw [f_X11_lasts, if_neg (show ¬ x1 < (0 : Int32) from nlt_l (n := 0) (by decide) (by omega)), if_pos (show (10 : Int32) < x1 from gt_l (by decide) h)]; rfl), by first | (rw [f_X12_lasts, b0 (in_H (lo := (0 : Int64)) (hi := (10 : Int64)) h)]; done) | (rw [f_X12_lasts, b0 (in_H (lo := (0 : Int64)) (hi := (10 : Int64)) h)]; rfl)⟩
  · rcases part_c x2 with ⟨h1, h2⟩ | ⟨h1, h2, i, hi, rfl⟩
    · exact ⟨-1, by first | (rw [f_X11_lasts, if_neg (show ¬ x1 < (0 : Int32) from nlt_l (n := 0) (by decide) g1), if_neg (show ¬ (10 : Int32) < x1 from ngt_l (n := 10) (by decide) g2), b0 h1]; done) | (rw [f_X11_lasts, if_neg (show ¬ x1 < (0 : Int32) from nlt_l (n := 0) (by decide) g1), if_neg (show ¬ (10 : Int32) < x1 from ngt_l (n := 10) (by decide) g2), b0 h1]; rfl), by first | (rw [f_X12_lasts, b1 (in_I (lo := (0 : Int64)) (hi := (10 : Int64)) g1 g2), b0 h2]; done) | (rw [f_X12_lasts, b1 (in_I (lo := (0 : Int64)) (hi := (10 : Int64)) g1 g2), b0 h2]; rfl)⟩
    · subst e
      exact eqs (co2 (N := 11) (M := 2) (P := fun j i => (f_X11_lasts (0 : Int32) (nI j) (nI i)) = (f_X12_lasts u_X12_init215_1 (nI j) (nI i)) ∧ ((f_X11_lasts (0 : Int32) (nI j) (nI i))).isSome = true) (by decide +kernel) hj hi)
theorem z_lasts (x1 : Int32) (x2 : Int32) : ∃ (r : Int64), f_X11_lasts (0 : Int32) x1 x2 = some r ∧ f_X12_lasts u_X12_init215_1 x1 x2 = some r := by
  obtain ⟨r, h1, h2⟩ := zz_lasts x1 x2
  exact ⟨r, h1, h2⟩
set_option maxRecDepth 100000 in
set_option maxHeartbeats 4000000 in
theorem zz_reign (x1 : Int32) (x2 : Int32) : ∃ r : Int32, (f_X11_reign (0 : Int32) x1 x2) = some r ∧ (f_X12_reign u_X12_init215_1 x1 x2) = some r := by
  rcases rgg x1 1 10 (by decide) with h | h | ⟨g1, g2, j, hj, hj1, e⟩
  · exact ⟨-1, by first | (rw [f_X11_reign, if_pos (show x1 < (1 : Int32) from lt_l (by decide) h)]; done) | (rw [f_X11_reign, if_pos (show x1 < (1 : Int32) from lt_l (by decide) h)]; rfl), by first | (rw [f_X12_reign, b0 (in_L (lo := (1 : Int64)) (hi := (10 : Int64)) h)]; done) | (rw [f_X12_reign, b0 (in_L (lo := (1 : Int64)) (hi := (10 : Int64)) h)]; rfl)⟩
  · exact ⟨-1, by first | (rw [f_X11_reign, if_neg (show ¬ x1 < (1 : Int32) from nlt_l (n := 1) (by decide) (by omega)), if_pos (show (10 : Int32) < x1 from gt_l (by decide) h)]; done) | (rw [f_X11_reign, if_neg (show ¬ x1 < (1 : Int32) from nlt_l (n := 1) (by decide) (by omega)), if_pos (show (10 : Int32) < x1 from gt_l (by decide) h)]; rfl), by first | (rw [f_X12_reign, b0 (in_H (lo := (1 : Int64)) (hi := (10 : Int64)) h)]; done) | (rw [f_X12_reign, b0 (in_H (lo := (1 : Int64)) (hi := (10 : Int64)) h)]; rfl)⟩
  · rcases rq_c x2 10 (by decide) with ⟨h0, h1, q⟩ | ⟨h1, rfl | ⟨i, hi, rfl⟩⟩
    · exact ⟨-1, by first | (rw [f_X11_reign, if_neg (show ¬ x1 < (1 : Int32) from nlt_l (n := 1) (by decide) g1), if_neg (show ¬ (10 : Int32) < x1 from ngt_l (n := 10) (by decide) g2), b0 (show f_X11_isRowQuestion x2 (10 : Int32) = some 0 from h1)]; done) | (rw [f_X11_reign, if_neg (show ¬ x1 < (1 : Int32) from nlt_l (n := 1) (by decide) g1), if_neg (show ¬ (10 : Int32) < x1 from ngt_l (n := 10) (by decide) g2), b0 (show f_X11_isRowQuestion x2 (10 : Int32) = some 0 from h1)]; rfl), by first | (rw [f_X12_reign, b1 (in_I (lo := (1 : Int64)) (hi := (10 : Int64)) g1 g2), jn_e, if_neg h0, b0 (q.elim (fun q => (in_L (lo := (10 : Int64)) (hi := (19 : Int64)) q)) (fun q => (in_H (lo := (10 : Int64)) (hi := (19 : Int64)) (show (19 : Int) < x2.toInt from by omega))))]; done) | (rw [f_X12_reign, b1 (in_I (lo := (1 : Int64)) (hi := (10 : Int64)) g1 g2), jn_e, if_neg h0, b0 (q.elim (fun q => (in_L (lo := (10 : Int64)) (hi := (19 : Int64)) q)) (fun q => (in_H (lo := (10 : Int64)) (hi := (19 : Int64)) (show (19 : Int) < x2.toInt from by omega))))]; rfl)⟩
    · subst e
      exact eqs (co_dec (N := 11) (P := fun j => 1 ≤ j → (f_X11_reign (0 : Int32) (nI j) (0 : Int32)) = (f_X12_reign u_X12_init215_1 (nI j) (0 : Int32)) ∧ ((f_X11_reign (0 : Int32) (nI j) (0 : Int32))).isSome = true) (by decide +kernel) hj hj1)
    · subst e
      exact eqs (co2 (N := 11) (M := 10) (P := fun j i => 1 ≤ j → (f_X11_reign (0 : Int32) (nI j) (nI (10 + i))) = (f_X12_reign u_X12_init215_1 (nI j) (nI (10 + i))) ∧ ((f_X11_reign (0 : Int32) (nI j) (nI (10 + i)))).isSome = true) (by decide +kernel) hj hi hj1)
theorem z_reign (x1 : Int32) (x2 : Int32) : ∃ (r : Int32), f_X11_reign (0 : Int32) x1 x2 = some r ∧ f_X12_reign u_X12_init215_1 x1 x2 = some r := by
  obtain ⟨r, h1, h2⟩ := zz_reign x1 x2
  exact ⟨r, h1, h2⟩
set_option maxRecDepth 100000 in
set_option maxHeartbeats 4000000 in
theorem zz_raise (x1 : Int32) (x2 : Int32) : ∃ r : Int32, (f_X11_raise (4 : Int32) (0 : Int32) x1 x2) = some r ∧ (f_X12_raise u_X12_init215_0 u_X12_init215_1 x1 x2) = some r := by
  rcases seat_c x1 with ⟨s1, s2⟩ | ⟨s1, s2, j, hj, e⟩
  · exact ⟨-1, by first | (rw [f_X11_raise, b0 s1]; done) | (rw [f_X11_raise, b0 s1]; rfl), by first | (rw [f_X12_raise, b0 s2]; done) | (rw [f_X12_raise, b0 s2]; rfl)⟩
  · rcases rq_c x2 10 (by decide) with ⟨h0, h1, q⟩ | ⟨h1, rfl | ⟨i, hi, rfl⟩⟩
    · exact ⟨-1, by first | (rw [f_X11_raise, b1 s1, b0 (show f_X11_isRowQuestion x2 (10 : Int32) = some 0 from h1)]; done) | (rw [f_X11_raise, b1 s1, b0 (show f_X11_isRowQuestion x2 (10 : Int32) = some 0 from h1)]; rfl), by first | (rw [f_X12_raise, b1 s2, jn_e, if_neg h0, b0 (q.elim (fun q => (in_L (lo := (10 : Int64)) (hi := (19 : Int64)) q)) (fun q => (in_H (lo := (10 : Int64)) (hi := (19 : Int64)) (show (19 : Int) < x2.toInt from by omega))))]; done) | (rw [f_X12_raise, b1 s2, jn_e, if_neg h0, b0 (q.elim (fun q => (in_L (lo := (10 : Int64)) (hi := (19 : Int64)) q)) (fun q => (in_H (lo := (10 : Int64)) (hi := (19 : Int64)) (show (19 : Int) < x2.toInt from by omega))))]; rfl)⟩
    · subst e
      exact eqs (co_dec (N := 4) (P := fun j => (f_X11_raise (4 : Int32) (0 : Int32) (nI j) (0 : Int32)) = (f_X12_raise u_X12_init215_0 u_X12_init215_1 (nI j) (0 : Int32)) ∧ ((f_X11_raise (4 : Int32) (0 : Int32) (nI j) (0 : Int32))).isSome = true) (by decide +kernel) hj)
    · subst e
      exact eqs (co2 (N := 4) (M := 10) (P := fun j i => (f_X11_raise (4 : Int32) (0 : Int32) (nI j) (nI (10 + i))) = (f_X12_raise u_X12_init215_0 u_X12_init215_1 (nI j) (nI (10 + i))) ∧ ((f_X11_raise (4 : Int32) (0 : Int32) (nI j) (nI (10 + i)))).isSome = true) (by decide +kernel) hj hi)
theorem z_raise (x1 : Int32) (x2 : Int32) : ∃ (r : Int32), f_X11_raise (4 : Int32) (0 : Int32) x1 x2 = some r ∧ f_X12_raise u_X12_init215_0 u_X12_init215_1 x1 x2 = some r := by
  obtain ⟨r, h1, h2⟩ := zz_raise x1 x2
  exact ⟨r, h1, h2⟩
set_option maxRecDepth 100000 in
set_option maxHeartbeats 4000000 in
theorem zz_coup (x1 : Int32) (x2 : Int32) (x3 : Int32) : ∃ r : Int32, (f_X11_coup (4 : Int32) (0 : Int32) x1 x2 x3) = some r ∧ (f_X12_coup u_X12_init215_0 u_X12_init215_1 x1 x2 x3) = some r := by
  rcases seat_c x1 with ⟨h1, h2⟩ | ⟨h1, h2, j, hj, e⟩
  · exact ⟨-1, by first | (rw [f_X11_coup, b0 h1]; done) | (rw [f_X11_coup, b0 h1]; rfl), by first | (rw [f_X12_coup, b0 h2]; done) | (rw [f_X12_coup, b0 h2]; rfl)⟩
  · exact ⟨-1, by first | (rw [f_X11_coup, b1 h1, b0 (stir_c x2).1]; done) | (rw [f_X11_coup, b1 h1, b0 (stir_c x2).1]; rfl), by first | (rw [f_X12_coup, b1 h2, b0 (stir_c x2).2]; done) | (rw [f_X12_coup, b1 h2, b0 (stir_c x2).2]; rfl)⟩
theorem z_coup (x1 : Int32) (x2 : Int32) (x3 : Int32) : ∃ (r : Int32), f_X11_coup (4 : Int32) (0 : Int32) x1 x2 x3 = some r ∧ f_X12_coup u_X12_init215_0 u_X12_init215_1 x1 x2 x3 = some r := by
  obtain ⟨r, h1, h2⟩ := zz_coup x1 x2 x3
  exact ⟨r, h1, h2⟩
set_option maxRecDepth 100000 in
set_option maxHeartbeats 4000000 in
theorem zz_firm (x1 : Int32) : ∃ r : Int32, (f_X11_firm (0 : Int32) x1) = some r ∧ (f_X12_firm u_X12_init215_0 u_X12_init215_1 x1) = some r := by
  exact ⟨-1, by first | (rw [f_X11_firm, b0 (stir_c x1).1]; done) | (rw [f_X11_firm, b0 (stir_c x1).1]; rfl), by first | (rw [f_X12_firm, b0 (stir_c x1).2]; done) | (rw [f_X12_firm, b0 (stir_c x1).2]; rfl)⟩
theorem z_firm (x1 : Int32) : ∃ (r : Int32), f_X11_firm (0 : Int32) x1 = some r ∧ f_X12_firm u_X12_init215_0 u_X12_init215_1 x1 = some r := by
  obtain ⟨r, h1, h2⟩ := zz_firm x1
  exact ⟨r, h1, h2⟩
set_option maxRecDepth 100000 in
set_option maxHeartbeats 4000000 in
theorem zz_see (x1 : Int32) : ∃ r : Int32, (Option.map Prod.fst (f_X11_see (4 : Int32) (0 : Int32) (fun _ => (0 : Int32)) x1)) = some r ∧ (Option.map Prod.fst (f_X12_see u_X12_init215_0 u_X12_init215_2 x1)) = some r := by
  rcases seat_c x1 with ⟨h1, h2⟩ | ⟨h1, h2, j, hj, rfl⟩
  · exact ⟨-1, by first | (rw [f_X11_see, b0 h1]; done) | (rw [f_X11_see, b0 h1]; rfl), by first | (rw [f_X12_see, b0 h2]; done) | (rw [f_X12_see, b0 h2]; rfl)⟩
  · exact eqs (co_dec (N := 4) (P := fun j => (Option.map Prod.fst (f_X11_see (4 : Int32) (0 : Int32) (fun _ => (0 : Int32)) (nI j))) = (Option.map Prod.fst (f_X12_see u_X12_init215_0 u_X12_init215_2 (nI j))) ∧ ((Option.map Prod.fst (f_X11_see (4 : Int32) (0 : Int32) (fun _ => (0 : Int32)) (nI j)))).isSome = true) (by decide +kernel) hj)
theorem z_see (x1 : Int32) : ∃ (r : Int32) (xo1 : Int32) (xo2 : (Nat → Int32)), f_X11_see (4 : Int32) (0 : Int32) (fun _ => (0 : Int32)) x1 = some (r, xo1, xo2) ∧ ∃ (ko1 : (Nat → Int32)), f_X12_see u_X12_init215_0 u_X12_init215_2 x1 = some (r, ko1) := by
  obtain ⟨r, h1, h2⟩ := zz_see x1
  obtain ⟨xo1, xo2, h1⟩ := ex3 h1
  obtain ⟨ko1, h2⟩ := ex2 h2
  exact ⟨r, xo1, xo2, h1, ko1, h2⟩
set_option maxRecDepth 100000 in
set_option maxHeartbeats 4000000 in
theorem zz_forget (x1 : Int32) : ∃ r : Int32, (Option.map Prod.fst (f_X11_forget (0 : Int32) x1)) = some r ∧ (Option.map Prod.fst (f_X12_forget u_X12_init215_2 x1)) = some r := by
  rcases rgg x1 0 0 (by decide) with h | h | ⟨g1, g2, j, hj, -, rfl⟩
  · exact ⟨-1, by first | (rw [f_X11_forget, if_pos (show x1 < (0 : Int32) from lt_l (by decide) h)]; done) | (rw [f_X11_forget, if_pos (show x1 < (0 : Int32) from lt_l (by decide) h)]; rfl), by first | (rw [f_X12_forget, show ixB (31 : Int32) 152 = true from by decide, ck_e, q_seen, b0 (in_L (lo := (0 : Int64)) (hi := ((0 : Int32)).toInt64) h)]; done) | (rw [f_X12_forget, show ixB (31 : Int32) 152 = true from by decide, ck_e, q_seen, b0 (in_L (lo := (0 : Int64)) (hi := ((0 : Int32)).toInt64) h)]; rfl)⟩
  · exact ⟨-1, by first | (rw [f_X11_forget, if_neg (show ¬ x1 < (0 : Int32) from nlt_l (n := 0) (by decide) (by omega)), if_neg (show ¬ x1 ≤ (0 : Int32) from nle_l (n := 0) (by decide) (by omega))]; done) | (rw [f_X11_forget, if_neg (show ¬ x1 < (0 : Int32) from nlt_l (n := 0) (by decide) (by omega)), if_neg (show ¬ x1 ≤ (0 : Int32) from nle_l (n := 0) (by decide) (by omega))]; rfl), by first | (rw [f_X12_forget, show ixB (31 : Int32) 152 = true from by decide, ck_e, q_seen, b0 (in_H (lo := (0 : Int64)) (hi := ((0 : Int32)).toInt64) h)]; done) | (rw [f_X12_forget, show ixB (31 : Int32) 152 = true from by decide, ck_e, q_seen, b0 (in_H (lo := (0 : Int64)) (hi := ((0 : Int32)).toInt64) h)]; rfl)⟩
  · exact eqs (co_dec (N := 1) (P := fun j => (Option.map Prod.fst (f_X11_forget (0 : Int32) (nI j))) = (Option.map Prod.fst (f_X12_forget u_X12_init215_2 (nI j))) ∧ ((Option.map Prod.fst (f_X11_forget (0 : Int32) (nI j)))).isSome = true) (by decide +kernel) hj)
theorem z_forget (x1 : Int32) : ∃ (r : Int32) (xo1 : Int32), f_X11_forget (0 : Int32) x1 = some (r, xo1) ∧ ∃ (ko1 : (Nat → Int32)), f_X12_forget u_X12_init215_2 x1 = some (r, ko1) := by
  obtain ⟨r, h1, h2⟩ := zz_forget x1
  obtain ⟨xo1, h1⟩ := ex2 h1
  obtain ⟨ko1, h2⟩ := ex2 h2
  exact ⟨r, xo1, h1, ko1, h2⟩
set_option maxRecDepth 100000 in
set_option maxHeartbeats 4000000 in
theorem zz_histories (x1 : Int32) : ∃ r : Int32, (f_X11_histories (0 : Int32) (0 : Int32) (0 : Int32) (0 : Int32) (fun _ => (0 : Int32)) (fun _ => (0 : Int32)) x1) = some r ∧ (Option.map Prod.fst (f_X12_histories u_X12_init215_0 u_X12_init215_1 u_X12_init215_2 (fun _ => (0 : Int32)) x1)) = some r := by
  rcases rq_c x1 6 (by decide) with ⟨h0, h1, q⟩ | ⟨h1, rfl | ⟨i, hi, rfl⟩⟩
  · exact ⟨-1, by first | (rw [f_X11_histories, b0 (show f_X11_isRowQuestion x1 (6 : Int32) = some 0 from h1)]; done) | (rw [f_X11_histories, b0 (show f_X11_isRowQuestion x1 (6 : Int32) = some 0 from h1)]; rfl), by first | (rw [f_X12_histories, jn_e, if_neg h0, b0 (q.elim (fun q => (in_L (lo := (10 : Int64)) (hi := (15 : Int64)) q)) (fun q => (in_H (lo := (10 : Int64)) (hi := (15 : Int64)) (show (15 : Int) < x1.toInt from by omega))))]; done) | (rw [f_X12_histories, jn_e, if_neg h0, b0 (q.elim (fun q => (in_L (lo := (10 : Int64)) (hi := (15 : Int64)) q)) (fun q => (in_H (lo := (10 : Int64)) (hi := (15 : Int64)) (show (15 : Int) < x1.toInt from by omega))))]; rfl)⟩
  · exact eqs ⟨by decide +kernel, by decide +kernel⟩
  · exact eqs (co_dec (N := 6) (P := fun i => (f_X11_histories (0 : Int32) (0 : Int32) (0 : Int32) (0 : Int32) (fun _ => (0 : Int32)) (fun _ => (0 : Int32)) (nI (10 + i))) = (Option.map Prod.fst (f_X12_histories u_X12_init215_0 u_X12_init215_1 u_X12_init215_2 (fun _ => (0 : Int32)) (nI (10 + i)))) ∧ ((f_X11_histories (0 : Int32) (0 : Int32) (0 : Int32) (0 : Int32) (fun _ => (0 : Int32)) (fun _ => (0 : Int32)) (nI (10 + i)))).isSome = true) (by decide +kernel) hi)
theorem z_histories (x1 : Int32) : ∃ (r : Int32), f_X11_histories (0 : Int32) (0 : Int32) (0 : Int32) (0 : Int32) (fun _ => (0 : Int32)) (fun _ => (0 : Int32)) x1 = some r ∧ ∃ (ko1 : (Nat → Int32)), f_X12_histories u_X12_init215_0 u_X12_init215_1 u_X12_init215_2 (fun _ => (0 : Int32)) x1 = some (r, ko1) := by
  obtain ⟨r, h1, h2⟩ := zz_histories x1
  obtain ⟨ko1, h2⟩ := ex2 h2
  exact ⟨r, h1, ko1, h2⟩
set_option maxRecDepth 100000 in
set_option maxHeartbeats 4000000 in
theorem zz_could (x1 : Int32) : ∃ r : Int32, (f_X11_could (0 : Int32) (0 : Int32) (0 : Int32) (fun _ => (0 : Int32)) (fun _ => (0 : Int32)) x1) = some r ∧ (Option.map Prod.fst (f_X12_could u_X12_init215_0 u_X12_init215_1 u_X12_init215_2 (fun _ => (0 : Int32)) (fun _ => (0 : Int32)) (fun _ => (0 : Int32)) x1)) = some r := by
  by_cases h : x1.toInt < 0
  · exact ⟨-1, by first | (rw [f_X11_could, if_pos (show x1 < (0 : Int32) from lt_l (by decide) h)]; done) | (rw [f_X11_could, if_pos (show x1 < (0 : Int32) from lt_l (by decide) h)]; rfl), by first | (rw [f_X12_could, show ixB (31 : Int32) 152 = true from by decide, ck_e, q_seen, b0 (in_L (lo := (0 : Int64)) (hi := (((0 : Int32) - (1 : Int32))).toInt64) h)]; done) | (rw [f_X12_could, show ixB (31 : Int32) 152 = true from by decide, ck_e, q_seen, b0 (in_L (lo := (0 : Int64)) (hi := (((0 : Int32) - (1 : Int32))).toInt64) h)]; rfl)⟩
  · exact ⟨-1, by first | (rw [f_X11_could, if_neg (show ¬ x1 < (0 : Int32) from nlt_l (n := 0) (by decide) h), if_neg (show ¬ x1 < (0 : Int32) from nlt_l (n := 0) (by decide) h)]; done) | (rw [f_X11_could, if_neg (show ¬ x1 < (0 : Int32) from nlt_l (n := 0) (by decide) h), if_neg (show ¬ x1 < (0 : Int32) from nlt_l (n := 0) (by decide) h)]; rfl), by first | (rw [f_X12_could, show ixB (31 : Int32) 152 = true from by decide, ck_e, q_seen, b0 (in_H (lo := (0 : Int64)) (hi := (((0 : Int32) - (1 : Int32))).toInt64) (show (-1 : Int) < x1.toInt from by omega))]; done) | (rw [f_X12_could, show ixB (31 : Int32) 152 = true from by decide, ck_e, q_seen, b0 (in_H (lo := (0 : Int64)) (hi := (((0 : Int32) - (1 : Int32))).toInt64) (show (-1 : Int) < x1.toInt from by omega))]; rfl)⟩
theorem z_could (x1 : Int32) : ∃ (r : Int32), f_X11_could (0 : Int32) (0 : Int32) (0 : Int32) (fun _ => (0 : Int32)) (fun _ => (0 : Int32)) x1 = some r ∧ ∃ (ko1 : (Nat → Int32)), ∃ (ko2 : (Nat → Int32)), ∃ (ko3 : (Nat → Int32)), f_X12_could u_X12_init215_0 u_X12_init215_1 u_X12_init215_2 (fun _ => (0 : Int32)) (fun _ => (0 : Int32)) (fun _ => (0 : Int32)) x1 = some (r, ko1, ko2, ko3) := by
  obtain ⟨r, h1, h2⟩ := zz_could x1
  obtain ⟨ko1, ko2, ko3, h2⟩ := ex4 h2
  exact ⟨r, h1, ko1, ko2, ko3, h2⟩
set_option maxRecDepth 100000 in
set_option maxHeartbeats 4000000 in
theorem zz_blind (x1 : Int32) (x2 : Int32) (x3 : Int32) : ∃ r : Int64, (Option.map Prod.fst (f_X11_blind (4 : Int32) (fun _ => (0 : Int64)) x1 x2 x3)) = some r ∧ (f_X12_blind u_X12_init215_0 x1 x2 x3) = some r := by
  rcases rgg x2 1 12 (by decide) with h | h | ⟨g1, g2, j, hj, hj1, e⟩
  · exact ⟨-1, by first | (rw [f_X11_blind, if_pos (show x2 < (1 : Int32) from lt_l (by decide) h)]; done) | (rw [f_X11_blind, if_pos (show x2 < (1 : Int32) from lt_l (by decide) h)]; rfl), by first | (rw [f_X12_blind, b0 (in_L (lo := (1 : Int64)) (hi := (12 : Int64)) h)]; done) | (rw [f_X12_blind, b0 (in_L (lo := (1 : Int64)) (hi := (12 : Int64)) h)]; rfl)⟩
  · exact ⟨-1, by first | (rw [f_X11_blind, if_neg (show ¬ x2 < (1 : Int32) from nlt_l (n := 1) (by decide) (by omega)), if_pos (show (12 : Int32) < x2 from gt_l (by decide) h)]; done) | (rw [f_X11_blind, if_neg (show ¬ x2 < (1 : Int32) from nlt_l (n := 1) (by decide) (by omega)), if_pos (show (12 : Int32) < x2 from gt_l (by decide) h)]; rfl), by first | (rw [f_X12_blind, b0 (in_H (lo := (1 : Int64)) (hi := (12 : Int64)) h)]; done) | (rw [f_X12_blind, b0 (in_H (lo := (1 : Int64)) (hi := (12 : Int64)) h)]; rfl)⟩
  · have hx2 : x2.toInt = (j : Int) := by rw [e]; exact nI_toInt (by omega)
    have hx3 : (x2).toInt64.toInt = (j : Int) := (i64 x2).trans hx2
    rcases rgg x1 0 j (by omega) with h | h | ⟨f1, f2, i, hi, -, e1⟩
    · exact ⟨-1, by first | (rw [f_X11_blind, if_neg (show ¬ x2 < (1 : Int32) from nlt_l (n := 1) (by decide) g1), if_neg (show ¬ (12 : Int32) < x2 from ngt_l (n := 12) (by decide) g2), if_pos (show x1 < (0 : Int32) from lt_l (by decide) h)]; done) | (rw [f_X11_blind, if_neg (show ¬ x2 < (1 : Int32) from nlt_l (n := 1) (by decide) g1), if_neg (show ¬ (12 : Int32) < x2 from ngt_l (n := 12) (by decide) g2), if_pos (show x1 < (0 : Int32) from lt_l (by decide) h)]; rfl), by first | (rw [f_X12_blind, b1 (in_I (lo := (1 : Int64)) (hi := (12 : Int64)) g1 g2), b0 (in_L (lo := (0 : Int64)) (hi := (x2).toInt64) h)]; done) | (rw [f_X12_blind, b1 (in_I (lo := (1 : Int64)) (hi := (12 : Int64)) g1 g2), b0 (in_L (lo := (0 : Int64)) (hi := (x2).toInt64) h)]; rfl)⟩
    · have hb : x2 < x1 := (fa_lt x2 x1).mpr (by rw [hx2]; exact h)
      exact ⟨-1, by first | (rw [f_X11_blind, if_neg (show ¬ x2 < (1 : Int32) from nlt_l (n := 1) (by decide) g1), if_neg (show ¬ (12 : Int32) < x2 from ngt_l (n := 12) (by decide) g2), if_neg (show ¬ x1 < (0 : Int32) from nlt_l (n := 0) (by decide) (by omega)), if_pos hb]; done) | (rw [f_X11_blind, if_neg (show ¬ x2 < (1 : Int32) from nlt_l (n := 1) (by decide) g1), if_neg (show ¬ (12 : Int32) < x2 from ngt_l (n := 12) (by decide) g2), if_neg (show ¬ x1 < (0 : Int32) from nlt_l (n := 0) (by decide) (by omega)), if_pos hb]; rfl), by first | (rw [f_X12_blind, b1 (in_I (lo := (1 : Int64)) (hi := (12 : Int64)) g1 g2), b0 (in_H (lo := (0 : Int64)) (hi := (x2).toInt64) (by rw [hx3]; exact h))]; done) | (rw [f_X12_blind, b1 (in_I (lo := (1 : Int64)) (hi := (12 : Int64)) g1 g2), b0 (in_H (lo := (0 : Int64)) (hi := (x2).toInt64) (by rw [hx3]; exact h))]; rfl)⟩
    · have hb : ¬ x2 < x1 := fun q => f2 (by rw [← hx2]; exact (fa_lt x2 x1).mp q)
      rcases part_c x3 with ⟨h1, h2⟩ | ⟨h1, h2, k, hk, rfl⟩
      · exact ⟨-1, by first | (rw [f_X11_blind, if_neg (show ¬ x2 < (1 : Int32) from nlt_l (n := 1) (by decide) g1), if_neg (show ¬ (12 : Int32) < x2 from ngt_l (n := 12) (by decide) g2), if_neg (show ¬ x1 < (0 : Int32) from nlt_l (n := 0) (by decide) f1), if_neg hb, b0 h1]; done) | (rw [f_X11_blind, if_neg (show ¬ x2 < (1 : Int32) from nlt_l (n := 1) (by decide) g1), if_neg (show ¬ (12 : Int32) < x2 from ngt_l (n := 12) (by decide) g2), if_neg (show ¬ x1 < (0 : Int32) from nlt_l (n := 0) (by decide) f1), if_neg hb, b0 h1]; rfl), by first | (rw [f_X12_blind, b1 (in_I (lo := (1 : Int64)) (hi := (12 : Int64)) g1 g2), b1 (in_I (lo := (0 : Int64)) (hi := (x2).toInt64) f1 (by rw [hx3]; exact f2)), b0 h2]; done) | (rw [f_X12_blind, b1 (in_I (lo := (1 : Int64)) (hi := (12 : Int64)) g1 g2), b1 (in_I (lo := (0 : Int64)) (hi := (x2).toInt64) f1 (by rw [hx3]; exact f2)), b0 h2]; rfl)⟩
      · subst e; subst e1
        have hxx : (Option.map Prod.fst (f_X11_blind (4 : Int32) (fun _ => (0 : Int64)) (nI i) (nI j) (nI k))) = blX i j k := by
          rw [f_X11_blind, if_neg (show ¬ nI j < (1 : Int32) from nlt_l (n := 1) (by decide) g1), if_neg (show ¬ (12 : Int32) < nI j from ngt_l (n := 12) (by decide) g2), if_neg (show ¬ nI i < (0 : Int32) from nlt_l (n := 0) (by decide) f1), if_neg hb, b1 h1, tw i j hj]
          rfl
        have hq := co3 (N := 13) (M := 13) (K := 2) (P := fun j i k => 1 ≤ j → i < j + 1 → blX i j k = f_X12_blind (4 : Int32) (nI i) (nI j) (nI k) ∧ (blX i j k).isSome = true) (by decide +kernel) hj (show i < 13 by omega) hk hj1 hi
        obtain ⟨r, q1, q2⟩ := eqs hq
        exact ⟨r, hxx.trans q1, by rw [q_seats]; exact q2⟩
theorem z_blind (x1 : Int32) (x2 : Int32) (x3 : Int32) : ∃ (r : Int64) (xo1 : (Nat → Int64)), f_X11_blind (4 : Int32) (fun _ => (0 : Int64)) x1 x2 x3 = some (r, xo1) ∧ f_X12_blind u_X12_init215_0 x1 x2 x3 = some r := by
  obtain ⟨r, h1, h2⟩ := zz_blind x1 x2 x3
  obtain ⟨xo1, h1⟩ := ex2 h1
  exact ⟨r, xo1, h1, h2⟩
set_option maxRecDepth 100000 in
set_option maxHeartbeats 4000000 in
theorem zz_fair (x1 : Int32) (x2 : Int32) : ∃ r : Int32, (f_X11_fair (0 : Int32) x1 x2) = some r ∧ (Option.map Prod.fst (f_X12_fair u_X12_init215_1 (fun _ => (0 : Int32)) x1 x2)) = some r := by
  rcases rgg x1 1 4 (by decide) with h | h | ⟨g1, g2, j, hj, hj1, e⟩
  · exact ⟨-1, by first | (rw [f_X11_fair, if_pos (show x1 < (1 : Int32) from lt_l (by decide) h)]; done) | (rw [f_X11_fair, if_pos (show x1 < (1 : Int32) from lt_l (by decide) h)]; rfl), by first | (rw [f_X12_fair, b0 (in_L (lo := (1 : Int64)) (hi := (4 : Int64)) h)]; done) | (rw [f_X12_fair, b0 (in_L (lo := (1 : Int64)) (hi := (4 : Int64)) h)]; rfl)⟩
  · exact ⟨-1, by first | (rw [f_X11_fair, if_neg (show ¬ x1 < (1 : Int32) from nlt_l (n := 1) (by decide) (by omega)), if_pos (show (4 : Int32) < x1 from gt_l (by decide) h)]; done) | (rw [f_X11_fair, if_neg (show ¬ x1 < (1 : Int32) from nlt_l (n := 1) (by decide) (by omega)), if_pos (show (4 : Int32) < x1 from gt_l (by decide) h)]; rfl), by first | (rw [f_X12_fair, b0 (in_H (lo := (1 : Int64)) (hi := (4 : Int64)) h)]; done) | (rw [f_X12_fair, b0 (in_H (lo := (1 : Int64)) (hi := (4 : Int64)) h)]; rfl)⟩
  · rcases rq_c x2 4 (by decide) with ⟨h0, h1, q⟩ | ⟨h1, rfl | ⟨i, hi, rfl⟩⟩
    · exact ⟨-1, by first | (rw [f_X11_fair, if_neg (show ¬ x1 < (1 : Int32) from nlt_l (n := 1) (by decide) g1), if_neg (show ¬ (4 : Int32) < x1 from ngt_l (n := 4) (by decide) g2), b0 (show f_X11_isRowQuestion x2 (4 : Int32) = some 0 from h1)]; done) | (rw [f_X11_fair, if_neg (show ¬ x1 < (1 : Int32) from nlt_l (n := 1) (by decide) g1), if_neg (show ¬ (4 : Int32) < x1 from ngt_l (n := 4) (by decide) g2), b0 (show f_X11_isRowQuestion x2 (4 : Int32) = some 0 from h1)]; rfl), by first | (rw [f_X12_fair, b1 (in_I (lo := (1 : Int64)) (hi := (4 : Int64)) g1 g2), jn_e, if_neg h0, b0 (q.elim (fun q => (in_L (lo := (10 : Int64)) (hi := (13 : Int64)) q)) (fun q => (in_H (lo := (10 : Int64)) (hi := (13 : Int64)) (show (13 : Int) < x2.toInt from by omega))))]; done) | (rw [f_X12_fair, b1 (in_I (lo := (1 : Int64)) (hi := (4 : Int64)) g1 g2), jn_e, if_neg h0, b0 (q.elim (fun q => (in_L (lo := (10 : Int64)) (hi := (13 : Int64)) q)) (fun q => (in_H (lo := (10 : Int64)) (hi := (13 : Int64)) (show (13 : Int) < x2.toInt from by omega))))]; rfl)⟩
    · subst e
      exact eqs (co_dec (N := 5) (P := fun j => 1 ≤ j → (f_X11_fair (0 : Int32) (nI j) (0 : Int32)) = (Option.map Prod.fst (f_X12_fair u_X12_init215_1 (fun _ => (0 : Int32)) (nI j) (0 : Int32))) ∧ ((f_X11_fair (0 : Int32) (nI j) (0 : Int32))).isSome = true) (by decide +kernel) hj hj1)
    · subst e
      exact eqs (co2 (N := 5) (M := 4) (P := fun j i => 1 ≤ j → (f_X11_fair (0 : Int32) (nI j) (nI (10 + i))) = (Option.map Prod.fst (f_X12_fair u_X12_init215_1 (fun _ => (0 : Int32)) (nI j) (nI (10 + i)))) ∧ ((f_X11_fair (0 : Int32) (nI j) (nI (10 + i)))).isSome = true) (by decide +kernel) hj hi hj1)
theorem z_fair (x1 : Int32) (x2 : Int32) : ∃ (r : Int32), f_X11_fair (0 : Int32) x1 x2 = some r ∧ ∃ (ko1 : (Nat → Int32)), f_X12_fair u_X12_init215_1 (fun _ => (0 : Int32)) x1 x2 = some (r, ko1) := by
  obtain ⟨r, h1, h2⟩ := zz_fair x1 x2
  obtain ⟨ko1, h2⟩ := ex2 h2
  exact ⟨r, h1, ko1, h2⟩
set_option maxRecDepth 100000 in
set_option maxHeartbeats 4000000 in
theorem zz_keep (x1 : Int32) : ∃ r : Int32, (Option.map Prod.fst (f_X11_keep (0 : Int32) (0 : Int32) (0 : Int32) (0 : Int32) (fun _ => (0 : Int32)) (fun _ => (0 : Int32)) u_fill_0 (fun _ => (0 : Int32)) (fun _ => (0 : Int32)) (0 : Int32) (0 : Int32) (0 : Int32) (0 : Int32) (fun _ => (0 : Int32)) (fun _ => (0 : Int32)) u_fill_0 (fun _ => (0 : Int32)) (fun _ => (0 : Int32)) (0 : Int32) (0 : Int32) (0 : Int32) (0 : Int32) (fun _ => (0 : Int32)) (fun _ => (0 : Int32)) u_fill_0 (fun _ => (0 : Int32)) (fun _ => (0 : Int32)) (fun _ => (0 : Int32)) x1)) = some r ∧ (Option.map Prod.fst (f_X12_keep u_X12_init215_2 u_X12_init215_3 x1)) = some r := by
  rcases isImage_c x1 with ⟨h1, h2⟩ | ⟨h1, h2, j, hj, rfl⟩
  · exact ⟨-1, by first | (rw [f_X11_keep, b0 h1]; done) | (rw [f_X11_keep, b0 h1]; rfl), by first | (rw [f_X12_keep, b0 h2]; done) | (rw [f_X12_keep, b0 h2]; rfl)⟩
  · exact eqs (co_dec (N := 2) (P := fun j => (Option.map Prod.fst (f_X11_keep (0 : Int32) (0 : Int32) (0 : Int32) (0 : Int32) (fun _ => (0 : Int32)) (fun _ => (0 : Int32)) u_fill_0 (fun _ => (0 : Int32)) (fun _ => (0 : Int32)) (0 : Int32) (0 : Int32) (0 : Int32) (0 : Int32) (fun _ => (0 : Int32)) (fun _ => (0 : Int32)) u_fill_0 (fun _ => (0 : Int32)) (fun _ => (0 : Int32)) (0 : Int32) (0 : Int32) (0 : Int32) (0 : Int32) (fun _ => (0 : Int32)) (fun _ => (0 : Int32)) u_fill_0 (fun _ => (0 : Int32)) (fun _ => (0 : Int32)) (fun _ => (0 : Int32)) (nI j))) = (Option.map Prod.fst (f_X12_keep u_X12_init215_2 u_X12_init215_3 (nI j))) ∧ ((Option.map Prod.fst (f_X11_keep (0 : Int32) (0 : Int32) (0 : Int32) (0 : Int32) (fun _ => (0 : Int32)) (fun _ => (0 : Int32)) u_fill_0 (fun _ => (0 : Int32)) (fun _ => (0 : Int32)) (0 : Int32) (0 : Int32) (0 : Int32) (0 : Int32) (fun _ => (0 : Int32)) (fun _ => (0 : Int32)) u_fill_0 (fun _ => (0 : Int32)) (fun _ => (0 : Int32)) (0 : Int32) (0 : Int32) (0 : Int32) (0 : Int32) (fun _ => (0 : Int32)) (fun _ => (0 : Int32)) u_fill_0 (fun _ => (0 : Int32)) (fun _ => (0 : Int32)) (fun _ => (0 : Int32)) (nI j)))).isSome = true) (by decide +kernel) hj)
theorem z_keep (x1 : Int32) : ∃ (r : Int32) (xo1 : Int32) (xo2 : Int32) (xo3 : Int32) (xo4 : Int32) (xo5 : (Nat → Int32)) (xo6 : (Nat → Int32)) (xo7 : (Nat → Int32)) (xo8 : (Nat → Int32)) (xo9 : (Nat → Int32)) (xo10 : Int32) (xo11 : Int32) (xo12 : Int32) (xo13 : Int32) (xo14 : (Nat → Int32)) (xo15 : (Nat → Int32)) (xo16 : (Nat → Int32)) (xo17 : (Nat → Int32)) (xo18 : (Nat → Int32)) (xo19 : (Nat → Int32)), f_X11_keep (0 : Int32) (0 : Int32) (0 : Int32) (0 : Int32) (fun _ => (0 : Int32)) (fun _ => (0 : Int32)) u_fill_0 (fun _ => (0 : Int32)) (fun _ => (0 : Int32)) (0 : Int32) (0 : Int32) (0 : Int32) (0 : Int32) (fun _ => (0 : Int32)) (fun _ => (0 : Int32)) u_fill_0 (fun _ => (0 : Int32)) (fun _ => (0 : Int32)) (0 : Int32) (0 : Int32) (0 : Int32) (0 : Int32) (fun _ => (0 : Int32)) (fun _ => (0 : Int32)) u_fill_0 (fun _ => (0 : Int32)) (fun _ => (0 : Int32)) (fun _ => (0 : Int32)) x1 = some (r, xo1, xo2, xo3, xo4, xo5, xo6, xo7, xo8, xo9, xo10, xo11, xo12, xo13, xo14, xo15, xo16, xo17, xo18, xo19) ∧ ∃ (ko1 : (Nat → Int32)), ∃ (ko2 : (Nat → Int32)), f_X12_keep u_X12_init215_2 u_X12_init215_3 x1 = some (r, ko1, ko2) := by
  obtain ⟨r, h1, h2⟩ := zz_keep x1
  obtain ⟨xo1, xo2, xo3, xo4, xo5, xo6, xo7, xo8, xo9, xo10, xo11, xo12, xo13, xo14, xo15, xo16, xo17, xo18, xo19, h1⟩ := ex20 h1
  obtain ⟨ko1, ko2, h2⟩ := ex3 h2
  exact ⟨r, xo1, xo2, xo3, xo4, xo5, xo6, xo7, xo8, xo9, xo10, xo11, xo12, xo13, xo14, xo15, xo16, xo17, xo18, xo19, h1, ko1, ko2, h2⟩
set_option maxRecDepth 100000 in
set_option maxHeartbeats 4000000 in
theorem zz_back (x1 : Int32) : ∃ r : Int32, (Option.map Prod.fst (f_X11_back (0 : Int32) (0 : Int32) (0 : Int32) (0 : Int32) (fun _ => (0 : Int32)) (fun _ => (0 : Int32)) u_fill_0 (fun _ => (0 : Int32)) (fun _ => (0 : Int32)) (0 : Int32) (0 : Int32) (0 : Int32) (0 : Int32) (fun _ => (0 : Int32)) (fun _ => (0 : Int32)) u_fill_0 (fun _ => (0 : Int32)) (fun _ => (0 : Int32)) (0 : Int32) (0 : Int32) (0 : Int32) (0 : Int32) (fun _ => (0 : Int32)) (fun _ => (0 : Int32)) u_fill_0 (fun _ => (0 : Int32)) (fun _ => (0 : Int32)) (fun _ => (0 : Int32)) x1)) = some r ∧ (Option.map Prod.fst (f_X12_back u_X12_init215_2 u_X12_init215_3 x1)) = some r := by
  rcases isImage_c x1 with ⟨h1, h2⟩ | ⟨h1, h2, j, hj, rfl⟩
  · exact ⟨-1, by first | (rw [f_X11_back, b0 h1]; done) | (rw [f_X11_back, b0 h1]; rfl), by first | (rw [f_X12_back, b0 h2]; done) | (rw [f_X12_back, b0 h2]; rfl)⟩
  · exact eqs (co_dec (N := 2) (P := fun j => (Option.map Prod.fst (f_X11_back (0 : Int32) (0 : Int32) (0 : Int32) (0 : Int32) (fun _ => (0 : Int32)) (fun _ => (0 : Int32)) u_fill_0 (fun _ => (0 : Int32)) (fun _ => (0 : Int32)) (0 : Int32) (0 : Int32) (0 : Int32) (0 : Int32) (fun _ => (0 : Int32)) (fun _ => (0 : Int32)) u_fill_0 (fun _ => (0 : Int32)) (fun _ => (0 : Int32)) (0 : Int32) (0 : Int32) (0 : Int32) (0 : Int32) (fun _ => (0 : Int32)) (fun _ => (0 : Int32)) u_fill_0 (fun _ => (0 : Int32)) (fun _ => (0 : Int32)) (fun _ => (0 : Int32)) (nI j))) = (Option.map Prod.fst (f_X12_back u_X12_init215_2 u_X12_init215_3 (nI j))) ∧ ((Option.map Prod.fst (f_X11_back (0 : Int32) (0 : Int32) (0 : Int32) (0 : Int32) (fun _ => (0 : Int32)) (fun _ => (0 : Int32)) u_fill_0 (fun _ => (0 : Int32)) (fun _ => (0 : Int32)) (0 : Int32) (0 : Int32) (0 : Int32) (0 : Int32) (fun _ => (0 : Int32)) (fun _ => (0 : Int32)) u_fill_0 (fun _ => (0 : Int32)) (fun _ => (0 : Int32)) (0 : Int32) (0 : Int32) (0 : Int32) (0 : Int32) (fun _ => (0 : Int32)) (fun _ => (0 : Int32)) u_fill_0 (fun _ => (0 : Int32)) (fun _ => (0 : Int32)) (fun _ => (0 : Int32)) (nI j)))).isSome = true) (by decide +kernel) hj)
theorem z_back (x1 : Int32) : ∃ (r : Int32) (xo1 : Int32) (xo2 : Int32) (xo3 : Int32) (xo4 : Int32) (xo5 : (Nat → Int32)) (xo6 : (Nat → Int32)) (xo7 : (Nat → Int32)) (xo8 : (Nat → Int32)) (xo9 : (Nat → Int32)), f_X11_back (0 : Int32) (0 : Int32) (0 : Int32) (0 : Int32) (fun _ => (0 : Int32)) (fun _ => (0 : Int32)) u_fill_0 (fun _ => (0 : Int32)) (fun _ => (0 : Int32)) (0 : Int32) (0 : Int32) (0 : Int32) (0 : Int32) (fun _ => (0 : Int32)) (fun _ => (0 : Int32)) u_fill_0 (fun _ => (0 : Int32)) (fun _ => (0 : Int32)) (0 : Int32) (0 : Int32) (0 : Int32) (0 : Int32) (fun _ => (0 : Int32)) (fun _ => (0 : Int32)) u_fill_0 (fun _ => (0 : Int32)) (fun _ => (0 : Int32)) (fun _ => (0 : Int32)) x1 = some (r, xo1, xo2, xo3, xo4, xo5, xo6, xo7, xo8, xo9) ∧ ∃ (ko1 : (Nat → Int32)), f_X12_back u_X12_init215_2 u_X12_init215_3 x1 = some (r, ko1) := by
  obtain ⟨r, h1, h2⟩ := zz_back x1
  obtain ⟨xo1, xo2, xo3, xo4, xo5, xo6, xo7, xo8, xo9, h1⟩ := ex10 h1
  obtain ⟨ko1, h2⟩ := ex2 h2
  exact ⟨r, xo1, xo2, xo3, xo4, xo5, xo6, xo7, xo8, xo9, h1, ko1, h2⟩
set_option maxRecDepth 100000 in
set_option maxHeartbeats 4000000 in
theorem zz_sheet (x1 : Int32) (x2 : Int32) (x3 : Int32) : ∃ r : Int32, (Option.map Prod.fst (f_X11_sheet (-4 : Int32) (0 : Int32) (fun _ => (0 : Int32)) (-4 : Int32) (0 : Int32) (fun _ => (0 : Int32)) (-4 : Int32) (0 : Int32) (fun _ => (0 : Int32)) (-4 : Int32) (0 : Int32) (fun _ => (0 : Int32)) x1 x2 x3)) = some r ∧ (Option.map Prod.fst (f_X12_sheet (upd (upd (upd (upd (fun _ => (0 : Int32)) ((0 : Int32)).toNatClampNeg (-4 : Int32)) ((1 : Int32)).toNatClampNeg (-4 : Int32)) ((2 : Int32)).toNatClampNeg (-4 : Int32)) ((3 : Int32)).toNatClampNeg (-4 : Int32)) (fun _ => (0 : Int32)) (fun _ => (0 : Int32)) x1 x2 x3)) = some r := by
  rcases isSheet_c x1 with ⟨h1, h2⟩ | ⟨h1, h2, j, hj, e1⟩
  · have hk : f_X12_isSheet x1 x2 = some 0 := by first | (rw [f_X12_isSheet, b0 h2]; done) | (rw [f_X12_isSheet, b0 h2]; rfl)
    exact ⟨-1, by first | (rw [f_X11_sheet, b0 h1]; done) | (rw [f_X11_sheet, b0 h1]; rfl), by first | (rw [f_X12_sheet, b0 hk]; done) | (rw [f_X12_sheet, b0 hk]; rfl)⟩
  · rcases isLane_c x2 with ⟨g1, g2⟩ | ⟨g1, g2, i, hi, e2⟩
    · have hk : f_X12_isSheet x1 x2 = some 0 := by first | (rw [f_X12_isSheet, b1 h2, b0 g2]; done) | (rw [f_X12_isSheet, b1 h2, b0 g2]; rfl)
      exact ⟨-1, by first | (rw [f_X11_sheet, b1 h1, b0 g1]; done) | (rw [f_X11_sheet, b1 h1, b0 g1]; rfl), by first | (rw [f_X12_sheet, b0 hk]; done) | (rw [f_X12_sheet, b0 hk]; rfl)⟩
    · have hk : f_X12_isSheet x1 x2 = some 1 := by first | (rw [f_X12_isSheet, b1 h2, b1 g2]; done) | (rw [f_X12_isSheet, b1 h2, b1 g2]; rfl)
      rcases rgg x3 0 40 (by decide) with h | h | ⟨f1, f2, k, hk3, -, e3⟩
      · exact ⟨-14, by first | (rw [f_X11_sheet, b1 h1, b1 g1, if_pos (show x3 ≤ (40 : Int32) from le_l (n := 40) (by decide) (by omega)), if_neg (show ¬ (0 : Int32) ≤ x3 from nge_l (n := 0) (by decide) (by omega))]; done) | (rw [f_X11_sheet, b1 h1, b1 g1, if_pos (show x3 ≤ (40 : Int32) from le_l (n := 40) (by decide) (by omega)), if_neg (show ¬ (0 : Int32) ≤ x3 from nge_l (n := 0) (by decide) (by omega))]; rfl), by first | (rw [f_X12_sheet, b1 hk, if_pos (show x3 ≤ (40 : Int32) from le_l (n := 40) (by decide) (by omega)), if_neg (show ¬ (0 : Int32) ≤ x3 from nge_l (n := 0) (by decide) (by omega))]; done) | (rw [f_X12_sheet, b1 hk, if_pos (show x3 ≤ (40 : Int32) from le_l (n := 40) (by decide) (by omega)), if_neg (show ¬ (0 : Int32) ≤ x3 from nge_l (n := 0) (by decide) (by omega))]; rfl)⟩
      · exact ⟨-1, by first | (rw [f_X11_sheet, b1 h1, b1 g1, if_neg (show ¬ x3 ≤ (40 : Int32) from nle_l (n := 40) (by decide) (by omega))]; done) | (rw [f_X11_sheet, b1 h1, b1 g1, if_neg (show ¬ x3 ≤ (40 : Int32) from nle_l (n := 40) (by decide) (by omega))]; rfl), by first | (rw [f_X12_sheet, b1 hk, if_neg (show ¬ x3 ≤ (40 : Int32) from nle_l (n := 40) (by decide) (by omega))]; done) | (rw [f_X12_sheet, b1 hk, if_neg (show ¬ x3 ≤ (40 : Int32) from nle_l (n := 40) (by decide) (by omega))]; rfl)⟩
      · have hix : ixB x1 4 = true := by rw [e1]; exact co_dec (N := 4) (P := fun j => ixB (nI j) 4 = true) (by decide +kernel) hj
        have hle : x3 ≤ (40 : Int32) := le_l (n := 40) (by decide) (by omega)
        have hge : (0 : Int32) ≤ x3 := ge_l (n := 0) (by decide) (by omega)
        obtain ⟨w, hw⟩ := Option.isSome_iff_exists.mp (show (f_J7_fill_53178 40 (fun _ => (0 : Int32)) (0 : Int32)).isSome = true by decide +kernel)
        have hren : f_X7_renew (fun _ => (0 : Int32)) x2 x3 = some (x2, x3, w) := by
          rw [f_X7_renew, bnd_e, bnd_e, hw]
          rfl
        have hkk : (Option.map Prod.fst (f_X12_sheet (upd (upd (upd (upd (fun _ => (0 : Int32)) ((0 : Int32)).toNatClampNeg (-4 : Int32)) ((1 : Int32)).toNatClampNeg (-4 : Int32)) ((2 : Int32)).toNatClampNeg (-4 : Int32)) ((3 : Int32)).toNatClampNeg (-4 : Int32)) (fun _ => (0 : Int32)) (fun _ => (0 : Int32)) x1 x2 x3)) = some 1 := by
          rw [f_X12_sheet, b1 hk, if_pos hle, if_pos hge, hix, ck_e, bnd_e, ck_e, bnd_e, bnd_e, e1]
          exact sh_l _ _ hj 40 0 959 _ rfl
        have hxx : (Option.map Prod.fst (f_X11_sheet (-4 : Int32) (0 : Int32) (fun _ => (0 : Int32)) (-4 : Int32) (0 : Int32) (fun _ => (0 : Int32)) (-4 : Int32) (0 : Int32) (fun _ => (0 : Int32)) (-4 : Int32) (0 : Int32) (fun _ => (0 : Int32)) x1 x2 x3)) = some 1 := by
          rw [f_X11_sheet, b1 h1, b1 g1, if_pos hle, if_pos hge, hix, ck_e]
          rcases j with _ | _ | _ | _ | j
          · rw [if_pos (show x1 = (0 : Int32) from by rw [e1]; rfl), hren]
            rfl
          · rw [if_neg (show ¬ x1 = (0 : Int32) from by rw [e1]; decide), if_pos (show x1 = (1 : Int32) from by rw [e1]; rfl), hren]
            rfl
          · rw [if_neg (show ¬ x1 = (0 : Int32) from by rw [e1]; decide), if_neg (show ¬ x1 = (1 : Int32) from by rw [e1]; decide), if_pos (show x1 = (2 : Int32) from by rw [e1]; rfl), hren]
            rfl
          · rw [if_neg (show ¬ x1 = (0 : Int32) from by rw [e1]; decide), if_neg (show ¬ x1 = (1 : Int32) from by rw [e1]; decide), if_neg (show ¬ x1 = (2 : Int32) from by rw [e1]; decide), if_pos (show x1 = (3 : Int32) from by rw [e1]; rfl), hren]
            rfl
          · omega
        exact ⟨1, hxx, hkk⟩
theorem z_sheet (x1 : Int32) (x2 : Int32) (x3 : Int32) : ∃ (r : Int32) (xo1 : Int32) (xo2 : Int32) (xo3 : (Nat → Int32)) (xo4 : Int32) (xo5 : Int32) (xo6 : (Nat → Int32)) (xo7 : Int32) (xo8 : Int32) (xo9 : (Nat → Int32)) (xo10 : Int32) (xo11 : Int32) (xo12 : (Nat → Int32)), f_X11_sheet (-4 : Int32) (0 : Int32) (fun _ => (0 : Int32)) (-4 : Int32) (0 : Int32) (fun _ => (0 : Int32)) (-4 : Int32) (0 : Int32) (fun _ => (0 : Int32)) (-4 : Int32) (0 : Int32) (fun _ => (0 : Int32)) x1 x2 x3 = some (r, xo1, xo2, xo3, xo4, xo5, xo6, xo7, xo8, xo9, xo10, xo11, xo12) ∧ ∃ (ko1 : (Nat → Int32)), ∃ (ko2 : (Nat → Int32)), ∃ (ko3 : (Nat → Int32)), f_X12_sheet (upd (upd (upd (upd (fun _ => (0 : Int32)) ((0 : Int32)).toNatClampNeg (-4 : Int32)) ((1 : Int32)).toNatClampNeg (-4 : Int32)) ((2 : Int32)).toNatClampNeg (-4 : Int32)) ((3 : Int32)).toNatClampNeg (-4 : Int32)) (fun _ => (0 : Int32)) (fun _ => (0 : Int32)) x1 x2 x3 = some (r, ko1, ko2, ko3) := by
  obtain ⟨r, h1, h2⟩ := zz_sheet x1 x2 x3
  obtain ⟨xo1, xo2, xo3, xo4, xo5, xo6, xo7, xo8, xo9, xo10, xo11, xo12, h1⟩ := ex13 h1
  obtain ⟨ko1, ko2, ko3, h2⟩ := ex4 h2
  exact ⟨r, xo1, xo2, xo3, xo4, xo5, xo6, xo7, xo8, xo9, xo10, xo11, xo12, h1, ko1, ko2, ko3, h2⟩
set_option maxRecDepth 100000 in
set_option maxHeartbeats 4000000 in
theorem zz_lay (x1 : Int32) (x2 : Int32) (x3 : Int32) : ∃ r : Int32, (f_X11_lay (-4 : Int32) (0 : Int32) (-4 : Int32) (0 : Int32) (-4 : Int32) (0 : Int32) (-4 : Int32) (0 : Int32) x1 x2) = some r ∧ (Option.map Prod.fst (f_X12_lay (upd (upd (upd (upd (fun _ => (0 : Int32)) ((0 : Int32)).toNatClampNeg (-4 : Int32)) ((1 : Int32)).toNatClampNeg (-4 : Int32)) ((2 : Int32)).toNatClampNeg (-4 : Int32)) ((3 : Int32)).toNatClampNeg (-4 : Int32)) (fun _ => (0 : Int32)) (fun _ => (0 : Int32)) x1 x2 x3)) = some r := by
  rcases isSheet_c x1 with ⟨h1, h2⟩ | ⟨h1, h2, j, hj, e1⟩
  · have hk : f_X12_isSheet x1 (0 : Int32) = some 0 := by first | (rw [f_X12_isSheet, b0 h2]; done) | (rw [f_X12_isSheet, b0 h2]; rfl)
    exact ⟨-1, by first | (rw [f_X11_lay, b0 h1]; done) | (rw [f_X11_lay, b0 h1]; rfl), by first | (rw [f_X12_lay, b0 hk]; done) | (rw [f_X12_lay, b0 hk]; rfl)⟩
  · have hk : f_X12_isSheet x1 (0 : Int32) = some 1 := by
      rw [e1]
      exact co_dec (N := 4) (P := fun j => f_X12_isSheet (nI j) (0 : Int32) = some 1) (by decide +kernel) hj
    have hix : ixB x1 4 = true := by rw [e1]; exact co_dec (N := 4) (P := fun j => ixB (nI j) 4 = true) (by decide +kernel) hj
    have hln : (upd (upd (upd (upd (fun _ => (0 : Int32)) ((0 : Int32)).toNatClampNeg (-4 : Int32)) ((1 : Int32)).toNatClampNeg (-4 : Int32)) ((2 : Int32)).toNatClampNeg (-4 : Int32)) ((3 : Int32)).toNatClampNeg (-4 : Int32)) (x1).toNatClampNeg = (-4 : Int32) := by rw [e1]; exact co_dec (N := 4) (P := fun j => (upd (upd (upd (upd (fun _ => (0 : Int32)) ((0 : Int32)).toNatClampNeg (-4 : Int32)) ((1 : Int32)).toNatClampNeg (-4 : Int32)) ((2 : Int32)).toNatClampNeg (-4 : Int32)) ((3 : Int32)).toNatClampNeg (-4 : Int32)) (nI j).toNatClampNeg = (-4 : Int32)) (by decide +kernel) hj
    have hkk : (Option.map Prod.fst (f_X12_lay (upd (upd (upd (upd (fun _ => (0 : Int32)) ((0 : Int32)).toNatClampNeg (-4 : Int32)) ((1 : Int32)).toNatClampNeg (-4 : Int32)) ((2 : Int32)).toNatClampNeg (-4 : Int32)) ((3 : Int32)).toNatClampNeg (-4 : Int32)) (fun _ => (0 : Int32)) (fun _ => (0 : Int32)) x1 x2 x3)) = some (-11) := by first | (rw [f_X12_lay, b1 hk, hix, ck_e, if_pos hln]; done) | (rw [f_X12_lay, b1 hk, hix, ck_e, if_pos hln]; rfl)
    have hxx : (f_X11_lay (-4 : Int32) (0 : Int32) (-4 : Int32) (0 : Int32) (-4 : Int32) (0 : Int32) (-4 : Int32) (0 : Int32) x1 x2) = some (-11) := by
      rw [f_X11_lay, b1 h1, hix, ck_e]
      rcases j with _ | _ | _ | _ | j
      · rw [if_pos (show x1 = (0 : Int32) from by rw [e1]; rfl), fault_n, bd1_e, bnd_e, if_neg (show ¬ (1 : Int32) = 0 from by decide)]
        rfl
      · rw [if_neg (show ¬ x1 = (0 : Int32) from by rw [e1]; decide), if_pos (show x1 = (1 : Int32) from by rw [e1]; rfl), fault_n, bd1_e, bnd_e, if_neg (show ¬ (1 : Int32) = 0 from by decide)]
        rfl
      · rw [if_neg (show ¬ x1 = (0 : Int32) from by rw [e1]; decide), if_neg (show ¬ x1 = (1 : Int32) from by rw [e1]; decide), if_pos (show x1 = (2 : Int32) from by rw [e1]; rfl), fault_n, bd1_e, bnd_e, if_neg (show ¬ (1 : Int32) = 0 from by decide)]
        rfl
      · rw [if_neg (show ¬ x1 = (0 : Int32) from by rw [e1]; decide), if_neg (show ¬ x1 = (1 : Int32) from by rw [e1]; decide), if_neg (show ¬ x1 = (2 : Int32) from by rw [e1]; decide), if_pos (show x1 = (3 : Int32) from by rw [e1]; rfl), fault_n, bd1_e, bnd_e, if_neg (show ¬ (1 : Int32) = 0 from by decide)]
        rfl
      · omega
    exact ⟨-11, hxx, hkk⟩
theorem z_lay (x1 : Int32) (x2 : Int32) (x3 : Int32) : ∃ (r : Int32), f_X11_lay (-4 : Int32) (0 : Int32) (-4 : Int32) (0 : Int32) (-4 : Int32) (0 : Int32) (-4 : Int32) (0 : Int32) x1 x2 = some r ∧ ∃ (ko1 : (Nat → Int32)), f_X12_lay (upd (upd (upd (upd (fun _ => (0 : Int32)) ((0 : Int32)).toNatClampNeg (-4 : Int32)) ((1 : Int32)).toNatClampNeg (-4 : Int32)) ((2 : Int32)).toNatClampNeg (-4 : Int32)) ((3 : Int32)).toNatClampNeg (-4 : Int32)) (fun _ => (0 : Int32)) (fun _ => (0 : Int32)) x1 x2 x3 = some (r, ko1) := by
  obtain ⟨r, h1, h2⟩ := zz_lay x1 x2 x3
  obtain ⟨ko1, h2⟩ := ex2 h2
  exact ⟨r, h1, ko1, h2⟩
set_option maxRecDepth 100000 in
set_option maxHeartbeats 4000000 in
theorem zz_read (x1 : Int32) (x2 : Int32) (x3 : Int32) (x4 : Int32) : ∃ r : Int32, (Option.map Prod.fst (f_X11_read (0 : Int32) (-4 : Int32) (0 : Int32) (-4 : Int32) (0 : Int32) (-4 : Int32) (0 : Int32) (-4 : Int32) (0 : Int32) x1 x2 x3 x4)) = some r ∧ (Option.map Prod.fst (f_X12_read u_X12_init215_1 (0 : Int32) u_X12_init215_2 (upd (upd (upd (upd (fun _ => (0 : Int32)) ((0 : Int32)).toNatClampNeg (-4 : Int32)) ((1 : Int32)).toNatClampNeg (-4 : Int32)) ((2 : Int32)).toNatClampNeg (-4 : Int32)) ((3 : Int32)).toNatClampNeg (-4 : Int32)) (fun _ => (0 : Int32)) (fun _ => (0 : Int32)) x1 x2 x3 x4)) = some r := by
  rcases isSheet_c x1 with ⟨h1, h2⟩ | ⟨h1, h2, j, hj, e1⟩
  · have hk : f_X12_isSheet x1 x2 = some 0 := by first | (rw [f_X12_isSheet, b0 h2]; done) | (rw [f_X12_isSheet, b0 h2]; rfl)
    exact ⟨-1, by first | (rw [f_X11_read, b0 h1]; done) | (rw [f_X11_read, b0 h1]; rfl), by first | (rw [f_X12_read, b0 hk]; done) | (rw [f_X12_read, b0 hk]; rfl)⟩
  · rcases isLane_c x2 with ⟨g1, g2⟩ | ⟨g1, g2, i, hi, e2⟩
    · have hk : f_X12_isSheet x1 x2 = some 0 := by first | (rw [f_X12_isSheet, b1 h2, b0 g2]; done) | (rw [f_X12_isSheet, b1 h2, b0 g2]; rfl)
      exact ⟨-1, by first | (rw [f_X11_read, b1 h1, b0 g1]; done) | (rw [f_X11_read, b1 h1, b0 g1]; rfl), by first | (rw [f_X12_read, b0 hk]; done) | (rw [f_X12_read, b0 hk]; rfl)⟩
    · have hk : f_X12_isSheet x1 x2 = some 1 := by first | (rw [f_X12_isSheet, b1 h2, b1 g2]; done) | (rw [f_X12_isSheet, b1 h2, b1 g2]; rfl)
      rcases rgg x4 0 20 (by decide) with h | h | ⟨f1, f2, k, hk3, -, e3⟩
      · exact ⟨-1, by first | (rw [f_X11_read, b1 h1, b1 g1, if_pos (show x4 < (0 : Int32) from lt_l (by decide) h)]; done) | (rw [f_X11_read, b1 h1, b1 g1, if_pos (show x4 < (0 : Int32) from lt_l (by decide) h)]; rfl), by first | (rw [f_X12_read, b1 hk, b0 (in_L (lo := (0 : Int64)) (hi := (20 : Int64)) h)]; done) | (rw [f_X12_read, b1 hk, b0 (in_L (lo := (0 : Int64)) (hi := (20 : Int64)) h)]; rfl)⟩
      · exact ⟨-1, by first | (rw [f_X11_read, b1 h1, b1 g1, if_neg (show ¬ x4 < (0 : Int32) from nlt_l (n := 0) (by decide) (by omega)), if_neg (show ¬ x4 ≤ (20 : Int32) from nle_l (n := 20) (by decide) (by omega))]; done) | (rw [f_X11_read, b1 h1, b1 g1, if_neg (show ¬ x4 < (0 : Int32) from nlt_l (n := 0) (by decide) (by omega)), if_neg (show ¬ x4 ≤ (20 : Int32) from nle_l (n := 20) (by decide) (by omega))]; rfl), by first | (rw [f_X12_read, b1 hk, b0 (in_H (lo := (0 : Int64)) (hi := (20 : Int64)) h)]; done) | (rw [f_X12_read, b1 hk, b0 (in_H (lo := (0 : Int64)) (hi := (20 : Int64)) h)]; rfl)⟩
      · have hix : ixB x1 4 = true := by rw [e1]; exact co_dec (N := 4) (P := fun j => ixB (nI j) 4 = true) (by decide +kernel) hj
        have hln : (upd (upd (upd (upd (fun _ => (0 : Int32)) ((0 : Int32)).toNatClampNeg (-4 : Int32)) ((1 : Int32)).toNatClampNeg (-4 : Int32)) ((2 : Int32)).toNatClampNeg (-4 : Int32)) ((3 : Int32)).toNatClampNeg (-4 : Int32)) (x1).toNatClampNeg = (-4 : Int32) := by rw [e1]; exact co_dec (N := 4) (P := fun j => (upd (upd (upd (upd (fun _ => (0 : Int32)) ((0 : Int32)).toNatClampNeg (-4 : Int32)) ((1 : Int32)).toNatClampNeg (-4 : Int32)) ((2 : Int32)).toNatClampNeg (-4 : Int32)) ((3 : Int32)).toNatClampNeg (-4 : Int32)) (nI j).toNatClampNeg = (-4 : Int32)) (by decide +kernel) hj
        obtain ⟨w, hw⟩ := Option.isSome_iff_exists.mp (show (f_X12_copies u_X12_init215_2 (114 : Int32) (0 : Int32)).isSome = true by decide +kernel)
        have hkk : (Option.map Prod.fst (f_X12_read u_X12_init215_1 (0 : Int32) u_X12_init215_2 (upd (upd (upd (upd (fun _ => (0 : Int32)) ((0 : Int32)).toNatClampNeg (-4 : Int32)) ((1 : Int32)).toNatClampNeg (-4 : Int32)) ((2 : Int32)).toNatClampNeg (-4 : Int32)) ((3 : Int32)).toNatClampNeg (-4 : Int32)) (fun _ => (0 : Int32)) (fun _ => (0 : Int32)) x1 x2 x3 x4)) = some 0 := by
          rw [f_X12_read, b1 hk, b1 (in_I (lo := (0 : Int64)) (hi := (20 : Int64)) f1 f2), hw, bd1_e, bnd_e, bnd_e, bnd_e, jn_e, jn_e, rd_k _ _ _ _ _ _ _ _ _ _ _ hix hln]
          by_cases hz : x4 ≤ 0
          · rw [if_pos hz]; rfl
          · rw [if_neg hz]; rfl
        have hxx : (Option.map Prod.fst (f_X11_read (0 : Int32) (-4 : Int32) (0 : Int32) (-4 : Int32) (0 : Int32) (-4 : Int32) (0 : Int32) (-4 : Int32) (0 : Int32) x1 x2 x3 x4)) = some 0 := by
          rw [f_X11_read, b1 h1, b1 g1, if_neg (show ¬ x4 < (0 : Int32) from nlt_l (n := 0) (by decide) f1), if_pos (show x4 ≤ (20 : Int32) from le_l (n := 20) (by decide) (by omega)), hix, ck_e]
          rcases j with _ | _ | _ | _ | j
          · rw [if_pos (show x1 = (0 : Int32) from by rw [e1]; rfl), bnd_e, bnd_e, bnd_e, jn_e, rd_x0]
            by_cases hz : x4 ≤ 0
            · rw [if_pos hz]
              exact congrArg (Option.map Prod.fst) (rd_y0 (some (0, 0)) x3)
            · rw [if_neg hz]
              exact congrArg (Option.map Prod.fst) (rd_y0 (some (0, 1)) x3)
          · rw [if_neg (show ¬ x1 = (0 : Int32) from by rw [e1]; decide), if_pos (show x1 = (1 : Int32) from by rw [e1]; rfl), bnd_e, bnd_e, bnd_e, jn_e, rd_x1]
            by_cases hz : x4 ≤ 0
            · rw [if_pos hz]
              exact congrArg (Option.map Prod.fst) (rd_y1 (some (0, 0)) x3)
            · rw [if_neg hz]
              exact congrArg (Option.map Prod.fst) (rd_y1 (some (0, 1)) x3)
          · rw [if_neg (show ¬ x1 = (0 : Int32) from by rw [e1]; decide), if_neg (show ¬ x1 = (1 : Int32) from by rw [e1]; decide), if_pos (show x1 = (2 : Int32) from by rw [e1]; rfl), bnd_e, bnd_e, bnd_e, jn_e, rd_x2]
            by_cases hz : x4 ≤ 0
            · rw [if_pos hz]
              exact congrArg (Option.map Prod.fst) (rd_y2 (some (0, 0)) x3)
            · rw [if_neg hz]
              exact congrArg (Option.map Prod.fst) (rd_y2 (some (0, 1)) x3)
          · rw [if_neg (show ¬ x1 = (0 : Int32) from by rw [e1]; decide), if_neg (show ¬ x1 = (1 : Int32) from by rw [e1]; decide), if_neg (show ¬ x1 = (2 : Int32) from by rw [e1]; decide), if_pos (show x1 = (3 : Int32) from by rw [e1]; rfl), bnd_e, bnd_e, bnd_e, jn_e, rd_x3]
            by_cases hz : x4 ≤ 0
            · rw [if_pos hz]
              exact congrArg (Option.map Prod.fst) (rd_y3 (some (0, 0)) x3)
            · rw [if_neg hz]
              exact congrArg (Option.map Prod.fst) (rd_y3 (some (0, 1)) x3)
          · omega
        exact ⟨0, hxx, hkk⟩
theorem z_read (x1 : Int32) (x2 : Int32) (x3 : Int32) (x4 : Int32) : ∃ (r : Int32) (xo1 : Int32), f_X11_read (0 : Int32) (-4 : Int32) (0 : Int32) (-4 : Int32) (0 : Int32) (-4 : Int32) (0 : Int32) (-4 : Int32) (0 : Int32) x1 x2 x3 x4 = some (r, xo1) ∧ ∃ (ko1 : Int32), ∃ (ko2 : (Nat → Int32)), f_X12_read u_X12_init215_1 (0 : Int32) u_X12_init215_2 (upd (upd (upd (upd (fun _ => (0 : Int32)) ((0 : Int32)).toNatClampNeg (-4 : Int32)) ((1 : Int32)).toNatClampNeg (-4 : Int32)) ((2 : Int32)).toNatClampNeg (-4 : Int32)) ((3 : Int32)).toNatClampNeg (-4 : Int32)) (fun _ => (0 : Int32)) (fun _ => (0 : Int32)) x1 x2 x3 x4 = some (r, ko1, ko2) := by
  obtain ⟨r, h1, h2⟩ := zz_read x1 x2 x3 x4
  obtain ⟨xo1, h1⟩ := ex2 h1
  obtain ⟨ko1, ko2, h2⟩ := ex3 h2
  exact ⟨r, xo1, h1, ko1, ko2, h2⟩
set_option maxRecDepth 100000 in
set_option maxHeartbeats 4000000 in
theorem zz_torn  : ∃ r : Int32, (f_X11_torn (0 : Int32)) = some r ∧ (f_X12_torn (0 : Int32)) = some r := by
  exact eqs ⟨by decide +kernel, by decide +kernel⟩
theorem z_torn  : ∃ (r : Int32), f_X11_torn (0 : Int32) = some r ∧ f_X12_torn (0 : Int32) = some r := by
  obtain ⟨r, h1, h2⟩ := zz_torn 
  exact ⟨r, h1, h2⟩
set_option maxRecDepth 100000 in
set_option maxHeartbeats 4000000 in
theorem zz_count (x1 : Int32) : ∃ r : Int32, (f_X11_count (4 : Int32) (0 : Int32) (fun _ => (0 : Int32)) (0 : Int32) (fun _ => (0 : Int32)) (-4 : Int32) (0 : Int32) x1) = some r ∧ (f_X12_count u_X12_init215_0 (0 : Int32) u_X12_init215_2 u_X12_init215_3 (upd (upd (upd (upd (fun _ => (0 : Int32)) ((0 : Int32)).toNatClampNeg (-4 : Int32)) ((1 : Int32)).toNatClampNeg (-4 : Int32)) ((2 : Int32)).toNatClampNeg (-4 : Int32)) ((3 : Int32)).toNatClampNeg (-4 : Int32)) (fun _ => (0 : Int32)) x1) = some r := by
  rcases rgg x1 0 4 (by decide) with h | h | ⟨g1, g2, j, hj, -, rfl⟩
  · have e0 : ¬ x1 = (0 : Int32) := ne_l (n := 0) (by decide) (by omega)
    have e1 : ¬ x1 = (1 : Int32) := ne_l (n := 1) (by decide) (by omega)
    have e2 : ¬ x1 = (2 : Int32) := ne_l (n := 2) (by decide) (by omega)
    have e3 : ¬ x1 = (3 : Int32) := ne_l (n := 3) (by decide) (by omega)
    have e4 : ¬ x1 = (4 : Int32) := ne_l (n := 4) (by decide) (by omega)
    have hk : (f_X12_count u_X12_init215_0 (0 : Int32) u_X12_init215_2 u_X12_init215_3 (upd (upd (upd (upd (fun _ => (0 : Int32)) ((0 : Int32)).toNatClampNeg (-4 : Int32)) ((1 : Int32)).toNatClampNeg (-4 : Int32)) ((2 : Int32)).toNatClampNeg (-4 : Int32)) ((3 : Int32)).toNatClampNeg (-4 : Int32)) (fun _ => (0 : Int32)) x1) = some (-1) := (show (f_X12_count u_X12_init215_0 (0 : Int32) u_X12_init215_2 u_X12_init215_3 (upd (upd (upd (upd (fun _ => (0 : Int32)) ((0 : Int32)).toNatClampNeg (-4 : Int32)) ((1 : Int32)).toNatClampNeg (-4 : Int32)) ((2 : Int32)).toNatClampNeg (-4 : Int32)) ((3 : Int32)).toNatClampNeg (-4 : Int32)) (fun _ => (0 : Int32)) x1) = (f_X12_count u_X12_init215_0 (0 : Int32) u_X12_init215_2 u_X12_init215_3 (upd (upd (upd (upd (fun _ => (0 : Int32)) ((0 : Int32)).toNatClampNeg (-4 : Int32)) ((1 : Int32)).toNatClampNeg (-4 : Int32)) ((2 : Int32)).toNatClampNeg (-4 : Int32)) ((3 : Int32)).toNatClampNeg (-4 : Int32)) (fun _ => (0 : Int32)) (5 : Int32)) by simp only [f_X12_count, if_neg e0, if_neg e1, if_neg e2, if_neg e3, if_neg e4, if_neg n50, if_neg n51, if_neg n52, if_neg n53, if_neg n54]).trans (by decide +kernel)
    exact ⟨-1, by first | (rw [f_X11_count, if_neg e0, if_neg e1, if_neg e2, if_neg e3, if_neg e4]; done) | (rw [f_X11_count, if_neg e0, if_neg e1, if_neg e2, if_neg e3, if_neg e4]; rfl), hk⟩
  · have e0 : ¬ x1 = (0 : Int32) := ne_l (n := 0) (by decide) (by omega)
    have e1 : ¬ x1 = (1 : Int32) := ne_l (n := 1) (by decide) (by omega)
    have e2 : ¬ x1 = (2 : Int32) := ne_l (n := 2) (by decide) (by omega)
    have e3 : ¬ x1 = (3 : Int32) := ne_l (n := 3) (by decide) (by omega)
    have e4 : ¬ x1 = (4 : Int32) := ne_l (n := 4) (by decide) (by omega)
    have hk : (f_X12_count u_X12_init215_0 (0 : Int32) u_X12_init215_2 u_X12_init215_3 (upd (upd (upd (upd (fun _ => (0 : Int32)) ((0 : Int32)).toNatClampNeg (-4 : Int32)) ((1 : Int32)).toNatClampNeg (-4 : Int32)) ((2 : Int32)).toNatClampNeg (-4 : Int32)) ((3 : Int32)).toNatClampNeg (-4 : Int32)) (fun _ => (0 : Int32)) x1) = some (-1) := (show (f_X12_count u_X12_init215_0 (0 : Int32) u_X12_init215_2 u_X12_init215_3 (upd (upd (upd (upd (fun _ => (0 : Int32)) ((0 : Int32)).toNatClampNeg (-4 : Int32)) ((1 : Int32)).toNatClampNeg (-4 : Int32)) ((2 : Int32)).toNatClampNeg (-4 : Int32)) ((3 : Int32)).toNatClampNeg (-4 : Int32)) (fun _ => (0 : Int32)) x1) = (f_X12_count u_X12_init215_0 (0 : Int32) u_X12_init215_2 u_X12_init215_3 (upd (upd (upd (upd (fun _ => (0 : Int32)) ((0 : Int32)).toNatClampNeg (-4 : Int32)) ((1 : Int32)).toNatClampNeg (-4 : Int32)) ((2 : Int32)).toNatClampNeg (-4 : Int32)) ((3 : Int32)).toNatClampNeg (-4 : Int32)) (fun _ => (0 : Int32)) (5 : Int32)) by simp only [f_X12_count, if_neg e0, if_neg e1, if_neg e2, if_neg e3, if_neg e4, if_neg n50, if_neg n51, if_neg n52, if_neg n53, if_neg n54]).trans (by decide +kernel)
    exact ⟨-1, by first | (rw [f_X11_count, if_neg e0, if_neg e1, if_neg e2, if_neg e3, if_neg e4]; done) | (rw [f_X11_count, if_neg e0, if_neg e1, if_neg e2, if_neg e3, if_neg e4]; rfl), hk⟩
  · exact eqs (co_dec (N := 5) (P := fun j => (f_X11_count (4 : Int32) (0 : Int32) (fun _ => (0 : Int32)) (0 : Int32) (fun _ => (0 : Int32)) (-4 : Int32) (0 : Int32) (nI j)) = (f_X12_count u_X12_init215_0 (0 : Int32) u_X12_init215_2 u_X12_init215_3 (upd (upd (upd (upd (fun _ => (0 : Int32)) ((0 : Int32)).toNatClampNeg (-4 : Int32)) ((1 : Int32)).toNatClampNeg (-4 : Int32)) ((2 : Int32)).toNatClampNeg (-4 : Int32)) ((3 : Int32)).toNatClampNeg (-4 : Int32)) (fun _ => (0 : Int32)) (nI j)) ∧ ((f_X11_count (4 : Int32) (0 : Int32) (fun _ => (0 : Int32)) (0 : Int32) (fun _ => (0 : Int32)) (-4 : Int32) (0 : Int32) (nI j))).isSome = true) (by decide +kernel) hj)
theorem z_count (x1 : Int32) : ∃ (r : Int32), f_X11_count (4 : Int32) (0 : Int32) (fun _ => (0 : Int32)) (0 : Int32) (fun _ => (0 : Int32)) (-4 : Int32) (0 : Int32) x1 = some r ∧ f_X12_count u_X12_init215_0 (0 : Int32) u_X12_init215_2 u_X12_init215_3 (upd (upd (upd (upd (fun _ => (0 : Int32)) ((0 : Int32)).toNatClampNeg (-4 : Int32)) ((1 : Int32)).toNatClampNeg (-4 : Int32)) ((2 : Int32)).toNatClampNeg (-4 : Int32)) ((3 : Int32)).toNatClampNeg (-4 : Int32)) (fun _ => (0 : Int32)) x1 = some r := by
  obtain ⟨r, h1, h2⟩ := zz_count x1
  exact ⟨r, h1, h2⟩
