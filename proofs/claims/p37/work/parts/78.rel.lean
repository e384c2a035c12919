theorem tfn_chsN : ∀ c : Nat, c < 7 → 1 ≤ c → ∀ n : Nat, n < 13 → ∀ j : Nat, j < 13 → j ≤ n → tfn (c : Int) n (j : Int) = chs (n : Int) j * (c : Int) ^ (n - j) := by decide +kernel
theorem tfn_chs {s n j : Int} (h1 : 2 ≤ s) (h2 : s ≤ 7) (h3 : 0 ≤ n) (h4 : n ≤ 12) (h5 : 0 ≤ j) (h6 : j ≤ n) : tfn (s - 1) n.toNat j = chs n j.toNat * (s - 1) ^ (n - j).toNat := by
  have e := tfn_chsN (s - 1).toNat (by omega) (by omega) n.toNat (by omega) j.toNat (by omega) (by omega)
  rw [Int.toNat_of_nonneg (show 0 ≤ s - 1 by omega), Int.toNat_of_nonneg h5, Int.toNat_of_nonneg h3] at e
  rw [e, show n.toNat - j.toNat = (n - j).toNat from by omega]
theorem bits_congr {P Q : Int → Prop} {n : Int} (h : ∀ j, 0 ≤ j → j < n → (P j ↔ Q j)) : bitsOf P n.toNat = bitsOf Q n.toNat := by
  have g : ∀ m : Nat, (m : Int) ≤ n → bitsOf P m = bitsOf Q m := by
    intro m
    induction m with
    | zero => intro _; rfl
    | succ m ih =>
      intro hm
      have e := h (m : Int) (by omega) (by omega)
      by_cases c : P (m : Int)
      · rw [bits_t c, bits_t (e.mp c), ih (by omega)]
      · rw [bits_f c, bits_f (fun z => c (e.mpr z)), ih (by omega)]
  by_cases c : 0 ≤ n
  · exact g _ (by omega)
  · rw [show n.toNat = 0 from by omega]
    rfl
theorem sum_congr {f g : Int → Int} {n : Int} (h : ∀ j, 0 ≤ j → j < n → f j = g j) : sumTo f n.toNat = sumTo g n.toNat := by
  have q : ∀ m : Nat, (m : Int) ≤ n → sumTo f m = sumTo g m := by
    intro m
    induction m with
    | zero => intro _; rfl
    | succ m ih =>
      intro hm
      show sumTo f m + f (m : Int) = sumTo g m + g (m : Int)
      rw [ih (by omega), h (m : Int) (by omega) (by omega)]
  by_cases c : 0 ≤ n
  · exact q _ (by omega)
  · rw [show n.toNat = 0 from by omega]
    rfl
/-! both objects side by side -/
theorem i2b_e (y : Int) : z_i2b y = Int.bmod y 256 := by
  unfold z_i2b
  rw [Int8.toInt_toInt32, Int32.toInt8_ofInt, Int8.toInt_ofInt]
theorem w255 (y : Int) : w_and y 255 = y % 256 := by
  unfold w_and
  have e : (Int64.ofInt y &&& Int64.ofInt 255).toBitVec.toNat = (y % 256).toNat := by
    rw [Int64.toBitVec_and, BitVec.toNat_and, show (Int64.ofInt 255).toBitVec.toNat = 2 ^ 8 - 1 from rfl, Nat.and_two_pow_sub_one_eq_mod]
    show (BitVec.ofInt 64 y).toNat % 2 ^ 8 = _
    rw [BitVec.toNat_ofInt]
    omega
  show BitVec.toInt (Int64.ofInt y &&& Int64.ofInt 255).toBitVec = _
  rw [BitVec.toInt_eq_toNat_of_lt (by rw [e]; omega), e]
  omega
theorem byte_rel (y : Int) : (z_i2b (z_i2b y) = w_and y 255 ∧ w_and y 255 < 128) ∨ (z_i2b (z_i2b y) < 0 ∧ 128 ≤ w_and y 255) := by
  rw [i2b_e, i2b_e, w255, Int.bmod_bmod]
  unfold Int.bmod
  dsimp only
  split <;> omega
theorem feed_bR {b t b2 t2 : Int → Int} {L x : Int} (h : bR b t L) (h0 : 0 ≤ L) (h1 : L + 8 ≤ 320 → ∀ j, 0 ≤ j → j < 8 → b2 (L + j) = z_i2b (z_i2b (w_shr x (56 - 8 * j)))) (h2 : ∀ q, (¬ L + 8 ≤ 320 ∨ q < L ∨ L + 8 ≤ q) → b2 q = b q) (g1 : L + 8 ≤ 320 → ∀ j, 0 ≤ j → j < 8 → t2 (L + j) = w_and (w_shr x (56 - 8 * j)) 255) (g2 : ∀ q, (¬ L + 8 ≤ 320 ∨ q < L ∨ L + 8 ≤ q) → t2 q = t q) : bR b2 t2 (if L + 8 ≤ 320 then L + 8 else L) := by
  intro j a c
  by_cases d : L + 8 ≤ 320 ∧ L ≤ j
  · rw [if_pos d.1] at c
    have e1 := h1 d.1 (j - L) (by omega) (by omega)
    have e2 := g1 d.1 (j - L) (by omega) (by omega)
    rw [show L + (j - L) = j from by omega] at e1 e2
    rw [e1, e2]
    exact byte_rel _
  · have c2 : j < L := by split at c <;> omega
    rw [h2 j (by omega), g2 j (by omega)]
    exact h j a c2
def sst (sd bone king days : Int) (p f s e se st : Int → Int) : Prop := sd = st 31 ∧ bone = st 7 ∧ king = st 8 ∧ days = st 30 ∧ (∀ j, 0 ≤ j → j < 7 → p j = st j) ∧ (∀ j, 0 ≤ j → j < 7 → f j = st (9 + j)) ∧ (∀ j, 0 ≤ j → j < 7 → s j = st (16 + j)) ∧ (∀ j, 0 ≤ j → j < 7 → e j = st (23 + j)) ∧ (∀ j, 0 ≤ j → j < sd → se j = st (32 + j))
theorem sst_cp {sd bone king days : Int} {p f s e se st st2 : Int → Int} (h : sst sd bone king days p f s e se st) (hs : sd ≤ 6) (hc : ∀ j, 0 ≤ j → j < 38 → st2 j = st j) : sst sd bone king days p f s e se st2 := by
  obtain ⟨h1, h2, h3, h4, h5, h6, h7, h8, h9⟩ := h
  refine ⟨by rw [hc 31 (by omega) (by omega)]; exact h1, by rw [hc 7 (by omega) (by omega)]; exact h2, by rw [hc 8 (by omega) (by omega)]; exact h3, by rw [hc 30 (by omega) (by omega)]; exact h4, fun j a b => ?_, fun j a b => ?_, fun j a b => ?_, fun j a b => ?_, fun j a b => ?_⟩ <;> rw [hc _ (by omega) (by omega)]
  · exact h5 j a b
  · exact h6 j a b
  · exact h7 j a b
  · exact h8 j a b
  · exact h9 j a b
theorem sst_arr {sd bone king days : Int} {p f s e se p2 f2 s2 e2 se2 st : Int → Int} (h : sst sd bone king days p f s e se st) (h1 : ∀ j, 0 ≤ j → j < 7 → p2 j = p j) (h2 : ∀ j, 0 ≤ j → j < 7 → f2 j = f j) (h3 : ∀ j, 0 ≤ j → j < 7 → s2 j = s j) (h4 : ∀ j, 0 ≤ j → j < 7 → e2 j = e j) (h5 : ∀ j, 0 ≤ j → j < sd → se2 j = se j) : sst sd bone king days p2 f2 s2 e2 se2 st := by
  obtain ⟨g1, g2, g3, g4, g5, g6, g7, g8, g9⟩ := h
  exact ⟨g1, g2, g3, g4, fun j a b => (h1 j a b).trans (g5 j a b), fun j a b => (h2 j a b).trans (g6 j a b), fun j a b => (h3 j a b).trans (g7 j a b), fun j a b => (h4 j a b).trans (g8 j a b), fun j a b => (h5 j a b).trans (g9 j a b)⟩
theorem sst_fr {sd bone king days i x : Int} {p f s e se st : Int → Int} (h : sst sd bone king days p f s e se st) (h0 : 0 ≤ i) (h1 : i < 7) : sst sd bone king days p (z_up f i x) s e se (z_up st (9 + i) x) := by
  obtain ⟨g1, g2, g3, g4, g5, g6, g7, g8, g9⟩ := h
  refine ⟨by rw [z_up_n _ _ (by omega)]; exact g1, by rw [z_up_n _ _ (by omega)]; exact g2, by rw [z_up_n _ _ (by omega)]; exact g3, by rw [z_up_n _ _ (by omega)]; exact g4, fun j a b => by rw [z_up_n _ _ (by omega)]; exact g5 j a b, fun j a b => ?_, fun j a b => by rw [z_up_n _ _ (by omega)]; exact g7 j a b, fun j a b => by rw [z_up_n _ _ (by omega)]; exact g8 j a b, fun j a b => by rw [z_up_n _ _ (by omega)]; exact g9 j a b⟩
  rw [z_up_a, z_up_a]
  by_cases c : j = i
  · rw [if_pos c, if_pos (by omega)]
  · rw [if_neg c, if_neg (by omega)]; exact g6 j a b
theorem sst_sp {sd bone king days i x : Int} {p f s e se st : Int → Int} (h : sst sd bone king days p f s e se st) (h0 : 0 ≤ i) (h1 : i < 7) : sst sd bone king days p f (z_up s i x) e se (z_up st (16 + i) x) := by
  obtain ⟨g1, g2, g3, g4, g5, g6, g7, g8, g9⟩ := h
  refine ⟨by rw [z_up_n _ _ (by omega)]; exact g1, by rw [z_up_n _ _ (by omega)]; exact g2, by rw [z_up_n _ _ (by omega)]; exact g3, by rw [z_up_n _ _ (by omega)]; exact g4, fun j a b => by rw [z_up_n _ _ (by omega)]; exact g5 j a b, fun j a b => by rw [z_up_n _ _ (by omega)]; exact g6 j a b, fun j a b => ?_, fun j a b => by rw [z_up_n _ _ (by omega)]; exact g8 j a b, fun j a b => by rw [z_up_n _ _ (by omega)]; exact g9 j a b⟩
  rw [z_up_a, z_up_a]
  by_cases c : j = i
  · rw [if_pos c, if_pos (by omega)]
  · rw [if_neg c, if_neg (by omega)]; exact g7 j a b
theorem sst_fi {sd bone king days i x : Int} {p f s e se st : Int → Int} (h : sst sd bone king days p f s e se st) (h0 : 0 ≤ i) (h1 : i < 7) : sst sd bone king days (z_up p i x) f s e se (z_up st i x) := by
  obtain ⟨g1, g2, g3, g4, g5, g6, g7, g8, g9⟩ := h
  refine ⟨by rw [z_up_n _ _ (by omega)]; exact g1, by rw [z_up_n _ _ (by omega)]; exact g2, by rw [z_up_n _ _ (by omega)]; exact g3, by rw [z_up_n _ _ (by omega)]; exact g4, fun j a b => ?_, fun j a b => by rw [z_up_n _ _ (by omega)]; exact g6 j a b, fun j a b => by rw [z_up_n _ _ (by omega)]; exact g7 j a b, fun j a b => by rw [z_up_n _ _ (by omega)]; exact g8 j a b, fun j a b => by rw [z_up_n _ _ (by omega)]; exact g9 j a b⟩
  rw [z_up_a, z_up_a]
  by_cases c : j = i
  · rw [if_pos c, if_pos c]
  · rw [if_neg c, if_neg c]; exact g5 j a b
theorem sst_kg {sd bone king days x : Int} {p f s e se st : Int → Int} (h : sst sd bone king days p f s e se st) : sst sd bone x days p f s e se (z_up st 8 x) := by
  obtain ⟨g1, g2, g3, g4, g5, g6, g7, g8, g9⟩ := h
  exact ⟨by rw [z_up_n _ _ (by omega)]; exact g1, by rw [z_up_n _ _ (by omega)]; exact g2, by rw [z_up_s], by rw [z_up_n _ _ (by omega)]; exact g4, fun j a b => by rw [z_up_n _ _ (by omega)]; exact g5 j a b, fun j a b => by rw [z_up_n _ _ (by omega)]; exact g6 j a b, fun j a b => by rw [z_up_n _ _ (by omega)]; exact g7 j a b, fun j a b => by rw [z_up_n _ _ (by omega)]; exact g8 j a b, fun j a b => by rw [z_up_n _ _ (by omega)]; exact g9 j a b⟩
theorem sst_see {sd bone king days x y : Int} {p f s e se st : Int → Int} (h : sst sd bone king days p f s e se st) (h0 : 0 ≤ sd) (h6 : sd < 6) (hy : y = st 31) : sst (sd + 1) bone king days p f s e (z_up se sd x) (z_up (z_up st (32 + y) x) 31 (y + 1)) := by
  obtain ⟨g1, g2, g3, g4, g5, g6, g7, g8, g9⟩ := h
  refine ⟨by rw [z_up_s]; omega, by rw [z_up_n _ _ (by omega), z_up_n _ _ (by omega)]; exact g2, by rw [z_up_n _ _ (by omega), z_up_n _ _ (by omega)]; exact g3, by rw [z_up_n _ _ (by omega), z_up_n _ _ (by omega)]; exact g4, fun j a b => by rw [z_up_n _ _ (by omega), z_up_n _ _ (by omega)]; exact g5 j a b, fun j a b => by rw [z_up_n _ _ (by omega), z_up_n _ _ (by omega)]; exact g6 j a b, fun j a b => by rw [z_up_n _ _ (by omega), z_up_n _ _ (by omega)]; exact g7 j a b, fun j a b => by rw [z_up_n _ _ (by omega), z_up_n _ _ (by omega)]; exact g8 j a b, fun j a b => ?_⟩
  rw [z_up_n _ _ (show (32 : Int) + j ≠ 31 by omega), z_up_a, z_up_a]
  by_cases c : j = sd
  · rw [if_pos c, if_pos (by omega)]
  · rw [if_neg c, if_neg (by omega)]; exact g9 j a (by omega)
theorem sst_fg {sd bone king days x : Int} {p f s e se st : Int → Int} (h : sst sd bone king days p f s e se st) (h6 : x ≤ sd) : sst x bone king days p f s e se (z_up st 31 x) := by
  obtain ⟨g1, g2, g3, g4, g5, g6, g7, g8, g9⟩ := h
  exact ⟨by rw [z_up_s], by rw [z_up_n _ _ (by omega)]; exact g2, by rw [z_up_n _ _ (by omega)]; exact g3, by rw [z_up_n _ _ (by omega)]; exact g4, fun j a b => by rw [z_up_n _ _ (by omega)]; exact g5 j a b, fun j a b => by rw [z_up_n _ _ (by omega)]; exact g6 j a b, fun j a b => by rw [z_up_n _ _ (by omega)]; exact g7 j a b, fun j a b => by rw [z_up_n _ _ (by omega)]; exact g8 j a b, fun j a b => by rw [z_up_n _ _ (by omega)]; exact g9 j a (by omega)⟩
theorem day_sst {n sd bone king days bone2 king2 days2 : Int} {row row2 p f s e se p2 e2 st st2 : Int → Int} (hn : 2 ≤ n ∧ n ≤ 7) (hp : perm n row) (hrow : ∀ i, 0 ≤ i → i < n → row i = row2 i) (h : sst sd bone king days p f s e se st) (hb : 0 ≤ bone ∧ bone < n) (hk : 0 ≤ king ∧ king < n) (hsd : sd ≤ 6) (d : dayP n row f bone king days p e bone2 king2 days2 p2 e2) (m : dayM n row2 st st2) : sst sd bone2 king2 days2 p2 f s e2 se st2 := by
  obtain ⟨g1, g2, g3, g4, g5, g6, g7, g8, g9⟩ := h
  obtain ⟨d1, d2, d3, d4, d5, d6, d7⟩ := d
  obtain ⟨⟨m1, m2, m3, m4, m5, m6, m7⟩, mk⟩ := m
  have eb : bone2 = st2 7 := by rw [d1, m1, hrow bone hb.1 hb.2, g2]
  have ef : f king = st (9 + st 8) := by rw [g6 king hk.1 (by omega), g3]
  have ek : king2 = st2 8 := by
    refine plc_inj (n := n) (k := king) (f := f king) (by omega) d2.1 d2.2.1 m2.1 m2.2.1 ?_
    have w := m2.2.2
    dsimp only at w
    rw [← ef, ← g3] at w
    rw [d2.2.2, w, eb]
  have ep : ∀ j, 0 ≤ j → j < 7 → p2 j = st2 j := by
    intro j a b
    by_cases c : j < n
    · obtain ⟨i, hi, e⟩ := perm_sur hp a c
      rw [← e, d4 i hi.1 hi.2, g5 i hi.1 (by omega)]
      have w := m4 i hi.1 hi.2
      rw [← hrow i hi.1 hi.2] at w
      have hr := hp.1 i hi.1 hi.2
      rw [vw_in0 hr.1 (by omega), vw_in0 hi.1 (by omega)] at w
      exact w.symm
    · rw [d5 j (by omega), g5 j a b]
      have w := m5 j (by omega)
      rw [vw_in0 a b, vw_in0 a b] at w
      exact w.symm
  refine ⟨by rw [mk 31 (by omega)]; exact g1, eb, ek, by rw [d3, m3, g4], ep, fun j a b => by rw [mk _ (by omega)]; exact g6 j a b, fun j a b => by rw [mk _ (by omega)]; exact g7 j a b, fun j a b => ?_, fun j a b => by rw [mk _ (by omega)]; exact g9 j a b⟩
  by_cases c : j < n
  · have w := m6 j a c
    dsimp only at w
    rw [← ef, ← g3] at w
    have hr := plc_rng (n := n) (k := king) (f := f king) (p := j) (by omega)
    rw [vw_in a b, vw_in a b, vw_in0 hr.1 (by omega)] at w
    rw [d6 j a c, w, ep _ hr.1 (by omega), g8 j a b]
  · have w := m7 j (by omega)
    rw [vw_in a b, vw_in a b] at w
    rw [d7 j (by omega), w, g8 j a b]
theorem tx_both {b : Int → Int} {L rx rm f1 f2 : Int} {F1 F2 : (Int → Int) → Prop} (h1 : f1 = 0 → ∃ D, txE b L rx.toNat D ∧ 0 ≤ rx ∧ D 2 < D 0 ∧ F1 D) (h2 : ¬ f1 = 0 → txF b L (-10 - rx) ∨ (rx = -10 - L ∧ ∃ k D, txE b L k D ∧ ¬ D 2 < D 0)) (g1 : f2 = 0 → ∃ D, txE b L rm.toNat D ∧ 0 ≤ rm ∧ D 2 < D 0 ∧ F2 D) (g2 : ¬ f2 = 0 → txF b L (-10 - rm) ∨ (rm = -10 - L ∧ ∃ k D, txE b L k D ∧ ¬ D 2 < D 0)) : rx = rm ∧ ((f1 = 0 ∧ f2 = 0 ∧ ∃ D, F1 D ∧ F2 D) ∨ (¬ f1 = 0 ∧ ¬ f2 = 0)) := by
  by_cases c : f1 = 0
  · obtain ⟨D, a1, a2, a3, a4⟩ := h1 c
    by_cases d : f2 = 0
    · obtain ⟨E, b1, b2, b3, b4⟩ := g1 d
      obtain ⟨e1, e2⟩ := txE_uniq a1 b1
      subst e2
      exact ⟨by omega, Or.inl ⟨c, d, D, a4, b4⟩⟩
    · exfalso
      rcases g2 d with w | ⟨_, k, E, w1, w2⟩
      · exact txE_F a1 w
      · obtain ⟨e1, e2⟩ := txE_uniq a1 w1
        subst e2
        exact w2 a3
  · by_cases d : f2 = 0
    · exfalso
      obtain ⟨E, b1, b2, b3, b4⟩ := g1 d
      rcases h2 c with w | ⟨_, k, D, w1, w2⟩
      · exact txE_F b1 w
      · obtain ⟨e1, e2⟩ := txE_uniq b1 w1
        subst e2
        exact w2 b3
    · refine ⟨?_, Or.inr ⟨c, d⟩⟩
      rcases h2 c with w | ⟨w1, k, D, w2, w3⟩
      · rcases g2 d with v | ⟨v1, k2, D2, v2, v3⟩
        · have := txF_uniq w v; omega
        · exact absurd w (fun z => txE_F v2 z)
      · rcases g2 d with v | ⟨v1, k2, D2, v2, v3⟩
        · exact absurd v (fun z => txE_F w2 z)
        · omega
def rul (n s n2 s2 : Int) (need after need2 brings : Int → Int) : Prop := n = n2 ∧ s = s2 ∧ (∀ j, 0 ≤ j → j < 7 → need j = need2 j) ∧ (∀ t, 0 ≤ t → t < s2 → ∀ i, 0 ≤ i → i < n2 → after (7 * t + i) = brings (7 * t + i))
theorem fin_rul {D : Int → Int} {n s bone king n2 s2 bone2 king2 : Int} {need after p f sp need2 after2 p2 f2 sp2 : Int → Int} (h : fin D n s bone king need after p f sp) (g : fin D n2 s2 bone2 king2 need2 after2 p2 f2 sp2) : rul n s n2 s2 need after need2 after2 := by
  obtain ⟨h1, h2, _, _, h5, _, _, _, h9⟩ := h
  obtain ⟨g1, g2, _, _, g5, _, _, _, g9⟩ := g
  have e1 : n = n2 := by omega
  have e2 : s = s2 := by omega
  subst e1 e2
  exact ⟨rfl, rfl, fun j a b => by rw [h5 j a b, g5 j a b], fun t a b i c d => by rw [h9 t a b i c d, g9 t a b i c d]⟩
theorem fin_sst {D : Int → Int} {n s bone king n2 s2 sd days : Int} {need after p f sp need2 after2 e se st : Int → Int} (h : fin D n s bone king need after p f sp) (g : fin D n2 s2 (st 7) (st 8) need2 after2 st (fun j => st (9 + j)) (fun j => st (16 + j))) (h1 : sd = 0) (h2 : days = 0) (h3 : ∀ j, 0 ≤ j → j < 7 → e j = 0) (g1 : st 31 = 0) (g2 : st 30 = 0) (g3 : ∀ j, 0 ≤ j → j < 7 → st (23 + j) = 0) : sst sd bone king days p f sp e se st := by
  obtain ⟨_, _, a3, a4, _, a6, a7, a8, _⟩ := h
  obtain ⟨_, _, b3, b4, _, b6, b7, b8, _⟩ := g
  exact ⟨by omega, by omega, by omega, by omega, fun j a b => by rw [a6 j a b, b6 j a b], fun j a b => by rw [a7 j a b]; exact (b7 j a b).symm, fun j a b => by rw [a8 j a b]; exact (b8 j a b).symm, fun j a b => by rw [h3 j a b, g3 j a b], fun j a b => by omega⟩
theorem days_sst {n s sd c : Int} {after brings f sp se cells cells2 : Int → Int} (hn : 2 ≤ n ∧ n ≤ 7) (hrows : rows n s after) (hb : ∀ t, 0 ≤ t → t < s → ∀ i, 0 ≤ i → i < n → after (7 * t + i) = brings (7 * t + i)) (hsd : sd ≤ 6) : ∀ (m : Nat) {bone king days bone2 king2 days2 : Int} {p e p2 e2 st st2 : Int → Int}, (∀ j : Nat, j < m → (0 ≤ cells (c + (j : Int)) ∧ cells (c + (j : Int)) < s) ∧ cells2 (c + (j : Int)) = cells (c + (j : Int))) → sst sd bone king days p f sp e se st → (0 ≤ bone ∧ bone < n) → (0 ≤ king ∧ king < n) → daysP n after f cells c m bone king days p e bone2 king2 days2 p2 e2 → daysM n brings cells2 c m st st2 → sst sd bone2 king2 days2 p2 f sp e2 se st2 ∧ (0 ≤ bone2 ∧ bone2 < n) ∧ (0 ≤ king2 ∧ king2 < n) := by
  intro m
  induction m with
  | zero =>
    intro bone king days bone2 king2 days2 p e p2 e2 st st2 _ h hbn hkg d g
    obtain ⟨rfl, rfl, rfl, rfl, rfl⟩ := d
    exact ⟨sst_cp h hsd g, hbn, hkg⟩
  | succ m ih =>
    intro bone king days bone2 king2 days2 p e p2 e2 st st2 hc h hbn hkg d g
    obtain ⟨b, k, dd, pp, ee, h1, h2⟩ := d
    obtain ⟨st1, g1, g2⟩ := g
    obtain ⟨k1, k2, k3⟩ := ih (fun j hj => hc j (by omega)) h hbn hkg h1 g1
    have w := hc m (by omega)
    have hp := hrows (cells (c + (m : Int))) w.1.1 w.1.2
    refine ⟨day_sst hn hp (fun i a q => ?_) k1 k2 k3 hsd h2 g2, ?_, ⟨h2.2.1.1, h2.2.1.2.1⟩⟩
    · try dsimp only
      rw [w.2, ← hb _ w.1.1 w.1.2 i a q]
      congr 1
      omega
    · rw [h2.1]
      exact hp.1 b k2.1 k2.2
theorem read_both {n s sd lane size x2 x3 x4 tear bone king days bone2 king2 days2 r r2 tear2 tear3 : Int} {after brings f sp se cells cells2 p e p2 e2 st st2 : Int → Int} (hn : 2 ≤ n ∧ n ≤ 7) (hrows : rows n s after) (hb : ∀ t, 0 ≤ t → t < s → ∀ i, 0 ≤ i → i < n → after (7 * t + i) = brings (7 * t + i)) (hsd : sd ≤ 6) (hz : size ≤ 40) (hcl : ∀ j, 0 ≤ j → j < 40 → cells j = cells2 j) (h : sst sd bone king days p f sp e se st) (hbn : 0 ≤ bone ∧ bone < n) (hkg : 0 ≤ king ∧ king < n) (a : readP n s after f lane size cells x2 x3 x4 tear bone king days p e r tear2 bone2 king2 days2 p2 e2) (b : readM n s brings lane size cells2 x2 x3 x4 tear st r2 tear3 st2) : r = r2 ∧ tear2 = tear3 ∧ sst sd bone2 king2 days2 p2 f sp e2 se st2 := by
  have hd := h.2.2.2.1
  obtain ⟨m, m1, m2, m3⟩ := a
  obtain ⟨k, k1, k2, k3⟩ := b
  have hce : ∀ j, fa lane size x2 (x3 + j) = 0 → cells (x3 + j) = cells2 (x3 + j) := fun j z => by
    have := fa_0 z
    exact hcl _ (by omega) (by omega)
  have e : m = k := by
    rcases Int.lt_trichotomy m k with c | c | c
    · exfalso
      have w := k2 m m1.1 c
      have w2 := hce m w.1
      rcases m3 with ⟨_, _, y, _⟩ | ⟨⟨_, y, _⟩ | ⟨y, _⟩, _⟩
      · apply y; rw [w2]; exact ⟨w.2.1, by omega⟩
      · exact y w.1
      · omega
    · exact c
    · exfalso
      have w := m2 k k1.1 c
      have w2 := hce k w.1
      rcases k3 with ⟨_, _, y, _⟩ | ⟨⟨_, y, _⟩ | ⟨y, _⟩, _⟩
      · apply y; rw [← w2]; exact ⟨w.2.1, by omega⟩
      · exact y w.1
      · omega
  subst e
  rcases m3 with ⟨a1, a2, a3, a4, a5, a6, a7, a8, a9, a10⟩ | ⟨a1, a2, a3⟩
  · rcases k3 with ⟨b1, b2, b3, b4, b5, b6⟩ | ⟨b1, b2, b3⟩
    · subst a6 a7 a8 a9 a10
      exact ⟨by omega, by omega, sst_cp h hsd b6⟩
    · exfalso
      rcases b1 with ⟨_, y, _⟩ | ⟨y, _⟩
      · exact y a2
      · omega
  · rcases k3 with ⟨b1, b2, b3, b4, b5, b6⟩ | ⟨b1, b2, b3⟩
    · exfalso
      rcases a1 with ⟨_, y, _⟩ | ⟨y, _⟩
      · exact y b2
      · omega
    · refine ⟨by omega, ?_, (days_sst hn hrows hb hsd m.toNat (fun j hj => ?_) h hbn hkg a3 b3).1⟩
      · rcases a1 with ⟨y1, y2, y3⟩ | ⟨y1, y2⟩
        · rcases b1 with ⟨z1, z2, z3⟩ | ⟨z1, z2⟩
          · rw [y3, z3]
          · omega
        · rcases b1 with ⟨z1, z2, z3⟩ | ⟨z1, z2⟩
          · omega
          · omega
      · have w := m2 (j : Int) (by omega) (by omega)
        exact ⟨w.2.1, (hce _ w.1).symm⟩
theorem prq_nn {n s k0 b0 : Int} {fr seen : Int → Int} {A : Int → Int → Int} : ∀ m : Nat, 0 ≤ prq n s k0 b0 fr seen A m := by
  intro m
  induction m with
  | zero => show (0 : Int) ≤ 1; decide
  | succ m ih => exact Int.mul_nonneg ih (popc_r _).1
theorem hb_congr {n k0 b0 : Int} {fr seen st : Int → Int} (ho : okM n st) (h1 : k0 = st 8) (h2 : b0 = st 7) (hf : ∀ k, 0 ≤ k → k < n → fr k = st (9 + k)) (hs : ∀ j, 0 ≤ j → j < st 31 → seen j = st (32 + j)) {i : Int} (i0 : 0 ≤ i) (i1 : i ≤ st 31) : hb n k0 b0 fr seen i = hb n (st 8) (st 7) (mfr st) (mseen st) i := by
  by_cases c : i = 0
  · subst c
    exact h2
  · have e : ∀ j, 0 ≤ j → j < st 31 → hk k0 seen j = hk (st 8) (mseen st) j := by
      intro j a b
      unfold hk
      by_cases d : j = 0
      · rw [if_pos d, if_pos d, h1]
      · rw [if_neg d, if_neg d]
        exact hs (j - 1) (by omega) (by omega)
    rw [show i = (i - 1) + 1 from by omega, hb_s (by omega), hb_s (by omega), e (i - 1) (by omega) (by omega), hs (i - 1) (by omega) (by omega)]
    have w := hk_r ho (d := i - 1) (by omega) (by omega)
    rw [hf _ w.1 w.2]
    rfl
theorem fitq_congr {n s k0 b0 : Int} {fr seen st b : Int → Int} {A : Int → Int → Int} (hn : 2 ≤ n) (ho : okM n st) (h1 : k0 = st 8) (h2 : b0 = st 7) (hf : ∀ k, 0 ≤ k → k < n → fr k = st (9 + k)) (hs : ∀ j, 0 ≤ j → j < st 31 → seen j = st (32 + j)) (hA : ∀ t x, 0 ≤ t → t < s → 0 ≤ x → x < n → A t x = b (7 * t + x)) {i : Int} (i0 : 0 ≤ i) (i1 : i < st 31) : fitq n s k0 b0 fr seen A i = fitq n s (st 8) (st 7) (mfr st) (mseen st) (mA b) i := by
  unfold fitq
  rw [hb_congr ho h1 h2 hf hs i0 (show i ≤ st 31 by omega), hb_congr ho h1 h2 hf hs (show 0 ≤ i + 1 by omega) (show i + 1 ≤ st 31 by omega)]
  have w := hb_r hn ho i
  refine bits_congr (fun t a c => ?_)
  rw [hA t _ a c w.1 w.2]
  exact Iff.rfl
theorem prod_ext {f g : Int → Int} : ∀ m : Nat, (∀ j, 0 ≤ j → j < (m : Int) → f j = g j) → prodTo f m = prodTo g m := by
  intro m
  induction m with
  | zero => intro _; rfl
  | succ m ih =>
    intro h
    show prodTo f m * f (m : Int) = prodTo g m * g (m : Int)
    rw [ih (fun j a b => h j a (by omega)), h (m : Int) (by omega) (by omega)]
theorem prq_congr {n s k0 b0 : Int} {fr seen st b : Int → Int} {A : Int → Int → Int} (hn : 2 ≤ n) (ho : okM n st) (h1 : k0 = st 8) (h2 : b0 = st 7) (hf : ∀ k, 0 ≤ k → k < n → fr k = st (9 + k)) (hs : ∀ j, 0 ≤ j → j < st 31 → seen j = st (32 + j)) (hA : ∀ t x, 0 ≤ t → t < s → 0 ≤ x → x < n → A t x = b (7 * t + x)) : ∀ m : Nat, (m : Int) ≤ st 31 → prq n s k0 b0 fr seen A m = prq n s (st 8) (st 7) (mfr st) (mseen st) (mA b) m := by
  intro m hm
  unfold prq
  exact prod_ext m (fun j u v => congrArg popc (fitq_congr hn ho h1 h2 hf hs hA u (by omega)))
theorem fst_0 {s r : Int} {P : Int → Prop} (h : fstq s P r) (hP : ∀ t, 0 ≤ t → t < s → ¬ P t) : r = -4 := by
  rcases h with ⟨a, _⟩ | ⟨a, b, _⟩
  · exact a
  · exact absurd b (hP r a.1 a.2)
theorem stird_u {n : Int} {row row' p p' w w' : Int → Int} (hr : perm n row) (hrow : ∀ i, 0 ≤ i → i < n → row i = row' i) (hp : ∀ i, 0 ≤ i → i < n → p i = p' i) (h : stirdP n row p w) (h' : stirdP n row' p' w') : ∀ q, 0 ≤ q → q < n → w q = w' q := by
  intro q a b
  obtain ⟨i, hi, e⟩ := perm_sur hr a b
  have e1 := h i hi.1 hi.2
  have e2 := h' i hi.1 hi.2
  rw [← hrow i hi.1 hi.2] at e2
  rw [e] at e1 e2
  rw [e1, e2, hp i hi.1 hi.2]
theorem rise_congr {n c k : Int} {f f' st st' : Int → Int} (hn : 0 < n) (hf : ∀ j, 0 ≤ j → j < n → f j = f' j) (hst : ∀ q, 0 ≤ q → q < n → st q = st' q) (c0 : 0 ≤ c) (c1 : c < n) (k0 : 0 ≤ k) (k1 : k < n) : riseP n f st c k = riseP n f' st' c k := by
  funext p
  unfold riseP
  rw [hf c c0 c1, hf k k0 k1, hst _ (plc_rng hn).1 (plc_rng hn).2, hst _ (plc_rng hn).1 (plc_rng hn).2]
theorem enough_congr {n b : Int} {sp sp' : Int → Int} (hs : ∀ j, 0 ≤ j → j < n → sp j = sp' j) : enoughP n sp b = enoughP n sp' b := by
  unfold enoughP
  rw [sum_ext (f := sp) (g := sp') n.toNat (fun j a b => hs j a (by omega)), sum_ext (f := spS sp b) (g := spS sp' b) n.toNat (fun j a c => by unfold spS; rw [hs j a (by omega)])]
theorem lead_congr {n c k : Int} {f f' sp sp' st st' : Int → Int} (hn : 0 < n) (hf : ∀ j, 0 ≤ j → j < n → f j = f' j) (hs : ∀ j, 0 ≤ j → j < n → sp j = sp' j) (hst : ∀ q, 0 ≤ q → q < n → st q = st' q) (c0 : 0 ≤ c) (c1 : c < n) (k0 : 0 ≤ k) (k1 : k < n) : leadP n f sp st c k = leadP n f' sp' st' c k := by
  unfold leadP
  rw [rise_congr hn hf hst c0 c1 k0 k1, enough_congr hs]
theorem band_congr {n c k b : Int} {f f' sp sp' st st' : Int → Int} (hn : 0 < n) (hf : ∀ j, 0 ≤ j → j < n → f j = f' j) (hs : ∀ j, 0 ≤ j → j < n → sp j = sp' j) (hst : ∀ q, 0 ≤ q → q < n → st q = st' q) (c0 : 0 ≤ c) (c1 : c < n) (k0 : 0 ≤ k) (k1 : k < n) : bandP n sp (riseP n f st c k) c b = bandP n sp' (riseP n f' st' c k) c b := by
  unfold bandP
  rw [rise_congr hn hf hst c0 c1 k0 k1, enough_congr hs]
theorem coup_congr {n k what r : Int} {f f' sp sp' st st' : Int → Int} (hn : 0 < n) (hf : ∀ j, 0 ≤ j → j < n → f j = f' j) (hs : ∀ j, 0 ≤ j → j < n → sp j = sp' j) (hst : ∀ q, 0 ≤ q → q < n → st q = st' q) (k0 : 0 ≤ k) (k1 : k < n) (h : coupQ n f sp st k what r) : coupQ n f' sp' st' k what r := by
  rcases h with ⟨a, b⟩ | ⟨c, h1, h2, h3, h4, h5⟩
  · exact Or.inl ⟨a, fun c u v w => by rw [← lead_congr hn hf hs hst u v k0 k1]; exact b c u v w⟩
  · refine Or.inr ⟨c, h1, h2, by rw [← lead_congr hn hf hs hst h1.1 h1.2 k0 k1]; exact h3, fun d u v w => by rw [← lead_congr hn hf hs hst u (Int.lt_trans v h1.2) k0 k1]; exact h4 d u v w, ?_⟩
    rcases h5 with x | ⟨y, z, t, u⟩
    · exact Or.inl x
    · exact Or.inr ⟨y, z, by rw [← band_congr hn hf hs hst h1.1 h1.2 k0 k1]; exact t, fun b p q => by rw [← band_congr hn hf hs hst h1.1 h1.2 k0 k1]; exact u b p q⟩
def SRel (i_p0_tape_length : Int) (i_p0_taped : Int) (v_p0_tape_bytes : Int → Int) (v_p0_tape : Int → Int) (i_p0_rules_seats : Int) (i_p0_rules_stirs : Int) (i_p0_seats : Int) (i_p0_stirs : Int) (v_p0_rules_need : Int → Int) (v_p0_rules_after : Int → Int) (v_p0_need : Int → Int) (v_p0_brings : Int → Int) (i_p0_state_seenDays : Int) (i_p0_state_bone : Int) (i_p0_state_king : Int) (i_p0_state_days : Int) (v_p0_state_pieces : Int → Int) (v_p0_state_friends : Int → Int) (v_p0_state_spoons : Int → Int) (v_p0_state_eaten : Int → Int) (v_p0_state_seen : Int → Int) (v_p0_st : Int → Int) (v_p0_imageHeld : Int → Int) (v_p0_isKept : Int → Int) (i_p0_images_0_seenDays : Int) (i_p0_images_0_bone : Int) (i_p0_images_0_king : Int) (i_p0_images_0_days : Int) (v_p0_images_0_pieces : Int → Int) (v_p0_images_0_friends : Int → Int) (v_p0_images_0_spoons : Int → Int) (v_p0_images_0_eaten : Int → Int) (v_p0_images_0_seen : Int → Int) (i_p0_images_1_seenDays : Int) (i_p0_images_1_bone : Int) (i_p0_images_1_king : Int) (i_p0_images_1_days : Int) (v_p0_images_1_pieces : Int → Int) (v_p0_images_1_friends : Int → Int) (v_p0_images_1_spoons : Int → Int) (v_p0_images_1_eaten : Int → Int) (v_p0_images_1_seen : Int → Int) (i_p0_sheets_0_lane : Int) (v_p0_lanes : Int → Int) (i_p0_sheets_0_size : Int) (v_p0_sizes : Int → Int) (v_p0_sheets_0_cells : Int → Int) (v_p0_cells : Int → Int) (i_p0_sheets_1_lane : Int) (i_p0_sheets_1_size : Int) (v_p0_sheets_1_cells : Int → Int) (i_p0_sheets_2_lane : Int) (i_p0_sheets_2_size : Int) (v_p0_sheets_2_cells : Int → Int) (i_p0_sheets_3_lane : Int) (i_p0_sheets_3_size : Int) (v_p0_sheets_3_cells : Int → Int) (i_p0_latestTear : Int) (i_p0_torn : Int) : Prop :=
  (i_p0_tape_length = i_p0_taped) ∧
  (bR v_p0_tape_bytes v_p0_tape i_p0_taped) ∧
  (rul i_p0_rules_seats i_p0_rules_stirs i_p0_seats i_p0_stirs v_p0_rules_need v_p0_rules_after v_p0_need v_p0_brings) ∧
  (sst i_p0_state_seenDays i_p0_state_bone i_p0_state_king i_p0_state_days v_p0_state_pieces v_p0_state_friends v_p0_state_spoons v_p0_state_eaten v_p0_state_seen v_p0_st) ∧
  (∀ k, 0 ≤ k → k < 2 → v_p0_imageHeld k = v_p0_isKept k) ∧
  (¬ v_p0_isKept 0 = 0 → sst i_p0_images_0_seenDays i_p0_images_0_bone i_p0_images_0_king i_p0_images_0_days v_p0_images_0_pieces v_p0_images_0_friends v_p0_images_0_spoons v_p0_images_0_eaten v_p0_images_0_seen (fun j => v_p0_st (38 + j))) ∧
  (¬ v_p0_isKept 1 = 0 → sst i_p0_images_1_seenDays i_p0_images_1_bone i_p0_images_1_king i_p0_images_1_days v_p0_images_1_pieces v_p0_images_1_friends v_p0_images_1_spoons v_p0_images_1_eaten v_p0_images_1_seen (fun j => v_p0_st (76 + j))) ∧
  (i_p0_sheets_0_lane = v_p0_lanes 0 ∧ i_p0_sheets_0_size = v_p0_sizes 0 ∧ (∀ j, 0 ≤ j → j < 40 → v_p0_sheets_0_cells j = v_p0_cells (0 + j))) ∧
  (i_p0_sheets_1_lane = v_p0_lanes 1 ∧ i_p0_sheets_1_size = v_p0_sizes 1 ∧ (∀ j, 0 ≤ j → j < 40 → v_p0_sheets_1_cells j = v_p0_cells (40 + j))) ∧
  (i_p0_sheets_2_lane = v_p0_lanes 2 ∧ i_p0_sheets_2_size = v_p0_sizes 2 ∧ (∀ j, 0 ≤ j → j < 40 → v_p0_sheets_2_cells j = v_p0_cells (80 + j))) ∧
  (i_p0_sheets_3_lane = v_p0_lanes 3 ∧ i_p0_sheets_3_size = v_p0_sizes 3 ∧ (∀ j, 0 ≤ j → j < 40 → v_p0_sheets_3_cells j = v_p0_cells (120 + j))) ∧
  (i_p0_latestTear = i_p0_torn)
