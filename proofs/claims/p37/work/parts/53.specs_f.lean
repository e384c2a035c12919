theorem z_cpy_in {f g : Int → Int} {n k : Int} (h0 : 0 ≤ k) (h1 : k < n) : z_cpy f g 0 0 n k = f k := by
  rw [z_cpy_a, if_pos (by omega), show (0 : Int) + (k - 0) = k from by omega]
theorem z_cpy_out {f g : Int → Int} {n k : Int} (h : k < 0 ∨ n ≤ k) : z_cpy f g 0 0 n k = g k := by
  rw [z_cpy_a, if_neg (by omega)]
theorem z_fill_in {V : Int → Int} {n x k : Int} (h0 : 0 ≤ k) (h1 : k < n) : z_fill V n x k = x := by
  rw [z_fill_a, if_pos ⟨h0, h1⟩]
theorem rdr_0 {a p f s k1 k2 k3 : Int → Int} : rdr 4 0 0 (z_fill a 7 0) k1 k2 k3 0 0 (z_fill p 7 0) (z_fill f 7 0) (z_fill s 7 1) := by
  refine ⟨by omega, by omega, by omega, by omega, by omega, fun j h0 h1 => ?_, fun j h0 h1 => ?_, fun j h0 h1 => ?_, fun j h0 h1 => ?_, fun r h0 h1 => by omega⟩ <;> (rw [z_fill_in h0 h1]; omega)
def rows (n s : Int) (a : Int → Int) : Prop := ∀ r, 0 ≤ r → r < s → perm n (fun i => a (r * 7 + i))
theorem rows_of {n s g : Int} {a kind fst snd : Int → Int} (hn : 2 ≤ n) (hg : g < n) (h : ∀ r, 0 ≤ r → r < s → okSt (g + 1) (kind r) (fst r) (snd r)) (ha : ∀ t, 0 ≤ t → t < s → ∀ i, 0 ≤ i → i < n → a (t * 7 + i) = bro n (kind t) (fst t) (snd t) i) : rows n s a := by
  intro r h0 h1
  have hp := bro_perm hn (okSt_mono (by omega) (h r h0 h1) : okSt n (kind r) (fst r) (snd r))
  refine ⟨fun i p q => ?_, fun i j p q p2 q2 e => ?_⟩
  · show 0 ≤ a (r * 7 + i) ∧ a (r * 7 + i) < n
    rw [ha r h0 h1 i p q]; exact hp.1 i p q
  · have e : a (r * 7 + i) = a (r * 7 + j) := e
    rw [ha r h0 h1 i p q, ha r h0 h1 j p2 q2] at e
    exact hp.2 i j p q p2 q2 e
theorem rows_cpy {n s : Int} {a b : Int → Int} (hn : n ≤ 7) (hs : s ≤ 5) (h : rows n s a) : rows n s (z_cpy a b 0 0 35) := by
  intro r h0 h1
  have hp := h r h0 h1
  refine ⟨fun i p q => ?_, fun i j p q p2 q2 e => ?_⟩
  · show 0 ≤ z_cpy a b 0 0 35 (r * 7 + i) ∧ z_cpy a b 0 0 35 (r * 7 + i) < n
    rw [z_cpy_in (by omega) (by omega)]; exact hp.1 i p q
  · have e : z_cpy a b 0 0 35 (r * 7 + i) = z_cpy a b 0 0 35 (r * 7 + j) := e
    rw [z_cpy_in (by omega) (by omega), z_cpy_in (by omega) (by omega)] at e
    exact hp.2 i j p q p2 q2 e
/-- a state within its bounds, with n seats -/
def okS (n seenDays bone king days : Int) (pieces friends spoons eaten seen : Int → Int) : Prop :=
  (0 ≤ bone ∧ bone < n) ∧ (0 ≤ king ∧ king < n) ∧ (0 ≤ days ∧ days ≤ 999) ∧ (0 ≤ seenDays ∧ seenDays ≤ 6) ∧ (∀ j, 0 ≤ j → j < 7 → 0 ≤ pieces j ∧ pieces j ≤ 9) ∧ (∀ j, 0 ≤ j → j < 7 → 0 ≤ friends j ∧ friends j < 128) ∧ (∀ j, 0 ≤ j → j < 7 → 1 ≤ spoons j ∧ spoons j ≤ 9) ∧ (∀ j, 0 ≤ j → j < 7 → 0 ≤ eaten j ∧ eaten j ≤ 9 * days) ∧ (∀ j, 0 ≤ j → j < seenDays → 0 ≤ seen j ∧ seen j < n)
def okR (n s : Int) (need after : Int → Int) : Prop := (2 ≤ n ∧ n ≤ 7) ∧ (0 ≤ s ∧ s ≤ 5) ∧ (∀ j, 0 ≤ j → j < 7 → 0 ≤ need j ∧ need j ≤ 9) ∧ rows n s after
theorem okS_cpy {n seenDays bone king days : Int} {p f s e se p2 f2 s2 e2 se2 : Int → Int} (h : okS n seenDays bone king days p f s e se) : okS n seenDays bone king days (z_cpy p p2 0 0 7) (z_cpy f f2 0 0 7) (z_cpy s s2 0 0 7) (z_cpy e e2 0 0 7) (z_cpy se se2 0 0 6) := by
  obtain ⟨h1, h2, h3, h4, h5, h6, h7, h8, h9⟩ := h
  refine ⟨h1, h2, h3, h4, fun j a b => ?_, fun j a b => ?_, fun j a b => ?_, fun j a b => ?_, fun j a b => ?_⟩ <;> rw [z_cpy_in a (by omega)]
  · exact h5 j a b
  · exact h6 j a b
  · exact h7 j a b
  · exact h8 j a b
  · exact h9 j a b
theorem okR_cpy {n s : Int} {need after need2 after2 : Int → Int} (h : okR n s need after) : okR n s (z_cpy need need2 0 0 7) (z_cpy after after2 0 0 35) := by
  obtain ⟨h1, h2, h3, h4⟩ := h
  refine ⟨h1, h2, fun j a b => ?_, rows_cpy h1.2 h2.2 h4⟩
  rw [z_cpy_in a b]; exact h3 j a b
theorem rdr_okS {n s g : Int} {need kind fst snd : Int → Int} {bone king : Int} {pieces friends spoons e se : Int → Int} (h : rdr n s g need kind fst snd bone king pieces friends spoons) (hg : g < n) : okS n 0 bone king 0 pieces friends spoons (z_fill e 7 0) se := by
  obtain ⟨r1, r2, r3, r4, r5, r6, r7, r8, r9, r10⟩ := h
  exact ⟨by omega, by omega, by omega, by omega, r7, r9, r8, fun j a b => by rw [z_fill_in a b]; omega, fun j a b => by omega⟩
theorem rdr_okR {n s g : Int} {need kind fst snd : Int → Int} {bone king : Int} {pieces friends spoons a : Int → Int} (h : rdr n s g need kind fst snd bone king pieces friends spoons) (hg : g < n) (ha : ∀ t, 0 ≤ t → t < s → ∀ i, 0 ≤ i → i < n → a (t * 7 + i) = bro n (kind t) (fst t) (snd t) i) : okR n s need a := by
  obtain ⟨r1, r2, r3, r4, r5, r6, r7, r8, r9, r10⟩ := h
  exact ⟨r1, r2, r6, rows_of r1.1 hg r10 ha⟩
theorem crel_0 {a p f s k1 k2 k3 : Int → Int} : crel D0 4 0 0 (z_fill a 7 0) k1 k2 k3 0 0 (z_fill p 7 0) (z_fill f 7 0) (z_fill s 7 1) := by
  refine ⟨rfl, rfl, rfl, rfl, rfl, fun j h0 h1 => ?_, fun j h0 h1 => ?_, fun j h0 h1 => ?_, fun j h0 h1 => ?_, fun r h0 h1 => by omega⟩ <;> (rw [z_fill_in h0 h1]; unfold D0; first | rw [if_neg (by omega), if_neg (by omega)] | rw [if_neg (by omega), if_pos (by omega)])
theorem mrel_0 {sh : Int} (h0 : 0 ≤ sh) (h1 : sh ≤ 4) : mrel D0 0 sh := by
  intro k k0 k1
  rw [bt_bb (by omega) (by omega), show bb 0 (sh + k).toNat = false from kb_0 _]
  unfold D0
  rw [if_neg (by decide), if_neg (by omega), if_neg (by omega)]
theorem crel_fin {D need kind fst snd pieces friends spoons after n2 a2 p2 f2 s2 : Int → Int} {n s g bone king : Int} (h : crel D n s g need kind fst snd bone king pieces friends spoons) (hr : rdr n s g need kind fst snd bone king pieces friends spoons) (ha : ∀ t, 0 ≤ t → t < s → ∀ i, 0 ≤ i → i < n → after (t * 7 + i) = bro n (kind t) (fst t) (snd t) i) : fin D n s bone king (z_cpy need n2 0 0 7) (z_cpy after a2 0 0 35) (z_cpy pieces p2 0 0 7) (z_cpy friends f2 0 0 7) (z_cpy spoons s2 0 0 7) := by
  obtain ⟨r1, r2, r3, r4, r5, r6, r7, r8, r9, r10⟩ := h
  have hn := hr.1
  have hs := hr.2.1
  refine ⟨r1, r2, r4, r5, fun j a b => ?_, fun j a b => ?_, fun j a b => ?_, fun j a b => ?_, fun t a b i c d => ?_⟩
  · rw [z_cpy_in a b]; exact r6 j a b
  · rw [z_cpy_in a b]; exact r7 j a b
  · rw [z_cpy_in a b]; exact r8 j a b
  · rw [z_cpy_in a b]; exact r9 j a b
  · rw [z_cpy_in (by omega) (by omega), show 7 * t + i = t * 7 + i from by omega, ha t a b i c d]
    have w := r10 t a b
    rw [← w.1]
    exact bro_rel w.2.1 w.2.2
set_option maxHeartbeats 4000000 in
theorem s_X10_readTape (i_p0_faultPlace : Int) (i_p0_tape_length : Int) (i_p0_tape_token : Int) (i_p0_tape_start : Int) (i_p0_tape_value : Int) (v_p0_tape_bytes : (Int → Int)) (v_p0_rules_need : (Int → Int)) (v_p0_rules_kind : (Int → Int)) (v_p0_rules_first : (Int → Int)) (v_p0_rules_second : (Int → Int)) (v_p0_rules_after : (Int → Int)) (v_p0_state_pieces : (Int → Int)) (v_p0_state_friends : (Int → Int)) (v_p0_state_spoons : (Int → Int)) (v_p0_state_eaten : (Int → Int)) (v_p0_numbers : (Int → Int)) (h1 : 0 ≤ i_p0_tape_length) (h2 : i_p0_tape_length ≤ 320) (h3 : ∀ j, 0 ≤ j → j < 320 → -128 ≤ v_p0_tape_bytes j ∧ v_p0_tape_bytes j < 128) : wp (f_X10_readTape i_p0_faultPlace i_p0_tape_length i_p0_tape_token i_p0_tape_start i_p0_tape_value v_p0_tape_bytes v_p0_rules_need v_p0_rules_kind v_p0_rules_first v_p0_rules_second v_p0_rules_after v_p0_state_pieces v_p0_state_friends v_p0_state_spoons v_p0_state_eaten v_p0_numbers) (fun o => (0 ≤ o.2.1 ∧ o.2.1 ≤ 6) ∧ (o.2.1 = 0 → o.1 = o.2.2.2.1 ∧ 0 ≤ o.1 ∧ o.1 ≤ 321) ∧ (¬ o.2.1 = 0 → o.1 = -10 - o.2.2.1 ∧ 0 ≤ o.2.2.1 ∧ o.2.2.1 ≤ i_p0_tape_length) ∧ (o.2.1 = 0 → rdr o.2.2.2.2.2.2.2.2.2.2.1 o.2.2.2.2.2.2.2.2.2.2.2.1 o.2.2.2.2.2.1 o.2.2.2.2.2.2.2.2.2.2.2.2.1 o.2.2.2.2.2.2.2.2.2.2.2.2.2.1 o.2.2.2.2.2.2.2.2.2.2.2.2.2.2.1 o.2.2.2.2.2.2.2.2.2.2.2.2.2.2.2.1 o.2.2.2.2.2.2.2.2.2.2.2.2.2.2.2.2.2.2.1 o.2.2.2.2.2.2.2.2.2.2.2.2.2.2.2.2.2.2.2.1 o.2.2.2.2.2.2.2.2.2.2.2.2.2.2.2.2.2.2.2.2.2.1 o.2.2.2.2.2.2.2.2.2.2.2.2.2.2.2.2.2.2.2.2.2.2.1 o.2.2.2.2.2.2.2.2.2.2.2.2.2.2.2.2.2.2.2.2.2.2.2.1) ∧ (o.2.1 = 0 → o.2.2.2.2.2.1 < o.2.2.2.2.2.2.2.2.2.2.1) ∧ (o.2.1 = 0 → ∀ t, 0 ≤ t → t < o.2.2.2.2.2.2.2.2.2.2.2.1 → ∀ i, 0 ≤ i → i < o.2.2.2.2.2.2.2.2.2.2.1 → o.2.2.2.2.2.2.2.2.2.2.2.2.2.2.2.2.1 (t * 7 + i) = bro o.2.2.2.2.2.2.2.2.2.2.1 (o.2.2.2.2.2.2.2.2.2.2.2.2.2.1 t) (o.2.2.2.2.2.2.2.2.2.2.2.2.2.2.1 t) (o.2.2.2.2.2.2.2.2.2.2.2.2.2.2.2.1 t) i) ∧ (o.2.2.2.2.2.2.2.2.2.2.2.2.2.2.2.2.2.1 = 0) ∧ (o.2.2.2.2.2.2.2.2.2.2.2.2.2.2.2.2.2.2.2.2.1 = 0) ∧ (o.2.2.2.2.2.2.2.2.2.2.2.2.2.2.2.2.2.2.2.2.2.2.2.2.1 = z_fill v_p0_state_eaten 7 0) ∧ (Hid (o.2.1 = 0 → ∃ D, txE v_p0_tape_bytes i_p0_tape_length o.1.toNat D ∧ crel D o.2.2.2.2.2.2.2.2.2.2.1 o.2.2.2.2.2.2.2.2.2.2.2.1 o.2.2.2.2.2.1 o.2.2.2.2.2.2.2.2.2.2.2.2.1 o.2.2.2.2.2.2.2.2.2.2.2.2.2.1 o.2.2.2.2.2.2.2.2.2.2.2.2.2.2.1 o.2.2.2.2.2.2.2.2.2.2.2.2.2.2.2.1 o.2.2.2.2.2.2.2.2.2.2.2.2.2.2.2.2.2.2.1 o.2.2.2.2.2.2.2.2.2.2.2.2.2.2.2.2.2.2.2.1 o.2.2.2.2.2.2.2.2.2.2.2.2.2.2.2.2.2.2.2.2.2.1 o.2.2.2.2.2.2.2.2.2.2.2.2.2.2.2.2.2.2.2.2.2.2.1 o.2.2.2.2.2.2.2.2.2.2.2.2.2.2.2.2.2.2.2.2.2.2.2.1)) ∧ (Hid (¬ o.2.1 = 0 → txF v_p0_tape_bytes i_p0_tape_length o.2.2.1 ∨ (o.2.2.1 = i_p0_tape_length ∧ ∃ k D, txE v_p0_tape_bytes i_p0_tape_length k D ∧ ¬ D 2 < D 0)))) := by
  unfold f_X10_readTape
  refine wp_bd16 (s_X10_begin _ _ _ _ _) (fun z1 z2 z3 z4 z5 z6 z7 w8 z9 z10 z11 z12 w13 w14 w15 w16 q_X10_begin_1 => ?_)
  try dsimp only at q_X10_begin_1
  obtain ⟨q_X10_begin_1_1, q_X10_begin_1_2, q_X10_begin_1_3, q_X10_begin_1_4, q_X10_begin_1_5, q_X10_begin_1_6, q_X10_begin_1_7, q_X10_begin_1_8, q_X10_begin_1_9, q_X10_begin_1_10, q_X10_begin_1_11, q_X10_begin_1_12, q_X10_begin_1_13, q_X10_begin_1_14, q_X10_begin_1_15, q_X10_begin_1_16⟩ := q_X10_begin_1
  refine wp_bnd ?_
  refine wp_bnd ?_
  refine wp_jn ?_
  refine wp_lq23 (fun (z52 : Int) (z53 : Int) (z54 : Int) (z55 : Int) (z56 : Int) (z57 : Int) (z58 : Int) (z59 : Int) (z60 : Int) (z61 : Int) (z62 : Int) (z63 : Int) (z64 : Int) (w65 : (Int → Int)) (w66 : (Int → Int)) (w67 : (Int → Int)) (w68 : (Int → Int)) (z69 : Int) (z70 : Int) (w71 : (Int → Int)) (w72 : (Int → Int)) (w73 : (Int → Int)) (w74 : (Int → Int)) => (0 ≤ z52) ∧ (z52 ≤ 321) ∧ (z53 = 0 ∨ z53 = 1) ∧ (0 ≤ z54) ∧ (z54 ≤ 5) ∧ (¬ z54 = 0 → 0 ≤ z55 ∧ z55 ≤ i_p0_tape_length) ∧ (z53 = 1 → z54 = 0) ∧ (0 ≤ z56) ∧ (z56 ≤ z52) ∧ (0 ≤ z59) ∧ (z59 ≤ i_p0_tape_length) ∧ (rdr z63 z64 z58 w65 w66 w67 w68 z69 z70 w71 w72 w73) ∧ (Hid (z53 = 1 → z52 ≤ z59 ∧ ∃ D, rn v_p0_tape_bytes i_p0_tape_length z56.toNat z59 D ∧ crel D z63 z64 z58 w65 w66 w67 w68 z69 z70 w71 w72 w73 ∧ mrel D z57 0)) ∧ (Hid (z53 = 0 → (z54 = 0 ∧ ∃ D, txE v_p0_tape_bytes i_p0_tape_length z56.toNat D ∧ crel D z63 z64 z58 w65 w66 w67 w68 z69 z70 w71 w72 w73) ∨ (¬ z54 = 0 ∧ txF v_p0_tape_bytes i_p0_tape_length z55)))) (fun (z52 : Int) (z53 : Int) (z54 : Int) (z55 : Int) (z56 : Int) (z57 : Int) (z58 : Int) (z59 : Int) (z60 : Int) (z61 : Int) (z62 : Int) (z63 : Int) (z64 : Int) (w65 : (Int → Int)) (w66 : (Int → Int)) (w67 : (Int → Int)) (w68 : (Int → Int)) (z69 : Int) (z70 : Int) (w71 : (Int → Int)) (w72 : (Int → Int)) (w73 : (Int → Int)) (w74 : (Int → Int)) => (321 - z52).toNat) (fun again8 z52 z53 z54 z55 z56 z57 z58 z59 z60 z61 z62 z63 z64 w65 w66 w67 w68 z69 z70 w71 w72 w73 w74 hI ih_B_X10_readTape_8 => ?_) 1000 _ _ _ _ _ _ _ _ _ _ _ _ _ _ _ _ _ _ _ _ _ _ _ ⟨(by omega) /- B_X10_readTape_8.init1#1 -/, (by omega) /- B_X10_readTape_8.init2#1 -/, (by omega) /- B_X10_readTape_8.init3#1 -/, (by omega) /- B_X10_readTape_8.init4#1 -/, (by omega) /- B_X10_readTape_8.init5#1 -/, (by omega) /- B_X10_readTape_8.init6#1 -/, (by omega) /- B_X10_readTape_8.init7#1 -/, (by omega) /- B_X10_readTape_8.init8#1 -/, (by omega) /- B_X10_readTape_8.init9#1 -/, (by omega) /- B_X10_readTape_8.init10#1 -/, (by omega) /- B_X10_readTape_8.init11#1 -/, (by rw [q_X10_begin_1_4, q_X10_begin_1_6, q_X10_begin_1_7, q_X10_begin_1_8, q_X10_begin_1_10, q_X10_begin_1_11, q_X10_begin_1_13, q_X10_begin_1_14, q_X10_begin_1_15]; exact rdr_0) /- B_X10_readTape_8.init12#1 -/, (by unfold Hid; intro _; refine ⟨by omega, D0, (by rw [show z2.toNat = 0 from by omega]; exact ⟨by omega, rfl⟩), ?_, ?_⟩; (rw [q_X10_begin_1_4, q_X10_begin_1_6, q_X10_begin_1_7, q_X10_begin_1_8, q_X10_begin_1_10, q_X10_begin_1_11, q_X10_begin_1_13, q_X10_begin_1_14, q_X10_begin_1_15]; exact crel_0); (rw [q_X10_begin_1_3]; exact mrel_0 (by omega) (by omega))) /- B_X10_readTape_8.init13#1 -/, (by unfold Hid; intro h; exfalso; omega) /- B_X10_readTape_8.init14#1 -/⟩ (by omega) /- B_X10_readTape_8.fuel#1 -/
  obtain ⟨i_B_X10_readTape_8_1, i_B_X10_readTape_8_2, i_B_X10_readTape_8_3, i_B_X10_readTape_8_4, i_B_X10_readTape_8_5, i_B_X10_readTape_8_6, i_B_X10_readTape_8_7, i_B_X10_readTape_8_8, i_B_X10_readTape_8_9, i_B_X10_readTape_8_10, i_B_X10_readTape_8_11, i_B_X10_readTape_8_12, i_B_X10_readTape_8_13, i_B_X10_readTape_8_14⟩ := hI
  unfold B_X10_readTape_8
  have r1 := i_B_X10_readTape_8_12.1
  have r2 := i_B_X10_readTape_8_12.2.1
  have r3 := i_B_X10_readTape_8_12.2.2.1
  refine wp_ck (z_r32_i.mpr ⟨(by omega) /- z_r32.lo z52#1 -/, (by omega) /- z_r32.hi z52#1 -/⟩) ?_
  refine wp_if (fun c1 => ?_) (fun c1 => ?_)
  ·
    have hno : False ∨ z53 = 0 := by
      by_cases e : z53 = 1
      · have := (hid i_B_X10_readTape_8_13 e).1; omega
      · right; omega
    have hz53 : z53 = 0 := by rcases hno with h | h; exact absurd h id; exact h
    refine wp_ck (z_r32_i.mpr ⟨(by omega) /- z_r32.lo z19#1 -/, (by omega) /- z_r32.hi z19#1 -/⟩) ?_
    refine wp_jn ?_
    refine wp_if (fun c2 => ?_) (fun c2 => ?_)
    ·
      refine wp_ck (z_r32_i.mpr ⟨(by omega) /- z_r32.lo z23#1 -/, (by omega) /- z_r32.hi z23#1 -/⟩) ?_
      refine wp_ck (z_r32_i.mpr ⟨(by omega) /- z_r32.lo z28#1 -/, (by omega) /- z_r32.hi z28#1 -/⟩) ?_
      refine wp_if (fun c3 => ?_) (fun c3 => ?_)
      ·
        refine wp_ck (z_r32_i.mpr ⟨(by omega) /- z_r32.lo z42#1 -/, (by omega) /- z_r32.hi z42#1 -/⟩) ?_
        refine wp_if (fun c4 => ?_) (fun c4 => ?_)
        ·
          refine wp_bd1 (s_X6_workOutStirs _ _ _ _ _ _ (by omega) /- pre X6_workOutStirs.1#1 -/ (by omega) /- pre X6_workOutStirs.2#1 -/ (by omega) /- pre X6_workOutStirs.3#1 -/ (by omega) /- pre X6_workOutStirs.4#1 -/ (by intro t a b; exact okSt_mono (by omega) (i_B_X10_readTape_8_12.2.2.2.2.2.2.2.2.2 t a b)) /- pre X6_workOutStirs.5#1 -/) (fun w46 q_X6_workOutStirs_1 => ?_)
          try dsimp only at q_X6_workOutStirs_1
          refine wp_some ?_
          try dsimp only
          all_goals exact ⟨(by omega) /- post1#1 -/, (by omega) /- post2#1 -/, (by omega) /- post3#1 -/, (by first | (intro h; exfalso; omega) | (intro _; exact i_B_X10_readTape_8_12)) /- post4#1 -/, (by omega) /- post5#1 -/, (by first | (intro h; exfalso; omega) | (intro _; assumption)) /- post6#1 -/, (by omega) /- post7#1 -/, (by omega) /- post8#1 -/, (by exact q_X10_begin_1_16) /- post9#1 -/, (by unfold Hid; first | (intro h; exfalso; omega) | (intro _; rcases hid i_B_X10_readTape_8_14 (by omega) with g | g; (obtain ⟨g1, D, g2, g3⟩ := g; exact ⟨D, g2, g3⟩); (exfalso; omega))) /- post10#1 -/, (by unfold Hid; first | (intro h; exfalso; omega) | (intro _; rcases hid i_B_X10_readTape_8_14 (by omega) with g | g; (obtain ⟨g1, D, g2, g3⟩ := g; first | (exfalso; omega) | exact Or.inr ⟨by omega, _, D, g2, by rw [← g3.1, ← g3.2.2.1]; omega⟩); first | (exfalso; omega) | exact Or.inl g.2)) /- post11#1 -/⟩
        ·
          refine wp_some ?_
          try dsimp only
          all_goals exact ⟨(by omega) /- post1#2 -/, (by omega) /- post2#2 -/, (by omega) /- post3#2 -/, (by first | (intro h; exfalso; omega) | (intro _; exact i_B_X10_readTape_8_12)) /- post4#2 -/, (by omega) /- post5#2 -/, (by first | (intro h; exfalso; omega) | (intro _; assumption)) /- post6#2 -/, (by omega) /- post7#2 -/, (by omega) /- post8#2 -/, (by exact q_X10_begin_1_16) /- post9#2 -/, (by unfold Hid; first | (intro h; exfalso; omega) | (intro _; rcases hid i_B_X10_readTape_8_14 (by omega) with g | g; (obtain ⟨g1, D, g2, g3⟩ := g; exact ⟨D, g2, g3⟩); (exfalso; omega))) /- post10#2 -/, (by unfold Hid; first | (intro h; exfalso; omega) | (intro _; rcases hid i_B_X10_readTape_8_14 (by omega) with g | g; (obtain ⟨g1, D, g2, g3⟩ := g; first | (exfalso; omega) | exact Or.inr ⟨by omega, _, D, g2, by rw [← g3.1, ← g3.2.2.1]; omega⟩); first | (exfalso; omega) | exact Or.inl g.2)) /- post11#2 -/⟩
      ·
        refine wp_bd3 (s_X10_refuse _ _) (fun z49 z50 z51 q_X10_refuse_1 => ?_)
        try dsimp only at q_X10_refuse_1
        obtain ⟨q_X10_refuse_1_1, q_X10_refuse_1_2, q_X10_refuse_1_3⟩ := q_X10_refuse_1
        refine wp_ck (z_r32_i.mpr ⟨(by omega) /- z_r32.lo z42#2 -/, (by omega) /- z_r32.hi z42#2 -/⟩) ?_
        refine wp_if (fun c5 => ?_) (fun c5 => ?_)
        ·
          refine wp_bd1 (s_X6_workOutStirs _ _ _ _ _ _ (by omega) /- pre X6_workOutStirs.1#2 -/ (by omega) /- pre X6_workOutStirs.2#2 -/ (by omega) /- pre X6_workOutStirs.3#2 -/ (by omega) /- pre X6_workOutStirs.4#2 -/ (by intro t a b; exact okSt_mono (by omega) (i_B_X10_readTape_8_12.2.2.2.2.2.2.2.2.2 t a b)) /- pre X6_workOutStirs.5#2 -/) (fun w46 q_X6_workOutStirs_2 => ?_)
          try dsimp only at q_X6_workOutStirs_2
          refine wp_some ?_
          try dsimp only
          all_goals exact ⟨(by omega) /- post1#3 -/, (by omega) /- post2#3 -/, (by omega) /- post3#3 -/, (by first | (intro h; exfalso; omega) | (intro _; exact i_B_X10_readTape_8_12)) /- post4#3 -/, (by omega) /- post5#3 -/, (by first | (intro h; exfalso; omega) | (intro _; assumption)) /- post6#3 -/, (by omega) /- post7#3 -/, (by omega) /- post8#3 -/, (by exact q_X10_begin_1_16) /- post9#3 -/, (by unfold Hid; first | (intro h; exfalso; omega) | (intro _; rcases hid i_B_X10_readTape_8_14 (by omega) with g | g; (obtain ⟨g1, D, g2, g3⟩ := g; exact ⟨D, g2, g3⟩); (exfalso; omega))) /- post10#3 -/, (by unfold Hid; first | (intro h; exfalso; omega) | (intro _; rcases hid i_B_X10_readTape_8_14 (by omega) with g | g; (obtain ⟨g1, D, g2, g3⟩ := g; first | (exfalso; omega) | exact Or.inr ⟨by omega, _, D, g2, by rw [← g3.1, ← g3.2.2.1]; omega⟩); first | (exfalso; omega) | exact Or.inl g.2)) /- post11#3 -/⟩
        ·
          refine wp_some ?_
          try dsimp only
          all_goals exact ⟨(by omega) /- post1#4 -/, (by omega) /- post2#4 -/, (by omega) /- post3#4 -/, (by first | (intro h; exfalso; omega) | (intro _; exact i_B_X10_readTape_8_12)) /- post4#4 -/, (by omega) /- post5#4 -/, (by first | (intro h; exfalso; omega) | (intro _; assumption)) /- post6#4 -/, (by omega) /- post7#4 -/, (by omega) /- post8#4 -/, (by exact q_X10_begin_1_16) /- post9#4 -/, (by unfold Hid; first | (intro h; exfalso; omega) | (intro _; rcases hid i_B_X10_readTape_8_14 (by omega) with g | g; (obtain ⟨g1, D, g2, g3⟩ := g; exact ⟨D, g2, g3⟩); (exfalso; omega))) /- post10#4 -/, (by unfold Hid; first | (intro h; exfalso; omega) | (intro _; rcases hid i_B_X10_readTape_8_14 (by omega) with g | g; (obtain ⟨g1, D, g2, g3⟩ := g; first | (exfalso; omega) | exact Or.inr ⟨by omega, _, D, g2, by rw [← g3.1, ← g3.2.2.1]; omega⟩); first | (exfalso; omega) | exact Or.inl g.2)) /- post11#4 -/⟩
    ·
      refine wp_ck (z_r32_i.mpr ⟨(by omega) /- z_r32.lo z42#3 -/, (by omega) /- z_r32.hi z42#3 -/⟩) ?_
      refine wp_if (fun c6 => ?_) (fun c6 => ?_)
      ·
        refine wp_bd1 (s_X6_workOutStirs _ _ _ _ _ _ (by omega) /- pre X6_workOutStirs.1#3 -/ (by omega) /- pre X6_workOutStirs.2#3 -/ (by omega) /- pre X6_workOutStirs.3#3 -/ (by omega) /- pre X6_workOutStirs.4#3 -/ (by intro t a b; exact okSt_mono (by omega) (i_B_X10_readTape_8_12.2.2.2.2.2.2.2.2.2 t a b)) /- pre X6_workOutStirs.5#3 -/) (fun w46 q_X6_workOutStirs_3 => ?_)
        try dsimp only at q_X6_workOutStirs_3
        refine wp_some ?_
        try dsimp only
        all_goals exact ⟨(by omega) /- post1#5 -/, (by omega) /- post2#5 -/, (by omega) /- post3#5 -/, (by first | (intro h; exfalso; omega) | (intro _; exact i_B_X10_readTape_8_12)) /- post4#5 -/, (by omega) /- post5#5 -/, (by first | (intro h; exfalso; omega) | (intro _; assumption)) /- post6#5 -/, (by omega) /- post7#5 -/, (by omega) /- post8#5 -/, (by exact q_X10_begin_1_16) /- post9#5 -/, (by unfold Hid; first | (intro h; exfalso; omega) | (intro _; rcases hid i_B_X10_readTape_8_14 (by omega) with g | g; (obtain ⟨g1, D, g2, g3⟩ := g; exact ⟨D, g2, g3⟩); (exfalso; omega))) /- post10#5 -/, (by unfold Hid; first | (intro h; exfalso; omega) | (intro _; rcases hid i_B_X10_readTape_8_14 (by omega) with g | g; (obtain ⟨g1, D, g2, g3⟩ := g; first | (exfalso; omega) | exact Or.inr ⟨by omega, _, D, g2, by rw [← g3.1, ← g3.2.2.1]; omega⟩); first | (exfalso; omega) | exact Or.inl g.2)) /- post11#5 -/⟩
      ·
        refine wp_some ?_
        try dsimp only
        all_goals exact ⟨(by omega) /- post1#6 -/, (by omega) /- post2#6 -/, (by omega) /- post3#6 -/, (by first | (intro h; exfalso; omega) | (intro _; exact i_B_X10_readTape_8_12)) /- post4#6 -/, (by omega) /- post5#6 -/, (by first | (intro h; exfalso; omega) | (intro _; assumption)) /- post6#6 -/, (by omega) /- post7#6 -/, (by omega) /- post8#6 -/, (by exact q_X10_begin_1_16) /- post9#6 -/, (by unfold Hid; first | (intro h; exfalso; omega) | (intro _; rcases hid i_B_X10_readTape_8_14 (by omega) with g | g; (obtain ⟨g1, D, g2, g3⟩ := g; exact ⟨D, g2, g3⟩); (exfalso; omega))) /- post10#6 -/, (by unfold Hid; first | (intro h; exfalso; omega) | (intro _; rcases hid i_B_X10_readTape_8_14 (by omega) with g | g; (obtain ⟨g1, D, g2, g3⟩ := g; first | (exfalso; omega) | exact Or.inr ⟨by omega, _, D, g2, by rw [← g3.1, ← g3.2.2.1]; omega⟩); first | (exfalso; omega) | exact Or.inl g.2)) /- post11#6 -/⟩
  ·
    refine wp_ck (z_r32_i.mpr ⟨(by omega) /- z_r32.lo z53#1 -/, (by omega) /- z_r32.hi z53#1 -/⟩) ?_
    refine wp_if (fun c7 => ?_) (fun c7 => ?_)
    ·
      refine wp_ck (z_r32_i.mpr ⟨(by omega) /- z_r32.lo z19#2 -/, (by omega) /- z_r32.hi z19#2 -/⟩) ?_
      refine wp_jn ?_
      refine wp_if (fun c8 => ?_) (fun c8 => ?_)
      ·
        refine wp_ck (z_r32_i.mpr ⟨(by omega) /- z_r32.lo z23#2 -/, (by omega) /- z_r32.hi z23#2 -/⟩) ?_
        refine wp_ck (z_r32_i.mpr ⟨(by omega) /- z_r32.lo z28#2 -/, (by omega) /- z_r32.hi z28#2 -/⟩) ?_
        refine wp_if (fun c9 => ?_) (fun c9 => ?_)
        ·
          refine wp_ck (z_r32_i.mpr ⟨(by omega) /- z_r32.lo z42#4 -/, (by omega) /- z_r32.hi z42#4 -/⟩) ?_
          refine wp_if (fun c10 => ?_) (fun c10 => ?_)
          ·
            refine wp_bd1 (s_X6_workOutStirs _ _ _ _ _ _ (by omega) /- pre X6_workOutStirs.1#4 -/ (by omega) /- pre X6_workOutStirs.2#4 -/ (by omega) /- pre X6_workOutStirs.3#4 -/ (by omega) /- pre X6_workOutStirs.4#4 -/ (by intro t a b; exact okSt_mono (by omega) (i_B_X10_readTape_8_12.2.2.2.2.2.2.2.2.2 t a b)) /- pre X6_workOutStirs.5#4 -/) (fun w46 q_X6_workOutStirs_4 => ?_)
            try dsimp only at q_X6_workOutStirs_4
            refine wp_some ?_
            try dsimp only
            all_goals exact ⟨(by omega) /- post1#7 -/, (by omega) /- post2#7 -/, (by omega) /- post3#7 -/, (by first | (intro h; exfalso; omega) | (intro _; exact i_B_X10_readTape_8_12)) /- post4#7 -/, (by omega) /- post5#7 -/, (by first | (intro h; exfalso; omega) | (intro _; assumption)) /- post6#7 -/, (by omega) /- post7#7 -/, (by omega) /- post8#7 -/, (by exact q_X10_begin_1_16) /- post9#7 -/, (by unfold Hid; first | (intro h; exfalso; omega) | (intro _; rcases hid i_B_X10_readTape_8_14 (by omega) with g | g; (obtain ⟨g1, D, g2, g3⟩ := g; exact ⟨D, g2, g3⟩); (exfalso; omega))) /- post10#7 -/, (by unfold Hid; first | (intro h; exfalso; omega) | (intro _; rcases hid i_B_X10_readTape_8_14 (by omega) with g | g; (obtain ⟨g1, D, g2, g3⟩ := g; first | (exfalso; omega) | exact Or.inr ⟨by omega, _, D, g2, by rw [← g3.1, ← g3.2.2.1]; omega⟩); first | (exfalso; omega) | exact Or.inl g.2)) /- post11#7 -/⟩
          ·
            refine wp_some ?_
            try dsimp only
            all_goals exact ⟨(by omega) /- post1#8 -/, (by omega) /- post2#8 -/, (by omega) /- post3#8 -/, (by first | (intro h; exfalso; omega) | (intro _; exact i_B_X10_readTape_8_12)) /- post4#8 -/, (by omega) /- post5#8 -/, (by first | (intro h; exfalso; omega) | (intro _; assumption)) /- post6#8 -/, (by omega) /- post7#8 -/, (by omega) /- post8#8 -/, (by exact q_X10_begin_1_16) /- post9#8 -/, (by unfold Hid; first | (intro h; exfalso; omega) | (intro _; rcases hid i_B_X10_readTape_8_14 (by omega) with g | g; (obtain ⟨g1, D, g2, g3⟩ := g; exact ⟨D, g2, g3⟩); (exfalso; omega))) /- post10#8 -/, (by unfold Hid; first | (intro h; exfalso; omega) | (intro _; rcases hid i_B_X10_readTape_8_14 (by omega) with g | g; (obtain ⟨g1, D, g2, g3⟩ := g; first | (exfalso; omega) | exact Or.inr ⟨by omega, _, D, g2, by rw [← g3.1, ← g3.2.2.1]; omega⟩); first | (exfalso; omega) | exact Or.inl g.2)) /- post11#8 -/⟩
        ·
          refine wp_bd3 (s_X10_refuse _ _) (fun z49 z50 z51 q_X10_refuse_2 => ?_)
          try dsimp only at q_X10_refuse_2
          obtain ⟨q_X10_refuse_2_1, q_X10_refuse_2_2, q_X10_refuse_2_3⟩ := q_X10_refuse_2
          refine wp_ck (z_r32_i.mpr ⟨(by omega) /- z_r32.lo z42#5 -/, (by omega) /- z_r32.hi z42#5 -/⟩) ?_
          refine wp_if (fun c11 => ?_) (fun c11 => ?_)
          ·
            refine wp_bd1 (s_X6_workOutStirs _ _ _ _ _ _ (by omega) /- pre X6_workOutStirs.1#5 -/ (by omega) /- pre X6_workOutStirs.2#5 -/ (by omega) /- pre X6_workOutStirs.3#5 -/ (by omega) /- pre X6_workOutStirs.4#5 -/ (by intro t a b; exact okSt_mono (by omega) (i_B_X10_readTape_8_12.2.2.2.2.2.2.2.2.2 t a b)) /- pre X6_workOutStirs.5#5 -/) (fun w46 q_X6_workOutStirs_5 => ?_)
            try dsimp only at q_X6_workOutStirs_5
            refine wp_some ?_
            try dsimp only
            all_goals exact ⟨(by omega) /- post1#9 -/, (by omega) /- post2#9 -/, (by omega) /- post3#9 -/, (by first | (intro h; exfalso; omega) | (intro _; exact i_B_X10_readTape_8_12)) /- post4#9 -/, (by omega) /- post5#9 -/, (by first | (intro h; exfalso; omega) | (intro _; assumption)) /- post6#9 -/, (by omega) /- post7#9 -/, (by omega) /- post8#9 -/, (by exact q_X10_begin_1_16) /- post9#9 -/, (by unfold Hid; first | (intro h; exfalso; omega) | (intro _; rcases hid i_B_X10_readTape_8_14 (by omega) with g | g; (obtain ⟨g1, D, g2, g3⟩ := g; exact ⟨D, g2, g3⟩); (exfalso; omega))) /- post10#9 -/, (by unfold Hid; first | (intro h; exfalso; omega) | (intro _; rcases hid i_B_X10_readTape_8_14 (by omega) with g | g; (obtain ⟨g1, D, g2, g3⟩ := g; first | (exfalso; omega) | exact Or.inr ⟨by omega, _, D, g2, by rw [← g3.1, ← g3.2.2.1]; omega⟩); first | (exfalso; omega) | exact Or.inl g.2)) /- post11#9 -/⟩
          ·
            refine wp_some ?_
            try dsimp only
            all_goals exact ⟨(by omega) /- post1#10 -/, (by omega) /- post2#10 -/, (by omega) /- post3#10 -/, (by first | (intro h; exfalso; omega) | (intro _; exact i_B_X10_readTape_8_12)) /- post4#10 -/, (by omega) /- post5#10 -/, (by first | (intro h; exfalso; omega) | (intro _; assumption)) /- post6#10 -/, (by omega) /- post7#10 -/, (by omega) /- post8#10 -/, (by exact q_X10_begin_1_16) /- post9#10 -/, (by unfold Hid; first | (intro h; exfalso; omega) | (intro _; rcases hid i_B_X10_readTape_8_14 (by omega) with g | g; (obtain ⟨g1, D, g2, g3⟩ := g; exact ⟨D, g2, g3⟩); (exfalso; omega))) /- post10#10 -/, (by unfold Hid; first | (intro h; exfalso; omega) | (intro _; rcases hid i_B_X10_readTape_8_14 (by omega) with g | g; (obtain ⟨g1, D, g2, g3⟩ := g; first | (exfalso; omega) | exact Or.inr ⟨by omega, _, D, g2, by rw [← g3.1, ← g3.2.2.1]; omega⟩); first | (exfalso; omega) | exact Or.inl g.2)) /- post11#10 -/⟩
      ·
        refine wp_ck (z_r32_i.mpr ⟨(by omega) /- z_r32.lo z42#6 -/, (by omega) /- z_r32.hi z42#6 -/⟩) ?_
        refine wp_if (fun c12 => ?_) (fun c12 => ?_)
        ·
          refine wp_bd1 (s_X6_workOutStirs _ _ _ _ _ _ (by omega) /- pre X6_workOutStirs.1#6 -/ (by omega) /- pre X6_workOutStirs.2#6 -/ (by omega) /- pre X6_workOutStirs.3#6 -/ (by omega) /- pre X6_workOutStirs.4#6 -/ (by intro t a b; exact okSt_mono (by omega) (i_B_X10_readTape_8_12.2.2.2.2.2.2.2.2.2 t a b)) /- pre X6_workOutStirs.5#6 -/) (fun w46 q_X6_workOutStirs_6 => ?_)
          try dsimp only at q_X6_workOutStirs_6
          refine wp_some ?_
          try dsimp only
          all_goals exact ⟨(by omega) /- post1#11 -/, (by omega) /- post2#11 -/, (by omega) /- post3#11 -/, (by first | (intro h; exfalso; omega) | (intro _; exact i_B_X10_readTape_8_12)) /- post4#11 -/, (by omega) /- post5#11 -/, (by first | (intro h; exfalso; omega) | (intro _; assumption)) /- post6#11 -/, (by omega) /- post7#11 -/, (by omega) /- post8#11 -/, (by exact q_X10_begin_1_16) /- post9#11 -/, (by unfold Hid; first | (intro h; exfalso; omega) | (intro _; rcases hid i_B_X10_readTape_8_14 (by omega) with g | g; (obtain ⟨g1, D, g2, g3⟩ := g; exact ⟨D, g2, g3⟩); (exfalso; omega))) /- post10#11 -/, (by unfold Hid; first | (intro h; exfalso; omega) | (intro _; rcases hid i_B_X10_readTape_8_14 (by omega) with g | g; (obtain ⟨g1, D, g2, g3⟩ := g; first | (exfalso; omega) | exact Or.inr ⟨by omega, _, D, g2, by rw [← g3.1, ← g3.2.2.1]; omega⟩); first | (exfalso; omega) | exact Or.inl g.2)) /- post11#11 -/⟩
        ·
          refine wp_some ?_
          try dsimp only
          all_goals exact ⟨(by omega) /- post1#12 -/, (by omega) /- post2#12 -/, (by omega) /- post3#12 -/, (by first | (intro h; exfalso; omega) | (intro _; exact i_B_X10_readTape_8_12)) /- post4#12 -/, (by omega) /- post5#12 -/, (by first | (intro h; exfalso; omega) | (intro _; assumption)) /- post6#12 -/, (by omega) /- post7#12 -/, (by omega) /- post8#12 -/, (by exact q_X10_begin_1_16) /- post9#12 -/, (by unfold Hid; first | (intro h; exfalso; omega) | (intro _; rcases hid i_B_X10_readTape_8_14 (by omega) with g | g; (obtain ⟨g1, D, g2, g3⟩ := g; exact ⟨D, g2, g3⟩); (exfalso; omega))) /- post10#12 -/, (by unfold Hid; first | (intro h; exfalso; omega) | (intro _; rcases hid i_B_X10_readTape_8_14 (by omega) with g | g; (obtain ⟨g1, D, g2, g3⟩ := g; first | (exfalso; omega) | exact Or.inr ⟨by omega, _, D, g2, by rw [← g3.1, ← g3.2.2.1]; omega⟩); first | (exfalso; omega) | exact Or.inl g.2)) /- post11#12 -/⟩
    ·
      obtain ⟨hD0, D, hD1, hD2, hD3⟩ := hid i_B_X10_readTape_8_13 (by omega)
      refine wp_bd22 (s_X10_readLine _ _ _ _ _ _ _ _ _ _ _ _ _ _ _ _ _ _ _ _ _ D (by omega) /- pre X10_readLine.1#1 -/ (by omega) /- pre X10_readLine.2#1 -/ (by omega) /- pre X10_readLine.3#1 -/ (by omega) /- pre X10_readLine.4#1 -/ (by exact h3) /- pre X10_readLine.5#1 -/ (by exact i_B_X10_readTape_8_12) /- pre X10_readLine.6#1 -/ (by exact hD2) /- pre X10_readLine.7#1 -/ (by exact hD3) /- pre X10_readLine.8#1 -/) (fun z78 z79 z80 z81 z82 z83 z84 z85 z86 z87 z88 z89 w90 w91 w92 w93 z94 z95 w96 w97 w98 w99 q_X10_readLine_1 => ?_)
      try dsimp only at q_X10_readLine_1
      obtain ⟨q_X10_readLine_1_1, q_X10_readLine_1_2, q_X10_readLine_1_3, q_X10_readLine_1_4, q_X10_readLine_1_5, q_X10_readLine_1_6, q_X10_readLine_1_7, q_X10_readLine_1_8⟩ := q_X10_readLine_1
      refine wp_bnd ?_
      refine wp_bndE (fun z101 hz101 => ?_)
      exact ih_B_X10_readTape_8 _ _ _ _ _ _ _ _ _ _ _ _ _ _ _ _ _ _ _ _ _ _ _ ⟨(by omega) /- B_X10_readTape_8.inv1#1 -/, (by omega) /- B_X10_readTape_8.inv2#1 -/, (by omega) /- B_X10_readTape_8.inv3#1 -/, (by omega) /- B_X10_readTape_8.inv4#1 -/, (by omega) /- B_X10_readTape_8.inv5#1 -/, (by omega) /- B_X10_readTape_8.inv6#1 -/, (by omega) /- B_X10_readTape_8.inv7#1 -/, (by omega) /- B_X10_readTape_8.inv8#1 -/, (by omega) /- B_X10_readTape_8.inv9#1 -/, (by omega) /- B_X10_readTape_8.inv10#1 -/, (by omega) /- B_X10_readTape_8.inv11#1 -/, (by exact q_X10_readLine_1_5) /- B_X10_readTape_8.inv12#1 -/, (by 
                                        unfold Hid
                                        intro h
                                        have h1 : z78 = 1 := by omega
                                        obtain ⟨nm, c, g1, g2, g3, g4⟩ := hid q_X10_readLine_1_7 h1
                                        refine ⟨by omega, _, ?_, g3, g4⟩
                                        rw [show z81.toNat = z56.toNat + 1 from by omega]
                                        exact ⟨_, _, nm, c, hD1, g1, g2, rfl⟩) /- B_X10_readTape_8.inv13#1 -/, (by 
                                        unfold Hid
                                        intro h
                                        have h1 : z78 = 0 := by omega
                                        rcases hid q_X10_readLine_1_8 h1 with ⟨g1, g2, g3⟩ | ⟨g1, g2⟩
                                        · exact Or.inl ⟨by omega, D, by rw [show z81 = z56 from by omega]; exact ⟨_, hD1, g1⟩, g3⟩
                                        · exact Or.inr ⟨g1, _, _, _, hD1, g2⟩) /- B_X10_readTape_8.inv14#1 -/⟩ (by omega) /- B_X10_readTape_8.dec#1 -/

set_option maxHeartbeats 1000000 in
theorem s_X11_text (i_p0_rules_seats : Int) (i_p0_rules_stirs : Int) (v_p0_rules_need : (Int → Int)) (v_p0_rules_after : (Int → Int)) (i_p0_state_seenDays : Int) (i_p0_state_bone : Int) (i_p0_state_king : Int) (i_p0_state_days : Int) (v_p0_state_pieces : (Int → Int)) (v_p0_state_friends : (Int → Int)) (v_p0_state_spoons : (Int → Int)) (v_p0_state_eaten : (Int → Int)) (v_p0_state_seen : (Int → Int)) (i_p0_tape_length : Int) (i_p0_tape_token : Int) (i_p0_tape_start : Int) (i_p0_tape_value : Int) (v_p0_tape_bytes : (Int → Int)) (i_p0_reader_faultPlace : Int) (v_p0_reader_rules_need : (Int → Int)) (v_p0_reader_rules_kind : (Int → Int)) (v_p0_reader_rules_first : (Int → Int)) (v_p0_reader_rules_second : (Int → Int)) (v_p0_reader_rules_after : (Int → Int)) (v_p0_reader_state_pieces : (Int → Int)) (v_p0_reader_state_friends : (Int → Int)) (v_p0_reader_state_spoons : (Int → Int)) (v_p0_reader_state_eaten : (Int → Int)) (v_p0_reader_state_seen : (Int → Int)) (v_p0_reader_numbers : (Int → Int)) (v_p0_imageHeld : (Int → Int)) (h1 : 0 ≤ i_p0_tape_length) (h2 : i_p0_tape_length ≤ 320) (h3 : ∀ j, 0 ≤ j → j < 320 → -128 ≤ v_p0_tape_bytes j ∧ v_p0_tape_bytes j < 128) (h4 : okR i_p0_rules_seats i_p0_rules_stirs v_p0_rules_need v_p0_rules_after) (h5 : okS i_p0_rules_seats i_p0_state_seenDays i_p0_state_bone i_p0_state_king i_p0_state_days v_p0_state_pieces v_p0_state_friends v_p0_state_spoons v_p0_state_eaten v_p0_state_seen) : wp (f_X11_text i_p0_rules_seats i_p0_rules_stirs v_p0_rules_need v_p0_rules_after i_p0_state_seenDays i_p0_state_bone i_p0_state_king i_p0_state_days v_p0_state_pieces v_p0_state_friends v_p0_state_spoons v_p0_state_eaten v_p0_state_seen i_p0_tape_length i_p0_tape_token i_p0_tape_start i_p0_tape_value v_p0_tape_bytes i_p0_reader_faultPlace v_p0_reader_rules_need v_p0_reader_rules_kind v_p0_reader_rules_first v_p0_reader_rules_second v_p0_reader_rules_after v_p0_reader_state_pieces v_p0_reader_state_friends v_p0_reader_state_spoons v_p0_reader_state_eaten v_p0_reader_state_seen v_p0_reader_numbers v_p0_imageHeld) (fun o => (-340 ≤ o.1 ∧ o.1 ≤ 340) ∧ (o.2.2.2.2.2.2.2.2.2.2.2.2.2.2.2.1 = 0) ∧ (okR o.2.2.1 o.2.2.2.1 o.2.2.2.2.1 o.2.2.2.2.2.1) ∧ (okS o.2.2.1 o.2.2.2.2.2.2.1 o.2.2.2.2.2.2.2.1 o.2.2.2.2.2.2.2.2.1 o.2.2.2.2.2.2.2.2.2.1 o.2.2.2.2.2.2.2.2.2.2.1 o.2.2.2.2.2.2.2.2.2.2.2.1 o.2.2.2.2.2.2.2.2.2.2.2.2.1 o.2.2.2.2.2.2.2.2.2.2.2.2.2.1 o.2.2.2.2.2.2.2.2.2.2.2.2.2.2.1) ∧ ((∀ j, 0 ≤ j → j < 2 → o.2.2.2.2.2.2.2.2.2.2.2.2.2.2.2.2.2.2.2.2.2.2.2.2.2.2.2.2.2.2.2.2.2.2.2.2.2.2.2.2.2 j = 0) ∨ (o.2.2.2.2.2.2.2.2.2.2.2.2.2.2.2.2.2.2.2.2.2.2.2.2.2.2.2.2.2.2.2.2.2.2.2.2.2.2.2.2.2 = v_p0_imageHeld ∧ o.2.2.1 = i_p0_rules_seats)) ∧ (0 ≤ o.2.1 ∧ o.2.1 ≤ 6) ∧ (Hid (o.2.1 = 0 → ∃ D, txE v_p0_tape_bytes i_p0_tape_length o.1.toNat D ∧ 0 ≤ o.1 ∧ D 2 < D 0 ∧ fin D o.2.2.1 o.2.2.2.1 o.2.2.2.2.2.2.2.1 o.2.2.2.2.2.2.2.2.1 o.2.2.2.2.1 o.2.2.2.2.2.1 o.2.2.2.2.2.2.2.2.2.2.1 o.2.2.2.2.2.2.2.2.2.2.2.1 o.2.2.2.2.2.2.2.2.2.2.2.2.1 ∧ o.2.2.2.2.2.2.1 = 0 ∧ o.2.2.2.2.2.2.2.2.2.1 = 0 ∧ (∀ j, 0 ≤ j → j < 7 → o.2.2.2.2.2.2.2.2.2.2.2.2.2.1 j = 0) ∧ (∀ j, 0 ≤ j → j < 2 → o.2.2.2.2.2.2.2.2.2.2.2.2.2.2.2.2.2.2.2.2.2.2.2.2.2.2.2.2.2.2.2.2.2.2.2.2.2.2.2.2.2 j = 0))) ∧ (Hid (¬ o.2.1 = 0 → (txF v_p0_tape_bytes i_p0_tape_length (-10 - o.1) ∨ (o.1 = -10 - i_p0_tape_length ∧ ∃ k D, txE v_p0_tape_bytes i_p0_tape_length k D ∧ ¬ D 2 < D 0)) ∧ o.2.2.1 = i_p0_rules_seats ∧ o.2.2.2.1 = i_p0_rules_stirs ∧ o.2.2.2.2.1 = v_p0_rules_need ∧ o.2.2.2.2.2.1 = v_p0_rules_after ∧ o.2.2.2.2.2.2.1 = i_p0_state_seenDays ∧ o.2.2.2.2.2.2.2.1 = i_p0_state_bone ∧ o.2.2.2.2.2.2.2.2.1 = i_p0_state_king ∧ o.2.2.2.2.2.2.2.2.2.1 = i_p0_state_days ∧ o.2.2.2.2.2.2.2.2.2.2.1 = v_p0_state_pieces ∧ o.2.2.2.2.2.2.2.2.2.2.2.1 = v_p0_state_friends ∧ o.2.2.2.2.2.2.2.2.2.2.2.2.1 = v_p0_state_spoons ∧ o.2.2.2.2.2.2.2.2.2.2.2.2.2.1 = v_p0_state_eaten ∧ o.2.2.2.2.2.2.2.2.2.2.2.2.2.2.1 = v_p0_state_seen ∧ o.2.2.2.2.2.2.2.2.2.2.2.2.2.2.2.2.2.2.2.2.2.2.2.2.2.2.2.2.2.2.2.2.2.2.2.2.2.2.2.2.2 = v_p0_imageHeld))) := by
  unfold f_X11_text
  refine wp_bd26 (s_X10_readTape _ _ _ _ _ _ _ _ _ _ _ _ _ _ _ _ (by omega) /- pre X10_readTape.1#1 -/ (by omega) /- pre X10_readTape.2#1 -/ (by exact h3) /- pre X10_readTape.3#1 -/) (fun z1 z2 z3 z4 z5 z6 z7 z8 z9 z10 z11 z12 w13 w14 w15 w16 w17 z18 z19 z20 z21 w22 w23 w24 w25 w26 q_X10_readTape_1 => ?_)
  try dsimp only at q_X10_readTape_1
  obtain ⟨q_X10_readTape_1_1, q_X10_readTape_1_2, q_X10_readTape_1_3, q_X10_readTape_1_4, q_X10_readTape_1_5, q_X10_readTape_1_6, q_X10_readTape_1_7, q_X10_readTape_1_8, q_X10_readTape_1_9, q_X10_readTape_1_10, q_X10_readTape_1_11⟩ := q_X10_readTape_1
  refine wp_bnd ?_
  refine wp_bnd ?_
  refine wp_bnd ?_
  refine wp_ck (z_r32_i.mpr ⟨(by omega) /- z_r32.lo z29#1 -/, (by omega) /- z_r32.hi z29#1 -/⟩) ?_
  refine wp_if (fun c1 => ?_) (fun c1 => ?_)
  ·
    refine wp_bd4 (s_X6_copy _ _ _ _ _ _) (fun z31 z32 w33 w34 q_X6_copy_1 => ?_)
    try dsimp only at q_X6_copy_1
    obtain ⟨q_X6_copy_1_1, q_X6_copy_1_2, q_X6_copy_1_3, q_X6_copy_1_4⟩ := q_X6_copy_1
    refine wp_bd9 (s_X8_copy _ _ _ _ _ _ _ _ _ _ _ _ _ _) (fun z35 z36 z37 z38 w39 w40 w41 w42 w43 q_X8_copy_1 => ?_)
    try dsimp only at q_X8_copy_1
    obtain ⟨q_X8_copy_1_1, q_X8_copy_1_2, q_X8_copy_1_3, q_X8_copy_1_4, q_X8_copy_1_5, q_X8_copy_1_6, q_X8_copy_1_7, q_X8_copy_1_8, q_X8_copy_1_9⟩ := q_X8_copy_1
    refine wp_bnd ?_
    refine wp_lq2 (fun (z45 : Int) (w46 : (Int → Int)) => (0 ≤ z45) ∧ (z45 ≤ 2) ∧ (∀ j, 0 ≤ j → j < z45 → w46 j = 0)) (fun (z45 : Int) (w46 : (Int → Int)) => (2 - z45).toNat) (fun again64 z45 w46 hI ih_B_X11_text_64 => ?_) 1000 _ _ ⟨(by omega) /- B_X11_text_64.init1#1 -/, (by omega) /- B_X11_text_64.init2#1 -/, (by intro j; omega) /- B_X11_text_64.init3#1 -/⟩ (by omega) /- B_X11_text_64.fuel#1 -/
    obtain ⟨i_B_X11_text_64_1, i_B_X11_text_64_2, i_B_X11_text_64_3⟩ := hI
    unfold B_X11_text_64
    refine wp_ck (z_r32_i.mpr ⟨(by omega) /- z_r32.lo z45#1 -/, (by omega) /- z_r32.hi z45#1 -/⟩) ?_
    refine wp_if (fun c2 => ?_) (fun c2 => ?_)
    ·
      refine wp_some ?_
      try dsimp only
      all_goals exact ⟨(by omega) /- post1#1 -/, (by omega) /- post2#1 -/, (by rw [q_X6_copy_1_1, q_X6_copy_1_2, q_X6_copy_1_3, q_X6_copy_1_4]; exact okR_cpy (rdr_okR (q_X10_readTape_1_4 c1) (q_X10_readTape_1_5 c1) (q_X10_readTape_1_6 c1))) /- post3#1 -/, (by rw [q_X6_copy_1_1, q_X8_copy_1_1, q_X8_copy_1_2, q_X8_copy_1_3, q_X8_copy_1_4, q_X8_copy_1_5, q_X8_copy_1_6, q_X8_copy_1_7, q_X8_copy_1_8, q_X8_copy_1_9, q_X10_readTape_1_7, q_X10_readTape_1_8, q_X10_readTape_1_9]; exact okS_cpy (rdr_okS (q_X10_readTape_1_4 c1) (q_X10_readTape_1_5 c1))) /- post4#1 -/, (by left; intro j a b; exact i_B_X11_text_64_3 j a (by omega)) /- post5#1 -/, (by omega) /- post6#1 -/, (by 
                                        unfold Hid
                                        intro _
                                        obtain ⟨D, g1, g2⟩ := hid q_X10_readTape_1_10 c1
                                        have g3 := q_X10_readTape_1_5 c1
                                        have g4 := q_X10_readTape_1_2 c1
                                        refine ⟨D, g1, by omega, by rw [← g2.1, ← g2.2.2.1]; exact g3, ?_, by omega, by omega, ?_, fun j a b => i_B_X11_text_64_3 j a (by omega)⟩
                                        · rw [q_X6_copy_1_1, q_X6_copy_1_2, q_X6_copy_1_3, q_X6_copy_1_4, q_X8_copy_1_2, q_X8_copy_1_3, q_X8_copy_1_5, q_X8_copy_1_6, q_X8_copy_1_7]
                                          exact crel_fin g2 (q_X10_readTape_1_4 c1) (q_X10_readTape_1_6 c1)
                                        · intro j a b
                                          rw [q_X8_copy_1_8, z_cpy_in a b, q_X10_readTape_1_9, z_fill_in a b]) /- post7#1 -/, (by unfold Hid; intro h; exact absurd c1 h) /- post8#1 -/⟩
    ·
      refine wp_ck (z_ix_i.mpr ⟨⟨(by omega) /- ix.lo z45#1 -/, (by omega) /- ix.hi z45#1 -/⟩, (by omega) /- ix.big z45#1 -/⟩) ?_
      refine wp_ck (z_bB_i.mpr (by omega) /- bB (0 : Int)#1 -/) ?_
      refine wp_bnd ?_
      refine wp_bndE (fun z50 hz50 => ?_)
      exact ih_B_X11_text_64 _ _ ⟨(by omega) /- B_X11_text_64.inv1#1 -/, (by omega) /- B_X11_text_64.inv2#1 -/, (by intro j a b; rw [z_up_a]; split; rfl; exact i_B_X11_text_64_3 j a (by omega)) /- B_X11_text_64.inv3#1 -/⟩ (by omega) /- B_X11_text_64.dec#1 -/
  ·
    refine wp_some ?_
    try dsimp only
    all_goals exact ⟨(by omega) /- post1#2 -/, (by omega) /- post2#2 -/, (by exact h4) /- post3#2 -/, (by exact h5) /- post4#2 -/, (by right; exact ⟨rfl, rfl⟩) /- post5#2 -/, (by omega) /- post6#2 -/, (by unfold Hid; intro h; exact absurd h c1) /- post7#2 -/, (by 
                                        unfold Hid
                                        intro _
                                        refine ⟨?_, rfl, rfl, rfl, rfl, rfl, rfl, rfl, rfl, rfl, rfl, rfl, rfl, rfl, rfl⟩
                                        have g3 := q_X10_readTape_1_3 c1
                                        rcases hid q_X10_readTape_1_11 c1 with g | g
                                        · left; rw [show -10 - z1 = z3 from by omega]; exact g
                                        · right; exact ⟨by omega, g.2⟩) /- post8#2 -/⟩
