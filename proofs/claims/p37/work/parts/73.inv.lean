theorem okS_fr {n sd bone king days x y z : Int} {p f s e se : Int → Int} (h : okS n sd bone king days p f s e se) (h7 : n ≤ 7) : okS n sd bone king days p (if (0 ≤ x ∧ x < n) ∧ (0 ≤ y ∧ y < n) ∧ ¬ x = y then z_up f x (if z = 0 then z_and (f x) (z_xor (z_shl 1 y) (-1)) else z_or (f x) (z_shl 1 y)) else f) s e se := by
  split
  · rename_i c
    obtain ⟨h1, h2, h3, h4, h5, h6, h7', h8, h9⟩ := h
    refine ⟨h1, h2, h3, h4, h5, fun j a b => ?_, h7', h8, h9⟩
    rw [z_up_a]
    split
    · have q := h6 x c.1.1 (by omega)
      split
      · exact an7z q.1 q.2 c.2.1.1 (by omega)
      · exact or7z q.1 q.2 c.2.1.1 (by omega)
    · exact h6 j a b
  · exact h
theorem okS_sp {n sd bone king days x y : Int} {p f s e se : Int → Int} (h : okS n sd bone king days p f s e se) : okS n sd bone king days p f (if (0 ≤ x ∧ x < n) ∧ 1 ≤ y ∧ y ≤ 9 then z_up s x y else s) e se := by
  split
  · rename_i c
    obtain ⟨h1, h2, h3, h4, h5, h6, h7, h8, h9⟩ := h
    refine ⟨h1, h2, h3, h4, h5, h6, fun j a b => ?_, h8, h9⟩
    rw [z_up_a]
    split
    · exact c.2
    · exact h7 j a b
  · exact h
theorem okS_kg {n sd bone king days x : Int} {p f s e se : Int → Int} (h : okS n sd bone king days p f s e se) : okS n sd bone (if 0 ≤ x ∧ x < n then x else king) days p f s e se := by
  split
  · rename_i c
    exact ⟨h.1, c, h.2.2⟩
  · exact h
theorem okS_fi {n sd bone king days x y : Int} {p f s e se : Int → Int} (h : okS n sd bone king days p f s e se) : okS n sd bone king days (if (0 ≤ x ∧ x < n) ∧ 0 ≤ y ∧ y ≤ 9 then z_up p x y else p) f s e se := by
  split
  · rename_i c
    obtain ⟨h1, h2, h3, h4, h5, h6, h7, h8, h9⟩ := h
    refine ⟨h1, h2, h3, h4, fun j a b => ?_, h6, h7, h8, h9⟩
    rw [z_up_a]
    split
    · exact c.2
    · exact h5 j a b
  · exact h
theorem okS_see {n sd bone king days x : Int} {p f s e se : Int → Int} (h : okS n sd bone king days p f s e se) : okS n (if (0 ≤ x ∧ x < n) ∧ sd < 6 then sd + 1 else sd) bone king days p f s e (if (0 ≤ x ∧ x < n) ∧ sd < 6 then z_up se sd x else se) := by
  split
  · rename_i c
    obtain ⟨h1, h2, h3, h4, h5, h6, h7, h8, h9⟩ := h
    refine ⟨h1, h2, h3, by omega, h5, h6, h7, h8, fun j a b => ?_⟩
    rw [z_up_a]
    split
    · exact c.1
    · exact h9 j a (by omega)
  · exact h
theorem okS_fg {n sd bone king days x : Int} {p f s e se : Int → Int} (h : okS n sd bone king days p f s e se) : okS n (if 0 ≤ x ∧ x ≤ sd then x else sd) bone king days p f s e se := by
  split
  · rename_i c
    obtain ⟨h1, h2, h3, h4, h5, h6, h7, h8, h9⟩ := h
    exact ⟨h1, h2, h3, by omega, h5, h6, h7, h8, fun j a b => h9 j a (by omega)⟩
  · exact h
theorem lay_r {l x : Int} (h : -2147483648 ≤ x ∧ x < 2147483648) : -2147483648 ≤ (if l = 0 then z_i2b x else if l = 1 then z_i2s x else x) ∧ (if l = 0 then z_i2b x else if l = 1 then z_i2s x else x) < 2147483648 := by
  have a := z_i2b_r x
  have b := z_i2s_r x
  split
  · omega
  · split
    · omega
    · exact h
theorem okM_fr {n x y z : Int} {st : Int → Int} (h : okM n st) (h7 : n ≤ 7) : okM n (if (0 ≤ x ∧ x < n) ∧ (0 ≤ y ∧ y < n) ∧ ¬ x = y then z_up st (9 + x) (if z = 0 then z_and (st (9 + x)) (z_xor (z_shl 1 y) (-1)) else z_or (st (9 + x)) (z_shl 1 y)) else st) := by
  split
  · rename_i c
    obtain ⟨h1, h2, h3, h4, h5, h6, h7', h8, h9⟩ := h
    refine ⟨by rw [z_up_n _ _ (by omega)]; exact h1, by rw [z_up_n _ _ (by omega)]; exact h2, by rw [z_up_n _ _ (by omega)]; exact h3, by rw [z_up_n _ _ (by omega)]; exact h4, fun j a b => ?_, fun j a b => ?_, fun j a b => ?_, fun j a b => ?_, fun j a b => ?_⟩
    · rw [z_up_n _ _ (by omega)]; exact h5 j a b
    · dsimp only
      rw [z_up_a]
      split
      · have q := h6 x c.1.1 (by omega)
        split
        · exact an7z q.1 q.2 c.2.1.1 (by omega)
        · exact or7z q.1 q.2 c.2.1.1 (by omega)
      · exact h6 j a b
    · dsimp only; rw [z_up_n _ _ (by omega)]; exact h7' j a b
    · dsimp only; rw [z_up_n _ _ (by omega), z_up_n _ _ (by omega)]; exact h8 j a b
    · dsimp only; rw [z_up_n _ _ (by omega)] at b; rw [z_up_n _ _ (by omega)]; exact h9 j a b
  · exact h
theorem okM_spn {n x y : Int} {st : Int → Int} (h : okM n st) (h7 : n ≤ 7 := by omega) : okM n (if (0 ≤ x ∧ x < n) ∧ 1 ≤ y ∧ y ≤ 9 then z_up st (16 + x) y else st) := by
  split
  · rename_i c
    obtain ⟨h1, h2, h3, h4, h5, h6, h7', h8, h9⟩ := h
    refine ⟨by rw [z_up_n _ _ (by omega)]; exact h1, by rw [z_up_n _ _ (by omega)]; exact h2, by rw [z_up_n _ _ (by omega)]; exact h3, by rw [z_up_n _ _ (by omega)]; exact h4, fun j a b => ?_, fun j a b => ?_, fun j a b => ?_, fun j a b => ?_, fun j a b => ?_⟩
    · rw [z_up_n _ _ (by omega)]; exact h5 j a b
    · dsimp only; rw [z_up_n _ _ (by omega)]; exact h6 j a b
    · dsimp only
      rw [z_up_a]
      split
      · exact c.2
      · exact h7' j a b
    · dsimp only; rw [z_up_n _ _ (by omega), z_up_n _ _ (by omega)]; exact h8 j a b
    · dsimp only; rw [z_up_n _ _ (by omega)] at b; rw [z_up_n _ _ (by omega)]; exact h9 j a b
  · exact h
theorem okM_kg {n x : Int} {st : Int → Int} (h : okM n st) : okM n (if 0 ≤ x ∧ x < n then z_up st 8 x else st) := by
  split
  · rename_i c
    obtain ⟨h1, h2, h3, h4, h5, h6, h7', h8, h9⟩ := h
    refine ⟨by rw [z_up_n _ _ (by omega)]; exact h1, by rw [z_up_s]; exact c, by rw [z_up_n _ _ (by omega)]; exact h3, by rw [z_up_n _ _ (by omega)]; exact h4, fun j a b => ?_, fun j a b => ?_, fun j a b => ?_, fun j a b => ?_, fun j a b => ?_⟩
    · rw [z_up_n _ _ (by omega)]; exact h5 j a b
    · dsimp only; rw [z_up_n _ _ (by omega)]; exact h6 j a b
    · dsimp only; rw [z_up_n _ _ (by omega)]; exact h7' j a b
    · dsimp only; rw [z_up_n _ _ (by omega), z_up_n _ _ (by omega)]; exact h8 j a b
    · dsimp only; rw [z_up_n _ _ (by omega)] at b; rw [z_up_n _ _ (by omega)]; exact h9 j a b
  · exact h
theorem okM_fi {n x y : Int} {st : Int → Int} (h : okM n st) (h7 : n ≤ 7 := by omega) : okM n (if (0 ≤ x ∧ x < n) ∧ 0 ≤ y ∧ y ≤ 9 then z_up st x y else st) := by
  split
  · rename_i c
    obtain ⟨h1, h2, h3, h4, h5, h6, h7', h8, h9⟩ := h
    refine ⟨by rw [z_up_n _ _ (by omega)]; exact h1, by rw [z_up_n _ _ (by omega)]; exact h2, by rw [z_up_n _ _ (by omega)]; exact h3, by rw [z_up_n _ _ (by omega)]; exact h4, fun j a b => ?_, fun j a b => ?_, fun j a b => ?_, fun j a b => ?_, fun j a b => ?_⟩
    · rw [z_up_a]
      split
      · exact c.2
      · exact h5 j a b
    · dsimp only; rw [z_up_n _ _ (by omega)]; exact h6 j a b
    · dsimp only; rw [z_up_n _ _ (by omega)]; exact h7' j a b
    · dsimp only; rw [z_up_n _ _ (by omega), z_up_n _ _ (by omega)]; exact h8 j a b
    · dsimp only; rw [z_up_n _ _ (by omega)] at b; rw [z_up_n _ _ (by omega)]; exact h9 j a b
  · exact h
theorem okM_see {n x : Int} {st : Int → Int} (h : okM n st) : okM n (if (0 ≤ x ∧ x < n) ∧ ¬ st 31 = 6 then z_up (z_up st (32 + st 31) x) 31 (st 31 + 1) else st) := by
  split
  · rename_i c
    obtain ⟨h1, h2, h3, h4, h5, h6, h7', h8, h9⟩ := h
    have e : ∀ k, k < 31 → z_up (z_up st (32 + st 31) x) 31 (st 31 + 1) k = st k := fun k a => by rw [z_up_n _ _ (by omega), z_up_n _ _ (by omega)]
    refine ⟨by rw [e 7 (by omega)]; exact h1, by rw [e 8 (by omega)]; exact h2, by rw [e 30 (by omega)]; exact h3, by rw [z_up_s]; omega, fun j a b => ?_, fun j a b => ?_, fun j a b => ?_, fun j a b => ?_, fun j a b => ?_⟩
    · rw [e j (by omega)]; exact h5 j a b
    · dsimp only; rw [e _ (by omega)]; exact h6 j a b
    · dsimp only; rw [e _ (by omega)]; exact h7' j a b
    · dsimp only; rw [e _ (by omega), e 30 (by omega)]; exact h8 j a b
    · rw [z_up_s] at b
      dsimp only
      rw [z_up_n _ _ (by omega), z_up_a]
      split
      · exact c.1
      · exact h9 j a (by omega)
  · exact h
theorem okM_fg {n x : Int} {st : Int → Int} (h : okM n st) : okM n (if 0 ≤ x ∧ x ≤ st 31 then z_up st 31 x else st) := by
  split
  · rename_i c
    obtain ⟨h1, h2, h3, h4, h5, h6, h7', h8, h9⟩ := h
    refine ⟨by rw [z_up_n _ _ (by omega)]; exact h1, by rw [z_up_n _ _ (by omega)]; exact h2, by rw [z_up_n _ _ (by omega)]; exact h3, by rw [z_up_s]; omega, fun j a b => ?_, fun j a b => ?_, fun j a b => ?_, fun j a b => ?_, fun j a b => ?_⟩
    · rw [z_up_n _ _ (by omega)]; exact h5 j a b
    · dsimp only; rw [z_up_n _ _ (by omega)]; exact h6 j a b
    · dsimp only; rw [z_up_n _ _ (by omega)]; exact h7' j a b
    · dsimp only; rw [z_up_n _ _ (by omega), z_up_n _ _ (by omega)]; exact h8 j a b
    · rw [z_up_s] at b
      dsimp only
      rw [z_up_n _ _ (by omega)]
      exact h9 j a (by omega)
  · exact h
theorem okI_far {n : Int} {kp st st2 : Int → Int} (h : ∀ k, 0 ≤ k → k < 2 → ¬ kp k = 0 → okM n (fun j => st (38 * (k + 1) + j))) (e : ∀ j, 38 ≤ j → j < 114 → st2 j = st j) : ∀ k, 0 ≤ k → k < 2 → ¬ kp k = 0 → okM n (fun j => st2 (38 * (k + 1) + j)) :=
  fun k a b c => okM_cp (c := 38 * (k + 1)) (h k a b c) (fun j u v => e _ (by omega) (by omega))
theorem and255 (x : Int) : 0 ≤ w_and x 255 ∧ w_and x 255 ≤ 255 := by
  have e : w_and x 255 = ((Int64.ofInt x).toBitVec &&& (255#64)).toInt := rfl
  have t : ((Int64.ofInt x).toBitVec &&& (255#64)).toNat ≤ 255 := by rw [BitVec.toNat_and]; exact Nat.and_le_right
  rw [e, BitVec.toInt_eq_toNat_cond, if_pos (by omega)]
  omega
theorem okM_rdr {n s g : Int} {need nd dst dr st b : Int → Int} (h : rrdr n s g nd dst dr) (hg : g < n) (e : ∀ j, 0 ≤ j → j < 38 → st j = dr j) (hb : ∀ t, 0 ≤ t → t < s → ∀ i, 0 ≤ i → i < n → b (7 * t + i) = bro n (7 + dst (3 * t)) (dst (3 * t + 1)) (dst (3 * t + 2)) i) (hn : ∀ j, 0 ≤ j → j < 7 → need j = nd j) (h0 : ∀ j, 23 ≤ j → j < 38 → dr j = 0) : okRM n s need b ∧ okM n st := by
  obtain ⟨r1, r2, r3, r4, r5, r6, r7, r8, r9, r10⟩ := h
  have hm : max g 0 < n := by omega
  refine ⟨⟨r1, r2, fun j a c => by rw [hn j a c]; exact r6 j a c, fun t t0 t1 => ?_⟩, ?_⟩
  · have hp := bro_perm r1.1 (okSt_mono (by omega) (r10 t t0 t1) : okSt n (7 + dst (3 * t)) (dst (3 * t + 1)) (dst (3 * t + 2)))
    refine ⟨fun i p q => ?_, fun i j p q p2 q2 f => ?_⟩
    · show 0 ≤ b (7 * t + i) ∧ b (7 * t + i) < n
      rw [hb t t0 t1 i p q]; exact hp.1 i p q
    · have f : b (7 * t + i) = b (7 * t + j) := f
      rw [hb t t0 t1 i p q, hb t t0 t1 j p2 q2] at f
      exact hp.2 i j p q p2 q2 f
  · refine ⟨by rw [e 7 (by omega) (by omega)]; omega, by rw [e 8 (by omega) (by omega)]; omega, by rw [e 30 (by omega) (by omega), h0 30 (by omega) (by omega)]; omega, by rw [e 31 (by omega) (by omega), h0 31 (by omega) (by omega)]; omega, fun j a c => ?_, fun j a c => ?_, fun j a c => ?_, fun j a c => ?_, fun j a c => ?_⟩
    · rw [e j a (by omega)]; exact r7 j a c
    · dsimp only; rw [e _ (by omega) (by omega)]; exact r9 j a c
    · dsimp only; rw [e _ (by omega) (by omega)]; exact r8 j a c
    · dsimp only; rw [e _ (by omega) (by omega), h0 _ (by omega) (by omega), e 30 (by omega) (by omega), h0 30 (by omega) (by omega)]; omega
    · rw [e 31 (by omega) (by omega), h0 31 (by omega) (by omega)] at c; omega
def InvX (i_p0_tape_length : Int) (v_p0_tape_bytes : Int → Int) (i_p0_rules_seats : Int) (i_p0_rules_stirs : Int) (v_p0_rules_need : Int → Int) (v_p0_rules_after : Int → Int) (i_p0_state_seenDays : Int) (i_p0_state_bone : Int) (i_p0_state_king : Int) (i_p0_state_days : Int) (v_p0_state_pieces : Int → Int) (v_p0_state_friends : Int → Int) (v_p0_state_spoons : Int → Int) (v_p0_state_eaten : Int → Int) (v_p0_state_seen : Int → Int) (v_p0_imageHeld : Int → Int) (i_p0_images_0_seenDays : Int) (i_p0_images_0_bone : Int) (i_p0_images_0_king : Int) (i_p0_images_0_days : Int) (v_p0_images_0_pieces : Int → Int) (v_p0_images_0_friends : Int → Int) (v_p0_images_0_spoons : Int → Int) (v_p0_images_0_eaten : Int → Int) (v_p0_images_0_seen : Int → Int) (i_p0_images_1_seenDays : Int) (i_p0_images_1_bone : Int) (i_p0_images_1_king : Int) (i_p0_images_1_days : Int) (v_p0_images_1_pieces : Int → Int) (v_p0_images_1_friends : Int → Int) (v_p0_images_1_spoons : Int → Int) (v_p0_images_1_eaten : Int → Int) (v_p0_images_1_seen : Int → Int) (i_p0_sheets_0_lane : Int) (i_p0_sheets_0_size : Int) (i_p0_sheets_1_lane : Int) (i_p0_sheets_1_size : Int) (i_p0_sheets_2_lane : Int) (i_p0_sheets_2_size : Int) (i_p0_sheets_3_lane : Int) (i_p0_sheets_3_size : Int) (v_p0_sheets_0_cells : Int → Int) (v_p0_sheets_1_cells : Int → Int) (v_p0_sheets_2_cells : Int → Int) (v_p0_sheets_3_cells : Int → Int) (v_p0_plans_row : Int → Int) (v_p0_fairDays_bestRow : Int → Int) (i_p0_latestTear : Int) : Prop :=
  (0 ≤ i_p0_tape_length ∧ i_p0_tape_length ≤ 320) ∧
  (∀ j, 0 ≤ j → j < 320 → -128 ≤ v_p0_tape_bytes j ∧ v_p0_tape_bytes j < 128) ∧
  (okR i_p0_rules_seats i_p0_rules_stirs v_p0_rules_need v_p0_rules_after) ∧
  (okS i_p0_rules_seats i_p0_state_seenDays i_p0_state_bone i_p0_state_king i_p0_state_days v_p0_state_pieces v_p0_state_friends v_p0_state_spoons v_p0_state_eaten v_p0_state_seen) ∧
  (∀ j, 0 ≤ j → j < 2 → v_p0_imageHeld j = 0 ∨ v_p0_imageHeld j = 1) ∧
  (¬ v_p0_imageHeld 0 = 0 → okS i_p0_rules_seats i_p0_images_0_seenDays i_p0_images_0_bone i_p0_images_0_king i_p0_images_0_days v_p0_images_0_pieces v_p0_images_0_friends v_p0_images_0_spoons v_p0_images_0_eaten v_p0_images_0_seen) ∧
  (¬ v_p0_imageHeld 1 = 0 → okS i_p0_rules_seats i_p0_images_1_seenDays i_p0_images_1_bone i_p0_images_1_king i_p0_images_1_days v_p0_images_1_pieces v_p0_images_1_friends v_p0_images_1_spoons v_p0_images_1_eaten v_p0_images_1_seen) ∧
  ((-4 ≤ i_p0_sheets_0_lane ∧ i_p0_sheets_0_lane ≤ 2) ∧ 0 ≤ i_p0_sheets_0_size ∧ i_p0_sheets_0_size ≤ 40) ∧
  ((-4 ≤ i_p0_sheets_1_lane ∧ i_p0_sheets_1_lane ≤ 2) ∧ 0 ≤ i_p0_sheets_1_size ∧ i_p0_sheets_1_size ≤ 40) ∧
  ((-4 ≤ i_p0_sheets_2_lane ∧ i_p0_sheets_2_lane ≤ 2) ∧ 0 ≤ i_p0_sheets_2_size ∧ i_p0_sheets_2_size ≤ 40) ∧
  ((-4 ≤ i_p0_sheets_3_lane ∧ i_p0_sheets_3_lane ≤ 2) ∧ 0 ≤ i_p0_sheets_3_size ∧ i_p0_sheets_3_size ≤ 40) ∧
  (∀ j, 0 ≤ j → j < 40 → -2147483648 ≤ v_p0_sheets_0_cells j ∧ v_p0_sheets_0_cells j < 2147483648) ∧
  (∀ j, 0 ≤ j → j < 40 → -2147483648 ≤ v_p0_sheets_1_cells j ∧ v_p0_sheets_1_cells j < 2147483648) ∧
  (∀ j, 0 ≤ j → j < 40 → -2147483648 ≤ v_p0_sheets_2_cells j ∧ v_p0_sheets_2_cells j < 2147483648) ∧
  (∀ j, 0 ≤ j → j < 40 → -2147483648 ≤ v_p0_sheets_3_cells j ∧ v_p0_sheets_3_cells j < 2147483648) ∧
  (∀ j, 0 ≤ j → j < 10 → -4 ≤ v_p0_plans_row j ∧ v_p0_plans_row j < 5) ∧
  (∀ j, 0 ≤ j → j < 4 → 0 ≤ v_p0_fairDays_bestRow j ∧ v_p0_fairDays_bestRow j < 5) ∧
  (0 ≤ i_p0_latestTear ∧ i_p0_latestTear ≤ 3)
def InvK (i_p0_taped : Int) (v_p0_tape : Int → Int) (i_p0_seats : Int) (i_p0_stirs : Int) (v_p0_need : Int → Int) (v_p0_brings : Int → Int) (v_p0_st : Int → Int) (v_p0_isKept : Int → Int) (v_p0_lanes : Int → Int) (v_p0_sizes : Int → Int) (v_p0_cells : Int → Int) (i_p0_torn : Int) : Prop :=
  (0 ≤ i_p0_taped ∧ i_p0_taped ≤ 320) ∧
  (∀ j, 0 ≤ j → j < 320 → 0 ≤ v_p0_tape j ∧ v_p0_tape j ≤ 255) ∧
  (okRM i_p0_seats i_p0_stirs v_p0_need v_p0_brings) ∧
  (okM i_p0_seats v_p0_st) ∧
  (∀ j, 0 ≤ j → j < 2 → v_p0_isKept j = 0 ∨ v_p0_isKept j = 1) ∧
  (∀ k, 0 ≤ k → k < 2 → ¬ v_p0_isKept k = 0 → okM i_p0_seats (fun j => v_p0_st (38 * (k + 1) + j))) ∧
  (∀ j, 0 ≤ j → j < 4 → (-4 ≤ v_p0_lanes j ∧ v_p0_lanes j ≤ 2) ∧ 0 ≤ v_p0_sizes j ∧ v_p0_sizes j ≤ 40) ∧
  (∀ j, 0 ≤ j → j < 160 → -2147483648 ≤ v_p0_cells j ∧ v_p0_cells j < 2147483648) ∧
  (0 ≤ i_p0_torn ∧ i_p0_torn ≤ 3)
