theorem tokc_use {b : Int → Int} {L s a t v : Int} (hb : ∀ j, 0 ≤ j → j < 320 → -128 ≤ b j ∧ b j < 128) (h0 : 0 ≤ s) (hL : L ≤ 320) (hs : s ≤ L) (h : tokc b L s a t v) : (0 ≤ t ∧ t ≤ 4) ∧ (s ≤ a ∧ a ≤ L) ∧ (t = 2 → 0 ≤ v ∧ v ≤ 99) ∧ (t = 0 ↔ s = L) ∧ (t = 1 ∨ t = 2 ∨ t = 3 → s < a) := by
  unfold tokc at h
  split at h
  · omega
  · split at h
    · obtain ⟨h1, h2, h3, h4, h5⟩ := h
      omega
    · split at h
      · obtain ⟨h1, h2, h3, h4, h5, h6, h7⟩ := h
        split at h1
        · have c : a - s = 1 ∨ a - s = 2 := by omega
          refine ⟨by omega, by omega, fun _ => ?_, by omega, by omega⟩
          rcases c with c | c
          · have := h6 c; omega
          · have := h7 c
            have := h4 (s + 1) (by omega) (by omega)
            omega
        · omega
      · split at h <;> omega
theorem nok_use {nm c : Int} {nu : Int → Int} (h0 : 0 ≤ nm) (h1 : nm < 11) (h : nok nm c nu) (hc : z_T 0 nm ≤ c) :
    ((nm = 2 ∨ nm = 3 ∨ nm = 4 ∨ nm = 5 ∨ nm = 6 ∨ nm = 9 ∨ nm = 10) → 0 ≤ nu 0 ∧ nu 0 ≤ 6) ∧ ((nm = 4 ∨ nm = 9) → 0 ≤ nu 1 ∧ nu 1 ≤ 6) ∧ (nm = 0 → 2 ≤ nu 0 ∧ nu 0 ≤ 7) ∧ (nm = 1 → 1 ≤ c) ∧ (nm = 5 → 1 ≤ nu 1 ∧ nu 1 ≤ 9) ∧ (nm = 6 → 0 ≤ nu 1 ∧ nu 1 ≤ 9) ∧ (nm = 7 → 1 ≤ nu 0 ∧ nu 0 ≤ 6) ∧ (nm = 10 → 1 ≤ nu 0) ∧ (nm = 9 → nu 0 ≠ nu 1) ∧ (nm = 1 → ∀ j, 0 ≤ j → j < c → 0 ≤ nu j ∧ nu j ≤ 9) := by
  obtain ⟨a1, a2, a3⟩ := h
  have b1 := a2 1 (by omega)
  rcases nm_cases h0 h1 with rfl | rfl | rfl | rfl | rfl | rfl | rfl | rfl | rfl | rfl | rfl
  · have e0 : z_T 0 0 = 1 := rfl
    have e2 : z_T 2 0 = 2 := rfl
    have e3 : z_T 3 0 = 7 := rfl
    have := a1 (by omega)
    omega
  · have e0 : z_T 0 1 = 1 := rfl
    have e2 : z_T 2 1 = 0 := rfl
    have e3 : z_T 3 1 = 9 := rfl
    have e4 : z_T 4 1 = 0 := rfl
    have e5 : z_T 5 1 = 9 := rfl
    have a1 := a1 (by omega)
    refine ⟨by omega, by omega, by omega, by omega, by omega, by omega, by omega, by omega, by omega, fun _ j p q => ?_⟩
    by_cases e : j = 0
    · subst e; omega
    · have := a2 j (by omega) q; omega
  · have e0 : z_T 0 2 = 1 := rfl
    have e2 : z_T 2 2 = 0 := rfl
    have e3 : z_T 3 2 = 6 := rfl
    have := a1 (by omega)
    omega
  · have e0 : z_T 0 3 = 1 := rfl
    have e2 : z_T 2 3 = 0 := rfl
    have e3 : z_T 3 3 = 6 := rfl
    have := a1 (by omega)
    omega
  · have e0 : z_T 0 4 = 2 := rfl
    have e2 : z_T 2 4 = 0 := rfl
    have e3 : z_T 3 4 = 6 := rfl
    have e4 : z_T 4 4 = 0 := rfl
    have e5 : z_T 5 4 = 6 := rfl
    have := a1 (by omega)
    have := b1 (by omega)
    omega
  · have e0 : z_T 0 5 = 2 := rfl
    have e2 : z_T 2 5 = 0 := rfl
    have e3 : z_T 3 5 = 6 := rfl
    have e4 : z_T 4 5 = 1 := rfl
    have e5 : z_T 5 5 = 9 := rfl
    have := a1 (by omega)
    have := b1 (by omega)
    omega
  · have e0 : z_T 0 6 = 2 := rfl
    have e2 : z_T 2 6 = 0 := rfl
    have e3 : z_T 3 6 = 6 := rfl
    have e4 : z_T 4 6 = 0 := rfl
    have e5 : z_T 5 6 = 9 := rfl
    have := a1 (by omega)
    have := b1 (by omega)
    omega
  · have e0 : z_T 0 7 = 1 := rfl
    have e2 : z_T 2 7 = 1 := rfl
    have e3 : z_T 3 7 = 6 := rfl
    have := a1 (by omega)
    omega
  · omega
  · have e0 : z_T 0 9 = 2 := rfl
    have e2 : z_T 2 9 = 0 := rfl
    have e3 : z_T 3 9 = 6 := rfl
    have e4 : z_T 4 9 = 0 := rfl
    have e5 : z_T 5 9 = 6 := rfl
    have := a1 (by omega)
    have := b1 (by omega)
    have := a3 (by omega) rfl
    omega
  · have e0 : z_T 0 10 = 1 := rfl
    have e2 : z_T 2 10 = 1 := rfl
    have e3 : z_T 3 10 = 6 := rfl
    have := a1 (by omega)
    omega
theorem nok_0 (nm : Int) (nu : Int → Int) : nok nm 0 nu := ⟨fun h => by omega, fun j h1 h2 => by omega, fun h => by omega⟩
theorem nok_s {nm c v t r : Int} {fr nu : Int → Int} (hc : 0 ≤ c) (h : nok nm c nu) (hf : fonP fr nu t v nm c r) (hr : r = 0) : nok nm (c + 1) (z_up nu c v) ∧ c < z_T 1 nm := by
  obtain ⟨a1, a2, a3⟩ := h
  unfold fonP at hf
  subst hr
  rcases hf with ⟨h1, _⟩ | ⟨h1, _⟩ | ⟨⟨h1, h2⟩, ⟨h3, _⟩ | ⟨h3, h4, h5⟩⟩
  · omega
  · omega
  · omega
  · rcases h5 with ⟨h6, _⟩ | ⟨h6, ⟨_, h7⟩ | ⟨h8, _⟩⟩
    · omega
    · refine ⟨⟨fun _ => ?_, fun j p q => ?_, fun p q => ?_⟩, h7⟩
      · by_cases e : c = 0
        · subst e; rw [z_up_s]; exact h3 rfl
        · rw [z_up_n _ _ (by omega)]; exact a1 (by omega)
      · by_cases e : j = c
        · subst e; rw [z_up_s]; exact h4 (by omega)
        · rw [z_up_n _ _ e]; exact a2 j p (by omega)
      · by_cases e : c = 1
        · subst e
          rw [z_up_s, z_up_n _ _ (by omega)]
          intro e2
          exact h6 ⟨rfl, Or.inr ⟨q, e2.symm⟩⟩
        · rw [z_up_n _ _ (by omega), z_up_n _ _ (by omega)]; exact a3 (by omega) q
    · omega
theorem grt_use {nm c g a b : Int} (hg0 : 0 ≤ g) (hg : g ≤ 6) (hc : c ≤ 7) (ha : (nm = 2 ∨ nm = 3 ∨ nm = 4 ∨ nm = 5 ∨ nm = 6 ∨ nm = 9 ∨ nm = 10) → 0 ≤ a ∧ a ≤ 6) (hb : (nm = 4 ∨ nm = 9) → 0 ≤ b ∧ b ≤ 6) : g ≤ grt nm c g a b ∧ grt nm c g a b ≤ 6 ∧ ((nm = 2 ∨ nm = 3 ∨ nm = 4 ∨ nm = 5 ∨ nm = 6 ∨ nm = 9 ∨ nm = 10) → a ≤ grt nm c g a b) ∧ ((nm = 4 ∨ nm = 9) → b ≤ grt nm c g a b) ∧ (nm = 1 → c - 1 ≤ grt nm c g a b) := by
  unfold grt
  split
  · omega
  · split
    · have := hb (by omega); have := ha (by omega); omega
    · split
      · have := ha (by omega); omega
      · omega
set_option maxHeartbeats 4000000 in
theorem rdr_take {n s g : Int} {need kind fst snd : Int → Int} {bone king : Int} {pieces friends spoons nu : Int → Int} {nm c : Int} (h : rdr n s g need kind fst snd bone king pieces friends spoons) (h0 : 0 ≤ nm) (h1 : nm < 11) (hc7 : c ≤ 7) (hk : nok nm c nu) (hc : z_T 0 nm ≤ c) (hs5 : 7 ≤ nm → s < 5) :
    rdr (if nm = 0 then nu 0 else n) (if 7 ≤ nm then s + 1 else s) (grt nm c g (nu 0) (nu 1)) (if nm = 6 then z_up need (nu 0) (nu 1) else need) (if 7 ≤ nm then z_up kind s nm else kind) (if 7 ≤ nm then z_up fst s (nu 0) else fst) (if 7 ≤ nm then z_up snd s (nu 1) else snd) (if nm = 2 then nu 0 else bone) (if nm = 3 then nu 0 else king) (if nm = 1 then z_cpy nu pieces 0 0 c else pieces) (if nm = 4 then z_up friends (nu 0) (z_or (friends (nu 0)) (z_shl 1 (nu 1))) else friends) (if nm = 5 then z_up spoons (nu 0) (nu 1) else spoons) := by
  obtain ⟨r1, r2, r3, r4, r5, r6, r7, r8, r9, r10⟩ := h
  obtain ⟨u1, u2, u3, u4, u5, u6, u7, u8, u9, u10⟩ := nok_use h0 h1 hk hc
  obtain ⟨g1, g2, g3, g4, g5⟩ := grt_use (nm := nm) (c := c) (a := nu 0) (b := nu 1) r3.1 r3.2 hc7 u1 u2
  refine ⟨?_, ?_, ⟨by omega, g2⟩, ?_, ?_, ?_, ?_, ?_, ?_, ?_⟩
  · split
    · exact u3 (by assumption)
    · exact r1
  · split
    · have := hs5 (by assumption); omega
    · exact r2
  · split
    · have := u1 (by omega); have := g3 (by omega); omega
    · omega
  · split
    · have := u1 (by omega); have := g3 (by omega); omega
    · omega
  · intro j p q
    split
    · rw [z_up_a]; split
      · exact u6 (by assumption)
      · exact r6 j p q
    · exact r6 j p q
  · intro j p q
    split
    · rw [z_cpy_a]; split
      · rw [show (0 : Int) + (j - 0) = j from by omega]; exact u10 (by assumption) j p (by omega)
      · exact r7 j p q
    · exact r7 j p q
  · intro j p q
    split
    · rw [z_up_a]; split
      · exact u5 (by assumption)
      · exact r8 j p q
    · exact r8 j p q
  · intro j p q
    split
    · rw [z_up_a]; split
      · have a1 := u1 (by omega)
        have a2 := u2 (by omega)
        have a3 := r9 (nu 0) (by omega) (by omega)
        exact or7z a3.1 a3.2 a2.1 (by omega)
      · exact r9 j p q
    · exact r9 j p q
  · intro r p q
    by_cases e : 7 ≤ nm
    · rw [if_pos e] at q
      rw [if_pos e, if_pos e, if_pos e]
      by_cases er : r = s
      · subst er
        rw [z_up_s, z_up_s, z_up_s]
        unfold okSt
        have c : nm = 7 ∨ nm = 8 ∨ nm = 9 ∨ nm = 10 := by omega
        rcases c with c | c | c | c
        · have := u7 c; omega
        · omega
        · have := u1 (by omega); have := u2 (by omega); have := g3 (by omega); have := g4 (by omega); have := u9 c; omega
        · have := u1 (by omega); have := u8 c; have := g3 (by omega); omega
      · rw [z_up_n _ _ er, z_up_n _ _ er, z_up_n _ _ er]
        exact okSt_mono (by omega) (r10 r p (by omega))
    · rw [if_neg e] at q
      rw [if_neg e, if_neg e, if_neg e]
      exact okSt_mono (by omega) (r10 r p q)
theorem fonP_r {fr nu : Int → Int} {t v nm c r : Int} (h : fonP fr nu t v nm c r) : 0 ≤ r ∧ r ≤ 5 := by
  unfold fonP at h
  rcases h with ⟨h1, _⟩ | ⟨h1, _⟩ | ⟨_, ⟨h1, _⟩ | ⟨_, _, ⟨h1, _⟩ | ⟨_, ⟨h1, _⟩ | ⟨h1, _⟩⟩⟩⟩ <;> omega
theorem fnm_r {t nm m s : Int} : 0 ≤ (if t = 4 then 1 else if nm = -4 then 2 else if nm ≤ 3 ∧ ¬ bt m nm = 0 then 4 else if 7 ≤ nm ∧ 5 ≤ s then 5 else (0 : Int)) ∧ (if t = 4 then 1 else if nm = -4 then 2 else if nm ≤ 3 ∧ ¬ bt m nm = 0 then 4 else if 7 ≤ nm ∧ 5 ≤ s then 5 else (0 : Int)) ≤ 5 := by
  split
  · omega
  · split
    · omega
    · split
      · omega
      · split <;> omega
theorem fnm_0 {t nm m s : Int} (h : (if t = 4 then 1 else if nm = -4 then 2 else if nm ≤ 3 ∧ ¬ bt m nm = 0 then 4 else if 7 ≤ nm ∧ 5 ≤ s then 5 else (0 : Int)) = 0) : ¬ t = 4 ∧ ¬ nm = -4 ∧ ¬ (nm ≤ 3 ∧ ¬ bt m nm = 0) ∧ (7 ≤ nm → s < 5) := by
  split at h
  · omega
  · split at h
    · omega
    · split at h
      · omega
      · split at h
        · omega
        · refine ⟨by assumption, by assumption, by assumption, fun _ => by omega⟩
theorem hx_num {nm c : Int} {nu : Int → Int} (h0 : 0 ≤ nm) (h1 : nm < 11) (h : nok nm c nu) : c = 1 → 0 ≤ nu 0 ∧ nu 0 ≤ 9 ∧ (nm = 4 → nu 0 ≤ 6) := by
  intro e
  have a := h.1 (by omega)
  have b2 := T_z 2 (by decide) h0 h1
  have b3 := T_z 3 (by decide) h0 h1
  refine ⟨by omega, by omega, fun e => ?_⟩
  have : z_T 3 nm = 6 := by rw [e]; rfl
  omega
theorem T17 {nm : Int} (h0 : 0 ≤ nm) (h1 : nm < 11) : z_T 1 nm ≤ 7 := by
  rcases nm_cases h0 h1 with e | e | e | e | e | e | e | e | e | e | e <;> (rw [e]; decide)
set_option maxHeartbeats 4000000 in
theorem s_X10_readLine (i_p0_faultFound : Int) (i_p0_faultPlace : Int) (i_p0_lines : Int) (i_p0_met : Int) (i_p0_greatest : Int) (i_p0_tape_length : Int) (i_p0_tape_at : Int) (i_p0_tape_value : Int) (v_p0_tape_bytes : (Int → Int)) (i_p0_rules_seats : Int) (i_p0_rules_stirs : Int) (v_p0_rules_need : (Int → Int)) (v_p0_rules_kind : (Int → Int)) (v_p0_rules_first : (Int → Int)) (v_p0_rules_second : (Int → Int)) (i_p0_state_bone : Int) (i_p0_state_king : Int) (v_p0_state_pieces : (Int → Int)) (v_p0_state_friends : (Int → Int)) (v_p0_state_spoons : (Int → Int)) (v_p0_numbers : (Int → Int)) (D : Int → Int) (h1 : 0 ≤ i_p0_tape_length) (h2 : i_p0_tape_length ≤ 320) (h3 : 0 ≤ i_p0_tape_at) (h4 : i_p0_tape_at ≤ i_p0_tape_length) (h5 : ∀ j, 0 ≤ j → j < 320 → -128 ≤ v_p0_tape_bytes j ∧ v_p0_tape_bytes j < 128) (h6 : rdr i_p0_rules_seats i_p0_rules_stirs i_p0_greatest v_p0_rules_need v_p0_rules_kind v_p0_rules_first v_p0_rules_second i_p0_state_bone i_p0_state_king v_p0_state_pieces v_p0_state_friends v_p0_state_spoons) (h7 : crel D i_p0_rules_seats i_p0_rules_stirs i_p0_greatest v_p0_rules_need v_p0_rules_kind v_p0_rules_first v_p0_rules_second i_p0_state_bone i_p0_state_king v_p0_state_pieces v_p0_state_friends v_p0_state_spoons) (h8 : mrel D i_p0_met 0) : wp (f_X10_readLine i_p0_faultFound i_p0_faultPlace i_p0_lines i_p0_met i_p0_greatest i_p0_tape_length i_p0_tape_at i_p0_tape_value v_p0_tape_bytes i_p0_rules_seats i_p0_rules_stirs v_p0_rules_need v_p0_rules_kind v_p0_rules_first v_p0_rules_second i_p0_state_bone i_p0_state_king v_p0_state_pieces v_p0_state_friends v_p0_state_spoons v_p0_numbers) (fun o => ((i_p0_tape_at ≤ o.2.2.2.2.2.2.1 ∧ o.2.2.2.2.2.2.1 ≤ i_p0_tape_length)) ∧ (o.1 = 0 ∨ o.1 = 1) ∧ (o.1 = 1 → o.2.1 = i_p0_faultFound ∧ o.2.2.2.1 = i_p0_lines + 1 ∧ i_p0_tape_at < o.2.2.2.2.2.2.1) ∧ (o.1 = 0 → (o.2.1 = i_p0_faultFound ∧ o.2.2.1 = i_p0_faultPlace) ∨ (1 ≤ o.2.1 ∧ o.2.1 ≤ 5 ∧ 0 ≤ o.2.2.1 ∧ o.2.2.1 ≤ i_p0_tape_length)) ∧ (rdr o.2.2.2.2.2.2.2.2.2.2.1 o.2.2.2.2.2.2.2.2.2.2.2.1 o.2.2.2.2.2.1 o.2.2.2.2.2.2.2.2.2.2.2.2.1 o.2.2.2.2.2.2.2.2.2.2.2.2.2.1 o.2.2.2.2.2.2.2.2.2.2.2.2.2.2.1 o.2.2.2.2.2.2.2.2.2.2.2.2.2.2.2.1 o.2.2.2.2.2.2.2.2.2.2.2.2.2.2.2.2.1 o.2.2.2.2.2.2.2.2.2.2.2.2.2.2.2.2.2.1 o.2.2.2.2.2.2.2.2.2.2.2.2.2.2.2.2.2.2.1 o.2.2.2.2.2.2.2.2.2.2.2.2.2.2.2.2.2.2.2.1 o.2.2.2.2.2.2.2.2.2.2.2.2.2.2.2.2.2.2.2.2.1) ∧ (o.1 = 0 → o.2.2.2.1 = i_p0_lines) ∧ (Hid (o.1 = 1 → ∃ nm c, lnT v_p0_tape_bytes i_p0_tape_length i_p0_tape_at D nm c ∧ o.2.2.2.2.2.2.1 = tA v_p0_tape_bytes i_p0_tape_length (PP v_p0_tape_bytes i_p0_tape_length (tA v_p0_tape_bytes i_p0_tape_length i_p0_tape_at) c) ∧ crel (tak v_p0_tape_bytes i_p0_tape_length (tA v_p0_tape_bytes i_p0_tape_length i_p0_tape_at) nm c D) o.2.2.2.2.2.2.2.2.2.2.1 o.2.2.2.2.2.2.2.2.2.2.2.1 o.2.2.2.2.2.1 o.2.2.2.2.2.2.2.2.2.2.2.2.1 o.2.2.2.2.2.2.2.2.2.2.2.2.2.1 o.2.2.2.2.2.2.2.2.2.2.2.2.2.2.1 o.2.2.2.2.2.2.2.2.2.2.2.2.2.2.2.1 o.2.2.2.2.2.2.2.2.2.2.2.2.2.2.2.2.1 o.2.2.2.2.2.2.2.2.2.2.2.2.2.2.2.2.2.1 o.2.2.2.2.2.2.2.2.2.2.2.2.2.2.2.2.2.2.1 o.2.2.2.2.2.2.2.2.2.2.2.2.2.2.2.2.2.2.2.1 o.2.2.2.2.2.2.2.2.2.2.2.2.2.2.2.2.2.2.2.2.1 ∧ mrel (tak v_p0_tape_bytes i_p0_tape_length (tA v_p0_tape_bytes i_p0_tape_length i_p0_tape_at) nm c D) o.2.2.2.2.1 0)) ∧ (Hid (o.1 = 0 → (tT v_p0_tape_bytes i_p0_tape_length i_p0_tape_at = 0 ∧ o.2.1 = i_p0_faultFound ∧ crel D o.2.2.2.2.2.2.2.2.2.2.1 o.2.2.2.2.2.2.2.2.2.2.2.1 o.2.2.2.2.2.1 o.2.2.2.2.2.2.2.2.2.2.2.2.1 o.2.2.2.2.2.2.2.2.2.2.2.2.2.1 o.2.2.2.2.2.2.2.2.2.2.2.2.2.2.1 o.2.2.2.2.2.2.2.2.2.2.2.2.2.2.2.1 o.2.2.2.2.2.2.2.2.2.2.2.2.2.2.2.2.1 o.2.2.2.2.2.2.2.2.2.2.2.2.2.2.2.2.2.1 o.2.2.2.2.2.2.2.2.2.2.2.2.2.2.2.2.2.2.1 o.2.2.2.2.2.2.2.2.2.2.2.2.2.2.2.2.2.2.2.1 o.2.2.2.2.2.2.2.2.2.2.2.2.2.2.2.2.2.2.2.2.1) ∨ (¬ o.2.1 = 0 ∧ lnF v_p0_tape_bytes i_p0_tape_length i_p0_tape_at D o.2.2.1)))) := by
  unfold f_X10_readLine
  have hrd := h6
  obtain ⟨r1, r2, r3, r4, r5, r6, r7, r8, r9, r10⟩ := h6
  refine wp_bd4 (s_X9_readToken _ _ _ _ (by omega) /- pre X9_readToken.1#1 -/ (by omega) /- pre X9_readToken.2#1 -/ (by omega) /- pre X9_readToken.3#1 -/ (by omega) /- pre X9_readToken.4#1 -/ (by exact h5) /- pre X9_readToken.5#1 -/) (fun z1 z2 z3 z4 q_X9_readToken_1 => ?_)
  try dsimp only at q_X9_readToken_1
  obtain ⟨q_X9_readToken_1_1, q_X9_readToken_1_2, q_X9_readToken_1_3, q_X9_readToken_1_4⟩ := q_X9_readToken_1
  have tu1 := tokc_use h5 (by omega) (by omega) (by omega) q_X9_readToken_1_4
  have tk1 := tk_eq (b := v_p0_tape_bytes) (L := i_p0_tape_length) (p := i_p0_tape_at) ⟨q_X9_readToken_1_1, q_X9_readToken_1_2, q_X9_readToken_1_3, q_X9_readToken_1_4⟩
  refine wp_ck (z_r32_i.mpr ⟨(by omega) /- z_r32.lo z2#1 -/, (by omega) /- z_r32.hi z2#1 -/⟩) ?_
  refine wp_if (fun c1 => ?_) (fun c1 => ?_)
  ·
    refine wp_some ?_
    try dsimp only
    all_goals exact ⟨(by omega) /- post1#1 -/, (by omega) /- post2#1 -/, (by omega) /- post3#1 -/, (by omega) /- post4#1 -/, (by exact hrd) /- post5#1 -/, (by omega) /- post6#1 -/, (by unfold Hid; intro h; exfalso; omega) /- post7#1 -/, (by unfold Hid; intro _; exact Or.inl ⟨by rw [← tk1.2.2.1]; assumption, rfl, h7⟩) /- post8#1 -/⟩
  ·
    refine wp_bd1 (s_X10_nameRead _ _ _ _ (by omega) /- pre X10_nameRead.1#1 -/ (by omega) /- pre X10_nameRead.2#1 -/ (by omega) /- pre X10_nameRead.3#1 -/ (by exact h5) /- pre X10_nameRead.4#1 -/ (by omega) /- pre X10_nameRead.5#1 -/ (by omega) /- pre X10_nameRead.6#1 -/) (fun z6 q_X10_nameRead_1 => ?_)
    try dsimp only at q_X10_nameRead_1
    have hNm := nmr_is tk1.1 tk1.2.1 tk1.2.2.1 q_X10_nameRead_1
    refine wp_bnd ?_
    have hnm : -4 ≤ z6 ∧ z6 < 11 := by rcases q_X10_nameRead_1 with hq | hq <;> omega
    refine wp_bd1 (s_X10_faultOfName _ _ _ _ (by omega) /- pre X10_faultOfName.1#1 -/ (by omega) /- pre X10_faultOfName.2#1 -/ (by omega) /- pre X10_faultOfName.3#1 -/ (by omega) /- pre X10_faultOfName.4#1 -/ (by omega) /- pre X10_faultOfName.5#1 -/ (by omega) /- pre X10_faultOfName.6#1 -/) (fun z8 q_X10_faultOfName_1 => ?_)
    try dsimp only at q_X10_faultOfName_1
    have hFn := fnm_iff (b := v_p0_tape_bytes) (L := i_p0_tape_length) (p := i_p0_tape_at) tk1.2.2.1 (isNm_r hNm) h7.2.1 h8 q_X10_faultOfName_1
    have hz8 : 0 ≤ z8 ∧ z8 ≤ 5 := by rw [q_X10_faultOfName_1]; exact fnm_r
    refine wp_bnd ?_
    refine wp_ck (z_r32_i.mpr ⟨(by omega) /- z_r32.lo z9#1 -/, (by omega) /- z_r32.hi z9#1 -/⟩) ?_
    refine wp_if (fun c2 => ?_) (fun c2 => ?_)
    ·
      have hNF : ¬ fnm v_p0_tape_bytes i_p0_tape_length i_p0_tape_at D z6 := fun z => hFn.mpr z c2
      obtain ⟨hf1, hf2, hf3, hs5⟩ := fnm_0 (q_X10_faultOfName_1.symm.trans c2)
      have hn0 : 0 ≤ z6 ∧ z6 < 11 ∧ z2 = 1 := by rcases q_X10_nameRead_1 with hq | hq <;> omega
      clear q_X10_faultOfName_1 q_X10_nameRead_1 hf3
      have t0 := T_z 0 (by decide) hn0.1 hn0.2.1
      have t1 := T_z 1 (by decide) hn0.1 hn0.2.1
      have t17 := T17 hn0.1 hn0.2.1
      refine wp_bndE (fun z11 hz11 => ?_)
      refine wp_bnd ?_
      refine wp_jn ?_
      refine wp_jn ?_
      refine wp_lq6 (fun (z43 : Int) (z44 : Int) (z45 : Int) (z46 : Int) (z47 : Int) (w48 : (Int → Int)) => (0 ≤ z43) ∧ (z43 ≤ z_T 1 z6) ∧ (i_p0_tape_at < z44) ∧ (z44 ≤ i_p0_tape_length) ∧ (nok z6 z43 w48) ∧ (z44 = PP v_p0_tape_bytes i_p0_tape_length (tA v_p0_tape_bytes i_p0_tape_length i_p0_tape_at) z43) ∧ (∀ j, 0 ≤ j → j < z43 → okn v_p0_tape_bytes i_p0_tape_length (tA v_p0_tape_bytes i_p0_tape_length i_p0_tape_at) z6 D j ∧ w48 j = tV v_p0_tape_bytes i_p0_tape_length (PP v_p0_tape_bytes i_p0_tape_length (tA v_p0_tape_bytes i_p0_tape_length i_p0_tape_at) j))) (fun (z43 : Int) (z44 : Int) (z45 : Int) (z46 : Int) (z47 : Int) (w48 : (Int → Int)) => (z_T 1 z6 - z43).toNat) (fun again61 z43 z44 z45 z46 z47 w48 hI ih_B_X10_readLine_61 => ?_) 1000 _ _ _ _ _ _ ⟨(by omega) /- B_X10_readLine_61.init1#1 -/, (by omega) /- B_X10_readLine_61.init2#1 -/, (by omega) /- B_X10_readLine_61.init3#1 -/, (by omega) /- B_X10_readLine_61.init4#1 -/, (by exact nok_0 _ _) /- B_X10_readLine_61.init5#1 -/, (by rw [PP_0]; exact tk1.2.1) /- B_X10_readLine_61.init6#1 -/, (by intro j; omega) /- B_X10_readLine_61.init7#1 -/⟩ (by omega) /- B_X10_readLine_61.fuel#1 -/
      obtain ⟨i_B_X10_readLine_61_1, i_B_X10_readLine_61_2, i_B_X10_readLine_61_3, i_B_X10_readLine_61_4, i_B_X10_readLine_61_5, i_B_X10_readLine_61_6, i_B_X10_readLine_61_7⟩ := hI
      unfold B_X10_readLine_61
      refine wp_ck (z_ix_i.mpr ⟨⟨(by omega) /- ix.lo z7#1 -/, (by omega) /- ix.hi z7#1 -/⟩, (by omega) /- ix.big z7#1 -/⟩) ?_
      refine wp_ck (z_r32_i.mpr ⟨(by omega) /- z_r32.lo z43#1 -/, (by omega) /- z_r32.hi z43#1 -/⟩) ?_
      refine wp_ck (z_r32_i.mpr ⟨(by omega) /- z_r32.lo (z_T 1 z7)#1 -/, (by omega) /- z_r32.hi (z_T 1 z7)#1 -/⟩) ?_
      refine wp_if (fun c3 => ?_) (fun c3 => ?_)
      ·
        refine wp_some ?_
        try dsimp only
        all_goals exact ⟨(by omega) /- post1#2 -/, (by omega) /- post2#2 -/, (by omega) /- post3#2 -/, (by omega) /- post4#2 -/, (by exact hrd) /- post5#2 -/, (by omega) /- post6#2 -/, (by unfold Hid; intro h; exfalso; omega) /- post7#2 -/, (by exfalso; omega) /- post8#2 -/⟩
      ·
        refine wp_bd4 (s_X9_readToken _ _ _ _ (by omega) /- pre X9_readToken.1#2 -/ (by omega) /- pre X9_readToken.2#2 -/ (by omega) /- pre X9_readToken.3#2 -/ (by omega) /- pre X9_readToken.4#2 -/ (by exact h5) /- pre X9_readToken.5#2 -/) (fun z52 z53 z54 z55 q_X9_readToken_2 => ?_)
        try dsimp only at q_X9_readToken_2
        obtain ⟨q_X9_readToken_2_1, q_X9_readToken_2_2, q_X9_readToken_2_3, q_X9_readToken_2_4⟩ := q_X9_readToken_2
        have tu2 := tokc_use h5 (by omega) (by omega) (by omega) q_X9_readToken_2_4
        have tk2 := tk_eq (b := v_p0_tape_bytes) (L := i_p0_tape_length) (p := z44) ⟨q_X9_readToken_2_1, q_X9_readToken_2_2, q_X9_readToken_2_3, q_X9_readToken_2_4⟩
        rw [i_B_X10_readLine_61_6] at tk2
        refine wp_ck (z_r32_i.mpr ⟨(by omega) /- z_r32.lo z53#1 -/, (by omega) /- z_r32.hi z53#1 -/⟩) ?_
        refine wp_jn ?_
        refine wp_if (fun c4 => ?_) (fun c4 => ?_)
        ·
          refine wp_ck (z_ix_i.mpr ⟨⟨(by omega) /- ix.lo z7#2 -/, (by omega) /- ix.hi z7#2 -/⟩, (by omega) /- ix.big z7#2 -/⟩) ?_
          refine wp_ck (z_r32_i.mpr ⟨(by omega) /- z_r32.lo (z_T 0 z7)#1 -/, (by omega) /- z_r32.hi (z_T 0 z7)#1 -/⟩) ?_
          refine wp_if (fun c5 => ?_) (fun c5 => ?_)
          ·
            have hx1 := hx_num hn0.1 hn0.2.1 i_B_X10_readLine_61_5
            refine wp_bd1 (s_X10_faultOfNumber _ _ _ _ _ _ (by omega) /- pre X10_faultOfNumber.1#1 -/ (by omega) /- pre X10_faultOfNumber.2#1 -/ (by exact tu2.2.2.1) /- pre X10_faultOfNumber.3#1 -/ (by omega) /- pre X10_faultOfNumber.4#1 -/ (by omega) /- pre X10_faultOfNumber.5#1 -/ (by omega) /- pre X10_faultOfNumber.6#1 -/ (by omega) /- pre X10_faultOfNumber.7#1 -/ (by exact hx1) /- pre X10_faultOfNumber.8#1 -/) (fun z58 q_X10_faultOfNumber_1 => ?_)
            try dsimp only at q_X10_faultOfNumber_1
            have hok6 := fon_okn (b := v_p0_tape_bytes) (L := i_p0_tape_length) (p := tA v_p0_tape_bytes i_p0_tape_length i_p0_tape_at) (D := D) q_X10_faultOfNumber_1 tk2.2.2.1 tk2.2.2.2 h7.2.2.2.2.2.2.2.1 (fun e => (i_B_X10_readLine_61_7 0 (by omega) (by omega)).2) (fun e1 e4 => ⟨(hx1 e1).1, (hx1 e1).2.2 e4⟩)
            have hfr := fonP_r q_X10_faultOfNumber_1
            clear hx1
            refine wp_bnd ?_
            refine wp_ck (z_r32_i.mpr ⟨(by omega) /- z_r32.lo z59#1 -/, (by omega) /- z_r32.hi z59#1 -/⟩) ?_
            refine wp_if (fun c6 => ?_) (fun c6 => ?_)
            ·
              have hno := nok_s i_B_X10_readLine_61_1 i_B_X10_readLine_61_5 q_X10_faultOfNumber_1 c6
              refine wp_ck (z_ix_i.mpr ⟨⟨(by omega) /- ix.lo z43#1 -/, (by omega) /- ix.hi z43#1 -/⟩, (by omega) /- ix.big z43#1 -/⟩) ?_
              refine wp_bnd ?_
              refine wp_bndE (fun z62 hz62 => ?_)
              exact ih_B_X10_readLine_61 _ _ _ _ _ _ ⟨(by omega) /- B_X10_readLine_61.inv1#1 -/, (by omega) /- B_X10_readLine_61.inv2#1 -/, (by omega) /- B_X10_readLine_61.inv3#1 -/, (by omega) /- B_X10_readLine_61.inv4#1 -/, (by rw [hz62]; exact hno.1) /- B_X10_readLine_61.inv5#1 -/, (by rw [hz62, PP_s i_B_X10_readLine_61_1]; exact tk2.2.1) /- B_X10_readLine_61.inv6#1 -/, (by 
                                        intro j a b
                                        by_cases e : j = z43
                                        · subst e
                                          exact ⟨hok6.mp c6, by rw [z_up_s]; exact tk2.2.2.2 (hok6.mp c6 |>.1 |> fun z => by rw [tk2.2.2.1]; exact z)⟩
                                        · rw [z_up_n _ _ e]; exact i_B_X10_readLine_61_7 j a (by omega)) /- B_X10_readLine_61.inv7#1 -/⟩ (by omega) /- B_X10_readLine_61.dec#1 -/
            ·
              refine wp_bd3 (s_X10_refuse _ _) (fun z20 z21 z22 q_X10_refuse_1 => ?_)
              try dsimp only at q_X10_refuse_1
              obtain ⟨q_X10_refuse_1_1, q_X10_refuse_1_2, q_X10_refuse_1_3⟩ := q_X10_refuse_1
              refine wp_ck (z_bB_i.mpr (by omega) /- bB z20#1 -/) ?_
              refine wp_some ?_
              try dsimp only
              all_goals exact ⟨(by omega) /- post1#3 -/, (by omega) /- post2#3 -/, (by omega) /- post3#3 -/, (by omega) /- post4#3 -/, (by exact hrd) /- post5#3 -/, (by omega) /- post6#3 -/, (by unfold Hid; intro h; exfalso; omega) /- post7#3 -/, (by unfold Hid; intro _; exact Or.inr ⟨by omega, by rw [← tk1.2.2.1]; assumption, _, hNm, Or.inr ⟨hNF, z43, ⟨by omega, fun j a b => (i_B_X10_readLine_61_7 j a b).1, fun z => c6 (hok6.mpr z)⟩, fun z => absurd z.2 (by omega), by rw [q_X10_refuse_1_3]; exact tk2.1⟩⟩) /- post8#3 -/⟩
          ·
            refine wp_bd13 (s_X10_takeLine _ _ _ _ _ _ _ _ _ _ _ _ _ _ _ _ (by omega) /- pre X10_takeLine.1#1 -/ (by omega) /- pre X10_takeLine.2#1 -/ (by omega) /- pre X10_takeLine.3#1 -/ (by omega) /- pre X10_takeLine.4#1 -/ (by exact (nok_use hn0.1 hn0.2.1 i_B_X10_readLine_61_5 (by omega)).2.2.2.1) /- pre X10_takeLine.5#1 -/ (by omega) /- pre X10_takeLine.6#1 -/ (by omega) /- pre X10_takeLine.7#1 -/ (by omega) /- pre X10_takeLine.8#1 -/ (by exact hs5) /- pre X10_takeLine.9#1 -/ (by exact (nok_use hn0.1 hn0.2.1 i_B_X10_readLine_61_5 (by omega)).1) /- pre X10_takeLine.10#1 -/ (by exact (nok_use hn0.1 hn0.2.1 i_B_X10_readLine_61_5 (by omega)).2.1) /- pre X10_takeLine.11#1 -/) (fun z30 z31 z32 z33 w34 w35 w36 w37 z38 z39 w40 w41 w42 q_X10_takeLine_1 => ?_)
            try dsimp only at q_X10_takeLine_1
            obtain ⟨q_X10_takeLine_1_1, q_X10_takeLine_1_2, q_X10_takeLine_1_3, q_X10_takeLine_1_4, q_X10_takeLine_1_5, q_X10_takeLine_1_6, q_X10_takeLine_1_7, q_X10_takeLine_1_8, q_X10_takeLine_1_9, q_X10_takeLine_1_10, q_X10_takeLine_1_11, q_X10_takeLine_1_12, q_X10_takeLine_1_13⟩ := q_X10_takeLine_1
            refine wp_some ?_
            try dsimp only
            all_goals exact ⟨(by omega) /- post1#4 -/, (by omega) /- post2#4 -/, (by omega) /- post3#4 -/, (by omega) /- post4#4 -/, (by rw [q_X10_takeLine_1_2, q_X10_takeLine_1_3, q_X10_takeLine_1_4, q_X10_takeLine_1_5, q_X10_takeLine_1_6, q_X10_takeLine_1_7, q_X10_takeLine_1_8, q_X10_takeLine_1_9, q_X10_takeLine_1_10, q_X10_takeLine_1_11, q_X10_takeLine_1_12, q_X10_takeLine_1_13]; exact rdr_take hrd hn0.1 hn0.2.1 (by omega) i_B_X10_readLine_61_5 (by omega) hs5) /- post5#4 -/, (by omega) /- post6#4 -/, (by unfold Hid; intro _; exact ⟨z6, z43, ⟨by rw [← tk1.2.2.1]; assumption, hNm, hNF, ⟨by omega, fun j a b => (i_B_X10_readLine_61_7 j a b).1, (fun z => by have := z.1; rw [← tk2.2.2.1] at this; omega)⟩, by rw [← tk2.2.2.1]; assumption, by omega⟩, tk2.2.1, by rw [q_X10_takeLine_1_2, q_X10_takeLine_1_3, q_X10_takeLine_1_4, q_X10_takeLine_1_5, q_X10_takeLine_1_6, q_X10_takeLine_1_7, q_X10_takeLine_1_8, q_X10_takeLine_1_9, q_X10_takeLine_1_10, q_X10_takeLine_1_11, q_X10_takeLine_1_12, q_X10_takeLine_1_13]; exact crel_take h7 hn0.1 hn0.2.1 (by omega) (fun j a b => (i_B_X10_readLine_61_7 j a b).2), by have := mrel_take (sh := 0) (by omega) (by omega) hn0.1 hn0.2.1 h8 (b := v_p0_tape_bytes) (L := i_p0_tape_length) (p := tA v_p0_tape_bytes i_p0_tape_length i_p0_tape_at) (c := z43); rw [show (0 : Int) + z6 = z6 from by omega] at this; rw [hz11]; exact this⟩) /- post7#4 -/, (by unfold Hid; intro h; exfalso; omega) /- post8#4 -/⟩
        ·
          have hx1 := hx_num hn0.1 hn0.2.1 i_B_X10_readLine_61_5
          refine wp_bd1 (s_X10_faultOfNumber _ _ _ _ _ _ (by omega) /- pre X10_faultOfNumber.1#2 -/ (by omega) /- pre X10_faultOfNumber.2#2 -/ (by exact tu2.2.2.1) /- pre X10_faultOfNumber.3#2 -/ (by omega) /- pre X10_faultOfNumber.4#2 -/ (by omega) /- pre X10_faultOfNumber.5#2 -/ (by omega) /- pre X10_faultOfNumber.6#2 -/ (by omega) /- pre X10_faultOfNumber.7#2 -/ (by exact hx1) /- pre X10_faultOfNumber.8#2 -/) (fun z58 q_X10_faultOfNumber_2 => ?_)
          try dsimp only at q_X10_faultOfNumber_2
          have hok7 := fon_okn (b := v_p0_tape_bytes) (L := i_p0_tape_length) (p := tA v_p0_tape_bytes i_p0_tape_length i_p0_tape_at) (D := D) q_X10_faultOfNumber_2 tk2.2.2.1 tk2.2.2.2 h7.2.2.2.2.2.2.2.1 (fun e => (i_B_X10_readLine_61_7 0 (by omega) (by omega)).2) (fun e1 e4 => ⟨(hx1 e1).1, (hx1 e1).2.2 e4⟩)
          have hfr := fonP_r q_X10_faultOfNumber_2
          clear hx1
          refine wp_bnd ?_
          refine wp_ck (z_r32_i.mpr ⟨(by omega) /- z_r32.lo z59#2 -/, (by omega) /- z_r32.hi z59#2 -/⟩) ?_
          refine wp_if (fun c7 => ?_) (fun c7 => ?_)
          ·
            have hno := nok_s i_B_X10_readLine_61_1 i_B_X10_readLine_61_5 q_X10_faultOfNumber_2 c7
            refine wp_ck (z_ix_i.mpr ⟨⟨(by omega) /- ix.lo z43#2 -/, (by omega) /- ix.hi z43#2 -/⟩, (by omega) /- ix.big z43#2 -/⟩) ?_
            refine wp_bnd ?_
            refine wp_bndE (fun z62 hz62 => ?_)
            exact ih_B_X10_readLine_61 _ _ _ _ _ _ ⟨(by omega) /- B_X10_readLine_61.inv1#2 -/, (by omega) /- B_X10_readLine_61.inv2#2 -/, (by omega) /- B_X10_readLine_61.inv3#2 -/, (by omega) /- B_X10_readLine_61.inv4#2 -/, (by rw [hz62]; exact hno.1) /- B_X10_readLine_61.inv5#2 -/, (by rw [hz62, PP_s i_B_X10_readLine_61_1]; exact tk2.2.1) /- B_X10_readLine_61.inv6#2 -/, (by 
                                        intro j a b
                                        by_cases e : j = z43
                                        · subst e
                                          exact ⟨hok7.mp c7, by rw [z_up_s]; exact tk2.2.2.2 (hok7.mp c7 |>.1 |> fun z => by rw [tk2.2.2.1]; exact z)⟩
                                        · rw [z_up_n _ _ e]; exact i_B_X10_readLine_61_7 j a (by omega)) /- B_X10_readLine_61.inv7#2 -/⟩ (by omega) /- B_X10_readLine_61.dec#2 -/
          ·
            refine wp_bd3 (s_X10_refuse _ _) (fun z20 z21 z22 q_X10_refuse_2 => ?_)
            try dsimp only at q_X10_refuse_2
            obtain ⟨q_X10_refuse_2_1, q_X10_refuse_2_2, q_X10_refuse_2_3⟩ := q_X10_refuse_2
            refine wp_ck (z_bB_i.mpr (by omega) /- bB z20#2 -/) ?_
            refine wp_some ?_
            try dsimp only
            all_goals exact ⟨(by omega) /- post1#5 -/, (by omega) /- post2#5 -/, (by omega) /- post3#5 -/, (by omega) /- post4#5 -/, (by exact hrd) /- post5#5 -/, (by omega) /- post6#5 -/, (by unfold Hid; intro h; exfalso; omega) /- post7#5 -/, (by unfold Hid; intro _; exact Or.inr ⟨by omega, by rw [← tk1.2.2.1]; assumption, _, hNm, Or.inr ⟨hNF, z43, ⟨by omega, fun j a b => (i_B_X10_readLine_61_7 j a b).1, fun z => c7 (hok7.mpr z)⟩, fun z => absurd z.1 (by rw [← tk2.2.2.1]; assumption), by rw [q_X10_refuse_2_3]; exact tk2.1⟩⟩) /- post8#5 -/⟩
    ·
      clear q_X10_faultOfName_1 q_X10_nameRead_1
      refine wp_bd3 (s_X10_refuse _ _) (fun z64 z65 z66 q_X10_refuse_3 => ?_)
      try dsimp only at q_X10_refuse_3
      obtain ⟨q_X10_refuse_3_1, q_X10_refuse_3_2, q_X10_refuse_3_3⟩ := q_X10_refuse_3
      refine wp_ck (z_bB_i.mpr (by omega) /- bB z64#1 -/) ?_
      refine wp_some ?_
      try dsimp only
      all_goals exact ⟨(by omega) /- post1#6 -/, (by omega) /- post2#6 -/, (by omega) /- post3#6 -/, (by omega) /- post4#6 -/, (by exact hrd) /- post5#6 -/, (by omega) /- post6#6 -/, (by unfold Hid; intro h; exfalso; omega) /- post7#6 -/, (by unfold Hid; intro _; exact Or.inr ⟨by omega, by rw [← tk1.2.2.1]; assumption, _, hNm, Or.inl ⟨hFn.mp c2, by rw [q_X10_refuse_3_3]; exact tk1.1⟩⟩) /- post8#6 -/⟩
