set_option maxHeartbeats 2000000 in
theorem zX12_feed {i_p0_taped : Int} {v_p0_tape : Int → Int} {i_p0_seats : Int} {i_p0_stirs : Int} {v_p0_need : Int → Int} {v_p0_brings : Int → Int} {v_p0_st : Int → Int} {v_p0_isKept : Int → Int} {v_p0_lanes : Int → Int} {v_p0_sizes : Int → Int} {v_p0_cells : Int → Int} {i_p0_torn : Int} {x1 : Int} (h : InvK i_p0_taped v_p0_tape i_p0_seats i_p0_stirs v_p0_need v_p0_brings v_p0_st v_p0_isKept v_p0_lanes v_p0_sizes v_p0_cells i_p0_torn)  : wp (f_X12_feed i_p0_taped v_p0_tape x1) (fun o => InvK o.2.1 o.2.2 i_p0_seats i_p0_stirs v_p0_need v_p0_brings v_p0_st v_p0_isKept v_p0_lanes v_p0_sizes v_p0_cells i_p0_torn ∧ (o.1 = if i_p0_taped + 8 ≤ 320 then i_p0_taped + 8 else -3) ∧ (o.2.1 = if i_p0_taped + 8 ≤ 320 then i_p0_taped + 8 else i_p0_taped) ∧ (i_p0_taped + 8 ≤ 320 → ∀ j, 0 ≤ j → j < 8 → o.2.2 (i_p0_taped + j) = w_and (w_shr x1 (56 - 8 * j)) 255) ∧ (∀ q, (¬ i_p0_taped + 8 ≤ 320 ∨ q < i_p0_taped ∨ i_p0_taped + 8 ≤ q) → o.2.2 q = v_p0_tape q)) := by
  obtain ⟨T, TB, R, S, H, I, L, C, TE⟩ := id h
  obtain ⟨R1, R2, R3, R4⟩ := id R
  have S1 := okM_1 S
  have S5 := okM_p S
  have S6 := okM_e S
  have L0 := L 0 (by omega) (by omega)
  refine wp_mono (s_X12_feed _ _ _ (by first | assumption | omega) (by first | assumption | omega)) ?_
  rintro ⟨r, o_i_p0_taped, o_v_p0_tape⟩ ⟨q1, q2, q3, q4⟩
  try dsimp only
  try dsimp only at q1 q2 q3 q4
  exact ⟨⟨(by rw [q2]; split <;> omega), (by intro j a b; by_cases c : i_p0_taped + 8 ≤ 320 ∧ i_p0_taped ≤ j ∧ j < i_p0_taped + 8; (have e := q3 c.1 (j - i_p0_taped) (by omega) (by omega); rw [show i_p0_taped + (j - i_p0_taped) = j from by omega] at e; rw [e]; exact and255 _); (rw [q4 j (by omega)]; exact TB j a b)), (by exact R), (by exact S), (by exact H), (by exact I), (by exact L), (by exact C), (by exact TE)⟩, q1, q2, q3, q4⟩
set_option maxHeartbeats 2000000 in
theorem zX12_end {i_p0_taped : Int} {v_p0_tape : Int → Int} {i_p0_seats : Int} {i_p0_stirs : Int} {v_p0_need : Int → Int} {v_p0_brings : Int → Int} {v_p0_st : Int → Int} {v_p0_isKept : Int → Int} {v_p0_lanes : Int → Int} {v_p0_sizes : Int → Int} {v_p0_cells : Int → Int} {i_p0_torn : Int} {x1 : Int} (h : InvK i_p0_taped v_p0_tape i_p0_seats i_p0_stirs v_p0_need v_p0_brings v_p0_st v_p0_isKept v_p0_lanes v_p0_sizes v_p0_cells i_p0_torn) (hx1 : -2147483648 ≤ x1 ∧ x1 < 2147483648) : wp (f_X12_end i_p0_taped x1) (fun o => InvK o.2 v_p0_tape i_p0_seats i_p0_stirs v_p0_need v_p0_brings v_p0_st v_p0_isKept v_p0_lanes v_p0_sizes v_p0_cells i_p0_torn ∧ (o.1 = if 0 ≤ x1 ∧ x1 ≤ i_p0_taped then i_p0_taped else -1) ∧ (o.2 = if 0 ≤ x1 ∧ x1 ≤ i_p0_taped then x1 else i_p0_taped)) := by
  obtain ⟨T, TB, R, S, H, I, L, C, TE⟩ := id h
  obtain ⟨R1, R2, R3, R4⟩ := id R
  have S1 := okM_1 S
  have S5 := okM_p S
  have S6 := okM_e S
  have L0 := L 0 (by omega) (by omega)
  refine wp_mono (s_X12_end _ _ (by first | assumption | omega) (by first | assumption | omega) (by first | assumption | omega) (by first | assumption | omega)) ?_
  rintro ⟨r, o_i_p0_taped⟩ ⟨q1, q2⟩
  try dsimp only
  try dsimp only at q1 q2
  exact ⟨⟨(by rw [q2]; split <;> omega), (by exact TB), (by exact R), (by exact S), (by exact H), (by exact I), (by exact L), (by exact C), (by exact TE)⟩, q1, q2⟩
set_option maxHeartbeats 2000000 in
theorem zX12_text {i_p0_taped : Int} {v_p0_tape : Int → Int} {i_p0_seats : Int} {i_p0_stirs : Int} {v_p0_need : Int → Int} {v_p0_brings : Int → Int} {v_p0_st : Int → Int} {v_p0_isKept : Int → Int} {v_p0_lanes : Int → Int} {v_p0_sizes : Int → Int} {v_p0_cells : Int → Int} {i_p0_torn : Int} {i_p0_from : Int} {i_p0_sort : Int} {i_p0_value : Int} {i_p0_wrongAt : Int} {v_p0_draft : Int → Int} {v_p0_dStir : Int → Int} {v_p0_dNeed : Int → Int}  (h : InvK i_p0_taped v_p0_tape i_p0_seats i_p0_stirs v_p0_need v_p0_brings v_p0_st v_p0_isKept v_p0_lanes v_p0_sizes v_p0_cells i_p0_torn)  (B : Int → Int) (hB : bR B v_p0_tape i_p0_taped) : wp (f_X12_text i_p0_seats i_p0_stirs i_p0_taped i_p0_from i_p0_sort i_p0_value i_p0_wrongAt v_p0_st v_p0_isKept v_p0_brings v_p0_need v_p0_draft v_p0_dStir v_p0_dNeed v_p0_tape) (fun o => InvK o.2.2.2.2.2.2.2.1 v_p0_tape o.2.1 o.2.2.1 o.2.2.2.2.2.2.2.2.2.2.2.2.2.2.2.2.2.1 o.2.2.2.2.2.2.2.2.2.2.2.2.2.2.2.2.1 o.2.2.2.2.2.2.2.2.2.2.2.2.2.2.1 o.2.2.2.2.2.2.2.2.2.2.2.2.2.2.2.1 v_p0_lanes v_p0_sizes v_p0_cells i_p0_torn ∧ (-340 ≤ o.1 ∧ o.1 ≤ 1000) ∧ (o.2.2.2.2.2.2.2.1 = 0) ∧ (0 ≤ o.2.2.2.2.2.2.2.2.2.2.2.2.1 ∧ o.2.2.2.2.2.2.2.2.2.2.2.2.1 ≤ 6) ∧ (o.2.2.2.2.2.2.2.2.2.2.2.2.1 = 0 → (∃ h, rrdr o.2.1 o.2.2.1 h o.2.2.2.2.2.2.2.2.2.2.2.2.2.2.2.2.2.2.2.2 o.2.2.2.2.2.2.2.2.2.2.2.2.2.2.2.2.2.2.2.1 o.2.2.2.2.2.2.2.2.2.2.2.2.2.2.2.2.2.2.1 ∧ h < o.2.1) ∧ (∀ j, 0 ≤ j → j < 38 → o.2.2.2.2.2.2.2.2.2.2.2.2.2.2.1 j = o.2.2.2.2.2.2.2.2.2.2.2.2.2.2.2.2.2.2.1 j) ∧ (∀ j, 38 ≤ j → o.2.2.2.2.2.2.2.2.2.2.2.2.2.2.1 j = v_p0_st j) ∧ (∀ j, 0 ≤ j → j < 2 → o.2.2.2.2.2.2.2.2.2.2.2.2.2.2.2.1 j = 0) ∧ (∀ t, 0 ≤ t → t < o.2.2.1 → ∀ i, 0 ≤ i → i < o.2.1 → o.2.2.2.2.2.2.2.2.2.2.2.2.2.2.2.2.1 (7 * t + i) = bro o.2.1 (7 + o.2.2.2.2.2.2.2.2.2.2.2.2.2.2.2.2.2.2.2.1 (3 * t)) (o.2.2.2.2.2.2.2.2.2.2.2.2.2.2.2.2.2.2.2.1 (3 * t + 1)) (o.2.2.2.2.2.2.2.2.2.2.2.2.2.2.2.2.2.2.2.1 (3 * t + 2)) i) ∧ (∀ j, 0 ≤ j → j < 7 → o.2.2.2.2.2.2.2.2.2.2.2.2.2.2.2.2.2.1 j = o.2.2.2.2.2.2.2.2.2.2.2.2.2.2.2.2.2.2.2.2 j) ∧ (∀ j, 23 ≤ j → j < 38 → o.2.2.2.2.2.2.2.2.2.2.2.2.2.2.2.2.2.2.1 j = 0)) ∧ (¬ o.2.2.2.2.2.2.2.2.2.2.2.2.1 = 0 → o.2.1 = i_p0_seats ∧ o.2.2.1 = i_p0_stirs ∧ o.2.2.2.2.2.2.2.2.2.2.2.2.2.2.1 = v_p0_st ∧ o.2.2.2.2.2.2.2.2.2.2.2.2.2.2.2.1 = v_p0_isKept ∧ o.2.2.2.2.2.2.2.2.2.2.2.2.2.2.2.2.1 = v_p0_brings ∧ o.2.2.2.2.2.2.2.2.2.2.2.2.2.2.2.2.2.1 = v_p0_need) ∧ (Hid (o.2.2.2.2.2.2.2.2.2.2.2.2.1 = 0 → ∃ D, txE B i_p0_taped o.1.toNat D ∧ 0 ≤ o.1 ∧ D 2 < D 0 ∧ fin D o.2.1 o.2.2.1 (o.2.2.2.2.2.2.2.2.2.2.2.2.2.2.1 7) (o.2.2.2.2.2.2.2.2.2.2.2.2.2.2.1 8) o.2.2.2.2.2.2.2.2.2.2.2.2.2.2.2.2.2.1 o.2.2.2.2.2.2.2.2.2.2.2.2.2.2.2.2.1 o.2.2.2.2.2.2.2.2.2.2.2.2.2.2.1 (fun j => o.2.2.2.2.2.2.2.2.2.2.2.2.2.2.1 (9 + j)) (fun j => o.2.2.2.2.2.2.2.2.2.2.2.2.2.2.1 (16 + j)) ∧ o.2.2.2.2.2.2.2.2.2.2.2.2.2.2.1 31 = 0 ∧ o.2.2.2.2.2.2.2.2.2.2.2.2.2.2.1 30 = 0 ∧ (∀ j, 0 ≤ j → j < 7 → o.2.2.2.2.2.2.2.2.2.2.2.2.2.2.1 (23 + j) = 0) ∧ (∀ j, 0 ≤ j → j < 2 → o.2.2.2.2.2.2.2.2.2.2.2.2.2.2.2.1 j = 0))) ∧ (Hid (¬ o.2.2.2.2.2.2.2.2.2.2.2.2.1 = 0 → txF B i_p0_taped (-10 - o.1) ∨ (o.1 = -10 - i_p0_taped ∧ ∃ k D, txE B i_p0_taped k D ∧ ¬ D 2 < D 0)))) := by
  obtain ⟨T, TB, R, S, H, I, L, C, TE⟩ := id h
  obtain ⟨R1, R2, R3, R4⟩ := id R
  have S1 := okM_1 S
  have S5 := okM_p S
  have S6 := okM_e S
  have L0 := L 0 (by omega) (by omega)
  refine wp_mono (s_X12_text _ _ _ _ _ _ _ _ _ _ _ _ _ _ _ B (by first | assumption | omega) (by first | assumption | omega) (by first | assumption | omega) (by first | assumption | omega) (by first | assumption | omega) (by first | assumption | omega) (by first | assumption | omega) (by first | assumption | omega)) ?_
  rintro ⟨r, o_i_p0_seats, o_i_p0_stirs, o_i_p0_dSeats, o_i_p0_dStirs, o_i_p0_told, o_i_p0_highest, o_i_p0_taped, o_i_p0_pos, o_i_p0_from, o_i_p0_sort, o_i_p0_value, o_i_p0_fault, o_i_p0_wrongAt, o_v_p0_st, o_v_p0_isKept, o_v_p0_brings, o_v_p0_need, o_v_p0_draft, o_v_p0_dStir, o_v_p0_dNeed⟩ ⟨q1, q2, q3, q4, q5, q6, q7⟩
  try dsimp only
  try dsimp only at q1 q2 q3 q4 q5 q6 q7
  have F : okRM o_i_p0_seats o_i_p0_stirs o_v_p0_need o_v_p0_brings ∧ okM o_i_p0_seats o_v_p0_st ∧ ((∀ j, 0 ≤ j → j < 2 → o_v_p0_isKept j = 0) ∨ (o_i_p0_seats = i_p0_seats ∧ o_v_p0_st = v_p0_st ∧ o_v_p0_isKept = v_p0_isKept)) := by
    by_cases c : o_i_p0_fault = 0
    · obtain ⟨⟨g, e1, e2⟩, e3, e4, e5, e6, e7, e8⟩ := q4 c
      have f := okM_rdr e1 e2 e3 e6 e7 e8
      exact ⟨f.1, f.2, Or.inl e5⟩
    · obtain ⟨e1, e2, e3, e4, e5, e6⟩ := q5 c
      rw [e1, e2, e3, e5, e6]
      exact ⟨R, S, Or.inr ⟨rfl, rfl, e4⟩⟩
  exact ⟨⟨(by omega), (by exact TB), (by exact F.1), (by exact F.2.1), (by rcases F.2.2 with e | e; (intro j a b; exact Or.inl (e j a b)); (rw [e.2.2]; exact H)), (by rcases F.2.2 with e | e; (intro k a b c; exact absurd (e k a b) c); (rw [e.1, e.2.1, e.2.2]; exact I)), (by exact L), (by exact C), (by exact TE)⟩, q1, q2, q3, q4, q5, q6, q7⟩
set_option maxHeartbeats 2000000 in
theorem zX12_fault {i_p0_taped : Int} {v_p0_tape : Int → Int} {i_p0_seats : Int} {i_p0_stirs : Int} {v_p0_need : Int → Int} {v_p0_brings : Int → Int} {v_p0_st : Int → Int} {v_p0_isKept : Int → Int} {v_p0_lanes : Int → Int} {v_p0_sizes : Int → Int} {v_p0_cells : Int → Int} {i_p0_torn : Int} {i_p0_fault : Int}  (h : InvK i_p0_taped v_p0_tape i_p0_seats i_p0_stirs v_p0_need v_p0_brings v_p0_st v_p0_isKept v_p0_lanes v_p0_sizes v_p0_cells i_p0_torn)  : wp (f_X12_fault i_p0_fault) (fun o => InvK i_p0_taped v_p0_tape i_p0_seats i_p0_stirs v_p0_need v_p0_brings v_p0_st v_p0_isKept v_p0_lanes v_p0_sizes v_p0_cells i_p0_torn ∧ (o = i_p0_fault)) := by
  obtain ⟨T, TB, R, S, H, I, L, C, TE⟩ := id h
  obtain ⟨R1, R2, R3, R4⟩ := id R
  have S1 := okM_1 S
  have S5 := okM_p S
  have S6 := okM_e S
  have L0 := L 0 (by omega) (by omega)
  refine wp_mono (s_X12_fault _ ) ?_
  rintro r q1
  try dsimp only
  try dsimp only at q1
  exact ⟨h, q1⟩
set_option maxHeartbeats 2000000 in
theorem zX12_rule {i_p0_taped : Int} {v_p0_tape : Int → Int} {i_p0_seats : Int} {i_p0_stirs : Int} {v_p0_need : Int → Int} {v_p0_brings : Int → Int} {v_p0_st : Int → Int} {v_p0_isKept : Int → Int} {v_p0_lanes : Int → Int} {v_p0_sizes : Int → Int} {v_p0_cells : Int → Int} {i_p0_torn : Int} {x1 : Int} (h : InvK i_p0_taped v_p0_tape i_p0_seats i_p0_stirs v_p0_need v_p0_brings v_p0_st v_p0_isKept v_p0_lanes v_p0_sizes v_p0_cells i_p0_torn) (hx1 : -2147483648 ≤ x1 ∧ x1 < 2147483648) : wp (f_X12_rule i_p0_seats i_p0_stirs v_p0_st x1) (fun o => InvK i_p0_taped v_p0_tape i_p0_seats i_p0_stirs v_p0_need v_p0_brings v_p0_st v_p0_isKept v_p0_lanes v_p0_sizes v_p0_cells i_p0_torn ∧ (o = if x1 = 0 then i_p0_seats else if x1 = 1 then i_p0_stirs else if x1 = 2 then v_p0_st 8 else if x1 = 3 then v_p0_st 30 else if x1 = 4 then v_p0_st 7 else -1)) := by
  obtain ⟨T, TB, R, S, H, I, L, C, TE⟩ := id h
  obtain ⟨R1, R2, R3, R4⟩ := id R
  have S1 := okM_1 S
  have S5 := okM_p S
  have S6 := okM_e S
  have L0 := L 0 (by omega) (by omega)
  refine wp_mono (s_X12_rule _ _ _ _ (by first | assumption | omega) (by first | assumption | omega)) ?_
  rintro r q1
  try dsimp only
  try dsimp only at q1
  exact ⟨h, q1⟩
set_option maxHeartbeats 2000000 in
theorem zX12_pot {i_p0_taped : Int} {v_p0_tape : Int → Int} {i_p0_seats : Int} {i_p0_stirs : Int} {v_p0_need : Int → Int} {v_p0_brings : Int → Int} {v_p0_st : Int → Int} {v_p0_isKept : Int → Int} {v_p0_lanes : Int → Int} {v_p0_sizes : Int → Int} {v_p0_cells : Int → Int} {i_p0_torn : Int} {x1 : Int} (h : InvK i_p0_taped v_p0_tape i_p0_seats i_p0_stirs v_p0_need v_p0_brings v_p0_st v_p0_isKept v_p0_lanes v_p0_sizes v_p0_cells i_p0_torn) (hx1 : -2147483648 ≤ x1 ∧ x1 < 2147483648) : wp (f_X12_pot i_p0_seats v_p0_st x1) (fun o => InvK i_p0_taped v_p0_tape i_p0_seats i_p0_stirs v_p0_need v_p0_brings v_p0_st v_p0_isKept v_p0_lanes v_p0_sizes v_p0_cells i_p0_torn ∧ (o = if 0 ≤ x1 ∧ x1 < i_p0_seats then v_p0_st x1 else -1)) := by
  obtain ⟨T, TB, R, S, H, I, L, C, TE⟩ := id h
  obtain ⟨R1, R2, R3, R4⟩ := id R
  have S1 := okM_1 S
  have S5 := okM_p S
  have S6 := okM_e S
  have L0 := L 0 (by omega) (by omega)
  refine wp_mono (s_X12_pot _ _ _ (by first | assumption | omega) (by first | assumption | omega) (by first | assumption | omega) (by first | assumption | omega)) ?_
  rintro r q1
  try dsimp only
  try dsimp only at q1
  exact ⟨h, q1⟩
set_option maxHeartbeats 2000000 in
theorem zX12_one {i_p0_taped : Int} {v_p0_tape : Int → Int} {i_p0_seats : Int} {i_p0_stirs : Int} {v_p0_need : Int → Int} {v_p0_brings : Int → Int} {v_p0_st : Int → Int} {v_p0_isKept : Int → Int} {v_p0_lanes : Int → Int} {v_p0_sizes : Int → Int} {v_p0_cells : Int → Int} {i_p0_torn : Int} {x1 : Int} {x2 : Int} (h : InvK i_p0_taped v_p0_tape i_p0_seats i_p0_stirs v_p0_need v_p0_brings v_p0_st v_p0_isKept v_p0_lanes v_p0_sizes v_p0_cells i_p0_torn) (hx1 : -2147483648 ≤ x1 ∧ x1 < 2147483648) (hx2 : -2147483648 ≤ x2 ∧ x2 < 2147483648) : wp (f_X12_one i_p0_seats v_p0_st v_p0_need x1 x2) (fun o => InvK i_p0_taped v_p0_tape i_p0_seats i_p0_stirs v_p0_need v_p0_brings v_p0_st v_p0_isKept v_p0_lanes v_p0_sizes v_p0_cells i_p0_torn ∧ (o = if 0 ≤ x1 ∧ x1 < i_p0_seats then (if x2 = 0 then v_p0_st (9 + x1) else if x2 = 1 then v_p0_st (16 + x1) else if x2 = 2 then v_p0_need x1 else if x2 = 3 then v_p0_st (23 + x1) else -1) else -1)) := by
  obtain ⟨T, TB, R, S, H, I, L, C, TE⟩ := id h
  obtain ⟨R1, R2, R3, R4⟩ := id R
  have S1 := okM_1 S
  have S5 := okM_p S
  have S6 := okM_e S
  have L0 := L 0 (by omega) (by omega)
  refine wp_mono (s_X12_one _ _ _ _ _ (by first | assumption | omega) (by first | assumption | omega) (by first | assumption | omega) (by first | assumption | omega) (by first | assumption | omega) (by first | assumption | omega)) ?_
  rintro r q1
  try dsimp only
  try dsimp only at q1
  exact ⟨h, q1⟩
set_option maxHeartbeats 2000000 in
theorem zX12_stir {i_p0_taped : Int} {v_p0_tape : Int → Int} {i_p0_seats : Int} {i_p0_stirs : Int} {v_p0_need : Int → Int} {v_p0_brings : Int → Int} {v_p0_st : Int → Int} {v_p0_isKept : Int → Int} {v_p0_lanes : Int → Int} {v_p0_sizes : Int → Int} {v_p0_cells : Int → Int} {i_p0_torn : Int} {x1 : Int} {x2 : Int} (h : InvK i_p0_taped v_p0_tape i_p0_seats i_p0_stirs v_p0_need v_p0_brings v_p0_st v_p0_isKept v_p0_lanes v_p0_sizes v_p0_cells i_p0_torn) (hx1 : -2147483648 ≤ x1 ∧ x1 < 2147483648) (hx2 : -2147483648 ≤ x2 ∧ x2 < 2147483648) : wp (f_X12_stir i_p0_seats i_p0_stirs v_p0_brings x1 x2) (fun o => InvK i_p0_taped v_p0_tape i_p0_seats i_p0_stirs v_p0_need v_p0_brings v_p0_st v_p0_isKept v_p0_lanes v_p0_sizes v_p0_cells i_p0_torn ∧ (o = if (0 ≤ x1 ∧ x1 < i_p0_stirs) ∧ 0 ≤ x2 ∧ x2 < i_p0_seats then v_p0_brings (7 * x1 + x2) else -1)) := by
  obtain ⟨T, TB, R, S, H, I, L, C, TE⟩ := id h
  obtain ⟨R1, R2, R3, R4⟩ := id R
  have S1 := okM_1 S
  have S5 := okM_p S
  have S6 := okM_e S
  have L0 := L 0 (by omega) (by omega)
  refine wp_mono (s_X12_stir _ _ _ _ _ (by first | assumption | omega) (by first | assumption | omega) (by first | assumption | omega) (by first | assumption | omega) (by first | assumption | omega) (by first | assumption | omega) (by first | assumption | omega) (by first | assumption | omega)) ?_
  rintro r q1
  try dsimp only
  try dsimp only at q1
  exact ⟨h, q1⟩
set_option maxHeartbeats 2000000 in
theorem zX12_befriend {i_p0_taped : Int} {v_p0_tape : Int → Int} {i_p0_seats : Int} {i_p0_stirs : Int} {v_p0_need : Int → Int} {v_p0_brings : Int → Int} {v_p0_st : Int → Int} {v_p0_isKept : Int → Int} {v_p0_lanes : Int → Int} {v_p0_sizes : Int → Int} {v_p0_cells : Int → Int} {i_p0_torn : Int} {x1 : Int} {x2 : Int} {x3 : Int} (h : InvK i_p0_taped v_p0_tape i_p0_seats i_p0_stirs v_p0_need v_p0_brings v_p0_st v_p0_isKept v_p0_lanes v_p0_sizes v_p0_cells i_p0_torn) (hx1 : -2147483648 ≤ x1 ∧ x1 < 2147483648) (hx2 : -2147483648 ≤ x2 ∧ x2 < 2147483648) (hx3 : -2147483648 ≤ x3 ∧ x3 < 2147483648) : wp (f_X12_befriend i_p0_seats v_p0_st x1 x2 x3) (fun o => InvK i_p0_taped v_p0_tape i_p0_seats i_p0_stirs v_p0_need v_p0_brings o.2 v_p0_isKept v_p0_lanes v_p0_sizes v_p0_cells i_p0_torn ∧ (o.1 = if (0 ≤ x1 ∧ x1 < i_p0_seats) ∧ (0 ≤ x2 ∧ x2 < i_p0_seats) ∧ ¬ x1 = x2 then bt (v_p0_st (9 + x1)) x2 else -1) ∧ (o.2 = if (0 ≤ x1 ∧ x1 < i_p0_seats) ∧ (0 ≤ x2 ∧ x2 < i_p0_seats) ∧ ¬ x1 = x2 then z_up v_p0_st (9 + x1) (if x3 = 0 then z_and (v_p0_st (9 + x1)) (z_xor (z_shl 1 x2) (-1)) else z_or (v_p0_st (9 + x1)) (z_shl 1 x2)) else v_p0_st)) := by
  obtain ⟨T, TB, R, S, H, I, L, C, TE⟩ := id h
  obtain ⟨R1, R2, R3, R4⟩ := id R
  have S1 := okM_1 S
  have S5 := okM_p S
  have S6 := okM_e S
  have L0 := L 0 (by omega) (by omega)
  refine wp_mono (s_X12_befriend _ _ _ _ _ (by first | assumption | omega) (by first | assumption | omega) (by first | assumption | omega) (by first | assumption | omega) (by first | assumption | omega) (by first | assumption | omega) (by first | assumption | omega) (by first | assumption | omega)) ?_
  rintro ⟨r, o_v_p0_st⟩ ⟨q1, q2⟩
  try dsimp only
  try dsimp only at q1 q2
  exact ⟨⟨(by exact T), (by exact TB), (by exact R), (by rw [q2]; exact okM_fr S (by omega)), (by exact H), (by exact okI_far I (fun j a b => by rw [q2]; split; (rw [z_up_n _ _ (by omega)]); rfl)), (by exact L), (by exact C), (by exact TE)⟩, q1, q2⟩
set_option maxHeartbeats 2000000 in
theorem zX12_spoon {i_p0_taped : Int} {v_p0_tape : Int → Int} {i_p0_seats : Int} {i_p0_stirs : Int} {v_p0_need : Int → Int} {v_p0_brings : Int → Int} {v_p0_st : Int → Int} {v_p0_isKept : Int → Int} {v_p0_lanes : Int → Int} {v_p0_sizes : Int → Int} {v_p0_cells : Int → Int} {i_p0_torn : Int} {x1 : Int} {x2 : Int} (h : InvK i_p0_taped v_p0_tape i_p0_seats i_p0_stirs v_p0_need v_p0_brings v_p0_st v_p0_isKept v_p0_lanes v_p0_sizes v_p0_cells i_p0_torn) (hx1 : -2147483648 ≤ x1 ∧ x1 < 2147483648) (hx2 : -2147483648 ≤ x2 ∧ x2 < 2147483648) : wp (f_X12_spoon i_p0_seats v_p0_st x1 x2) (fun o => InvK i_p0_taped v_p0_tape i_p0_seats i_p0_stirs v_p0_need v_p0_brings o.2 v_p0_isKept v_p0_lanes v_p0_sizes v_p0_cells i_p0_torn ∧ (o.1 = if (0 ≤ x1 ∧ x1 < i_p0_seats) ∧ 1 ≤ x2 ∧ x2 ≤ 9 then v_p0_st (16 + x1) else -1) ∧ (o.2 = if (0 ≤ x1 ∧ x1 < i_p0_seats) ∧ 1 ≤ x2 ∧ x2 ≤ 9 then z_up v_p0_st (16 + x1) x2 else v_p0_st)) := by
  obtain ⟨T, TB, R, S, H, I, L, C, TE⟩ := id h
  obtain ⟨R1, R2, R3, R4⟩ := id R
  have S1 := okM_1 S
  have S5 := okM_p S
  have S6 := okM_e S
  have L0 := L 0 (by omega) (by omega)
  refine wp_mono (s_X12_spoon _ _ _ _ (by first | assumption | omega) (by first | assumption | omega) (by first | assumption | omega) (by first | assumption | omega) (by first | assumption | omega) (by first | assumption | omega)) ?_
  rintro ⟨r, o_v_p0_st⟩ ⟨q1, q2⟩
  try dsimp only
  try dsimp only at q1 q2
  exact ⟨⟨(by exact T), (by exact TB), (by exact R), (by rw [q2]; exact okM_spn S), (by exact H), (by exact okI_far I (fun j a b => by rw [q2]; split; (rw [z_up_n _ _ (by omega)]); rfl)), (by exact L), (by exact C), (by exact TE)⟩, q1, q2⟩
set_option maxHeartbeats 2000000 in
theorem zX12_crown {i_p0_taped : Int} {v_p0_tape : Int → Int} {i_p0_seats : Int} {i_p0_stirs : Int} {v_p0_need : Int → Int} {v_p0_brings : Int → Int} {v_p0_st : Int → Int} {v_p0_isKept : Int → Int} {v_p0_lanes : Int → Int} {v_p0_sizes : Int → Int} {v_p0_cells : Int → Int} {i_p0_torn : Int} {x1 : Int} (h : InvK i_p0_taped v_p0_tape i_p0_seats i_p0_stirs v_p0_need v_p0_brings v_p0_st v_p0_isKept v_p0_lanes v_p0_sizes v_p0_cells i_p0_torn) (hx1 : -2147483648 ≤ x1 ∧ x1 < 2147483648) : wp (f_X12_crown i_p0_seats v_p0_st x1) (fun o => InvK i_p0_taped v_p0_tape i_p0_seats i_p0_stirs v_p0_need v_p0_brings o.2 v_p0_isKept v_p0_lanes v_p0_sizes v_p0_cells i_p0_torn ∧ (o.1 = if 0 ≤ x1 ∧ x1 < i_p0_seats then v_p0_st 8 else -1) ∧ (o.2 = if 0 ≤ x1 ∧ x1 < i_p0_seats then z_up v_p0_st 8 x1 else v_p0_st)) := by
  obtain ⟨T, TB, R, S, H, I, L, C, TE⟩ := id h
  obtain ⟨R1, R2, R3, R4⟩ := id R
  have S1 := okM_1 S
  have S5 := okM_p S
  have S6 := okM_e S
  have L0 := L 0 (by omega) (by omega)
  refine wp_mono (s_X12_crown _ _ _ (by first | assumption | omega) (by first | assumption | omega) (by first | assumption | omega) (by first | assumption | omega)) ?_
  rintro ⟨r, o_v_p0_st⟩ ⟨q1, q2⟩
  try dsimp only
  try dsimp only at q1 q2
  exact ⟨⟨(by exact T), (by exact TB), (by exact R), (by rw [q2]; exact okM_kg S), (by exact H), (by exact okI_far I (fun j a b => by rw [q2]; split; (rw [z_up_n _ _ (by omega)]); rfl)), (by exact L), (by exact C), (by exact TE)⟩, q1, q2⟩
set_option maxHeartbeats 2000000 in
theorem zX12_fill {i_p0_taped : Int} {v_p0_tape : Int → Int} {i_p0_seats : Int} {i_p0_stirs : Int} {v_p0_need : Int → Int} {v_p0_brings : Int → Int} {v_p0_st : Int → Int} {v_p0_isKept : Int → Int} {v_p0_lanes : Int → Int} {v_p0_sizes : Int → Int} {v_p0_cells : Int → Int} {i_p0_torn : Int} {x1 : Int} {x2 : Int} (h : InvK i_p0_taped v_p0_tape i_p0_seats i_p0_stirs v_p0_need v_p0_brings v_p0_st v_p0_isKept v_p0_lanes v_p0_sizes v_p0_cells i_p0_torn) (hx1 : -2147483648 ≤ x1 ∧ x1 < 2147483648) (hx2 : -2147483648 ≤ x2 ∧ x2 < 2147483648) : wp (f_X12_fill i_p0_seats v_p0_st x1 x2) (fun o => InvK i_p0_taped v_p0_tape i_p0_seats i_p0_stirs v_p0_need v_p0_brings o.2 v_p0_isKept v_p0_lanes v_p0_sizes v_p0_cells i_p0_torn ∧ (o.1 = if (0 ≤ x1 ∧ x1 < i_p0_seats) ∧ 0 ≤ x2 ∧ x2 ≤ 9 then v_p0_st x1 else -1) ∧ (o.2 = if (0 ≤ x1 ∧ x1 < i_p0_seats) ∧ 0 ≤ x2 ∧ x2 ≤ 9 then z_up v_p0_st x1 x2 else v_p0_st)) := by
  obtain ⟨T, TB, R, S, H, I, L, C, TE⟩ := id h
  obtain ⟨R1, R2, R3, R4⟩ := id R
  have S1 := okM_1 S
  have S5 := okM_p S
  have S6 := okM_e S
  have L0 := L 0 (by omega) (by omega)
  refine wp_mono (s_X12_fill _ _ _ _ (by first | assumption | omega) (by first | assumption | omega) (by first | assumption | omega) (by first | assumption | omega) (by first | assumption | omega) (by first | assumption | omega)) ?_
  rintro ⟨r, o_v_p0_st⟩ ⟨q1, q2⟩
  try dsimp only
  try dsimp only at q1 q2
  exact ⟨⟨(by exact T), (by exact TB), (by exact R), (by rw [q2]; exact okM_fi S), (by exact H), (by exact okI_far I (fun j a b => by rw [q2]; split; (rw [z_up_n _ _ (by omega)]); rfl)), (by exact L), (by exact C), (by exact TE)⟩, q1, q2⟩
set_option maxHeartbeats 2000000 in
theorem zX12_bowl {i_p0_taped : Int} {v_p0_tape : Int → Int} {i_p0_seats : Int} {i_p0_stirs : Int} {v_p0_need : Int → Int} {v_p0_brings : Int → Int} {v_p0_st : Int → Int} {v_p0_isKept : Int → Int} {v_p0_lanes : Int → Int} {v_p0_sizes : Int → Int} {v_p0_cells : Int → Int} {i_p0_torn : Int} {v_p0_places : Int → Int} {x1 : Int} {x2 : Int} {x3 : Int} (h : InvK i_p0_taped v_p0_tape i_p0_seats i_p0_stirs v_p0_need v_p0_brings v_p0_st v_p0_isKept v_p0_lanes v_p0_sizes v_p0_cells i_p0_torn) (hx1 : -2147483648 ≤ x1 ∧ x1 < 2147483648) (hx2 : -2147483648 ≤ x2 ∧ x2 < 2147483648) (hx3 : -2147483648 ≤ x3 ∧ x3 < 2147483648) : wp (f_X12_bowl i_p0_seats i_p0_stirs v_p0_st v_p0_brings v_p0_places x1 x2 x3) (fun o => InvK i_p0_taped v_p0_tape i_p0_seats i_p0_stirs v_p0_need v_p0_brings v_p0_st v_p0_isKept v_p0_lanes v_p0_sizes v_p0_cells i_p0_torn ∧ (¬ ((0 ≤ x1 ∧ x1 < i_p0_seats) ∧ (0 ≤ x2 ∧ x2 < i_p0_seats) ∧ (0 ≤ x3 ∧ x3 < i_p0_stirs)) → o.1 = -1) ∧ (((0 ≤ x1 ∧ x1 < i_p0_seats) ∧ (0 ≤ x2 ∧ x2 < i_p0_seats) ∧ (0 ≤ x3 ∧ x3 < i_p0_stirs)) → ∃ i, (0 ≤ i ∧ i < i_p0_seats) ∧ v_p0_brings (7 * x3 + i) = plc i_p0_seats x1 (v_p0_st (9 + x1)) x2 ∧ o.1 = v_p0_st i)) := by
  obtain ⟨T, TB, R, S, H, I, L, C, TE⟩ := id h
  obtain ⟨R1, R2, R3, R4⟩ := id R
  have S1 := okM_1 S
  have S5 := okM_p S
  have S6 := okM_e S
  have L0 := L 0 (by omega) (by omega)
  refine wp_mono (s_X12_bowl _ _ _ _ _ _ _ _ (by first | assumption | omega) (by first | assumption | omega) (by first | assumption | omega) (by first | assumption | omega) (by first | assumption | omega) (by first | assumption | omega) (by first | assumption | omega) (by first | assumption | omega) (by first | assumption | omega) (by first | assumption | omega) (by first | assumption | omega)) ?_
  rintro ⟨r, o_v_p0_places⟩ ⟨q1, q2⟩
  try dsimp only
  try dsimp only at q1 q2
  exact ⟨h, q1, q2⟩
set_option maxHeartbeats 2000000 in
theorem zX12_ladle {i_p0_taped : Int} {v_p0_tape : Int → Int} {i_p0_seats : Int} {i_p0_stirs : Int} {v_p0_need : Int → Int} {v_p0_brings : Int → Int} {v_p0_st : Int → Int} {v_p0_isKept : Int → Int} {v_p0_lanes : Int → Int} {v_p0_sizes : Int → Int} {v_p0_cells : Int → Int} {i_p0_torn : Int} {v_p0_places : Int → Int} {x1 : Int} {x2 : Int} {x3 : Int} (h : InvK i_p0_taped v_p0_tape i_p0_seats i_p0_stirs v_p0_need v_p0_brings v_p0_st v_p0_isKept v_p0_lanes v_p0_sizes v_p0_cells i_p0_torn) (hx1 : -2147483648 ≤ x1 ∧ x1 < 2147483648) (hx2 : -2147483648 ≤ x2 ∧ x2 < 2147483648) (hx3 : -2147483648 ≤ x3 ∧ x3 < 2147483648) : wp (f_X12_ladle i_p0_seats i_p0_stirs v_p0_st v_p0_places x1 x2 x3) (fun o => InvK i_p0_taped v_p0_tape i_p0_seats i_p0_stirs v_p0_need v_p0_brings v_p0_st v_p0_isKept v_p0_lanes v_p0_sizes v_p0_cells i_p0_torn ∧ (o.1 = if ((0 ≤ x1 ∧ x1 < i_p0_seats) ∧ (0 ≤ x2 ∧ x2 < i_p0_seats) ∧ (0 ≤ x3 ∧ x3 < i_p0_stirs)) then plc i_p0_seats x1 (v_p0_st (9 + x1)) x2 else -1)) := by
  obtain ⟨T, TB, R, S, H, I, L, C, TE⟩ := id h
  obtain ⟨R1, R2, R3, R4⟩ := id R
  have S1 := okM_1 S
  have S5 := okM_p S
  have S6 := okM_e S
  have L0 := L 0 (by omega) (by omega)
  refine wp_mono (s_X12_ladle _ _ _ _ _ _ _ (by first | assumption | omega) (by first | assumption | omega) (by first | assumption | omega) (by first | assumption | omega) (by first | assumption | omega) (by first | assumption | omega) (by first | assumption | omega) (by first | assumption | omega) (by first | assumption | omega) (by first | assumption | omega)) ?_
  rintro ⟨r, o_v_p0_places⟩ q1
  try dsimp only
  try dsimp only at q1
  exact ⟨h, q1⟩
set_option maxHeartbeats 2000000 in
theorem zX12_next {i_p0_taped : Int} {v_p0_tape : Int → Int} {i_p0_seats : Int} {i_p0_stirs : Int} {v_p0_need : Int → Int} {v_p0_brings : Int → Int} {v_p0_st : Int → Int} {v_p0_isKept : Int → Int} {v_p0_lanes : Int → Int} {v_p0_sizes : Int → Int} {v_p0_cells : Int → Int} {i_p0_torn : Int} {v_p0_places : Int → Int} {x1 : Int} {x2 : Int} (h : InvK i_p0_taped v_p0_tape i_p0_seats i_p0_stirs v_p0_need v_p0_brings v_p0_st v_p0_isKept v_p0_lanes v_p0_sizes v_p0_cells i_p0_torn) (hx1 : -2147483648 ≤ x1 ∧ x1 < 2147483648) (hx2 : -2147483648 ≤ x2 ∧ x2 < 2147483648) : wp (f_X12_next i_p0_seats i_p0_stirs v_p0_st v_p0_brings v_p0_places x1 x2) (fun o => InvK i_p0_taped v_p0_tape i_p0_seats i_p0_stirs v_p0_need v_p0_brings v_p0_st v_p0_isKept v_p0_lanes v_p0_sizes v_p0_cells i_p0_torn ∧ (¬ ((0 ≤ x1 ∧ x1 < i_p0_seats) ∧ (0 ≤ x2 ∧ x2 < i_p0_stirs)) → o.1 = -1) ∧ (((0 ≤ x1 ∧ x1 < i_p0_seats) ∧ (0 ≤ x2 ∧ x2 < i_p0_stirs)) → (0 ≤ o.1 ∧ o.1 < i_p0_seats) ∧ plc i_p0_seats x1 (v_p0_st (9 + x1)) o.1 = v_p0_brings (7 * x2 + v_p0_st 7))) := by
  obtain ⟨T, TB, R, S, H, I, L, C, TE⟩ := id h
  obtain ⟨R1, R2, R3, R4⟩ := id R
  have S1 := okM_1 S
  have S5 := okM_p S
  have S6 := okM_e S
  have L0 := L 0 (by omega) (by omega)
  refine wp_mono (s_X12_next _ _ _ _ _ _ _ (by first | assumption | omega) (by first | assumption | omega) (by first | assumption | omega) (by first | assumption | omega) (by first | assumption | omega) (by first | assumption | omega) (by first | assumption | omega) (by first | assumption | omega) (by first | assumption | omega) (by first | assumption | omega) (by first | assumption | omega)) ?_
  rintro ⟨r, o_v_p0_places⟩ ⟨q1, q2⟩
  try dsimp only
  try dsimp only at q1 q2
  exact ⟨h, q1, q2⟩
set_option maxHeartbeats 2000000 in
theorem zX12_day {i_p0_taped : Int} {v_p0_tape : Int → Int} {i_p0_seats : Int} {i_p0_stirs : Int} {v_p0_need : Int → Int} {v_p0_brings : Int → Int} {v_p0_st : Int → Int} {v_p0_isKept : Int → Int} {v_p0_lanes : Int → Int} {v_p0_sizes : Int → Int} {v_p0_cells : Int → Int} {i_p0_torn : Int} {v_p0_places : Int → Int} {v_p0_stirred : Int → Int} {x1 : Int} (h : InvK i_p0_taped v_p0_tape i_p0_seats i_p0_stirs v_p0_need v_p0_brings v_p0_st v_p0_isKept v_p0_lanes v_p0_sizes v_p0_cells i_p0_torn) (hx1 : -2147483648 ≤ x1 ∧ x1 < 2147483648) : wp (f_X12_day i_p0_seats i_p0_stirs v_p0_st v_p0_brings v_p0_places v_p0_stirred x1) (fun o => InvK i_p0_taped v_p0_tape i_p0_seats i_p0_stirs v_p0_need v_p0_brings o.2.1 v_p0_isKept v_p0_lanes v_p0_sizes v_p0_cells i_p0_torn ∧ ((¬ (0 ≤ x1 ∧ x1 < i_p0_stirs) ∧ o.1 = -1 ∧ o.2.1 = v_p0_st) ∨ ((0 ≤ x1 ∧ x1 < i_p0_stirs) ∧ v_p0_st 30 = 999 ∧ o.1 = -3 ∧ o.2.1 = v_p0_st) ∨ ((0 ≤ x1 ∧ x1 < i_p0_stirs) ∧ v_p0_st 30 < 999 ∧ o.1 = o.2.1 8 ∧ (dayP i_p0_seats (fun i => v_p0_brings (7 * x1 + i)) (fun k => v_p0_st (9 + k)) (v_p0_st 7) (v_p0_st 8) (v_p0_st 30) (vw v_p0_st 0) (vw v_p0_st 23) (o.2.1 7) (o.2.1 8) (o.2.1 30) (vw o.2.1 0) (vw o.2.1 23)) ∧ (∀ j, ((9 ≤ j ∧ j < 23) ∨ 31 ≤ j) → o.2.1 j = v_p0_st j))) ∧ (okM i_p0_seats o.2.1)) := by
  obtain ⟨T, TB, R, S, H, I, L, C, TE⟩ := id h
  obtain ⟨R1, R2, R3, R4⟩ := id R
  have S1 := okM_1 S
  have S5 := okM_p S
  have S6 := okM_e S
  have L0 := L 0 (by omega) (by omega)
  refine wp_mono (s_X12_day _ _ _ _ _ _ _ (by first | assumption | omega) (by first | assumption | omega) (by first | assumption | omega) (by first | assumption | omega) (by first | assumption | omega) (by first | assumption | omega) (by first | assumption | omega) (by first | assumption | omega)) ?_
  rintro ⟨r, o_v_p0_st, o_v_p0_places, o_v_p0_stirred⟩ ⟨q1, q2⟩
  try dsimp only
  try dsimp only at q1 q2
  exact ⟨⟨(by exact T), (by exact TB), (by exact R), (by exact q2), (by exact H), (by exact okI_far I (fun j a b => by rcases q1 with e | e | e; rw [e.2.2]; rw [e.2.2.2]; exact e.2.2.2.2 j (by omega))), (by exact L), (by exact C), (by exact TE)⟩, q1, q2⟩
set_option maxHeartbeats 2000000 in
theorem zX12_hungry {i_p0_taped : Int} {v_p0_tape : Int → Int} {i_p0_seats : Int} {i_p0_stirs : Int} {v_p0_need : Int → Int} {v_p0_brings : Int → Int} {v_p0_st : Int → Int} {v_p0_isKept : Int → Int} {v_p0_lanes : Int → Int} {v_p0_sizes : Int → Int} {v_p0_cells : Int → Int} {i_p0_torn : Int}  (h : InvK i_p0_taped v_p0_tape i_p0_seats i_p0_stirs v_p0_need v_p0_brings v_p0_st v_p0_isKept v_p0_lanes v_p0_sizes v_p0_cells i_p0_torn)  : wp (f_X12_hungry i_p0_seats v_p0_st v_p0_need) (fun o => InvK i_p0_taped v_p0_tape i_p0_seats i_p0_stirs v_p0_need v_p0_brings v_p0_st v_p0_isKept v_p0_lanes v_p0_sizes v_p0_cells i_p0_torn ∧ (o = bitsOf (fun p => v_p0_st (23 + p) < v_p0_need p * v_p0_st 30) i_p0_seats.toNat)) := by
  obtain ⟨T, TB, R, S, H, I, L, C, TE⟩ := id h
  obtain ⟨R1, R2, R3, R4⟩ := id R
  have S1 := okM_1 S
  have S5 := okM_p S
  have S6 := okM_e S
  have L0 := L 0 (by omega) (by omega)
  refine wp_mono (s_X12_hungry _ _ _ (by first | assumption | omega) (by first | assumption | omega) (by first | assumption | omega) (by first | assumption | omega) (by first | assumption | omega) (by first | assumption | omega)) ?_
  rintro r q1
  try dsimp only
  try dsimp only at q1
  exact ⟨h, q1⟩
set_option maxHeartbeats 2000000 in
theorem zX12_chance {i_p0_taped : Int} {v_p0_tape : Int → Int} {i_p0_seats : Int} {i_p0_stirs : Int} {v_p0_need : Int → Int} {v_p0_brings : Int → Int} {v_p0_st : Int → Int} {v_p0_isKept : Int → Int} {v_p0_lanes : Int → Int} {v_p0_sizes : Int → Int} {v_p0_cells : Int → Int} {i_p0_torn : Int} {v_p0_places : Int → Int} {v_p0_ways : Int → Int} {v_p0_waysThen : Int → Int} {x1 : Int} {x2 : Int} {x3 : Int} (h : InvK i_p0_taped v_p0_tape i_p0_seats i_p0_stirs v_p0_need v_p0_brings v_p0_st v_p0_isKept v_p0_lanes v_p0_sizes v_p0_cells i_p0_torn) (hx1 : -2147483648 ≤ x1 ∧ x1 < 2147483648) (hx2 : -2147483648 ≤ x2 ∧ x2 < 2147483648) (hx3 : -2147483648 ≤ x3 ∧ x3 < 2147483648) : wp (f_X12_chance i_p0_seats i_p0_stirs v_p0_st v_p0_brings v_p0_places v_p0_ways v_p0_waysThen x1 x2 x3) (fun o => InvK i_p0_taped v_p0_tape i_p0_seats i_p0_stirs v_p0_need v_p0_brings v_p0_st v_p0_isKept v_p0_lanes v_p0_sizes v_p0_cells i_p0_torn ∧ (Hid (¬ ((0 ≤ x1 ∧ x1 < i_p0_seats) ∧ (0 ≤ x2 ∧ x2 ≤ 10) ∧ (x3 = 0 ∨ x3 = 1)) → o.1 = -1)) ∧ (Hid (((0 ≤ x1 ∧ x1 < i_p0_seats) ∧ (0 ≤ x2 ∧ x2 ≤ 10) ∧ (x3 = 0 ∨ x3 = 1)) → i_p0_stirs = 0 → o.1 = -2)) ∧ (Hid (((0 ≤ x1 ∧ x1 < i_p0_seats) ∧ (0 ≤ x2 ∧ x2 ≤ 10) ∧ (x3 = 0 ∨ x3 = 1)) → ¬ i_p0_stirs = 0 → o.1 = if x3 = 0 then (sumTo (fun b => lck i_p0_seats i_p0_stirs (fun k => v_p0_st (9 + k)) (fun y b => v_p0_brings (7 * y + b)) 0 (v_p0_st 8) (v_p0_st 7) x2.toNat x1 b) i_p0_seats.toNat) / gz (i_p0_stirs ^ x2.toNat) (sumTo (fun b => lck i_p0_seats i_p0_stirs (fun k => v_p0_st (9 + k)) (fun y b => v_p0_brings (7 * y + b)) 0 (v_p0_st 8) (v_p0_st 7) x2.toNat x1 b) i_p0_seats.toNat) else (i_p0_stirs ^ x2.toNat) / gz (i_p0_stirs ^ x2.toNat) (sumTo (fun b => lck i_p0_seats i_p0_stirs (fun k => v_p0_st (9 + k)) (fun y b => v_p0_brings (7 * y + b)) 0 (v_p0_st 8) (v_p0_st 7) x2.toNat x1 b) i_p0_seats.toNat)))) := by
  obtain ⟨T, TB, R, S, H, I, L, C, TE⟩ := id h
  obtain ⟨R1, R2, R3, R4⟩ := id R
  have S1 := okM_1 S
  have S5 := okM_p S
  have S6 := okM_e S
  have L0 := L 0 (by omega) (by omega)
  refine wp_mono (s_X12_chance _ _ _ _ _ _ _ _ _ _ (by first | assumption | omega) (by first | assumption | omega) (by first | assumption | omega) (by first | assumption | omega) (by first | assumption | omega) (by first | assumption | omega) (by first | assumption | omega) (by first | assumption | omega) (by first | assumption | omega) (by first | assumption | omega) (by first | assumption | omega) (by first | assumption | omega)) ?_
  rintro ⟨r, o_v_p0_places, o_v_p0_ways, o_v_p0_waysThen⟩ ⟨q1, q2, q3⟩
  try dsimp only
  try dsimp only at q1 q2 q3
  exact ⟨h, q1, q2, q3⟩
set_option maxHeartbeats 2000000 in
theorem zX12_lasts {i_p0_taped : Int} {v_p0_tape : Int → Int} {i_p0_seats : Int} {i_p0_stirs : Int} {v_p0_need : Int → Int} {v_p0_brings : Int → Int} {v_p0_st : Int → Int} {v_p0_isKept : Int → Int} {v_p0_lanes : Int → Int} {v_p0_sizes : Int → Int} {v_p0_cells : Int → Int} {i_p0_torn : Int} {v_p0_places : Int → Int} {v_p0_ways : Int → Int} {v_p0_waysThen : Int → Int} {x1 : Int} {x2 : Int} (h : InvK i_p0_taped v_p0_tape i_p0_seats i_p0_stirs v_p0_need v_p0_brings v_p0_st v_p0_isKept v_p0_lanes v_p0_sizes v_p0_cells i_p0_torn) (hx1 : -2147483648 ≤ x1 ∧ x1 < 2147483648) (hx2 : -2147483648 ≤ x2 ∧ x2 < 2147483648) : wp (f_X12_lasts i_p0_seats i_p0_stirs v_p0_st v_p0_brings v_p0_places v_p0_ways v_p0_waysThen x1 x2) (fun o => InvK i_p0_taped v_p0_tape i_p0_seats i_p0_stirs v_p0_need v_p0_brings v_p0_st v_p0_isKept v_p0_lanes v_p0_sizes v_p0_cells i_p0_torn ∧ (Hid (¬ ((0 ≤ x1 ∧ x1 ≤ 10) ∧ (x2 = 0 ∨ x2 = 1)) → o.1 = -1)) ∧ (Hid (((0 ≤ x1 ∧ x1 ≤ 10) ∧ (x2 = 0 ∨ x2 = 1)) → i_p0_stirs = 0 → o.1 = -2)) ∧ (Hid (((0 ≤ x1 ∧ x1 ≤ 10) ∧ (x2 = 0 ∨ x2 = 1)) → ¬ i_p0_stirs = 0 → o.1 = if x2 = 0 then (sumTo (fun b => lck i_p0_seats i_p0_stirs (fun k => v_p0_st (9 + k)) (fun y b => v_p0_brings (7 * y + b)) 1 (v_p0_st 8) (v_p0_st 7) x1.toNat (v_p0_st 8) b) i_p0_seats.toNat) / gz (i_p0_stirs ^ x1.toNat) (sumTo (fun b => lck i_p0_seats i_p0_stirs (fun k => v_p0_st (9 + k)) (fun y b => v_p0_brings (7 * y + b)) 1 (v_p0_st 8) (v_p0_st 7) x1.toNat (v_p0_st 8) b) i_p0_seats.toNat) else (i_p0_stirs ^ x1.toNat) / gz (i_p0_stirs ^ x1.toNat) (sumTo (fun b => lck i_p0_seats i_p0_stirs (fun k => v_p0_st (9 + k)) (fun y b => v_p0_brings (7 * y + b)) 1 (v_p0_st 8) (v_p0_st 7) x1.toNat (v_p0_st 8) b) i_p0_seats.toNat)))) := by
  obtain ⟨T, TB, R, S, H, I, L, C, TE⟩ := id h
  obtain ⟨R1, R2, R3, R4⟩ := id R
  have S1 := okM_1 S
  have S5 := okM_p S
  have S6 := okM_e S
  have L0 := L 0 (by omega) (by omega)
  refine wp_mono (s_X12_lasts _ _ _ _ _ _ _ _ _ (by first | assumption | omega) (by first | assumption | omega) (by first | assumption | omega) (by first | assumption | omega) (by first | assumption | omega) (by first | assumption | omega) (by first | assumption | omega) (by first | assumption | omega) (by first | assumption | omega) (by first | assumption | omega)) ?_
  rintro ⟨r, o_v_p0_places, o_v_p0_ways, o_v_p0_waysThen⟩ ⟨q1, q2, q3⟩
  try dsimp only
  try dsimp only at q1 q2 q3
  exact ⟨h, q1, q2, q3⟩
set_option maxHeartbeats 2000000 in
theorem zX12_reign {i_p0_taped : Int} {v_p0_tape : Int → Int} {i_p0_seats : Int} {i_p0_stirs : Int} {v_p0_need : Int → Int} {v_p0_brings : Int → Int} {v_p0_st : Int → Int} {v_p0_isKept : Int → Int} {v_p0_lanes : Int → Int} {v_p0_sizes : Int → Int} {v_p0_cells : Int → Int} {i_p0_torn : Int} {v_p0_places : Int → Int} {v_p0_stays : Int → Int} {x1 : Int} {x2 : Int} (h : InvK i_p0_taped v_p0_tape i_p0_seats i_p0_stirs v_p0_need v_p0_brings v_p0_st v_p0_isKept v_p0_lanes v_p0_sizes v_p0_cells i_p0_torn) (hx1 : -2147483648 ≤ x1 ∧ x1 < 2147483648) (hx2 : -2147483648 ≤ x2 ∧ x2 < 2147483648) : wp (f_X12_reign i_p0_seats i_p0_stirs v_p0_st v_p0_brings v_p0_places v_p0_stays x1 x2) (fun o => InvK i_p0_taped v_p0_tape i_p0_seats i_p0_stirs v_p0_need v_p0_brings v_p0_st v_p0_isKept v_p0_lanes v_p0_sizes v_p0_cells i_p0_torn ∧ (-4 ≤ o.1 ∧ o.1 ≤ 10) ∧ (Hid (¬ ((1 ≤ x1 ∧ x1 ≤ 10) ∧ (x2 = 0 ∨ (10 ≤ x2 ∧ x2 ≤ 19))) → o.1 = -1)) ∧ (Hid (((1 ≤ x1 ∧ x1 ≤ 10) ∧ (x2 = 0 ∨ (10 ≤ x2 ∧ x2 ≤ 19))) → i_p0_stirs = 0 → o.1 = -2)) ∧ (Hid (((1 ≤ x1 ∧ x1 ≤ 10) ∧ (x2 = 0 ∨ (10 ≤ x2 ∧ x2 ≤ 19))) → ¬ i_p0_stirs = 0 → ∃ l, mostd (fun d => can i_p0_seats i_p0_stirs 1 (clF i_p0_seats (fun k => v_p0_st (9 + k))) (clA i_p0_seats i_p0_stirs (fun y b => v_p0_brings (7 * y + b))) (fun _ => True) d (v_p0_st 8) (v_p0_st 7)) (x1 + 1) l ∧ o.1 = if x2 = 0 then l else if x2 - 10 < l then prow i_p0_seats i_p0_stirs 1 (clF i_p0_seats (fun k => v_p0_st (9 + k))) (clA i_p0_seats i_p0_stirs (fun y b => v_p0_brings (7 * y + b))) (fun _ => True) l.toNat (v_p0_st 8) (v_p0_st 7) (x2 - 10).toNat else -4))) := by
  obtain ⟨T, TB, R, S, H, I, L, C, TE⟩ := id h
  obtain ⟨R1, R2, R3, R4⟩ := id R
  have S1 := okM_1 S
  have S5 := okM_p S
  have S6 := okM_e S
  have L0 := L 0 (by omega) (by omega)
  refine wp_mono (s_X12_reign _ _ _ _ _ _ _ _ (by first | assumption | omega) (by first | assumption | omega) (by first | assumption | omega) (by first | assumption | omega) (by first | assumption | omega) (by first | assumption | omega) (by first | assumption | omega) (by first | assumption | omega) (by first | assumption | omega) (by first | assumption | omega)) ?_
  rintro ⟨r, o_v_p0_places, o_v_p0_stays⟩ ⟨q1, q2, q3, q4⟩
  try dsimp only
  try dsimp only at q1 q2 q3 q4
  exact ⟨h, q1, q2, q3, q4⟩
set_option maxHeartbeats 2000000 in
theorem zX12_raise {i_p0_taped : Int} {v_p0_tape : Int → Int} {i_p0_seats : Int} {i_p0_stirs : Int} {v_p0_need : Int → Int} {v_p0_brings : Int → Int} {v_p0_st : Int → Int} {v_p0_isKept : Int → Int} {v_p0_lanes : Int → Int} {v_p0_sizes : Int → Int} {v_p0_cells : Int → Int} {i_p0_torn : Int} {v_p0_places : Int → Int} {v_p0_fewest : Int → Int} {x1 : Int} {x2 : Int} (h : InvK i_p0_taped v_p0_tape i_p0_seats i_p0_stirs v_p0_need v_p0_brings v_p0_st v_p0_isKept v_p0_lanes v_p0_sizes v_p0_cells i_p0_torn) (hx1 : -2147483648 ≤ x1 ∧ x1 < 2147483648) (hx2 : -2147483648 ≤ x2 ∧ x2 < 2147483648) : wp (f_X12_raise i_p0_seats i_p0_stirs v_p0_st v_p0_brings v_p0_places v_p0_fewest x1 x2) (fun o => InvK i_p0_taped v_p0_tape i_p0_seats i_p0_stirs v_p0_need v_p0_brings v_p0_st v_p0_isKept v_p0_lanes v_p0_sizes v_p0_cells i_p0_torn ∧ (-4 ≤ o.1 ∧ o.1 ≤ 10) ∧ (Hid (¬ ((0 ≤ x1 ∧ x1 < i_p0_seats) ∧ (x2 = 0 ∨ (10 ≤ x2 ∧ x2 ≤ 19))) → o.1 = -1)) ∧ (Hid (((0 ≤ x1 ∧ x1 < i_p0_seats) ∧ (x2 = 0 ∨ (10 ≤ x2 ∧ x2 ≤ 19))) → i_p0_stirs = 0 → o.1 = -2)) ∧ (Hid (((0 ≤ x1 ∧ x1 < i_p0_seats) ∧ (x2 = 0 ∨ (10 ≤ x2 ∧ x2 ≤ 19))) → ¬ i_p0_stirs = 0 → ∃ l, fstq 11 (fun t => can i_p0_seats i_p0_stirs 0 (clF i_p0_seats (fun k => v_p0_st (9 + k))) (clA i_p0_seats i_p0_stirs (fun y b => v_p0_brings (7 * y + b))) (fun k => k = x1) t.toNat (v_p0_st 8) (v_p0_st 7)) l ∧ o.1 = if x2 = 0 then l else if x2 - 10 < l then prow i_p0_seats i_p0_stirs 0 (clF i_p0_seats (fun k => v_p0_st (9 + k))) (clA i_p0_seats i_p0_stirs (fun y b => v_p0_brings (7 * y + b))) (fun k => k = x1) l.toNat (v_p0_st 8) (v_p0_st 7) (x2 - 10).toNat else -4))) := by
  obtain ⟨T, TB, R, S, H, I, L, C, TE⟩ := id h
  obtain ⟨R1, R2, R3, R4⟩ := id R
  have S1 := okM_1 S
  have S5 := okM_p S
  have S6 := okM_e S
  have L0 := L 0 (by omega) (by omega)
  refine wp_mono (s_X12_raise _ _ _ _ _ _ _ _ (by first | assumption | omega) (by first | assumption | omega) (by first | assumption | omega) (by first | assumption | omega) (by first | assumption | omega) (by first | assumption | omega) (by first | assumption | omega) (by first | assumption | omega) (by first | assumption | omega) (by first | assumption | omega)) ?_
  rintro ⟨r, o_v_p0_places, o_v_p0_fewest⟩ ⟨q1, q2, q3, q4⟩
  try dsimp only
  try dsimp only at q1 q2 q3 q4
  exact ⟨h, q1, q2, q3, q4⟩
set_option maxHeartbeats 2000000 in
theorem zX12_coup {i_p0_taped : Int} {v_p0_tape : Int → Int} {i_p0_seats : Int} {i_p0_stirs : Int} {v_p0_need : Int → Int} {v_p0_brings : Int → Int} {v_p0_st : Int → Int} {v_p0_isKept : Int → Int} {v_p0_lanes : Int → Int} {v_p0_sizes : Int → Int} {v_p0_cells : Int → Int} {i_p0_torn : Int} {v_p0_places : Int → Int} {v_p0_bowls : Int → Int} {v_p0_has : Int → Int} {x1 : Int} {x2 : Int} {x3 : Int} (h : InvK i_p0_taped v_p0_tape i_p0_seats i_p0_stirs v_p0_need v_p0_brings v_p0_st v_p0_isKept v_p0_lanes v_p0_sizes v_p0_cells i_p0_torn) (hx1 : -2147483648 ≤ x1 ∧ x1 < 2147483648) (hx2 : -2147483648 ≤ x2 ∧ x2 < 2147483648) (hx3 : -2147483648 ≤ x3 ∧ x3 < 2147483648) : wp (f_X12_coup i_p0_seats i_p0_stirs v_p0_st v_p0_brings v_p0_places v_p0_bowls v_p0_has x1 x2 x3) (fun o => InvK i_p0_taped v_p0_tape i_p0_seats i_p0_stirs v_p0_need v_p0_brings v_p0_st v_p0_isKept v_p0_lanes v_p0_sizes v_p0_cells i_p0_torn ∧ (-4 ≤ o.1 ∧ o.1 < 128) ∧ (Hid (¬ ((0 ≤ x1 ∧ x1 < i_p0_seats) ∧ (0 ≤ x2 ∧ x2 < i_p0_stirs) ∧ (x3 = 0 ∨ x3 = 1)) → o.1 = -1)) ∧ (Hid (((0 ≤ x1 ∧ x1 < i_p0_seats) ∧ (0 ≤ x2 ∧ x2 < i_p0_stirs) ∧ (x3 = 0 ∨ x3 = 1)) → ∃ w, stirdP i_p0_seats (fun i => v_p0_brings (7 * x2 + i)) v_p0_st w ∧ coupQ i_p0_seats (fun j => v_p0_st (9 + j)) (fun j => v_p0_st (16 + j)) w x1 x3 o.1))) := by
  obtain ⟨T, TB, R, S, H, I, L, C, TE⟩ := id h
  obtain ⟨R1, R2, R3, R4⟩ := id R
  have S1 := okM_1 S
  have S5 := okM_p S
  have S6 := okM_e S
  have L0 := L 0 (by omega) (by omega)
  refine wp_mono (s_X12_coup _ _ _ _ _ _ _ _ _ _ (by first | assumption | omega) (by first | assumption | omega) (by first | assumption | omega) (by first | assumption | omega) (by first | assumption | omega) (by first | assumption | omega) (by first | assumption | omega) (by first | assumption | omega) (by first | assumption | omega) (by first | assumption | omega) (by first | assumption | omega) (by first | assumption | omega)) ?_
  rintro ⟨r, o_v_p0_places, o_v_p0_bowls, o_v_p0_has⟩ ⟨q1, q2, q3⟩
  try dsimp only
  try dsimp only at q1 q2 q3
  exact ⟨h, q1, q2, q3⟩
set_option maxHeartbeats 2000000 in
theorem zX12_firm {i_p0_taped : Int} {v_p0_tape : Int → Int} {i_p0_seats : Int} {i_p0_stirs : Int} {v_p0_need : Int → Int} {v_p0_brings : Int → Int} {v_p0_st : Int → Int} {v_p0_isKept : Int → Int} {v_p0_lanes : Int → Int} {v_p0_sizes : Int → Int} {v_p0_cells : Int → Int} {i_p0_torn : Int} {v_p0_places : Int → Int} {v_p0_bowls : Int → Int} {v_p0_has : Int → Int} {x1 : Int} (h : InvK i_p0_taped v_p0_tape i_p0_seats i_p0_stirs v_p0_need v_p0_brings v_p0_st v_p0_isKept v_p0_lanes v_p0_sizes v_p0_cells i_p0_torn) (hx1 : -2147483648 ≤ x1 ∧ x1 < 2147483648) : wp (f_X12_firm i_p0_seats i_p0_stirs v_p0_st v_p0_brings v_p0_places v_p0_bowls v_p0_has x1) (fun o => InvK i_p0_taped v_p0_tape i_p0_seats i_p0_stirs v_p0_need v_p0_brings v_p0_st v_p0_isKept v_p0_lanes v_p0_sizes v_p0_cells i_p0_torn ∧ (Hid (¬ (0 ≤ x1 ∧ x1 < i_p0_stirs) → o.1 = -1)) ∧ (Hid ((0 ≤ x1 ∧ x1 < i_p0_stirs) → ∃ w, stirdP i_p0_seats (fun i => v_p0_brings (7 * x1 + i)) v_p0_st w ∧ o.1 = bitsOf (fun k => ∀ c, 0 ≤ c → c < i_p0_seats → ¬ c = k → ¬ leadP i_p0_seats (fun j => v_p0_st (9 + j)) (fun j => v_p0_st (16 + j)) w c k) i_p0_seats.toNat))) := by
  obtain ⟨T, TB, R, S, H, I, L, C, TE⟩ := id h
  obtain ⟨R1, R2, R3, R4⟩ := id R
  have S1 := okM_1 S
  have S5 := okM_p S
  have S6 := okM_e S
  have L0 := L 0 (by omega) (by omega)
  refine wp_mono (s_X12_firm _ _ _ _ _ _ _ _ (by first | assumption | omega) (by first | assumption | omega) (by first | assumption | omega) (by first | assumption | omega) (by first | assumption | omega) (by first | assumption | omega) (by first | assumption | omega) (by first | assumption | omega)) ?_
  rintro ⟨r, o_v_p0_places, o_v_p0_bowls, o_v_p0_has⟩ ⟨q1, q2⟩
  try dsimp only
  try dsimp only at q1 q2
  exact ⟨h, q1, q2⟩
set_option maxHeartbeats 2000000 in
theorem zX12_see {i_p0_taped : Int} {v_p0_tape : Int → Int} {i_p0_seats : Int} {i_p0_stirs : Int} {v_p0_need : Int → Int} {v_p0_brings : Int → Int} {v_p0_st : Int → Int} {v_p0_isKept : Int → Int} {v_p0_lanes : Int → Int} {v_p0_sizes : Int → Int} {v_p0_cells : Int → Int} {i_p0_torn : Int} {x1 : Int} (h : InvK i_p0_taped v_p0_tape i_p0_seats i_p0_stirs v_p0_need v_p0_brings v_p0_st v_p0_isKept v_p0_lanes v_p0_sizes v_p0_cells i_p0_torn) (hx1 : -2147483648 ≤ x1 ∧ x1 < 2147483648) : wp (f_X12_see i_p0_seats v_p0_st x1) (fun o => InvK i_p0_taped v_p0_tape i_p0_seats i_p0_stirs v_p0_need v_p0_brings o.2 v_p0_isKept v_p0_lanes v_p0_sizes v_p0_cells i_p0_torn ∧ (o.1 = if 0 ≤ x1 ∧ x1 < i_p0_seats then (if v_p0_st 31 = 6 then -3 else v_p0_st 31 + 1) else -1) ∧ (o.2 = if (0 ≤ x1 ∧ x1 < i_p0_seats) ∧ ¬ v_p0_st 31 = 6 then z_up (z_up v_p0_st (32 + v_p0_st 31) x1) 31 (v_p0_st 31 + 1) else v_p0_st)) := by
  obtain ⟨T, TB, R, S, H, I, L, C, TE⟩ := id h
  obtain ⟨R1, R2, R3, R4⟩ := id R
  have S1 := okM_1 S
  have S5 := okM_p S
  have S6 := okM_e S
  have L0 := L 0 (by omega) (by omega)
  refine wp_mono (s_X12_see _ _ _ (by first | assumption | omega) (by first | assumption | omega) (by first | assumption | omega) (by first | assumption | omega) (by first | assumption | omega)) ?_
  rintro ⟨r, o_v_p0_st⟩ ⟨q1, q2⟩
  try dsimp only
  try dsimp only at q1 q2
  exact ⟨⟨(by exact T), (by exact TB), (by exact R), (by rw [q2]; exact okM_see S), (by exact H), (by exact okI_far I (fun j a b => by rw [q2]; split; (rw [z_up_n _ _ (by omega), z_up_n _ _ (by omega)]); rfl)), (by exact L), (by exact C), (by exact TE)⟩, q1, q2⟩
set_option maxHeartbeats 2000000 in
theorem zX12_forget {i_p0_taped : Int} {v_p0_tape : Int → Int} {i_p0_seats : Int} {i_p0_stirs : Int} {v_p0_need : Int → Int} {v_p0_brings : Int → Int} {v_p0_st : Int → Int} {v_p0_isKept : Int → Int} {v_p0_lanes : Int → Int} {v_p0_sizes : Int → Int} {v_p0_cells : Int → Int} {i_p0_torn : Int} {x1 : Int} (h : InvK i_p0_taped v_p0_tape i_p0_seats i_p0_stirs v_p0_need v_p0_brings v_p0_st v_p0_isKept v_p0_lanes v_p0_sizes v_p0_cells i_p0_torn) (hx1 : -2147483648 ≤ x1 ∧ x1 < 2147483648) : wp (f_X12_forget v_p0_st x1) (fun o => InvK i_p0_taped v_p0_tape i_p0_seats i_p0_stirs v_p0_need v_p0_brings o.2 v_p0_isKept v_p0_lanes v_p0_sizes v_p0_cells i_p0_torn ∧ (o.1 = if 0 ≤ x1 ∧ x1 ≤ v_p0_st 31 then v_p0_st 31 else -1) ∧ (o.2 = if 0 ≤ x1 ∧ x1 ≤ v_p0_st 31 then z_up v_p0_st 31 x1 else v_p0_st)) := by
  obtain ⟨T, TB, R, S, H, I, L, C, TE⟩ := id h
  obtain ⟨R1, R2, R3, R4⟩ := id R
  have S1 := okM_1 S
  have S5 := okM_p S
  have S6 := okM_e S
  have L0 := L 0 (by omega) (by omega)
  refine wp_mono (s_X12_forget _ _ i_p0_seats (by first | assumption | omega) (by first | assumption | omega) (by first | assumption | omega)) ?_
  rintro ⟨r, o_v_p0_st⟩ ⟨q1, q2⟩
  try dsimp only
  try dsimp only at q1 q2
  exact ⟨⟨(by exact T), (by exact TB), (by exact R), (by rw [q2]; exact okM_fg S), (by exact H), (by exact okI_far I (fun j a b => by rw [q2]; split; (rw [z_up_n _ _ (by omega)]); rfl)), (by exact L), (by exact C), (by exact TE)⟩, q1, q2⟩
set_option maxHeartbeats 2000000 in
theorem zX12_histories {i_p0_taped : Int} {v_p0_tape : Int → Int} {i_p0_seats : Int} {i_p0_stirs : Int} {v_p0_need : Int → Int} {v_p0_brings : Int → Int} {v_p0_st : Int → Int} {v_p0_isKept : Int → Int} {v_p0_lanes : Int → Int} {v_p0_sizes : Int → Int} {v_p0_cells : Int → Int} {i_p0_torn : Int} {v_p0_places : Int → Int} {v_p0_goesOn : Int → Int} {x1 : Int} (h : InvK i_p0_taped v_p0_tape i_p0_seats i_p0_stirs v_p0_need v_p0_brings v_p0_st v_p0_isKept v_p0_lanes v_p0_sizes v_p0_cells i_p0_torn) (hx1 : -2147483648 ≤ x1 ∧ x1 < 2147483648) : wp (f_X12_histories i_p0_seats i_p0_stirs v_p0_st v_p0_brings v_p0_places v_p0_goesOn x1) (fun o => InvK i_p0_taped v_p0_tape i_p0_seats i_p0_stirs v_p0_need v_p0_brings v_p0_st v_p0_isKept v_p0_lanes v_p0_sizes v_p0_cells i_p0_torn ∧ (Hid (¬ (x1 = 0 ∨ (10 ≤ x1 ∧ x1 < 16)) → o.1 = -1)) ∧ (Hid (x1 = 0 → o.1 = prq i_p0_seats i_p0_stirs (v_p0_st 8) (v_p0_st 7) (mfr v_p0_st) (mseen v_p0_st) (mA v_p0_brings) (v_p0_st 31).toNat)) ∧ (Hid ((10 ≤ x1 ∧ x1 < 16) → (prq i_p0_seats i_p0_stirs (v_p0_st 8) (v_p0_st 7) (mfr v_p0_st) (mseen v_p0_st) (mA v_p0_brings) (v_p0_st 31).toNat = 0 ∨ ¬ x1 - 10 < v_p0_st 31) → o.1 = -4)) ∧ (Hid ((10 ≤ x1 ∧ x1 < 16) → ¬ prq i_p0_seats i_p0_stirs (v_p0_st 8) (v_p0_st 7) (mfr v_p0_st) (mseen v_p0_st) (mA v_p0_brings) (v_p0_st 31).toNat = 0 → x1 - 10 < v_p0_st 31 → fstq i_p0_stirs (fun t => mA v_p0_brings t (hb i_p0_seats (v_p0_st 8) (v_p0_st 7) (mfr v_p0_st) (mseen v_p0_st) (x1 - 10)) = hb i_p0_seats (v_p0_st 8) (v_p0_st 7) (mfr v_p0_st) (mseen v_p0_st) (x1 - 10 + 1)) o.1))) := by
  obtain ⟨T, TB, R, S, H, I, L, C, TE⟩ := id h
  obtain ⟨R1, R2, R3, R4⟩ := id R
  have S1 := okM_1 S
  have S5 := okM_p S
  have S6 := okM_e S
  have L0 := L 0 (by omega) (by omega)
  refine wp_mono (s_X12_histories _ _ _ _ _ _ _ (by first | assumption | omega) (by first | assumption | omega) (by first | assumption | omega) (by first | assumption | omega) (by first | assumption | omega) (by first | assumption | omega) (by first | assumption | omega) (by first | assumption | omega)) ?_
  rintro ⟨r, o_v_p0_places, o_v_p0_goesOn⟩ ⟨q1, q2, q3, q4⟩
  try dsimp only
  try dsimp only at q1 q2 q3 q4
  exact ⟨h, q1, q2, q3, q4⟩
set_option maxHeartbeats 2000000 in
theorem zX12_could {i_p0_taped : Int} {v_p0_tape : Int → Int} {i_p0_seats : Int} {i_p0_stirs : Int} {v_p0_need : Int → Int} {v_p0_brings : Int → Int} {v_p0_st : Int → Int} {v_p0_isKept : Int → Int} {v_p0_lanes : Int → Int} {v_p0_sizes : Int → Int} {v_p0_cells : Int → Int} {i_p0_torn : Int} {v_p0_places : Int → Int} {v_p0_goesOn : Int → Int} {v_p0_isThere : Int → Int} {v_p0_isThereThen : Int → Int} {x1 : Int} (h : InvK i_p0_taped v_p0_tape i_p0_seats i_p0_stirs v_p0_need v_p0_brings v_p0_st v_p0_isKept v_p0_lanes v_p0_sizes v_p0_cells i_p0_torn) (hx1 : -2147483648 ≤ x1 ∧ x1 < 2147483648) : wp (f_X12_could i_p0_seats i_p0_stirs v_p0_st v_p0_brings v_p0_places v_p0_goesOn v_p0_isThere v_p0_isThereThen x1) (fun o => InvK i_p0_taped v_p0_tape i_p0_seats i_p0_stirs v_p0_need v_p0_brings v_p0_st v_p0_isKept v_p0_lanes v_p0_sizes v_p0_cells i_p0_torn ∧ (Hid (¬ (0 ≤ x1 ∧ x1 < v_p0_st 31) → o.1 = -1)) ∧ (Hid ((0 ≤ x1 ∧ x1 < v_p0_st 31) → o.1 = if 0 < prq i_p0_seats i_p0_stirs (v_p0_st 8) (v_p0_st 7) (mfr v_p0_st) (mseen v_p0_st) (mA v_p0_brings) (v_p0_st 31).toNat then fitq i_p0_seats i_p0_stirs (v_p0_st 8) (v_p0_st 7) (mfr v_p0_st) (mseen v_p0_st) (mA v_p0_brings) x1 else 0))) := by
  obtain ⟨T, TB, R, S, H, I, L, C, TE⟩ := id h
  obtain ⟨R1, R2, R3, R4⟩ := id R
  have S1 := okM_1 S
  have S5 := okM_p S
  have S6 := okM_e S
  have L0 := L 0 (by omega) (by omega)
  refine wp_mono (s_X12_could _ _ _ _ _ _ _ _ _ (by first | assumption | omega) (by first | assumption | omega) (by first | assumption | omega) (by first | assumption | omega) (by first | assumption | omega) (by first | assumption | omega) (by first | assumption | omega) (by first | assumption | omega)) ?_
  rintro ⟨r, o_v_p0_places, o_v_p0_goesOn, o_v_p0_isThere, o_v_p0_isThereThen⟩ ⟨q1, q2⟩
  try dsimp only
  try dsimp only at q1 q2
  exact ⟨h, q1, q2⟩
set_option maxHeartbeats 2000000 in
theorem zX12_blind {i_p0_taped : Int} {v_p0_tape : Int → Int} {i_p0_seats : Int} {i_p0_stirs : Int} {v_p0_need : Int → Int} {v_p0_brings : Int → Int} {v_p0_st : Int → Int} {v_p0_isKept : Int → Int} {v_p0_lanes : Int → Int} {v_p0_sizes : Int → Int} {v_p0_cells : Int → Int} {i_p0_torn : Int} {x1 : Int} {x2 : Int} {x3 : Int} (h : InvK i_p0_taped v_p0_tape i_p0_seats i_p0_stirs v_p0_need v_p0_brings v_p0_st v_p0_isKept v_p0_lanes v_p0_sizes v_p0_cells i_p0_torn) (hx1 : -2147483648 ≤ x1 ∧ x1 < 2147483648) (hx2 : -2147483648 ≤ x2 ∧ x2 < 2147483648) (hx3 : -2147483648 ≤ x3 ∧ x3 < 2147483648) : wp (f_X12_blind i_p0_seats x1 x2 x3) (fun o => InvK i_p0_taped v_p0_tape i_p0_seats i_p0_stirs v_p0_need v_p0_brings v_p0_st v_p0_isKept v_p0_lanes v_p0_sizes v_p0_cells i_p0_torn ∧ (Hid (¬ ((1 ≤ x2 ∧ x2 ≤ 12) ∧ (0 ≤ x1 ∧ x1 ≤ x2) ∧ (x3 = 0 ∨ x3 = 1)) → o = -1)) ∧ (Hid (((1 ≤ x2 ∧ x2 ≤ 12) ∧ (0 ≤ x1 ∧ x1 ≤ x2) ∧ (x3 = 0 ∨ x3 = 1)) → o = if x3 = 0 then (sumTo (fun j => if x1 ≤ j then chs x2 j.toNat * (i_p0_seats - 1) ^ (x2 - j).toNat else 0) (x2 + 1).toNat) / gz (i_p0_seats ^ x2.toNat) (sumTo (fun j => if x1 ≤ j then chs x2 j.toNat * (i_p0_seats - 1) ^ (x2 - j).toNat else 0) (x2 + 1).toNat) else (i_p0_seats ^ x2.toNat) / gz (i_p0_seats ^ x2.toNat) (sumTo (fun j => if x1 ≤ j then chs x2 j.toNat * (i_p0_seats - 1) ^ (x2 - j).toNat else 0) (x2 + 1).toNat)))) := by
  obtain ⟨T, TB, R, S, H, I, L, C, TE⟩ := id h
  obtain ⟨R1, R2, R3, R4⟩ := id R
  have S1 := okM_1 S
  have S5 := okM_p S
  have S6 := okM_e S
  have L0 := L 0 (by omega) (by omega)
  refine wp_mono (s_X12_blind _ _ _ _ (by first | assumption | omega) (by first | assumption | omega) (by first | assumption | omega) (by first | assumption | omega) (by first | assumption | omega) (by first | assumption | omega) (by first | assumption | omega) (by first | assumption | omega)) ?_
  rintro r ⟨q1, q2⟩
  try dsimp only
  try dsimp only at q1 q2
  exact ⟨h, q1, q2⟩
set_option maxHeartbeats 2000000 in
theorem zX12_fair {i_p0_taped : Int} {v_p0_tape : Int → Int} {i_p0_seats : Int} {i_p0_stirs : Int} {v_p0_need : Int → Int} {v_p0_brings : Int → Int} {v_p0_st : Int → Int} {v_p0_isKept : Int → Int} {v_p0_lanes : Int → Int} {v_p0_sizes : Int → Int} {v_p0_cells : Int → Int} {i_p0_torn : Int} {v_p0_places : Int → Int} {v_p0_stirred : Int → Int} {v_p0_bestRow : Int → Int} {x1 : Int} {x2 : Int} (h : InvK i_p0_taped v_p0_tape i_p0_seats i_p0_stirs v_p0_need v_p0_brings v_p0_st v_p0_isKept v_p0_lanes v_p0_sizes v_p0_cells i_p0_torn) (hx1 : -2147483648 ≤ x1 ∧ x1 < 2147483648) (hx2 : -2147483648 ≤ x2 ∧ x2 < 2147483648) : wp (f_X12_fair i_p0_seats i_p0_stirs v_p0_st v_p0_brings v_p0_places v_p0_stirred v_p0_bestRow x1 x2) (fun o => InvK i_p0_taped v_p0_tape i_p0_seats i_p0_stirs v_p0_need v_p0_brings o.2.1 v_p0_isKept v_p0_lanes v_p0_sizes v_p0_cells i_p0_torn ∧ (∀ j, 0 ≤ j → j < 114 → o.2.1 j = v_p0_st j) ∧ (Hid (¬ ((1 ≤ x1 ∧ x1 ≤ 4) ∧ (x2 = 0 ∨ (10 ≤ x2 ∧ x2 ≤ 13))) → o.1 = -1)) ∧ (Hid (((1 ≤ x1 ∧ x1 ≤ 4) ∧ (x2 = 0 ∨ (10 ≤ x2 ∧ x2 ≤ 13))) → i_p0_stirs = 0 → o.1 = -2)) ∧ (Hid (((1 ≤ x1 ∧ x1 ≤ 4) ∧ (x2 = 0 ∨ (10 ≤ x2 ∧ x2 ≤ 13))) → ¬ i_p0_stirs = 0 → 10 + x1 ≤ x2 → o.1 = -4)) ∧ (Hid (((1 ≤ x1 ∧ x1 ≤ 4) ∧ (x2 = 0 ∨ (10 ≤ x2 ∧ x2 ≤ 13))) → ¬ i_p0_stirs = 0 → x2 < 10 + x1 → ∃ b l, lst (spi i_p0_seats i_p0_stirs (clF i_p0_seats (fun k => v_p0_st (9 + k))) (clA i_p0_seats i_p0_stirs (fun y b => v_p0_brings (7 * y + b))) (clF i_p0_seats v_p0_st) (v_p0_st 8) (v_p0_st 7) x1) (i_p0_stirs ^ x1.toNat) b l ∧ o.1 = if x2 = 0 then l else dgt i_p0_stirs x1 b (x2 - 10)))) := by
  obtain ⟨T, TB, R, S, H, I, L, C, TE⟩ := id h
  obtain ⟨R1, R2, R3, R4⟩ := id R
  have S1 := okM_1 S
  have S5 := okM_p S
  have S6 := okM_e S
  have L0 := L 0 (by omega) (by omega)
  refine wp_mono (s_X12_fair _ _ _ _ _ _ _ _ _ (by first | assumption | omega) (by first | assumption | omega) (by first | assumption | omega) (by first | assumption | omega) (by first | assumption | omega) (by first | assumption | omega) (by first | assumption | omega) (by first | assumption | omega) (by first | assumption | omega) (by first | assumption | omega)) ?_
  rintro ⟨r, o_v_p0_st, o_v_p0_places, o_v_p0_stirred, o_v_p0_bestRow⟩ ⟨q1, q2, q3, q4, q5⟩
  try dsimp only
  try dsimp only at q1 q2 q3 q4 q5
  exact ⟨⟨(by exact T), (by exact TB), (by exact R), (by exact okM_cp (c := 0) (by simpa using S) (fun j a b => by rw [q1 j a (by omega), show (0 : Int) + j = j from by omega])), (by exact H), (by exact okI_far I (fun j a b => q1 j (by omega) b)), (by exact L), (by exact C), (by exact TE)⟩, q1, q2, q3, q4, q5⟩
set_option maxHeartbeats 2000000 in
theorem zX12_keep {i_p0_taped : Int} {v_p0_tape : Int → Int} {i_p0_seats : Int} {i_p0_stirs : Int} {v_p0_need : Int → Int} {v_p0_brings : Int → Int} {v_p0_st : Int → Int} {v_p0_isKept : Int → Int} {v_p0_lanes : Int → Int} {v_p0_sizes : Int → Int} {v_p0_cells : Int → Int} {i_p0_torn : Int} {x1 : Int} (h : InvK i_p0_taped v_p0_tape i_p0_seats i_p0_stirs v_p0_need v_p0_brings v_p0_st v_p0_isKept v_p0_lanes v_p0_sizes v_p0_cells i_p0_torn) (hx1 : -2147483648 ≤ x1 ∧ x1 < 2147483648) : wp (f_X12_keep v_p0_st v_p0_isKept x1) (fun o => InvK i_p0_taped v_p0_tape i_p0_seats i_p0_stirs v_p0_need v_p0_brings o.2.1 o.2.2 v_p0_lanes v_p0_sizes v_p0_cells i_p0_torn ∧ (¬ (0 ≤ x1 ∧ x1 < 2) → o.1 = -1 ∧ o.2.1 = v_p0_st ∧ o.2.2 = v_p0_isKept) ∧ (0 ≤ x1 ∧ x1 < 2 → o.1 = v_p0_isKept x1 ∧ o.2.2 = z_up v_p0_isKept x1 1) ∧ (0 ≤ x1 ∧ x1 < 2 → (∀ j, 0 ≤ j → j < 38 → o.2.1 (38 * (x1 + 1) + j) = v_p0_st j) ∧ (∀ j, (j < 38 * (x1 + 1) ∨ 38 * (x1 + 1) + 38 ≤ j) → o.2.1 j = v_p0_st j))) := by
  obtain ⟨T, TB, R, S, H, I, L, C, TE⟩ := id h
  obtain ⟨R1, R2, R3, R4⟩ := id R
  have S1 := okM_1 S
  have S5 := okM_p S
  have S6 := okM_e S
  have L0 := L 0 (by omega) (by omega)
  refine wp_mono (s_X12_keep _ _ _ (by first | assumption | omega) (by first | assumption | omega) (by first | assumption | omega)) ?_
  rintro ⟨r, o_v_p0_st, o_v_p0_isKept⟩ ⟨q1, q2, q3⟩
  try dsimp only
  try dsimp only at q1 q2 q3
  exact ⟨⟨(by exact T), (by exact TB), (by exact R), (by by_cases c : 0 ≤ x1 ∧ x1 < 2; exact okM_cp (c := 0) (by simpa using S) (fun j a b => by rw [(q3 c).2 j (by omega), show (0 : Int) + j = j from by omega]); (rw [(q1 c).2.1]; exact S)), (by by_cases c : 0 ≤ x1 ∧ x1 < 2; (rw [(q2 c).2]; intro j a b; rw [z_up_a]; split; exact Or.inr rfl; exact H j a b); (rw [(q1 c).2.2]; exact H)), (by by_cases c : 0 ≤ x1 ∧ x1 < 2; (rw [(q2 c).2]; intro k a b d; by_cases e : k = x1; (rw [e]; exact okM_cp (c := 0) (by simpa using S) (fun j u v => by rw [(q3 c).1 j u v, show (0 : Int) + j = j from by omega])); (rw [z_up_n _ _ e] at d; exact okM_cp (c := 38 * (k + 1)) (I k a b d) (fun j u v => (q3 c).2 _ (by omega)))); (rw [(q1 c).2.1, (q1 c).2.2]; exact I)), (by exact L), (by exact C), (by exact TE)⟩, q1, q2, q3⟩
set_option maxHeartbeats 2000000 in
theorem zX12_back {i_p0_taped : Int} {v_p0_tape : Int → Int} {i_p0_seats : Int} {i_p0_stirs : Int} {v_p0_need : Int → Int} {v_p0_brings : Int → Int} {v_p0_st : Int → Int} {v_p0_isKept : Int → Int} {v_p0_lanes : Int → Int} {v_p0_sizes : Int → Int} {v_p0_cells : Int → Int} {i_p0_torn : Int} {x1 : Int} (h : InvK i_p0_taped v_p0_tape i_p0_seats i_p0_stirs v_p0_need v_p0_brings v_p0_st v_p0_isKept v_p0_lanes v_p0_sizes v_p0_cells i_p0_torn) (hx1 : -2147483648 ≤ x1 ∧ x1 < 2147483648) : wp (f_X12_back v_p0_st v_p0_isKept x1) (fun o => InvK i_p0_taped v_p0_tape i_p0_seats i_p0_stirs v_p0_need v_p0_brings o.2 v_p0_isKept v_p0_lanes v_p0_sizes v_p0_cells i_p0_torn ∧ (¬ (0 ≤ x1 ∧ x1 < 2) → o.1 = -1 ∧ o.2 = v_p0_st) ∧ (0 ≤ x1 ∧ x1 < 2 → v_p0_isKept x1 = 0 → o.1 = -2 ∧ o.2 = v_p0_st) ∧ (0 ≤ x1 ∧ x1 < 2 → ¬ v_p0_isKept x1 = 0 → o.1 = o.2 8 ∧ (∀ j, 0 ≤ j → j < 38 → o.2 j = v_p0_st (38 * (x1 + 1) + j)) ∧ (∀ j, 38 ≤ j → o.2 j = v_p0_st j))) := by
  obtain ⟨T, TB, R, S, H, I, L, C, TE⟩ := id h
  obtain ⟨R1, R2, R3, R4⟩ := id R
  have S1 := okM_1 S
  have S5 := okM_p S
  have S6 := okM_e S
  have L0 := L 0 (by omega) (by omega)
  refine wp_mono (s_X12_back _ _ _ (by first | assumption | omega) (by first | assumption | omega) (by first | assumption | omega)) ?_
  rintro ⟨r, o_v_p0_st⟩ ⟨q1, q2, q3⟩
  try dsimp only
  try dsimp only at q1 q2 q3
  exact ⟨⟨(by exact T), (by exact TB), (by exact R), (by by_cases c : 0 ≤ x1 ∧ x1 < 2; (by_cases d : v_p0_isKept x1 = 0; (rw [(q2 c d).2]; exact S); exact okM_cp (I x1 c.1 c.2 d) (q3 c d).2.1); (rw [(q1 c).2]; exact S)), (by exact H), (by by_cases c : 0 ≤ x1 ∧ x1 < 2; (by_cases d : v_p0_isKept x1 = 0; (rw [(q2 c d).2]; exact I); exact okI_far I (fun j a b => (q3 c d).2.2 j a)); (rw [(q1 c).2]; exact I)), (by exact L), (by exact C), (by exact TE)⟩, q1, q2, q3⟩
set_option maxHeartbeats 2000000 in
theorem zX12_sheet {i_p0_taped : Int} {v_p0_tape : Int → Int} {i_p0_seats : Int} {i_p0_stirs : Int} {v_p0_need : Int → Int} {v_p0_brings : Int → Int} {v_p0_st : Int → Int} {v_p0_isKept : Int → Int} {v_p0_lanes : Int → Int} {v_p0_sizes : Int → Int} {v_p0_cells : Int → Int} {i_p0_torn : Int} {x1 : Int} {x2 : Int} {x3 : Int} (h : InvK i_p0_taped v_p0_tape i_p0_seats i_p0_stirs v_p0_need v_p0_brings v_p0_st v_p0_isKept v_p0_lanes v_p0_sizes v_p0_cells i_p0_torn) (hx1 : -2147483648 ≤ x1 ∧ x1 < 2147483648) (hx2 : -2147483648 ≤ x2 ∧ x2 < 2147483648) (hx3 : -2147483648 ≤ x3 ∧ x3 < 2147483648) : wp (f_X12_sheet v_p0_lanes v_p0_sizes v_p0_cells x1 x2 x3) (fun o => InvK i_p0_taped v_p0_tape i_p0_seats i_p0_stirs v_p0_need v_p0_brings v_p0_st v_p0_isKept o.2.1 o.2.2.1 o.2.2.2 i_p0_torn ∧ (o.1 = if ((0 ≤ x1 ∧ x1 < 4) ∧ (0 ≤ x2 ∧ x2 < 3)) ∧ x3 ≤ 40 then (if x3 < 0 then -14 else 1) else -1) ∧ (o.2.1 = if ((0 ≤ x1 ∧ x1 < 4) ∧ (0 ≤ x2 ∧ x2 < 3)) ∧ 0 ≤ x3 ∧ x3 ≤ 40 then z_up v_p0_lanes x1 x2 else v_p0_lanes) ∧ (o.2.2.1 = if ((0 ≤ x1 ∧ x1 < 4) ∧ (0 ≤ x2 ∧ x2 < 3)) ∧ 0 ≤ x3 ∧ x3 ≤ 40 then z_up v_p0_sizes x1 x3 else v_p0_sizes) ∧ (∀ j, 0 ≤ j → j < 160 → o.2.2.2 j = if (((0 ≤ x1 ∧ x1 < 4) ∧ (0 ≤ x2 ∧ x2 < 3)) ∧ 0 ≤ x3 ∧ x3 ≤ 40) ∧ 40 * x1 ≤ j ∧ j < 40 * x1 + 40 then 0 else v_p0_cells j)) := by
  obtain ⟨T, TB, R, S, H, I, L, C, TE⟩ := id h
  obtain ⟨R1, R2, R3, R4⟩ := id R
  have S1 := okM_1 S
  have S5 := okM_p S
  have S6 := okM_e S
  have L0 := L 0 (by omega) (by omega)
  refine wp_mono (s_X12_sheet _ _ _ _ _ _ (by first | assumption | omega) (by first | assumption | omega) (by first | assumption | omega) (by first | assumption | omega) (by first | assumption | omega) (by first | assumption | omega)) ?_
  rintro ⟨r, o_v_p0_lanes, o_v_p0_sizes, o_v_p0_cells⟩ ⟨q1, q2, q3, q4⟩
  try dsimp only
  try dsimp only at q1 q2 q3 q4
  exact ⟨⟨(by exact T), (by exact TB), (by exact R), (by exact S), (by exact H), (by exact I), (by rw [q2, q3]; split; (intro j a b; rw [z_up_a, z_up_a]; split; omega; exact L j a b); exact L), (by intro j a b; rw [q4 j a b]; split; decide; exact C j a b), (by exact TE)⟩, q1, q2, q3, q4⟩
set_option maxHeartbeats 2000000 in
theorem zX12_lay {i_p0_taped : Int} {v_p0_tape : Int → Int} {i_p0_seats : Int} {i_p0_stirs : Int} {v_p0_need : Int → Int} {v_p0_brings : Int → Int} {v_p0_st : Int → Int} {v_p0_isKept : Int → Int} {v_p0_lanes : Int → Int} {v_p0_sizes : Int → Int} {v_p0_cells : Int → Int} {i_p0_torn : Int} {x1 : Int} {x2 : Int} {x3 : Int} (h : InvK i_p0_taped v_p0_tape i_p0_seats i_p0_stirs v_p0_need v_p0_brings v_p0_st v_p0_isKept v_p0_lanes v_p0_sizes v_p0_cells i_p0_torn) (hx1 : -2147483648 ≤ x1 ∧ x1 < 2147483648) (hx2 : -2147483648 ≤ x2 ∧ x2 < 2147483648) (hx3 : -2147483648 ≤ x3 ∧ x3 < 2147483648) : wp (f_X12_lay v_p0_lanes v_p0_sizes v_p0_cells x1 x2 x3) (fun o => InvK i_p0_taped v_p0_tape i_p0_seats i_p0_stirs v_p0_need v_p0_brings v_p0_st v_p0_isKept v_p0_lanes v_p0_sizes o.2 i_p0_torn ∧ (¬ (0 ≤ x1 ∧ x1 < 4) → o.1 = -1) ∧ ((0 ≤ x1 ∧ x1 < 4) → o.1 = if v_p0_lanes x1 = -4 then -11 else if 0 ≤ x2 ∧ x2 < v_p0_sizes x1 then 1 else -12) ∧ (o.2 = if (0 ≤ x1 ∧ x1 < 4) ∧ ¬ v_p0_lanes x1 = -4 ∧ 0 ≤ x2 ∧ x2 < v_p0_sizes x1 then z_up v_p0_cells (40 * x1 + x2) (if v_p0_lanes x1 = 0 then z_i2b x3 else if v_p0_lanes x1 = 1 then z_i2s x3 else x3) else v_p0_cells)) := by
  obtain ⟨T, TB, R, S, H, I, L, C, TE⟩ := id h
  obtain ⟨R1, R2, R3, R4⟩ := id R
  have S1 := okM_1 S
  have S5 := okM_p S
  have S6 := okM_e S
  have L0 := L 0 (by omega) (by omega)
  refine wp_mono (s_X12_lay _ _ _ _ _ _ (by first | assumption | omega) (by first | assumption | omega) (by first | assumption | omega) (by first | assumption | omega) (by first | assumption | omega) (by first | assumption | omega) (by first | assumption | omega)) ?_
  rintro ⟨r, o_v_p0_cells⟩ ⟨q1, q2, q3⟩
  try dsimp only
  try dsimp only at q1 q2 q3
  exact ⟨⟨(by exact T), (by exact TB), (by exact R), (by exact S), (by exact H), (by exact I), (by exact L), (by rw [q3]; split; (intro j a b; rw [z_up_a]; split; exact lay_r hx3; exact C j a b); exact C), (by exact TE)⟩, q1, q2, q3⟩
set_option maxHeartbeats 2000000 in
theorem zX12_read {i_p0_taped : Int} {v_p0_tape : Int → Int} {i_p0_seats : Int} {i_p0_stirs : Int} {v_p0_need : Int → Int} {v_p0_brings : Int → Int} {v_p0_st : Int → Int} {v_p0_isKept : Int → Int} {v_p0_lanes : Int → Int} {v_p0_sizes : Int → Int} {v_p0_cells : Int → Int} {i_p0_torn : Int} {v_p0_places : Int → Int} {v_p0_stirred : Int → Int} {x1 : Int} {x2 : Int} {x3 : Int} {x4 : Int} (h : InvK i_p0_taped v_p0_tape i_p0_seats i_p0_stirs v_p0_need v_p0_brings v_p0_st v_p0_isKept v_p0_lanes v_p0_sizes v_p0_cells i_p0_torn) (hx1 : -2147483648 ≤ x1 ∧ x1 < 2147483648) (hx2 : -2147483648 ≤ x2 ∧ x2 < 2147483648) (hx3 : -2147483648 ≤ x3 ∧ x3 < 2147483648) (hx4 : -2147483648 ≤ x4 ∧ x4 < 2147483648) : wp (f_X12_read i_p0_seats i_p0_stirs i_p0_torn v_p0_st v_p0_brings v_p0_places v_p0_stirred v_p0_lanes v_p0_sizes v_p0_cells x1 x2 x3 x4) (fun o => InvK i_p0_taped v_p0_tape i_p0_seats i_p0_stirs v_p0_need v_p0_brings o.2.2.1 v_p0_isKept v_p0_lanes v_p0_sizes v_p0_cells o.2.1 ∧ (-40 ≤ o.1 ∧ o.1 ≤ 20) ∧ (0 ≤ o.2.1 ∧ o.2.1 ≤ 3) ∧ (okM i_p0_seats o.2.2.1) ∧ (∀ j, 38 ≤ j → j < 114 → o.2.2.1 j = v_p0_st j) ∧ (¬ (((0 ≤ x1 ∧ x1 < 4) ∧ (0 ≤ x2 ∧ x2 < 3)) ∧ 0 ≤ x4 ∧ x4 ≤ 20) → o.1 = -1 ∧ o.2.1 = i_p0_torn ∧ (∀ j, 0 ≤ j → j < 38 → o.2.2.1 j = v_p0_st j)) ∧ ((((0 ≤ x1 ∧ x1 < 4) ∧ (0 ≤ x2 ∧ x2 < 3)) ∧ 0 ≤ x4 ∧ x4 ≤ 20) → readM i_p0_seats i_p0_stirs v_p0_brings (v_p0_lanes x1) (v_p0_sizes x1) (fun j => v_p0_cells (40 * x1 + j)) x2 x3 x4 i_p0_torn v_p0_st o.1 o.2.1 o.2.2.1)) := by
  obtain ⟨T, TB, R, S, H, I, L, C, TE⟩ := id h
  obtain ⟨R1, R2, R3, R4⟩ := id R
  have S1 := okM_1 S
  have S5 := okM_p S
  have S6 := okM_e S
  have L0 := L 0 (by omega) (by omega)
  refine wp_mono (s_X12_read _ _ _ _ _ _ _ _ _ _ _ _ _ _ (by first | assumption | omega) (by first | assumption | omega) (by first | assumption | omega) (by first | assumption | omega) (by first | assumption | omega) (by first | assumption | omega) (by first | assumption | omega) (by first | assumption | omega) (by first | assumption | omega) (by first | assumption | omega) (by first | assumption | omega) (by first | assumption | omega) (by first | assumption | omega) (by first | assumption | omega) (by first | assumption | omega) (by first | assumption | omega) (by first | assumption | omega) (by first | assumption | omega)) ?_
  rintro ⟨r, o_i_p0_torn, o_v_p0_st, o_v_p0_places, o_v_p0_stirred⟩ ⟨q1, q2, q3, q4, q5, q6⟩
  try dsimp only
  try dsimp only at q1 q2 q3 q4 q5 q6
  exact ⟨⟨(by exact T), (by exact TB), (by exact R), (by exact q3), (by exact H), (by exact okI_far I (fun j a b => q4 j a b)), (by exact L), (by exact C), (by exact q2)⟩, q1, q2, q3, q4, q5, q6⟩
set_option maxHeartbeats 2000000 in
theorem zX12_torn {i_p0_taped : Int} {v_p0_tape : Int → Int} {i_p0_seats : Int} {i_p0_stirs : Int} {v_p0_need : Int → Int} {v_p0_brings : Int → Int} {v_p0_st : Int → Int} {v_p0_isKept : Int → Int} {v_p0_lanes : Int → Int} {v_p0_sizes : Int → Int} {v_p0_cells : Int → Int} {i_p0_torn : Int}  (h : InvK i_p0_taped v_p0_tape i_p0_seats i_p0_stirs v_p0_need v_p0_brings v_p0_st v_p0_isKept v_p0_lanes v_p0_sizes v_p0_cells i_p0_torn)  : wp (f_X12_torn i_p0_torn) (fun o => InvK i_p0_taped v_p0_tape i_p0_seats i_p0_stirs v_p0_need v_p0_brings v_p0_st v_p0_isKept v_p0_lanes v_p0_sizes v_p0_cells i_p0_torn ∧ (o = i_p0_torn)) := by
  obtain ⟨T, TB, R, S, H, I, L, C, TE⟩ := id h
  obtain ⟨R1, R2, R3, R4⟩ := id R
  have S1 := okM_1 S
  have S5 := okM_p S
  have S6 := okM_e S
  have L0 := L 0 (by omega) (by omega)
  refine wp_mono (s_X12_torn _ ) ?_
  rintro r q1
  try dsimp only
  try dsimp only at q1
  exact ⟨h, q1⟩
set_option maxHeartbeats 2000000 in
theorem zX12_count {i_p0_taped : Int} {v_p0_tape : Int → Int} {i_p0_seats : Int} {i_p0_stirs : Int} {v_p0_need : Int → Int} {v_p0_brings : Int → Int} {v_p0_st : Int → Int} {v_p0_isKept : Int → Int} {v_p0_lanes : Int → Int} {v_p0_sizes : Int → Int} {v_p0_cells : Int → Int} {i_p0_torn : Int} {x1 : Int} (h : InvK i_p0_taped v_p0_tape i_p0_seats i_p0_stirs v_p0_need v_p0_brings v_p0_st v_p0_isKept v_p0_lanes v_p0_sizes v_p0_cells i_p0_torn) (hx1 : -2147483648 ≤ x1 ∧ x1 < 2147483648) : wp (f_X12_count i_p0_seats i_p0_taped v_p0_st v_p0_isKept v_p0_lanes v_p0_sizes x1) (fun o => InvK i_p0_taped v_p0_tape i_p0_seats i_p0_stirs v_p0_need v_p0_brings v_p0_st v_p0_isKept v_p0_lanes v_p0_sizes v_p0_cells i_p0_torn ∧ (o = if x1 = 0 then v_p0_st 31 else if x1 = 1 then v_p0_isKept 0 + v_p0_isKept 1 else if x1 = 2 then i_p0_taped else if x1 = 3 then (if v_p0_lanes 0 = -4 then -4 else v_p0_sizes 0) else if x1 = 4 then sumTo v_p0_st i_p0_seats.toNat else -1)) := by
  obtain ⟨T, TB, R, S, H, I, L, C, TE⟩ := id h
  obtain ⟨R1, R2, R3, R4⟩ := id R
  have S1 := okM_1 S
  have S5 := okM_p S
  have S6 := okM_e S
  have L0 := L 0 (by omega) (by omega)
  refine wp_mono (s_X12_count _ _ _ _ _ _ _ (by first | assumption | omega) (by first | assumption | omega) (by first | assumption | omega) (by first | assumption | omega) (by first | assumption | omega) (by first | assumption | omega) (by first | assumption | omega) (by first | assumption | omega)) ?_
  rintro r q1
  try dsimp only
  try dsimp only at q1
  exact ⟨h, q1⟩
