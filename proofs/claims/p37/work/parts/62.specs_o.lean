theorem lkd_d {fl so v x1 x2 frm wa r fl2 wa2 : Int} (h1 : r = if fl = 0 ∧ so = 2 ∧ x1 ≤ v ∧ v ≤ x2 then v else 0) (h2 : fl2 = if ¬ fl = 0 then fl else if ¬ so = 2 then 2 else if x1 ≤ v ∧ v ≤ x2 then 0 else 3) (h3 : wa2 = if fl = 0 ∧ ¬ (fl = 0 ∧ so = 2 ∧ x1 ≤ v ∧ v ≤ x2) then frm else wa) :
    (fl = 0 ∧ so = 2 ∧ x1 ≤ v ∧ v ≤ x2 ∧ r = v ∧ fl2 = 0 ∧ wa2 = wa) ∨ (r = 0 ∧ ¬ fl2 = 0 ∧ ((¬ fl = 0 ∧ fl2 = fl ∧ wa2 = wa) ∨ (fl = 0 ∧ wa2 = frm ∧ (fl2 = 2 ∨ fl2 = 3)))) := by
  by_cases c : fl = 0
  · by_cases d : so = 2
    · by_cases e : x1 ≤ v ∧ v ≤ x2
      · rw [if_pos ⟨c, d, e⟩] at h1
        rw [if_neg (by omega), if_neg (by omega), if_pos e] at h2
        rw [if_neg (by omega)] at h3
        left; exact ⟨c, d, e.1, e.2, h1, h2, h3⟩
      · rw [if_neg (by omega)] at h1
        rw [if_neg (by omega), if_neg (by omega), if_neg e] at h2
        rw [if_pos (by omega)] at h3
        right; omega
    · rw [if_neg (by omega)] at h1
      rw [if_neg (by omega), if_pos d] at h2
      rw [if_pos (by omega)] at h3
      right; omega
  · rw [if_neg (by omega)] at h1
    rw [if_pos c] at h2
    rw [if_neg (by omega)] at h3
    right; omega
theorem tokI_fl {L pos frm so v fl wa fl2 wa2 : Int} (h : tokI L pos frm so v fl wa) (h1 : 0 ≤ fl2 ∧ fl2 ≤ 6) (h2 : ¬ fl2 = 0 → 0 ≤ wa2 ∧ wa2 ≤ L) : tokI L pos frm so v fl2 wa2 := by
  obtain ⟨i1, i2, i3, i4, i5, i6, i7⟩ := h
  exact ⟨i1, i2, i3, h1, h2, i6, i7⟩
theorem rdr_up {n s g g2 : Int} {need kind fst snd : Int → Int} {bone king : Int} {pieces friends spoons : Int → Int} (h : rdr n s g need kind fst snd bone king pieces friends spoons) (hg : g ≤ g2) (hg2 : g2 ≤ 6) : rdr n s g2 need kind fst snd bone king pieces friends spoons := by
  obtain ⟨r1, r2, r3, r4, r5, r6, r7, r8, r9, r10⟩ := h
  exact ⟨r1, r2, by omega, by omega, by omega, r6, r7, r8, r9, fun r a b => okSt_mono (by omega) (r10 r a b)⟩
theorem rrdr_h {n s h h2 : Int} {need dst dr : Int → Int} (q : rrdr n s h need dst dr) (hh : h ≤ h2) (h6 : h2 ≤ 6) : rrdr n s h2 need dst dr := rdr_up q (by omega) (by omega)
theorem rrdr_n {n m s h : Int} {need dst dr : Int → Int} (q : rrdr n s h need dst dr) (h1 : 2 ≤ m ∧ m ≤ 7) : rrdr m s h need dst dr := ⟨h1, q.2⟩
theorem rrdr_b {n s h x : Int} {need dst dr : Int → Int} (q : rrdr n s h need dst dr) (h0 : 0 ≤ x) (h1 : x ≤ max h 0) : rrdr n s h need dst (z_up dr 7 x) := by
  obtain ⟨r1, r2, r3, r4, r5, r6, r7, r8, r9, r10⟩ := q
  refine ⟨r1, r2, r3, by rw [z_up_s]; omega, by rw [z_up_n _ _ (by omega)]; exact r5, r6, fun j a b => ?_, fun j a b => ?_, fun j a b => ?_, r10⟩
  · rw [z_up_n _ _ (by omega)]; exact r7 j a b
  · dsimp only; rw [z_up_n _ _ (by omega)]; exact r8 j a b
  · dsimp only; rw [z_up_n _ _ (by omega)]; exact r9 j a b
theorem rrdr_k {n s h x : Int} {need dst dr : Int → Int} (q : rrdr n s h need dst dr) (h0 : 0 ≤ x) (h1 : x ≤ max h 0) : rrdr n s h need dst (z_up dr 8 x) := by
  obtain ⟨r1, r2, r3, r4, r5, r6, r7, r8, r9, r10⟩ := q
  refine ⟨r1, r2, r3, by rw [z_up_n _ _ (by omega)]; exact r4, by rw [z_up_s]; omega, r6, fun j a b => ?_, fun j a b => ?_, fun j a b => ?_, r10⟩
  · rw [z_up_n _ _ (by omega)]; exact r7 j a b
  · dsimp only; rw [z_up_n _ _ (by omega)]; exact r8 j a b
  · dsimp only; rw [z_up_n _ _ (by omega)]; exact r9 j a b
theorem rrdr_sp {n s h p x : Int} {need dst dr : Int → Int} (q : rrdr n s h need dst dr) (hp0 : 0 ≤ p) (hp : p ≤ 6) (h0 : 1 ≤ x) (h1 : x ≤ 9) : rrdr n s h need dst (z_up dr (16 + p) x) := by
  obtain ⟨r1, r2, r3, r4, r5, r6, r7, r8, r9, r10⟩ := q
  refine ⟨r1, r2, r3, by rw [z_up_n _ _ (by omega)]; exact r4, by rw [z_up_n _ _ (by omega)]; exact r5, r6, fun j a b => ?_, fun j a b => ?_, fun j a b => ?_, r10⟩
  · rw [z_up_n _ _ (by omega)]; exact r7 j a b
  · dsimp only; rw [z_up_a]; split
    · omega
    · exact r8 j a b
  · dsimp only; rw [z_up_n _ _ (by omega)]; exact r9 j a b
theorem rrdr_fr {n s h p x : Int} {need dst dr : Int → Int} (q : rrdr n s h need dst dr) (hp0 : 0 ≤ p) (hp : p ≤ 6) (h0 : 0 ≤ x) (h1 : x < 128) : rrdr n s h need dst (z_up dr (9 + p) x) := by
  obtain ⟨r1, r2, r3, r4, r5, r6, r7, r8, r9, r10⟩ := q
  refine ⟨r1, r2, r3, by rw [z_up_n _ _ (by omega)]; exact r4, by rw [z_up_n _ _ (by omega)]; exact r5, r6, fun j a b => ?_, fun j a b => ?_, fun j a b => ?_, r10⟩
  · rw [z_up_n _ _ (by omega)]; exact r7 j a b
  · dsimp only; rw [z_up_n _ _ (by omega)]; exact r8 j a b
  · dsimp only; rw [z_up_a]; split
    · omega
    · exact r9 j a b
theorem rrdr_nd {n s h p x : Int} {need dst dr : Int → Int} (q : rrdr n s h need dst dr) (h0 : 0 ≤ x) (h1 : x ≤ 9) : rrdr n s h (z_up need p x) dst dr := by
  obtain ⟨r1, r2, r3, r4, r5, r6, r7, r8, r9, r10⟩ := q
  refine ⟨r1, r2, r3, r4, r5, fun j a b => ?_, r7, r8, r9, r10⟩
  rw [z_up_a]; split
  · omega
  · exact r6 j a b
theorem rrdr_pt {n s h : Int} {need dst dr dr2 : Int → Int} (q : rrdr n s h need dst dr) (h1 : ∀ j, 0 ≤ j → j < 7 → 0 ≤ dr2 j ∧ dr2 j ≤ 9) (h2 : ∀ j, 7 ≤ j → dr2 j = dr j) : rrdr n s h need dst dr2 := by
  obtain ⟨r1, r2, r3, r4, r5, r6, r7, r8, r9, r10⟩ := q
  refine ⟨r1, r2, r3, by rw [h2 _ (by omega)]; exact r4, by rw [h2 _ (by omega)]; exact r5, r6, h1, fun j a b => ?_, fun j a b => ?_, r10⟩
  · dsimp only; rw [h2 _ (by omega)]; exact r8 j a b
  · dsimp only; rw [h2 _ (by omega)]; exact r9 j a b
theorem rrdr_st {n s h : Int} {need dst dst2 dr : Int → Int} (q : rrdr n s h need dst dr) (hs : s < 5) (h1 : okSt (max h 0 + 1) (7 + dst2 (3 * s)) (dst2 (3 * s + 1)) (dst2 (3 * s + 2))) (h2 : ∀ j, j < 3 * s → dst2 j = dst j) : rrdr n (s + 1) h need dst2 dr := by
  obtain ⟨r1, r2, r3, r4, r5, r6, r7, r8, r9, r10⟩ := q
  refine ⟨r1, by omega, r3, r4, r5, r6, r7, r8, r9, fun r a b => ?_⟩
  dsimp only
  by_cases e : r = s
  · subst e; exact h1
  · rw [h2 _ (by omega), h2 _ (by omega), h2 _ (by omega)]
    exact r10 r a (by omega)
set_option maxHeartbeats 1000000 in
theorem s_X12_readNumber (i_p0_taped : Int) (i_p0_pos : Int) (i_p0_from : Int) (i_p0_sort : Int) (i_p0_value : Int) (i_p0_fault : Int) (i_p0_wrongAt : Int) (v_p0_tape : (Int → Int)) (x1 : Int) (x2 : Int) (B : Int → Int) (P : Int) (h1 : 0 ≤ i_p0_taped) (h2 : i_p0_taped ≤ 320) (h3 : ∀ j, 0 ≤ j → j < 320 → 0 ≤ v_p0_tape j ∧ v_p0_tape j ≤ 255) (h4 : tokI i_p0_taped i_p0_pos i_p0_from i_p0_sort i_p0_value i_p0_fault i_p0_wrongAt) (h5 : 0 ≤ x1) (h6 : x1 ≤ 9) (h7 : 0 ≤ x2) (h8 : x2 ≤ 9) (h9 : bR B v_p0_tape i_p0_taped) (h10 : i_p0_fault = 0 → cur B i_p0_taped P i_p0_pos i_p0_from i_p0_sort i_p0_value) : wp (f_X12_readNumber i_p0_taped i_p0_pos i_p0_from i_p0_sort i_p0_value i_p0_fault i_p0_wrongAt v_p0_tape x1 x2) (fun o => (tokI i_p0_taped o.2.1 o.2.2.1 o.2.2.2.1 o.2.2.2.2.1 o.2.2.2.2.2.1 o.2.2.2.2.2.2) ∧ (i_p0_from ≤ o.2.2.1) ∧ (0 ≤ o.1 ∧ o.1 ≤ 9) ∧ (o.2.2.2.2.2.1 = 0 → (x1 ≤ o.1 ∧ o.1 ≤ x2) ∧ i_p0_fault = 0 ∧ i_p0_pos ≤ o.2.2.1) ∧ (rdE B i_p0_taped P x1 x2 True i_p0_fault i_p0_wrongAt o.1 o.2.1 o.2.2.1 o.2.2.2.1 o.2.2.2.2.1 o.2.2.2.2.2.1 o.2.2.2.2.2.2)) := by
  unfold f_X12_readNumber
  refine wp_bd3 (s_X12_looked _ _ _ _ _ _ _ i_p0_taped i_p0_pos (by exact h4) /- pre X12_looked.1#1 -/ (by omega) /- pre X12_looked.2#1 -/ (by omega) /- pre X12_looked.3#1 -/ (by omega) /- pre X12_looked.4#1 -/ (by omega) /- pre X12_looked.5#1 -/) (fun z1 z2 z3 q_X12_looked_1 => ?_)
  try dsimp only at q_X12_looked_1
  obtain ⟨q_X12_looked_1_1, q_X12_looked_1_2, q_X12_looked_1_3⟩ := q_X12_looked_1
  have hlp := lkd_p q_X12_looked_1_1 q_X12_looked_1_2 q_X12_looked_1_3
  have hlk := lkd_d q_X12_looked_1_1 q_X12_looked_1_2 q_X12_looked_1_3
  clear q_X12_looked_1_1 q_X12_looked_1_2 q_X12_looked_1_3
  have i1 := h4.1
  have i3 := h4.2.2.1
  have i4 := h4.2.2.2.1
  have i5 := h4.2.2.2.2.1
  have hti : tokI i_p0_taped i_p0_pos i_p0_from i_p0_sort i_p0_value z2 z3 := tokI_fl h4 (by omega) (by omega)
  refine wp_bnd ?_
  refine wp_bd6 (s_X12_nextToken _ _ _ _ _ _ _ _ (by omega) /- pre X12_nextToken.1#1 -/ (by omega) /- pre X12_nextToken.2#1 -/ (by omega) /- pre X12_nextToken.3#1 -/ (by omega) /- pre X12_nextToken.4#1 -/ (by exact h3) /- pre X12_nextToken.5#1 -/ (by omega) /- pre X12_nextToken.6#1 -/ (by omega) /- pre X12_nextToken.7#1 -/) (fun z5 z6 z7 z8 z9 z10 q_X12_nextToken_1 => ?_)
  try dsimp only at q_X12_nextToken_1
  obtain ⟨q_X12_nextToken_1_1, q_X12_nextToken_1_2⟩ := q_X12_nextToken_1
  have hns := nt_st h9 (by omega) q_X12_nextToken_1_1 q_X12_nextToken_1_2
  obtain ⟨n1, n2, n3, n4⟩ := tokI_next h3 h2 hti q_X12_nextToken_1_1 q_X12_nextToken_1_2
  clear q_X12_nextToken_1_1 q_X12_nextToken_1_2
  refine wp_some ?_
  try dsimp only
  all_goals exact ⟨(by exact n1) /- post1#1 -/, (by omega) /- post2#1 -/, (by omega) /- post3#1 -/, (by omega) /- post4#1 -/, (by exact rdE_lk h10 hlp hns) /- post5#1 -/⟩

set_option maxHeartbeats 1000000 in
theorem s_X12_lookedPlace (i_p0_highest : Int) (i_p0_from : Int) (i_p0_sort : Int) (i_p0_value : Int) (i_p0_fault : Int) (i_p0_wrongAt : Int) (i_p0_taped i_p0_pos : Int) (h1 : tokI i_p0_taped i_p0_pos i_p0_from i_p0_sort i_p0_value i_p0_fault i_p0_wrongAt) (h2 : -4 ≤ i_p0_highest) (h3 : i_p0_highest ≤ 6) : wp (f_X12_lookedPlace i_p0_highest i_p0_from i_p0_sort i_p0_value i_p0_fault i_p0_wrongAt) (fun o => ((i_p0_fault = 0 ∧ i_p0_sort = 2 ∧ 0 ≤ i_p0_value ∧ i_p0_value ≤ 6 ∧ o.1 = i_p0_value ∧ o.2.2.1 = 0 ∧ o.2.2.2 = i_p0_wrongAt) ∨ (o.1 = 0 ∧ ¬ o.2.2.1 = 0 ∧ ((¬ i_p0_fault = 0 ∧ o.2.2.1 = i_p0_fault ∧ o.2.2.2 = i_p0_wrongAt) ∨ (i_p0_fault = 0 ∧ o.2.2.2 = i_p0_from ∧ (o.2.2.1 = 2 ∨ o.2.2.1 = 3))))) ∧ (o.2.1 = max i_p0_highest o.1) ∧ (tokI i_p0_taped i_p0_pos i_p0_from i_p0_sort i_p0_value o.2.2.1 o.2.2.2) ∧ (lkP i_p0_sort i_p0_value i_p0_from 0 6 i_p0_fault i_p0_wrongAt o.1 o.2.2.1 o.2.2.2)) := by
  unfold f_X12_lookedPlace
  refine wp_bd3 (s_X12_looked _ _ _ _ _ _ _ i_p0_taped i_p0_pos (by exact h1) /- pre X12_looked.1#1 -/ (by omega) /- pre X12_looked.2#1 -/ (by omega) /- pre X12_looked.3#1 -/ (by omega) /- pre X12_looked.4#1 -/ (by omega) /- pre X12_looked.5#1 -/) (fun z1 z2 z3 q_X12_looked_1 => ?_)
  try dsimp only at q_X12_looked_1
  obtain ⟨q_X12_looked_1_1, q_X12_looked_1_2, q_X12_looked_1_3⟩ := q_X12_looked_1
  have hlp := lkd_p q_X12_looked_1_1 q_X12_looked_1_2 q_X12_looked_1_3
  have hlk := lkd_d q_X12_looked_1_1 q_X12_looked_1_2 q_X12_looked_1_3
  clear q_X12_looked_1_1 q_X12_looked_1_2 q_X12_looked_1_3
  have i1 := h1.1
  have i3 := h1.2.2.1
  have i4 := h1.2.2.2.1
  have i5 := h1.2.2.2.2.1
  refine wp_bnd ?_
  refine wp_ck (z_r32_i.mpr ⟨(by omega) /- z_r32.lo z4#1 -/, (by omega) /- z_r32.hi z4#1 -/⟩) ?_
  refine wp_ck (z_r32_i.mpr ⟨(by omega) /- z_r32.lo i_p0_highest#1 -/, (by omega) /- z_r32.hi i_p0_highest#1 -/⟩) ?_
  refine wp_if (fun c1 => ?_) (fun c1 => ?_)
  ·
    refine wp_bnd ?_
    refine wp_some ?_
    try dsimp only
    all_goals exact ⟨(by exact hlk) /- post1#1 -/, (by omega) /- post2#1 -/, (by exact tokI_fl h1 (by omega) (by omega)) /- post3#1 -/, (by exact hlp) /- post4#1 -/⟩
  ·
    refine wp_bnd ?_
    refine wp_some ?_
    try dsimp only
    all_goals exact ⟨(by exact hlk) /- post1#2 -/, (by omega) /- post2#2 -/, (by exact tokI_fl h1 (by omega) (by omega)) /- post3#2 -/, (by exact hlp) /- post4#2 -/⟩

set_option maxHeartbeats 1000000 in
theorem s_X12_readPlace (i_p0_highest : Int) (i_p0_taped : Int) (i_p0_pos : Int) (i_p0_from : Int) (i_p0_sort : Int) (i_p0_value : Int) (i_p0_fault : Int) (i_p0_wrongAt : Int) (v_p0_tape : (Int → Int)) (B : Int → Int) (P : Int) (h1 : 0 ≤ i_p0_taped) (h2 : i_p0_taped ≤ 320) (h3 : ∀ j, 0 ≤ j → j < 320 → 0 ≤ v_p0_tape j ∧ v_p0_tape j ≤ 255) (h4 : tokI i_p0_taped i_p0_pos i_p0_from i_p0_sort i_p0_value i_p0_fault i_p0_wrongAt) (h5 : -4 ≤ i_p0_highest) (h6 : i_p0_highest ≤ 6) (h7 : bR B v_p0_tape i_p0_taped) (h8 : i_p0_fault = 0 → cur B i_p0_taped P i_p0_pos i_p0_from i_p0_sort i_p0_value) : wp (f_X12_readPlace i_p0_highest i_p0_taped i_p0_pos i_p0_from i_p0_sort i_p0_value i_p0_fault i_p0_wrongAt v_p0_tape) (fun o => (tokI i_p0_taped o.2.2.1 o.2.2.2.1 o.2.2.2.2.1 o.2.2.2.2.2.1 o.2.2.2.2.2.2.1 o.2.2.2.2.2.2.2) ∧ (i_p0_from ≤ o.2.2.2.1) ∧ (0 ≤ o.1 ∧ o.1 ≤ 6) ∧ (o.2.1 = max i_p0_highest o.1) ∧ (o.2.2.2.2.2.2.1 = 0 → i_p0_fault = 0 ∧ i_p0_pos ≤ o.2.2.2.1) ∧ (rdE B i_p0_taped P 0 6 True i_p0_fault i_p0_wrongAt o.1 o.2.2.1 o.2.2.2.1 o.2.2.2.2.1 o.2.2.2.2.2.1 o.2.2.2.2.2.2.1 o.2.2.2.2.2.2.2)) := by
  unfold f_X12_readPlace
  refine wp_bd4 (s_X12_lookedPlace _ _ _ _ _ _ i_p0_taped i_p0_pos (by exact h4) /- pre X12_lookedPlace.1#1 -/ (by omega) /- pre X12_lookedPlace.2#1 -/ (by omega) /- pre X12_lookedPlace.3#1 -/) (fun z1 z2 z3 z4 q_X12_lookedPlace_1 => ?_)
  try dsimp only at q_X12_lookedPlace_1
  obtain ⟨q_X12_lookedPlace_1_1, q_X12_lookedPlace_1_2, q_X12_lookedPlace_1_3, q_X12_lookedPlace_1_4⟩ := q_X12_lookedPlace_1
  have i1 := h4.1
  have i4 := q_X12_lookedPlace_1_3.2.2.2.1
  refine wp_bnd ?_
  refine wp_bd6 (s_X12_nextToken _ _ _ _ _ _ _ _ (by omega) /- pre X12_nextToken.1#1 -/ (by omega) /- pre X12_nextToken.2#1 -/ (by omega) /- pre X12_nextToken.3#1 -/ (by omega) /- pre X12_nextToken.4#1 -/ (by exact h3) /- pre X12_nextToken.5#1 -/ (by omega) /- pre X12_nextToken.6#1 -/ (by omega) /- pre X12_nextToken.7#1 -/) (fun z6 z7 z8 z9 z10 z11 q_X12_nextToken_1 => ?_)
  try dsimp only at q_X12_nextToken_1
  obtain ⟨q_X12_nextToken_1_1, q_X12_nextToken_1_2⟩ := q_X12_nextToken_1
  have hns := nt_st h7 (by omega) q_X12_nextToken_1_1 q_X12_nextToken_1_2
  obtain ⟨n1, n2, n3, n4⟩ := tokI_next h3 h2 q_X12_lookedPlace_1_3 q_X12_nextToken_1_1 q_X12_nextToken_1_2
  clear q_X12_nextToken_1_1 q_X12_nextToken_1_2
  refine wp_some ?_
  try dsimp only
  all_goals exact ⟨(by exact n1) /- post1#1 -/, (by omega) /- post2#1 -/, (by omega) /- post3#1 -/, (by omega) /- post4#1 -/, (by omega) /- post5#1 -/, (by exact rdE_lk h8 q_X12_lookedPlace_1_4 hns) /- post6#1 -/⟩

set_option maxHeartbeats 4000000 in
theorem s_X12_readPot (i_p0_highest : Int) (i_p0_taped : Int) (i_p0_pos : Int) (i_p0_from : Int) (i_p0_sort : Int) (i_p0_value : Int) (i_p0_fault : Int) (i_p0_wrongAt : Int) (v_p0_draft : (Int → Int)) (v_p0_tape : (Int → Int)) (B : Int → Int) (P : Int) (D : Int → Int) (h1 : 0 ≤ i_p0_taped) (h2 : i_p0_taped ≤ 320) (h3 : ∀ j, 0 ≤ j → j < 320 → 0 ≤ v_p0_tape j ∧ v_p0_tape j ≤ 255) (h4 : tokI i_p0_taped i_p0_pos i_p0_from i_p0_sort i_p0_value i_p0_fault i_p0_wrongAt) (h5 : -4 ≤ i_p0_highest) (h6 : i_p0_highest ≤ 6) (h7 : ∀ j, 0 ≤ j → j < 7 → 0 ≤ v_p0_draft j ∧ v_p0_draft j ≤ 9) (h8 : bR B v_p0_tape i_p0_taped) (h9 : i_p0_fault = 0) (h10 : cur B i_p0_taped P i_p0_pos i_p0_from i_p0_sort i_p0_value) : wp (f_X12_readPot i_p0_highest i_p0_taped i_p0_pos i_p0_from i_p0_sort i_p0_value i_p0_fault i_p0_wrongAt v_p0_draft v_p0_tape) (fun o => (tokI i_p0_taped o.2.1 o.2.2.1 o.2.2.2.1 o.2.2.2.2.1 o.2.2.2.2.2.1 o.2.2.2.2.2.2.1) ∧ (i_p0_from ≤ o.2.2.1) ∧ (i_p0_highest ≤ o.1 ∧ o.1 ≤ 6) ∧ (∀ j, 0 ≤ j → j < 7 → 0 ≤ o.2.2.2.2.2.2.2 j ∧ o.2.2.2.2.2.2.2 j ≤ 9) ∧ (∀ j, 7 ≤ j → o.2.2.2.2.2.2.2 j = v_p0_draft j) ∧ (Hid (∃ c, (0 ≤ c ∧ c ≤ 7) ∧ RQ B i_p0_taped P 1 D c o.2.1 o.2.2.1 o.2.2.2.1 o.2.2.2.2.1 o.2.2.2.2.2.1 o.2.2.2.2.2.2.1 ∧ (o.2.2.2.2.2.1 = 0 → 1 ≤ c ∧ ¬ o.2.2.2.1 = 2 ∧ (∀ j, 0 ≤ j → j < c → o.2.2.2.2.2.2.2 j = tV B i_p0_taped (PP B i_p0_taped P j)) ∧ (∀ j, c ≤ j → o.2.2.2.2.2.2.2 j = v_p0_draft j) ∧ o.1 = max i_p0_highest (c - 1))))) := by
  unfold f_X12_readPot
  refine wp_bnd ?_
  refine wp_bnd ?_
  refine wp_lq10 (fun (z3 : Int) (z4 : Int) (z5 : Int) (z6 : Int) (z7 : Int) (z8 : Int) (z9 : Int) (z10 : Int) (z11 : Int) (w12 : (Int → Int)) => (z3 = 0 ∨ z3 = 1) ∧ (0 ≤ z4) ∧ (z4 ≤ 7) ∧ (i_p0_highest ≤ z5) ∧ (z5 ≤ 6) ∧ (tokI i_p0_taped z6 z7 z8 z9 z10 z11) ∧ (i_p0_from ≤ z7) ∧ (∀ j, 0 ≤ j → j < 7 → 0 ≤ w12 j ∧ w12 j ≤ 9) ∧ (∀ j, 7 ≤ j → w12 j = v_p0_draft j) ∧ (RQ B i_p0_taped P 1 D z4 z6 z7 z8 z9 z10 z11) ∧ (Hid (z10 = 0 → (z3 = 1 → z4 = 0 ∨ z8 = 2) ∧ (z3 = 0 → ¬ z8 = 2 ∧ 1 ≤ z4))) ∧ (Hid (z10 = 0 → (∀ j, 0 ≤ j → j < z4 → w12 j = tV B i_p0_taped (PP B i_p0_taped P j)) ∧ (∀ j, z4 ≤ j → w12 j = v_p0_draft j))) ∧ (Hid (z10 = 0 → z5 = if z4 = 0 then i_p0_highest else max i_p0_highest (z4 - 1)))) (fun (z3 : Int) (z4 : Int) (z5 : Int) (z6 : Int) (z7 : Int) (z8 : Int) (z9 : Int) (z10 : Int) (z11 : Int) (w12 : (Int → Int)) => if z10 = 0 then (i_p0_taped - z7 + 1).toNat else 0) (fun again4 z3 z4 z5 z6 z7 z8 z9 z10 z11 w12 hI ih_B_X12_readPot_4 => ?_) 1000 _ _ _ _ _ _ _ _ _ _ ⟨(by omega) /- B_X12_readPot_4.init1#1 -/, (by omega) /- B_X12_readPot_4.init2#1 -/, (by omega) /- B_X12_readPot_4.init3#1 -/, (by omega) /- B_X12_readPot_4.init4#1 -/, (by omega) /- B_X12_readPot_4.init5#1 -/, (by exact h4) /- B_X12_readPot_4.init6#1 -/, (by omega) /- B_X12_readPot_4.init7#1 -/, (by exact h7) /- B_X12_readPot_4.init8#1 -/, (by intro j _; rfl) /- B_X12_readPot_4.init9#1 -/, (by exact Or.inl ⟨h9, fun j a b => by omega, h10⟩) /- B_X12_readPot_4.init10#1 -/, (by unfold Hid; intro _; omega) /- B_X12_readPot_4.init11#1 -/, (by unfold Hid; intro _; exact ⟨fun j a b => by omega, fun j _ => rfl⟩) /- B_X12_readPot_4.init12#1 -/, (by unfold Hid; intro _; rw [if_pos rfl]) /- B_X12_readPot_4.init13#1 -/⟩ (by have q0 := h4.1; split <;> omega) /- B_X12_readPot_4.fuel#1 -/
  obtain ⟨i_B_X12_readPot_4_1, i_B_X12_readPot_4_2, i_B_X12_readPot_4_3, i_B_X12_readPot_4_4, i_B_X12_readPot_4_5, i_B_X12_readPot_4_6, i_B_X12_readPot_4_7, i_B_X12_readPot_4_8, i_B_X12_readPot_4_9, i_B_X12_readPot_4_10, i_B_X12_readPot_4_11, i_B_X12_readPot_4_12, i_B_X12_readPot_4_13⟩ := hI
  unfold B_X12_readPot_4
  have i1 := i_B_X12_readPot_4_6.1
  have i2 := i_B_X12_readPot_4_6.2.1
  have i3 := i_B_X12_readPot_4_6.2.2.1
  have i4 := i_B_X12_readPot_4_6.2.2.2.1
  have i5 := i_B_X12_readPot_4_6.2.2.2.2.1
  have i6 := i_B_X12_readPot_4_6.2.2.2.2.2.1
  refine wp_ck (z_r32_i.mpr ⟨(by omega) /- z_r32.lo z10#1 -/, (by omega) /- z_r32.hi z10#1 -/⟩) ?_
  refine wp_if (fun c1 => ?_) (fun c1 => ?_)
  ·
    refine wp_ck (z_r32_i.mpr ⟨(by omega) /- z_r32.lo z3#1 -/, (by omega) /- z_r32.hi z3#1 -/⟩) ?_
    refine wp_if (fun c2 => ?_) (fun c2 => ?_)
    ·
      refine wp_some ?_
      try dsimp only
      all_goals exact ⟨(by exact i_B_X12_readPot_4_6) /- post1#1 -/, (by omega) /- post2#1 -/, (by omega) /- post3#1 -/, (by exact i_B_X12_readPot_4_8) /- post4#1 -/, (by exact i_B_X12_readPot_4_9) /- post5#1 -/, (by unfold Hid; exact ⟨z4, by omega, i_B_X12_readPot_4_10, fun e => ⟨by have := (hid i_B_X12_readPot_4_11 e).2; omega, by have := (hid i_B_X12_readPot_4_11 e).2; omega, (hid i_B_X12_readPot_4_12 e).1, (hid i_B_X12_readPot_4_12 e).2, by have q := (hid i_B_X12_readPot_4_11 e).2 (by omega); have w := hid i_B_X12_readPot_4_13 e; rw [if_neg (by omega)] at w; exact w⟩⟩) /- post6#1 -/⟩
    ·
      refine wp_ck (z_r32_i.mpr ⟨(by omega) /- z_r32.lo z4#1 -/, (by omega) /- z_r32.hi z4#1 -/⟩) ?_
      refine wp_jn ?_
      refine wp_jn ?_
      refine wp_if (fun c3 => ?_) (fun c3 => ?_)
      ·
        refine wp_bd2 (s_X12_needs _ _ _ _ _ (by omega) /- pre X12_needs.1#1 -/ (by omega) /- pre X12_needs.2#1 -/ (by omega) /- pre X12_needs.3#1 -/) (fun z19 z20 q_X12_needs_1 => ?_)
        try dsimp only at q_X12_needs_1
        obtain ⟨q_X12_needs_1_1, q_X12_needs_1_2⟩ := q_X12_needs_1
        have htn : tokI i_p0_taped z6 z7 z8 z9 z19 z20 := tokI_fl i_B_X12_readPot_4_6 (by split at q_X12_needs_1_1 <;> omega) (by split at q_X12_needs_1_1 <;> split at q_X12_needs_1_2 <;> omega)
        refine wp_bd3 (s_X12_looked _ _ _ _ _ _ _ i_p0_taped z6 (by exact htn) /- pre X12_looked.1#1 -/ (by omega) /- pre X12_looked.2#1 -/ (by omega) /- pre X12_looked.3#1 -/ (by omega) /- pre X12_looked.4#1 -/ (by omega) /- pre X12_looked.5#1 -/) (fun z21 z22 z23 q_X12_looked_1 => ?_)
        try dsimp only at q_X12_looked_1
        obtain ⟨q_X12_looked_1_1, q_X12_looked_1_2, q_X12_looked_1_3⟩ := q_X12_looked_1
        have hlp := lkd_p q_X12_looked_1_1 q_X12_looked_1_2 q_X12_looked_1_3
        have hlk := lkd_d q_X12_looked_1_1 q_X12_looked_1_2 q_X12_looked_1_3
        clear q_X12_looked_1_1 q_X12_looked_1_2 q_X12_looked_1_3
        have hnd : (z19 = 0 ∧ z20 = z11) ∨ (¬ z19 = 0 ∧ z20 = z7 ∧ z19 = 5) := by split at q_X12_needs_1_1 <;> split at q_X12_needs_1_2 <;> omega
        have hn7 : Hid ((z19 = 0 ∧ (z4 < 7 ∨ ¬ z8 = 2)) ∨ (¬ z19 = 0 ∧ z20 = z7 ∧ ¬ z4 < 7)) := by unfold Hid; split at q_X12_needs_1_1 <;> split at q_X12_needs_1_2 <;> omega
        have h47 : z19 = 0 → z8 = 2 → z4 < 7 := by intro a b; split at q_X12_needs_1_1 <;> omega
        clear q_X12_needs_1_1 q_X12_needs_1_2
        have hti : tokI i_p0_taped z6 z7 z8 z9 z22 z23 := tokI_fl i_B_X12_readPot_4_6 (by omega) (by omega)
        refine wp_bnd ?_
        refine wp_ck (z_r32_i.mpr ⟨(by omega) /- z_r32.lo z22#1 -/, (by omega) /- z_r32.hi z22#1 -/⟩) ?_
        refine wp_jn ?_
        refine wp_if (fun c4 => ?_) (fun c4 => ?_)
        ·
          refine wp_ck (z_ix_i.mpr ⟨⟨(by omega) /- ix.lo z4#1 -/, (by omega) /- ix.hi z4#1 -/⟩, (by omega) /- ix.big z4#1 -/⟩) ?_
          refine wp_bnd ?_
          refine wp_ck (z_r32_i.mpr ⟨(by omega) /- z_r32.lo z5#1 -/, (by omega) /- z_r32.hi z5#1 -/⟩) ?_
          refine wp_if (fun c5 => ?_) (fun c5 => ?_)
          ·
            refine wp_bnd ?_
            refine wp_bndE (fun z42 hz42 => ?_)
            refine wp_bd6 (s_X12_nextToken _ _ _ _ _ _ _ _ (by omega) /- pre X12_nextToken.1#1 -/ (by omega) /- pre X12_nextToken.2#1 -/ (by omega) /- pre X12_nextToken.3#1 -/ (by omega) /- pre X12_nextToken.4#1 -/ (by exact h3) /- pre X12_nextToken.5#1 -/ (by omega) /- pre X12_nextToken.6#1 -/ (by omega) /- pre X12_nextToken.7#1 -/) (fun z30 z31 z32 z33 z34 z35 q_X12_nextToken_1 => ?_)
            try dsimp only at q_X12_nextToken_1
            obtain ⟨q_X12_nextToken_1_1, q_X12_nextToken_1_2⟩ := q_X12_nextToken_1
            have hns := nt_st h8 (by omega) q_X12_nextToken_1_1 q_X12_nextToken_1_2
            have hps := pot_step (by omega) (by omega) i_B_X12_readPot_4_10 (by assumption) (by have := (hid i_B_X12_readPot_4_11 (by assumption)).1; omega) (hid hn7) hlp hns
            have hps1 := hps.1 (by assumption)
            clear hps hns hlp hn7
            obtain ⟨n1, n2, n3, n4⟩ := tokI_next h3 h2 hti q_X12_nextToken_1_1 q_X12_nextToken_1_2
            clear q_X12_nextToken_1_1 q_X12_nextToken_1_2
            have m2 := n1.2.1
            have m1 := n1.1
            refine wp_ck (z_r32_i.mpr ⟨(by omega) /- z_r32.lo z32#1 -/, (by omega) /- z_r32.hi z32#1 -/⟩) ?_
            refine wp_if (fun c6 => ?_) (fun c6 => ?_)
            ·
              refine wp_bnd ?_
              exact ih_B_X12_readPot_4 _ _ _ _ _ _ _ _ _ _ ⟨(by omega) /- B_X12_readPot_4.inv1#1 -/, (by omega) /- B_X12_readPot_4.inv2#1 -/, (by omega) /- B_X12_readPot_4.inv3#1 -/, (by omega) /- B_X12_readPot_4.inv4#1 -/, (by omega) /- B_X12_readPot_4.inv5#1 -/, (by exact n1) /- B_X12_readPot_4.inv6#1 -/, (by omega) /- B_X12_readPot_4.inv7#1 -/, (by first | exact i_B_X12_readPot_4_8 | (intro j a b; rw [z_up_a]; split; omega; exact i_B_X12_readPot_4_8 j a b)) /- B_X12_readPot_4.inv8#1 -/, (by first | exact i_B_X12_readPot_4_9 | (intro j a; rw [z_up_n _ _ (by omega)]; exact i_B_X12_readPot_4_9 j a)) /- B_X12_readPot_4.inv9#1 -/, (by rw [hz42]; exact hps1.1) /- B_X12_readPot_4.inv10#1 -/, (by unfold Hid; intro _; omega) /- B_X12_readPot_4.inv11#1 -/, (by 
                                        unfold Hid
                                        intro _
                                        have w := hid i_B_X12_readPot_4_12 (by assumption)
                                        refine ⟨fun j a b => ?_, fun j a => ?_⟩
                                        · by_cases e : j = z4
                                          · rw [e, z_up_s]; exact hps1.2
                                          · rw [z_up_n _ _ e]; exact w.1 j a (by omega)
                                        · rw [z_up_n _ _ (by omega)]; exact w.2 j (by omega)) /- B_X12_readPot_4.inv12#1 -/, (by unfold Hid; intro _; have w := hid i_B_X12_readPot_4_13 (by assumption); rw [if_neg (by omega)]; split at w <;> omega) /- B_X12_readPot_4.inv13#1 -/⟩ (by rw [if_pos (show z10 = 0 by assumption)]; split <;> omega) /- B_X12_readPot_4.dec#1 -/
            ·
              refine wp_bnd ?_
              exact ih_B_X12_readPot_4 _ _ _ _ _ _ _ _ _ _ ⟨(by omega) /- B_X12_readPot_4.inv1#2 -/, (by omega) /- B_X12_readPot_4.inv2#2 -/, (by omega) /- B_X12_readPot_4.inv3#2 -/, (by omega) /- B_X12_readPot_4.inv4#2 -/, (by omega) /- B_X12_readPot_4.inv5#2 -/, (by exact n1) /- B_X12_readPot_4.inv6#2 -/, (by omega) /- B_X12_readPot_4.inv7#2 -/, (by first | exact i_B_X12_readPot_4_8 | (intro j a b; rw [z_up_a]; split; omega; exact i_B_X12_readPot_4_8 j a b)) /- B_X12_readPot_4.inv8#2 -/, (by first | exact i_B_X12_readPot_4_9 | (intro j a; rw [z_up_n _ _ (by omega)]; exact i_B_X12_readPot_4_9 j a)) /- B_X12_readPot_4.inv9#2 -/, (by rw [hz42]; exact hps1.1) /- B_X12_readPot_4.inv10#2 -/, (by unfold Hid; intro _; omega) /- B_X12_readPot_4.inv11#2 -/, (by 
                                        unfold Hid
                                        intro _
                                        have w := hid i_B_X12_readPot_4_12 (by assumption)
                                        refine ⟨fun j a b => ?_, fun j a => ?_⟩
                                        · by_cases e : j = z4
                                          · rw [e, z_up_s]; exact hps1.2
                                          · rw [z_up_n _ _ e]; exact w.1 j a (by omega)
                                        · rw [z_up_n _ _ (by omega)]; exact w.2 j (by omega)) /- B_X12_readPot_4.inv12#2 -/, (by unfold Hid; intro _; have w := hid i_B_X12_readPot_4_13 (by assumption); rw [if_neg (by omega)]; split at w <;> omega) /- B_X12_readPot_4.inv13#2 -/⟩ (by rw [if_pos (show z10 = 0 by assumption)]; split <;> omega) /- B_X12_readPot_4.dec#2 -/
          ·
            refine wp_bnd ?_
            refine wp_bndE (fun z44 hz44 => ?_)
            refine wp_bd6 (s_X12_nextToken _ _ _ _ _ _ _ _ (by omega) /- pre X12_nextToken.1#2 -/ (by omega) /- pre X12_nextToken.2#2 -/ (by omega) /- pre X12_nextToken.3#2 -/ (by omega) /- pre X12_nextToken.4#2 -/ (by exact h3) /- pre X12_nextToken.5#2 -/ (by omega) /- pre X12_nextToken.6#2 -/ (by omega) /- pre X12_nextToken.7#2 -/) (fun z30 z31 z32 z33 z34 z35 q_X12_nextToken_2 => ?_)
            try dsimp only at q_X12_nextToken_2
            obtain ⟨q_X12_nextToken_2_1, q_X12_nextToken_2_2⟩ := q_X12_nextToken_2
            have hns := nt_st h8 (by omega) q_X12_nextToken_2_1 q_X12_nextToken_2_2
            have hps := pot_step (by omega) (by omega) i_B_X12_readPot_4_10 (by assumption) (by have := (hid i_B_X12_readPot_4_11 (by assumption)).1; omega) (hid hn7) hlp hns
            have hps1 := hps.1 (by assumption)
            clear hps hns hlp hn7
            obtain ⟨n1, n2, n3, n4⟩ := tokI_next h3 h2 hti q_X12_nextToken_2_1 q_X12_nextToken_2_2
            clear q_X12_nextToken_2_1 q_X12_nextToken_2_2
            have m2 := n1.2.1
            have m1 := n1.1
            refine wp_ck (z_r32_i.mpr ⟨(by omega) /- z_r32.lo z32#2 -/, (by omega) /- z_r32.hi z32#2 -/⟩) ?_
            refine wp_if (fun c7 => ?_) (fun c7 => ?_)
            ·
              refine wp_bnd ?_
              exact ih_B_X12_readPot_4 _ _ _ _ _ _ _ _ _ _ ⟨(by omega) /- B_X12_readPot_4.inv1#3 -/, (by omega) /- B_X12_readPot_4.inv2#3 -/, (by omega) /- B_X12_readPot_4.inv3#3 -/, (by omega) /- B_X12_readPot_4.inv4#3 -/, (by omega) /- B_X12_readPot_4.inv5#3 -/, (by exact n1) /- B_X12_readPot_4.inv6#3 -/, (by omega) /- B_X12_readPot_4.inv7#3 -/, (by first | exact i_B_X12_readPot_4_8 | (intro j a b; rw [z_up_a]; split; omega; exact i_B_X12_readPot_4_8 j a b)) /- B_X12_readPot_4.inv8#3 -/, (by first | exact i_B_X12_readPot_4_9 | (intro j a; rw [z_up_n _ _ (by omega)]; exact i_B_X12_readPot_4_9 j a)) /- B_X12_readPot_4.inv9#3 -/, (by rw [hz44]; exact hps1.1) /- B_X12_readPot_4.inv10#3 -/, (by unfold Hid; intro _; omega) /- B_X12_readPot_4.inv11#3 -/, (by 
                                        unfold Hid
                                        intro _
                                        have w := hid i_B_X12_readPot_4_12 (by assumption)
                                        refine ⟨fun j a b => ?_, fun j a => ?_⟩
                                        · by_cases e : j = z4
                                          · rw [e, z_up_s]; exact hps1.2
                                          · rw [z_up_n _ _ e]; exact w.1 j a (by omega)
                                        · rw [z_up_n _ _ (by omega)]; exact w.2 j (by omega)) /- B_X12_readPot_4.inv12#3 -/, (by unfold Hid; intro _; have w := hid i_B_X12_readPot_4_13 (by assumption); rw [if_neg (by omega)]; split at w <;> omega) /- B_X12_readPot_4.inv13#3 -/⟩ (by rw [if_pos (show z10 = 0 by assumption)]; split <;> omega) /- B_X12_readPot_4.dec#3 -/
            ·
              refine wp_bnd ?_
              exact ih_B_X12_readPot_4 _ _ _ _ _ _ _ _ _ _ ⟨(by omega) /- B_X12_readPot_4.inv1#4 -/, (by omega) /- B_X12_readPot_4.inv2#4 -/, (by omega) /- B_X12_readPot_4.inv3#4 -/, (by omega) /- B_X12_readPot_4.inv4#4 -/, (by omega) /- B_X12_readPot_4.inv5#4 -/, (by exact n1) /- B_X12_readPot_4.inv6#4 -/, (by omega) /- B_X12_readPot_4.inv7#4 -/, (by first | exact i_B_X12_readPot_4_8 | (intro j a b; rw [z_up_a]; split; omega; exact i_B_X12_readPot_4_8 j a b)) /- B_X12_readPot_4.inv8#4 -/, (by first | exact i_B_X12_readPot_4_9 | (intro j a; rw [z_up_n _ _ (by omega)]; exact i_B_X12_readPot_4_9 j a)) /- B_X12_readPot_4.inv9#4 -/, (by rw [hz44]; exact hps1.1) /- B_X12_readPot_4.inv10#4 -/, (by unfold Hid; intro _; omega) /- B_X12_readPot_4.inv11#4 -/, (by 
                                        unfold Hid
                                        intro _
                                        have w := hid i_B_X12_readPot_4_12 (by assumption)
                                        refine ⟨fun j a b => ?_, fun j a => ?_⟩
                                        · by_cases e : j = z4
                                          · rw [e, z_up_s]; exact hps1.2
                                          · rw [z_up_n _ _ e]; exact w.1 j a (by omega)
                                        · rw [z_up_n _ _ (by omega)]; exact w.2 j (by omega)) /- B_X12_readPot_4.inv12#4 -/, (by unfold Hid; intro _; have w := hid i_B_X12_readPot_4_13 (by assumption); rw [if_neg (by omega)]; split at w <;> omega) /- B_X12_readPot_4.inv13#4 -/⟩ (by rw [if_pos (show z10 = 0 by assumption)]; split <;> omega) /- B_X12_readPot_4.dec#4 -/
        ·
          refine wp_bd6 (s_X12_nextToken _ _ _ _ _ _ _ _ (by omega) /- pre X12_nextToken.1#3 -/ (by omega) /- pre X12_nextToken.2#3 -/ (by omega) /- pre X12_nextToken.3#3 -/ (by omega) /- pre X12_nextToken.4#3 -/ (by exact h3) /- pre X12_nextToken.5#3 -/ (by omega) /- pre X12_nextToken.6#3 -/ (by omega) /- pre X12_nextToken.7#3 -/) (fun z30 z31 z32 z33 z34 z35 q_X12_nextToken_3 => ?_)
          try dsimp only at q_X12_nextToken_3
          obtain ⟨q_X12_nextToken_3_1, q_X12_nextToken_3_2⟩ := q_X12_nextToken_3
          have hns := nt_st h8 (by omega) q_X12_nextToken_3_1 q_X12_nextToken_3_2
          have hps := pot_step (by omega) (by omega) i_B_X12_readPot_4_10 (by assumption) (by have := (hid i_B_X12_readPot_4_11 (by assumption)).1; omega) (hid hn7) hlp hns
          have hps2 := hps.2 (by assumption)
          have hz34 := hps2.1
          clear hps hns hlp hn7
          obtain ⟨n1, n2, n3, n4⟩ := tokI_next h3 h2 hti q_X12_nextToken_3_1 q_X12_nextToken_3_2
          clear q_X12_nextToken_3_1 q_X12_nextToken_3_2
          have m2 := n1.2.1
          have m1 := n1.1
          refine wp_ck (z_r32_i.mpr ⟨(by omega) /- z_r32.lo z32#3 -/, (by omega) /- z_r32.hi z32#3 -/⟩) ?_
          refine wp_if (fun c8 => ?_) (fun c8 => ?_)
          ·
            refine wp_bnd ?_
            exact ih_B_X12_readPot_4 _ _ _ _ _ _ _ _ _ _ ⟨(by omega) /- B_X12_readPot_4.inv1#5 -/, (by omega) /- B_X12_readPot_4.inv2#5 -/, (by omega) /- B_X12_readPot_4.inv3#5 -/, (by omega) /- B_X12_readPot_4.inv4#5 -/, (by omega) /- B_X12_readPot_4.inv5#5 -/, (by exact n1) /- B_X12_readPot_4.inv6#5 -/, (by omega) /- B_X12_readPot_4.inv7#5 -/, (by first | exact i_B_X12_readPot_4_8 | (intro j a b; rw [z_up_a]; split; omega; exact i_B_X12_readPot_4_8 j a b)) /- B_X12_readPot_4.inv8#5 -/, (by first | exact i_B_X12_readPot_4_9 | (intro j a; rw [z_up_n _ _ (by omega)]; exact i_B_X12_readPot_4_9 j a)) /- B_X12_readPot_4.inv9#5 -/, (by exact hps2.2) /- B_X12_readPot_4.inv10#5 -/, (by unfold Hid; intro e; exact absurd e hz34) /- B_X12_readPot_4.inv11#5 -/, (by unfold Hid; intro e; exact absurd e hz34) /- B_X12_readPot_4.inv12#5 -/, (by unfold Hid; intro e; exact absurd e hz34) /- B_X12_readPot_4.inv13#5 -/⟩ (by rw [if_pos (show z10 = 0 by assumption)]; split <;> omega) /- B_X12_readPot_4.dec#5 -/
          ·
            refine wp_bnd ?_
            exact ih_B_X12_readPot_4 _ _ _ _ _ _ _ _ _ _ ⟨(by omega) /- B_X12_readPot_4.inv1#6 -/, (by omega) /- B_X12_readPot_4.inv2#6 -/, (by omega) /- B_X12_readPot_4.inv3#6 -/, (by omega) /- B_X12_readPot_4.inv4#6 -/, (by omega) /- B_X12_readPot_4.inv5#6 -/, (by exact n1) /- B_X12_readPot_4.inv6#6 -/, (by omega) /- B_X12_readPot_4.inv7#6 -/, (by first | exact i_B_X12_readPot_4_8 | (intro j a b; rw [z_up_a]; split; omega; exact i_B_X12_readPot_4_8 j a b)) /- B_X12_readPot_4.inv8#6 -/, (by first | exact i_B_X12_readPot_4_9 | (intro j a; rw [z_up_n _ _ (by omega)]; exact i_B_X12_readPot_4_9 j a)) /- B_X12_readPot_4.inv9#6 -/, (by exact hps2.2) /- B_X12_readPot_4.inv10#6 -/, (by unfold Hid; intro e; exact absurd e hz34) /- B_X12_readPot_4.inv11#6 -/, (by unfold Hid; intro e; exact absurd e hz34) /- B_X12_readPot_4.inv12#6 -/, (by unfold Hid; intro e; exact absurd e hz34) /- B_X12_readPot_4.inv13#6 -/⟩ (by rw [if_pos (show z10 = 0 by assumption)]; split <;> omega) /- B_X12_readPot_4.dec#6 -/
      ·
        refine wp_ck (z_r32_i.mpr ⟨(by omega) /- z_r32.lo z8#1 -/, (by omega) /- z_r32.hi z8#1 -/⟩) ?_
        refine wp_if (fun c9 => ?_) (fun c9 => ?_)
        ·
          refine wp_bd2 (s_X12_needs _ _ _ _ _ (by omega) /- pre X12_needs.1#2 -/ (by omega) /- pre X12_needs.2#2 -/ (by omega) /- pre X12_needs.3#2 -/) (fun z19 z20 q_X12_needs_2 => ?_)
          try dsimp only at q_X12_needs_2
          obtain ⟨q_X12_needs_2_1, q_X12_needs_2_2⟩ := q_X12_needs_2
          have htn : tokI i_p0_taped z6 z7 z8 z9 z19 z20 := tokI_fl i_B_X12_readPot_4_6 (by split at q_X12_needs_2_1 <;> omega) (by split at q_X12_needs_2_1 <;> split at q_X12_needs_2_2 <;> omega)
          refine wp_bd3 (s_X12_looked _ _ _ _ _ _ _ i_p0_taped z6 (by exact htn) /- pre X12_looked.1#2 -/ (by omega) /- pre X12_looked.2#2 -/ (by omega) /- pre X12_looked.3#2 -/ (by omega) /- pre X12_looked.4#2 -/ (by omega) /- pre X12_looked.5#2 -/) (fun z21 z22 z23 q_X12_looked_2 => ?_)
          try dsimp only at q_X12_looked_2
          obtain ⟨q_X12_looked_2_1, q_X12_looked_2_2, q_X12_looked_2_3⟩ := q_X12_looked_2
          have hlp := lkd_p q_X12_looked_2_1 q_X12_looked_2_2 q_X12_looked_2_3
          have hlk := lkd_d q_X12_looked_2_1 q_X12_looked_2_2 q_X12_looked_2_3
          clear q_X12_looked_2_1 q_X12_looked_2_2 q_X12_looked_2_3
          have hnd : (z19 = 0 ∧ z20 = z11) ∨ (¬ z19 = 0 ∧ z20 = z7 ∧ z19 = 5) := by split at q_X12_needs_2_1 <;> split at q_X12_needs_2_2 <;> omega
          have hn7 : Hid ((z19 = 0 ∧ (z4 < 7 ∨ ¬ z8 = 2)) ∨ (¬ z19 = 0 ∧ z20 = z7 ∧ ¬ z4 < 7)) := by unfold Hid; split at q_X12_needs_2_1 <;> split at q_X12_needs_2_2 <;> omega
          have h47 : z19 = 0 → z8 = 2 → z4 < 7 := by intro a b; split at q_X12_needs_2_1 <;> omega
          clear q_X12_needs_2_1 q_X12_needs_2_2
          have hti : tokI i_p0_taped z6 z7 z8 z9 z22 z23 := tokI_fl i_B_X12_readPot_4_6 (by omega) (by omega)
          refine wp_bnd ?_
          refine wp_ck (z_r32_i.mpr ⟨(by omega) /- z_r32.lo z22#2 -/, (by omega) /- z_r32.hi z22#2 -/⟩) ?_
          refine wp_jn ?_
          refine wp_if (fun c10 => ?_) (fun c10 => ?_)
          ·
            refine wp_ck (z_ix_i.mpr ⟨⟨(by omega) /- ix.lo z4#2 -/, (by omega) /- ix.hi z4#2 -/⟩, (by omega) /- ix.big z4#2 -/⟩) ?_
            refine wp_bnd ?_
            refine wp_ck (z_r32_i.mpr ⟨(by omega) /- z_r32.lo z5#2 -/, (by omega) /- z_r32.hi z5#2 -/⟩) ?_
            refine wp_if (fun c11 => ?_) (fun c11 => ?_)
            ·
              refine wp_bnd ?_
              refine wp_bndE (fun z42 hz42 => ?_)
              refine wp_bd6 (s_X12_nextToken _ _ _ _ _ _ _ _ (by omega) /- pre X12_nextToken.1#4 -/ (by omega) /- pre X12_nextToken.2#4 -/ (by omega) /- pre X12_nextToken.3#4 -/ (by omega) /- pre X12_nextToken.4#4 -/ (by exact h3) /- pre X12_nextToken.5#4 -/ (by omega) /- pre X12_nextToken.6#4 -/ (by omega) /- pre X12_nextToken.7#4 -/) (fun z30 z31 z32 z33 z34 z35 q_X12_nextToken_4 => ?_)
              try dsimp only at q_X12_nextToken_4
              obtain ⟨q_X12_nextToken_4_1, q_X12_nextToken_4_2⟩ := q_X12_nextToken_4
              have hns := nt_st h8 (by omega) q_X12_nextToken_4_1 q_X12_nextToken_4_2
              have hps := pot_step (by omega) (by omega) i_B_X12_readPot_4_10 (by assumption) (by have := (hid i_B_X12_readPot_4_11 (by assumption)).1; omega) (hid hn7) hlp hns
              have hps1 := hps.1 (by assumption)
              clear hps hns hlp hn7
              obtain ⟨n1, n2, n3, n4⟩ := tokI_next h3 h2 hti q_X12_nextToken_4_1 q_X12_nextToken_4_2
              clear q_X12_nextToken_4_1 q_X12_nextToken_4_2
              have m2 := n1.2.1
              have m1 := n1.1
              refine wp_ck (z_r32_i.mpr ⟨(by omega) /- z_r32.lo z32#4 -/, (by omega) /- z_r32.hi z32#4 -/⟩) ?_
              refine wp_if (fun c12 => ?_) (fun c12 => ?_)
              ·
                refine wp_bnd ?_
                exact ih_B_X12_readPot_4 _ _ _ _ _ _ _ _ _ _ ⟨(by omega) /- B_X12_readPot_4.inv1#7 -/, (by omega) /- B_X12_readPot_4.inv2#7 -/, (by omega) /- B_X12_readPot_4.inv3#7 -/, (by omega) /- B_X12_readPot_4.inv4#7 -/, (by omega) /- B_X12_readPot_4.inv5#7 -/, (by exact n1) /- B_X12_readPot_4.inv6#7 -/, (by omega) /- B_X12_readPot_4.inv7#7 -/, (by first | exact i_B_X12_readPot_4_8 | (intro j a b; rw [z_up_a]; split; omega; exact i_B_X12_readPot_4_8 j a b)) /- B_X12_readPot_4.inv8#7 -/, (by first | exact i_B_X12_readPot_4_9 | (intro j a; rw [z_up_n _ _ (by omega)]; exact i_B_X12_readPot_4_9 j a)) /- B_X12_readPot_4.inv9#7 -/, (by rw [hz42]; exact hps1.1) /- B_X12_readPot_4.inv10#7 -/, (by unfold Hid; intro _; omega) /- B_X12_readPot_4.inv11#7 -/, (by 
                                        unfold Hid
                                        intro _
                                        have w := hid i_B_X12_readPot_4_12 (by assumption)
                                        refine ⟨fun j a b => ?_, fun j a => ?_⟩
                                        · by_cases e : j = z4
                                          · rw [e, z_up_s]; exact hps1.2
                                          · rw [z_up_n _ _ e]; exact w.1 j a (by omega)
                                        · rw [z_up_n _ _ (by omega)]; exact w.2 j (by omega)) /- B_X12_readPot_4.inv12#7 -/, (by unfold Hid; intro _; have w := hid i_B_X12_readPot_4_13 (by assumption); rw [if_neg (by omega)]; split at w <;> omega) /- B_X12_readPot_4.inv13#7 -/⟩ (by rw [if_pos (show z10 = 0 by assumption)]; split <;> omega) /- B_X12_readPot_4.dec#7 -/
              ·
                refine wp_bnd ?_
                exact ih_B_X12_readPot_4 _ _ _ _ _ _ _ _ _ _ ⟨(by omega) /- B_X12_readPot_4.inv1#8 -/, (by omega) /- B_X12_readPot_4.inv2#8 -/, (by omega) /- B_X12_readPot_4.inv3#8 -/, (by omega) /- B_X12_readPot_4.inv4#8 -/, (by omega) /- B_X12_readPot_4.inv5#8 -/, (by exact n1) /- B_X12_readPot_4.inv6#8 -/, (by omega) /- B_X12_readPot_4.inv7#8 -/, (by first | exact i_B_X12_readPot_4_8 | (intro j a b; rw [z_up_a]; split; omega; exact i_B_X12_readPot_4_8 j a b)) /- B_X12_readPot_4.inv8#8 -/, (by first | exact i_B_X12_readPot_4_9 | (intro j a; rw [z_up_n _ _ (by omega)]; exact i_B_X12_readPot_4_9 j a)) /- B_X12_readPot_4.inv9#8 -/, (by rw [hz42]; exact hps1.1) /- B_X12_readPot_4.inv10#8 -/, (by unfold Hid; intro _; omega) /- B_X12_readPot_4.inv11#8 -/, (by 
                                        unfold Hid
                                        intro _
                                        have w := hid i_B_X12_readPot_4_12 (by assumption)
                                        refine ⟨fun j a b => ?_, fun j a => ?_⟩
                                        · by_cases e : j = z4
                                          · rw [e, z_up_s]; exact hps1.2
                                          · rw [z_up_n _ _ e]; exact w.1 j a (by omega)
                                        · rw [z_up_n _ _ (by omega)]; exact w.2 j (by omega)) /- B_X12_readPot_4.inv12#8 -/, (by unfold Hid; intro _; have w := hid i_B_X12_readPot_4_13 (by assumption); rw [if_neg (by omega)]; split at w <;> omega) /- B_X12_readPot_4.inv13#8 -/⟩ (by rw [if_pos (show z10 = 0 by assumption)]; split <;> omega) /- B_X12_readPot_4.dec#8 -/
            ·
              refine wp_bnd ?_
              refine wp_bndE (fun z44 hz44 => ?_)
              refine wp_bd6 (s_X12_nextToken _ _ _ _ _ _ _ _ (by omega) /- pre X12_nextToken.1#5 -/ (by omega) /- pre X12_nextToken.2#5 -/ (by omega) /- pre X12_nextToken.3#5 -/ (by omega) /- pre X12_nextToken.4#5 -/ (by exact h3) /- pre X12_nextToken.5#5 -/ (by omega) /- pre X12_nextToken.6#5 -/ (by omega) /- pre X12_nextToken.7#5 -/) (fun z30 z31 z32 z33 z34 z35 q_X12_nextToken_5 => ?_)
              try dsimp only at q_X12_nextToken_5
              obtain ⟨q_X12_nextToken_5_1, q_X12_nextToken_5_2⟩ := q_X12_nextToken_5
              have hns := nt_st h8 (by omega) q_X12_nextToken_5_1 q_X12_nextToken_5_2
              have hps := pot_step (by omega) (by omega) i_B_X12_readPot_4_10 (by assumption) (by have := (hid i_B_X12_readPot_4_11 (by assumption)).1; omega) (hid hn7) hlp hns
              have hps1 := hps.1 (by assumption)
              clear hps hns hlp hn7
              obtain ⟨n1, n2, n3, n4⟩ := tokI_next h3 h2 hti q_X12_nextToken_5_1 q_X12_nextToken_5_2
              clear q_X12_nextToken_5_1 q_X12_nextToken_5_2
              have m2 := n1.2.1
              have m1 := n1.1
              refine wp_ck (z_r32_i.mpr ⟨(by omega) /- z_r32.lo z32#5 -/, (by omega) /- z_r32.hi z32#5 -/⟩) ?_
              refine wp_if (fun c13 => ?_) (fun c13 => ?_)
              ·
                refine wp_bnd ?_
                exact ih_B_X12_readPot_4 _ _ _ _ _ _ _ _ _ _ ⟨(by omega) /- B_X12_readPot_4.inv1#9 -/, (by omega) /- B_X12_readPot_4.inv2#9 -/, (by omega) /- B_X12_readPot_4.inv3#9 -/, (by omega) /- B_X12_readPot_4.inv4#9 -/, (by omega) /- B_X12_readPot_4.inv5#9 -/, (by exact n1) /- B_X12_readPot_4.inv6#9 -/, (by omega) /- B_X12_readPot_4.inv7#9 -/, (by first | exact i_B_X12_readPot_4_8 | (intro j a b; rw [z_up_a]; split; omega; exact i_B_X12_readPot_4_8 j a b)) /- B_X12_readPot_4.inv8#9 -/, (by first | exact i_B_X12_readPot_4_9 | (intro j a; rw [z_up_n _ _ (by omega)]; exact i_B_X12_readPot_4_9 j a)) /- B_X12_readPot_4.inv9#9 -/, (by rw [hz44]; exact hps1.1) /- B_X12_readPot_4.inv10#9 -/, (by unfold Hid; intro _; omega) /- B_X12_readPot_4.inv11#9 -/, (by 
                                        unfold Hid
                                        intro _
                                        have w := hid i_B_X12_readPot_4_12 (by assumption)
                                        refine ⟨fun j a b => ?_, fun j a => ?_⟩
                                        · by_cases e : j = z4
                                          · rw [e, z_up_s]; exact hps1.2
                                          · rw [z_up_n _ _ e]; exact w.1 j a (by omega)
                                        · rw [z_up_n _ _ (by omega)]; exact w.2 j (by omega)) /- B_X12_readPot_4.inv12#9 -/, (by unfold Hid; intro _; have w := hid i_B_X12_readPot_4_13 (by assumption); rw [if_neg (by omega)]; split at w <;> omega) /- B_X12_readPot_4.inv13#9 -/⟩ (by rw [if_pos (show z10 = 0 by assumption)]; split <;> omega) /- B_X12_readPot_4.dec#9 -/
              ·
                refine wp_bnd ?_
                exact ih_B_X12_readPot_4 _ _ _ _ _ _ _ _ _ _ ⟨(by omega) /- B_X12_readPot_4.inv1#10 -/, (by omega) /- B_X12_readPot_4.inv2#10 -/, (by omega) /- B_X12_readPot_4.inv3#10 -/, (by omega) /- B_X12_readPot_4.inv4#10 -/, (by omega) /- B_X12_readPot_4.inv5#10 -/, (by exact n1) /- B_X12_readPot_4.inv6#10 -/, (by omega) /- B_X12_readPot_4.inv7#10 -/, (by first | exact i_B_X12_readPot_4_8 | (intro j a b; rw [z_up_a]; split; omega; exact i_B_X12_readPot_4_8 j a b)) /- B_X12_readPot_4.inv8#10 -/, (by first | exact i_B_X12_readPot_4_9 | (intro j a; rw [z_up_n _ _ (by omega)]; exact i_B_X12_readPot_4_9 j a)) /- B_X12_readPot_4.inv9#10 -/, (by rw [hz44]; exact hps1.1) /- B_X12_readPot_4.inv10#10 -/, (by unfold Hid; intro _; omega) /- B_X12_readPot_4.inv11#10 -/, (by 
                                        unfold Hid
                                        intro _
                                        have w := hid i_B_X12_readPot_4_12 (by assumption)
                                        refine ⟨fun j a b => ?_, fun j a => ?_⟩
                                        · by_cases e : j = z4
                                          · rw [e, z_up_s]; exact hps1.2
                                          · rw [z_up_n _ _ e]; exact w.1 j a (by omega)
                                        · rw [z_up_n _ _ (by omega)]; exact w.2 j (by omega)) /- B_X12_readPot_4.inv12#10 -/, (by unfold Hid; intro _; have w := hid i_B_X12_readPot_4_13 (by assumption); rw [if_neg (by omega)]; split at w <;> omega) /- B_X12_readPot_4.inv13#10 -/⟩ (by rw [if_pos (show z10 = 0 by assumption)]; split <;> omega) /- B_X12_readPot_4.dec#10 -/
          ·
            refine wp_bd6 (s_X12_nextToken _ _ _ _ _ _ _ _ (by omega) /- pre X12_nextToken.1#6 -/ (by omega) /- pre X12_nextToken.2#6 -/ (by omega) /- pre X12_nextToken.3#6 -/ (by omega) /- pre X12_nextToken.4#6 -/ (by exact h3) /- pre X12_nextToken.5#6 -/ (by omega) /- pre X12_nextToken.6#6 -/ (by omega) /- pre X12_nextToken.7#6 -/) (fun z30 z31 z32 z33 z34 z35 q_X12_nextToken_6 => ?_)
            try dsimp only at q_X12_nextToken_6
            obtain ⟨q_X12_nextToken_6_1, q_X12_nextToken_6_2⟩ := q_X12_nextToken_6
            have hns := nt_st h8 (by omega) q_X12_nextToken_6_1 q_X12_nextToken_6_2
            have hps := pot_step (by omega) (by omega) i_B_X12_readPot_4_10 (by assumption) (by have := (hid i_B_X12_readPot_4_11 (by assumption)).1; omega) (hid hn7) hlp hns
            have hps2 := hps.2 (by assumption)
            have hz34 := hps2.1
            clear hps hns hlp hn7
            obtain ⟨n1, n2, n3, n4⟩ := tokI_next h3 h2 hti q_X12_nextToken_6_1 q_X12_nextToken_6_2
            clear q_X12_nextToken_6_1 q_X12_nextToken_6_2
            have m2 := n1.2.1
            have m1 := n1.1
            refine wp_ck (z_r32_i.mpr ⟨(by omega) /- z_r32.lo z32#6 -/, (by omega) /- z_r32.hi z32#6 -/⟩) ?_
            refine wp_if (fun c14 => ?_) (fun c14 => ?_)
            ·
              refine wp_bnd ?_
              exact ih_B_X12_readPot_4 _ _ _ _ _ _ _ _ _ _ ⟨(by omega) /- B_X12_readPot_4.inv1#11 -/, (by omega) /- B_X12_readPot_4.inv2#11 -/, (by omega) /- B_X12_readPot_4.inv3#11 -/, (by omega) /- B_X12_readPot_4.inv4#11 -/, (by omega) /- B_X12_readPot_4.inv5#11 -/, (by exact n1) /- B_X12_readPot_4.inv6#11 -/, (by omega) /- B_X12_readPot_4.inv7#11 -/, (by first | exact i_B_X12_readPot_4_8 | (intro j a b; rw [z_up_a]; split; omega; exact i_B_X12_readPot_4_8 j a b)) /- B_X12_readPot_4.inv8#11 -/, (by first | exact i_B_X12_readPot_4_9 | (intro j a; rw [z_up_n _ _ (by omega)]; exact i_B_X12_readPot_4_9 j a)) /- B_X12_readPot_4.inv9#11 -/, (by exact hps2.2) /- B_X12_readPot_4.inv10#11 -/, (by unfold Hid; intro e; exact absurd e hz34) /- B_X12_readPot_4.inv11#11 -/, (by unfold Hid; intro e; exact absurd e hz34) /- B_X12_readPot_4.inv12#11 -/, (by unfold Hid; intro e; exact absurd e hz34) /- B_X12_readPot_4.inv13#11 -/⟩ (by rw [if_pos (show z10 = 0 by assumption)]; split <;> omega) /- B_X12_readPot_4.dec#11 -/
            ·
              refine wp_bnd ?_
              exact ih_B_X12_readPot_4 _ _ _ _ _ _ _ _ _ _ ⟨(by omega) /- B_X12_readPot_4.inv1#12 -/, (by omega) /- B_X12_readPot_4.inv2#12 -/, (by omega) /- B_X12_readPot_4.inv3#12 -/, (by omega) /- B_X12_readPot_4.inv4#12 -/, (by omega) /- B_X12_readPot_4.inv5#12 -/, (by exact n1) /- B_X12_readPot_4.inv6#12 -/, (by omega) /- B_X12_readPot_4.inv7#12 -/, (by first | exact i_B_X12_readPot_4_8 | (intro j a b; rw [z_up_a]; split; omega; exact i_B_X12_readPot_4_8 j a b)) /- B_X12_readPot_4.inv8#12 -/, (by first | exact i_B_X12_readPot_4_9 | (intro j a; rw [z_up_n _ _ (by omega)]; exact i_B_X12_readPot_4_9 j a)) /- B_X12_readPot_4.inv9#12 -/, (by exact hps2.2) /- B_X12_readPot_4.inv10#12 -/, (by unfold Hid; intro e; exact absurd e hz34) /- B_X12_readPot_4.inv11#12 -/, (by unfold Hid; intro e; exact absurd e hz34) /- B_X12_readPot_4.inv12#12 -/, (by unfold Hid; intro e; exact absurd e hz34) /- B_X12_readPot_4.inv13#12 -/⟩ (by rw [if_pos (show z10 = 0 by assumption)]; split <;> omega) /- B_X12_readPot_4.dec#12 -/
        ·
          refine wp_bd2 (s_X12_needs _ _ _ _ _ (by omega) /- pre X12_needs.1#3 -/ (by omega) /- pre X12_needs.2#3 -/ (by omega) /- pre X12_needs.3#3 -/) (fun z19 z20 q_X12_needs_3 => ?_)
          try dsimp only at q_X12_needs_3
          obtain ⟨q_X12_needs_3_1, q_X12_needs_3_2⟩ := q_X12_needs_3
          have htn : tokI i_p0_taped z6 z7 z8 z9 z19 z20 := tokI_fl i_B_X12_readPot_4_6 (by split at q_X12_needs_3_1 <;> omega) (by split at q_X12_needs_3_1 <;> split at q_X12_needs_3_2 <;> omega)
          refine wp_bd3 (s_X12_looked _ _ _ _ _ _ _ i_p0_taped z6 (by exact htn) /- pre X12_looked.1#3 -/ (by omega) /- pre X12_looked.2#3 -/ (by omega) /- pre X12_looked.3#3 -/ (by omega) /- pre X12_looked.4#3 -/ (by omega) /- pre X12_looked.5#3 -/) (fun z21 z22 z23 q_X12_looked_3 => ?_)
          try dsimp only at q_X12_looked_3
          obtain ⟨q_X12_looked_3_1, q_X12_looked_3_2, q_X12_looked_3_3⟩ := q_X12_looked_3
          have hlp := lkd_p q_X12_looked_3_1 q_X12_looked_3_2 q_X12_looked_3_3
          have hlk := lkd_d q_X12_looked_3_1 q_X12_looked_3_2 q_X12_looked_3_3
          clear q_X12_looked_3_1 q_X12_looked_3_2 q_X12_looked_3_3
          have hnd : (z19 = 0 ∧ z20 = z11) ∨ (¬ z19 = 0 ∧ z20 = z7 ∧ z19 = 5) := by split at q_X12_needs_3_1 <;> split at q_X12_needs_3_2 <;> omega
          have hn7 : Hid ((z19 = 0 ∧ (z4 < 7 ∨ ¬ z8 = 2)) ∨ (¬ z19 = 0 ∧ z20 = z7 ∧ ¬ z4 < 7)) := by unfold Hid; split at q_X12_needs_3_1 <;> split at q_X12_needs_3_2 <;> omega
          have h47 : z19 = 0 → z8 = 2 → z4 < 7 := by intro a b; split at q_X12_needs_3_1 <;> omega
          clear q_X12_needs_3_1 q_X12_needs_3_2
          have hti : tokI i_p0_taped z6 z7 z8 z9 z22 z23 := tokI_fl i_B_X12_readPot_4_6 (by omega) (by omega)
          refine wp_bnd ?_
          refine wp_ck (z_r32_i.mpr ⟨(by omega) /- z_r32.lo z22#3 -/, (by omega) /- z_r32.hi z22#3 -/⟩) ?_
          refine wp_jn ?_
          refine wp_if (fun c15 => ?_) (fun c15 => ?_)
          ·
            refine wp_ck (z_ix_i.mpr ⟨⟨(by omega) /- ix.lo z4#3 -/, (by omega) /- ix.hi z4#3 -/⟩, (by omega) /- ix.big z4#3 -/⟩) ?_
            refine wp_bnd ?_
            refine wp_ck (z_r32_i.mpr ⟨(by omega) /- z_r32.lo z5#3 -/, (by omega) /- z_r32.hi z5#3 -/⟩) ?_
            refine wp_if (fun c16 => ?_) (fun c16 => ?_)
            ·
              refine wp_bnd ?_
              refine wp_bndE (fun z42 hz42 => ?_)
              refine wp_bd6 (s_X12_nextToken _ _ _ _ _ _ _ _ (by omega) /- pre X12_nextToken.1#7 -/ (by omega) /- pre X12_nextToken.2#7 -/ (by omega) /- pre X12_nextToken.3#7 -/ (by omega) /- pre X12_nextToken.4#7 -/ (by exact h3) /- pre X12_nextToken.5#7 -/ (by omega) /- pre X12_nextToken.6#7 -/ (by omega) /- pre X12_nextToken.7#7 -/) (fun z30 z31 z32 z33 z34 z35 q_X12_nextToken_7 => ?_)
              try dsimp only at q_X12_nextToken_7
              obtain ⟨q_X12_nextToken_7_1, q_X12_nextToken_7_2⟩ := q_X12_nextToken_7
              have hns := nt_st h8 (by omega) q_X12_nextToken_7_1 q_X12_nextToken_7_2
              have hps := pot_step (by omega) (by omega) i_B_X12_readPot_4_10 (by assumption) (by have := (hid i_B_X12_readPot_4_11 (by assumption)).1; omega) (hid hn7) hlp hns
              have hps1 := hps.1 (by assumption)
              clear hps hns hlp hn7
              obtain ⟨n1, n2, n3, n4⟩ := tokI_next h3 h2 hti q_X12_nextToken_7_1 q_X12_nextToken_7_2
              clear q_X12_nextToken_7_1 q_X12_nextToken_7_2
              have m2 := n1.2.1
              have m1 := n1.1
              refine wp_ck (z_r32_i.mpr ⟨(by omega) /- z_r32.lo z32#7 -/, (by omega) /- z_r32.hi z32#7 -/⟩) ?_
              refine wp_if (fun c17 => ?_) (fun c17 => ?_)
              ·
                refine wp_bnd ?_
                exact ih_B_X12_readPot_4 _ _ _ _ _ _ _ _ _ _ ⟨(by omega) /- B_X12_readPot_4.inv1#13 -/, (by omega) /- B_X12_readPot_4.inv2#13 -/, (by omega) /- B_X12_readPot_4.inv3#13 -/, (by omega) /- B_X12_readPot_4.inv4#13 -/, (by omega) /- B_X12_readPot_4.inv5#13 -/, (by exact n1) /- B_X12_readPot_4.inv6#13 -/, (by omega) /- B_X12_readPot_4.inv7#13 -/, (by first | exact i_B_X12_readPot_4_8 | (intro j a b; rw [z_up_a]; split; omega; exact i_B_X12_readPot_4_8 j a b)) /- B_X12_readPot_4.inv8#13 -/, (by first | exact i_B_X12_readPot_4_9 | (intro j a; rw [z_up_n _ _ (by omega)]; exact i_B_X12_readPot_4_9 j a)) /- B_X12_readPot_4.inv9#13 -/, (by rw [hz42]; exact hps1.1) /- B_X12_readPot_4.inv10#13 -/, (by unfold Hid; intro _; omega) /- B_X12_readPot_4.inv11#13 -/, (by 
                                        unfold Hid
                                        intro _
                                        have w := hid i_B_X12_readPot_4_12 (by assumption)
                                        refine ⟨fun j a b => ?_, fun j a => ?_⟩
                                        · by_cases e : j = z4
                                          · rw [e, z_up_s]; exact hps1.2
                                          · rw [z_up_n _ _ e]; exact w.1 j a (by omega)
                                        · rw [z_up_n _ _ (by omega)]; exact w.2 j (by omega)) /- B_X12_readPot_4.inv12#13 -/, (by unfold Hid; intro _; have w := hid i_B_X12_readPot_4_13 (by assumption); rw [if_neg (by omega)]; split at w <;> omega) /- B_X12_readPot_4.inv13#13 -/⟩ (by rw [if_pos (show z10 = 0 by assumption)]; split <;> omega) /- B_X12_readPot_4.dec#13 -/
              ·
                refine wp_bnd ?_
                exact ih_B_X12_readPot_4 _ _ _ _ _ _ _ _ _ _ ⟨(by omega) /- B_X12_readPot_4.inv1#14 -/, (by omega) /- B_X12_readPot_4.inv2#14 -/, (by omega) /- B_X12_readPot_4.inv3#14 -/, (by omega) /- B_X12_readPot_4.inv4#14 -/, (by omega) /- B_X12_readPot_4.inv5#14 -/, (by exact n1) /- B_X12_readPot_4.inv6#14 -/, (by omega) /- B_X12_readPot_4.inv7#14 -/, (by first | exact i_B_X12_readPot_4_8 | (intro j a b; rw [z_up_a]; split; omega; exact i_B_X12_readPot_4_8 j a b)) /- B_X12_readPot_4.inv8#14 -/, (by first | exact i_B_X12_readPot_4_9 | (intro j a; rw [z_up_n _ _ (by omega)]; exact i_B_X12_readPot_4_9 j a)) /- B_X12_readPot_4.inv9#14 -/, (by rw [hz42]; exact hps1.1) /- B_X12_readPot_4.inv10#14 -/, (by unfold Hid; intro _; omega) /- B_X12_readPot_4.inv11#14 -/, (by 
                                        unfold Hid
                                        intro _
                                        have w := hid i_B_X12_readPot_4_12 (by assumption)
                                        refine ⟨fun j a b => ?_, fun j a => ?_⟩
                                        · by_cases e : j = z4
                                          · rw [e, z_up_s]; exact hps1.2
                                          · rw [z_up_n _ _ e]; exact w.1 j a (by omega)
                                        · rw [z_up_n _ _ (by omega)]; exact w.2 j (by omega)) /- B_X12_readPot_4.inv12#14 -/, (by unfold Hid; intro _; have w := hid i_B_X12_readPot_4_13 (by assumption); rw [if_neg (by omega)]; split at w <;> omega) /- B_X12_readPot_4.inv13#14 -/⟩ (by rw [if_pos (show z10 = 0 by assumption)]; split <;> omega) /- B_X12_readPot_4.dec#14 -/
            ·
              refine wp_bnd ?_
              refine wp_bndE (fun z44 hz44 => ?_)
              refine wp_bd6 (s_X12_nextToken _ _ _ _ _ _ _ _ (by omega) /- pre X12_nextToken.1#8 -/ (by omega) /- pre X12_nextToken.2#8 -/ (by omega) /- pre X12_nextToken.3#8 -/ (by omega) /- pre X12_nextToken.4#8 -/ (by exact h3) /- pre X12_nextToken.5#8 -/ (by omega) /- pre X12_nextToken.6#8 -/ (by omega) /- pre X12_nextToken.7#8 -/) (fun z30 z31 z32 z33 z34 z35 q_X12_nextToken_8 => ?_)
              try dsimp only at q_X12_nextToken_8
              obtain ⟨q_X12_nextToken_8_1, q_X12_nextToken_8_2⟩ := q_X12_nextToken_8
              have hns := nt_st h8 (by omega) q_X12_nextToken_8_1 q_X12_nextToken_8_2
              have hps := pot_step (by omega) (by omega) i_B_X12_readPot_4_10 (by assumption) (by have := (hid i_B_X12_readPot_4_11 (by assumption)).1; omega) (hid hn7) hlp hns
              have hps1 := hps.1 (by assumption)
              clear hps hns hlp hn7
              obtain ⟨n1, n2, n3, n4⟩ := tokI_next h3 h2 hti q_X12_nextToken_8_1 q_X12_nextToken_8_2
              clear q_X12_nextToken_8_1 q_X12_nextToken_8_2
              have m2 := n1.2.1
              have m1 := n1.1
              refine wp_ck (z_r32_i.mpr ⟨(by omega) /- z_r32.lo z32#8 -/, (by omega) /- z_r32.hi z32#8 -/⟩) ?_
              refine wp_if (fun c18 => ?_) (fun c18 => ?_)
              ·
                refine wp_bnd ?_
                exact ih_B_X12_readPot_4 _ _ _ _ _ _ _ _ _ _ ⟨(by omega) /- B_X12_readPot_4.inv1#15 -/, (by omega) /- B_X12_readPot_4.inv2#15 -/, (by omega) /- B_X12_readPot_4.inv3#15 -/, (by omega) /- B_X12_readPot_4.inv4#15 -/, (by omega) /- B_X12_readPot_4.inv5#15 -/, (by exact n1) /- B_X12_readPot_4.inv6#15 -/, (by omega) /- B_X12_readPot_4.inv7#15 -/, (by first | exact i_B_X12_readPot_4_8 | (intro j a b; rw [z_up_a]; split; omega; exact i_B_X12_readPot_4_8 j a b)) /- B_X12_readPot_4.inv8#15 -/, (by first | exact i_B_X12_readPot_4_9 | (intro j a; rw [z_up_n _ _ (by omega)]; exact i_B_X12_readPot_4_9 j a)) /- B_X12_readPot_4.inv9#15 -/, (by rw [hz44]; exact hps1.1) /- B_X12_readPot_4.inv10#15 -/, (by unfold Hid; intro _; omega) /- B_X12_readPot_4.inv11#15 -/, (by 
                                        unfold Hid
                                        intro _
                                        have w := hid i_B_X12_readPot_4_12 (by assumption)
                                        refine ⟨fun j a b => ?_, fun j a => ?_⟩
                                        · by_cases e : j = z4
                                          · rw [e, z_up_s]; exact hps1.2
                                          · rw [z_up_n _ _ e]; exact w.1 j a (by omega)
                                        · rw [z_up_n _ _ (by omega)]; exact w.2 j (by omega)) /- B_X12_readPot_4.inv12#15 -/, (by unfold Hid; intro _; have w := hid i_B_X12_readPot_4_13 (by assumption); rw [if_neg (by omega)]; split at w <;> omega) /- B_X12_readPot_4.inv13#15 -/⟩ (by rw [if_pos (show z10 = 0 by assumption)]; split <;> omega) /- B_X12_readPot_4.dec#15 -/
              ·
                refine wp_bnd ?_
                exact ih_B_X12_readPot_4 _ _ _ _ _ _ _ _ _ _ ⟨(by omega) /- B_X12_readPot_4.inv1#16 -/, (by omega) /- B_X12_readPot_4.inv2#16 -/, (by omega) /- B_X12_readPot_4.inv3#16 -/, (by omega) /- B_X12_readPot_4.inv4#16 -/, (by omega) /- B_X12_readPot_4.inv5#16 -/, (by exact n1) /- B_X12_readPot_4.inv6#16 -/, (by omega) /- B_X12_readPot_4.inv7#16 -/, (by first | exact i_B_X12_readPot_4_8 | (intro j a b; rw [z_up_a]; split; omega; exact i_B_X12_readPot_4_8 j a b)) /- B_X12_readPot_4.inv8#16 -/, (by first | exact i_B_X12_readPot_4_9 | (intro j a; rw [z_up_n _ _ (by omega)]; exact i_B_X12_readPot_4_9 j a)) /- B_X12_readPot_4.inv9#16 -/, (by rw [hz44]; exact hps1.1) /- B_X12_readPot_4.inv10#16 -/, (by unfold Hid; intro _; omega) /- B_X12_readPot_4.inv11#16 -/, (by 
                                        unfold Hid
                                        intro _
                                        have w := hid i_B_X12_readPot_4_12 (by assumption)
                                        refine ⟨fun j a b => ?_, fun j a => ?_⟩
                                        · by_cases e : j = z4
                                          · rw [e, z_up_s]; exact hps1.2
                                          · rw [z_up_n _ _ e]; exact w.1 j a (by omega)
                                        · rw [z_up_n _ _ (by omega)]; exact w.2 j (by omega)) /- B_X12_readPot_4.inv12#16 -/, (by unfold Hid; intro _; have w := hid i_B_X12_readPot_4_13 (by assumption); rw [if_neg (by omega)]; split at w <;> omega) /- B_X12_readPot_4.inv13#16 -/⟩ (by rw [if_pos (show z10 = 0 by assumption)]; split <;> omega) /- B_X12_readPot_4.dec#16 -/
          ·
            refine wp_bd6 (s_X12_nextToken _ _ _ _ _ _ _ _ (by omega) /- pre X12_nextToken.1#9 -/ (by omega) /- pre X12_nextToken.2#9 -/ (by omega) /- pre X12_nextToken.3#9 -/ (by omega) /- pre X12_nextToken.4#9 -/ (by exact h3) /- pre X12_nextToken.5#9 -/ (by omega) /- pre X12_nextToken.6#9 -/ (by omega) /- pre X12_nextToken.7#9 -/) (fun z30 z31 z32 z33 z34 z35 q_X12_nextToken_9 => ?_)
            try dsimp only at q_X12_nextToken_9
            obtain ⟨q_X12_nextToken_9_1, q_X12_nextToken_9_2⟩ := q_X12_nextToken_9
            have hns := nt_st h8 (by omega) q_X12_nextToken_9_1 q_X12_nextToken_9_2
            have hps := pot_step (by omega) (by omega) i_B_X12_readPot_4_10 (by assumption) (by have := (hid i_B_X12_readPot_4_11 (by assumption)).1; omega) (hid hn7) hlp hns
            have hps2 := hps.2 (by assumption)
            have hz34 := hps2.1
            clear hps hns hlp hn7
            obtain ⟨n1, n2, n3, n4⟩ := tokI_next h3 h2 hti q_X12_nextToken_9_1 q_X12_nextToken_9_2
            clear q_X12_nextToken_9_1 q_X12_nextToken_9_2
            have m2 := n1.2.1
            have m1 := n1.1
            refine wp_ck (z_r32_i.mpr ⟨(by omega) /- z_r32.lo z32#9 -/, (by omega) /- z_r32.hi z32#9 -/⟩) ?_
            refine wp_if (fun c19 => ?_) (fun c19 => ?_)
            ·
              refine wp_bnd ?_
              exact ih_B_X12_readPot_4 _ _ _ _ _ _ _ _ _ _ ⟨(by omega) /- B_X12_readPot_4.inv1#17 -/, (by omega) /- B_X12_readPot_4.inv2#17 -/, (by omega) /- B_X12_readPot_4.inv3#17 -/, (by omega) /- B_X12_readPot_4.inv4#17 -/, (by omega) /- B_X12_readPot_4.inv5#17 -/, (by exact n1) /- B_X12_readPot_4.inv6#17 -/, (by omega) /- B_X12_readPot_4.inv7#17 -/, (by first | exact i_B_X12_readPot_4_8 | (intro j a b; rw [z_up_a]; split; omega; exact i_B_X12_readPot_4_8 j a b)) /- B_X12_readPot_4.inv8#17 -/, (by first | exact i_B_X12_readPot_4_9 | (intro j a; rw [z_up_n _ _ (by omega)]; exact i_B_X12_readPot_4_9 j a)) /- B_X12_readPot_4.inv9#17 -/, (by exact hps2.2) /- B_X12_readPot_4.inv10#17 -/, (by unfold Hid; intro e; exact absurd e hz34) /- B_X12_readPot_4.inv11#17 -/, (by unfold Hid; intro e; exact absurd e hz34) /- B_X12_readPot_4.inv12#17 -/, (by unfold Hid; intro e; exact absurd e hz34) /- B_X12_readPot_4.inv13#17 -/⟩ (by rw [if_pos (show z10 = 0 by assumption)]; split <;> omega) /- B_X12_readPot_4.dec#17 -/
            ·
              refine wp_bnd ?_
              exact ih_B_X12_readPot_4 _ _ _ _ _ _ _ _ _ _ ⟨(by omega) /- B_X12_readPot_4.inv1#18 -/, (by omega) /- B_X12_readPot_4.inv2#18 -/, (by omega) /- B_X12_readPot_4.inv3#18 -/, (by omega) /- B_X12_readPot_4.inv4#18 -/, (by omega) /- B_X12_readPot_4.inv5#18 -/, (by exact n1) /- B_X12_readPot_4.inv6#18 -/, (by omega) /- B_X12_readPot_4.inv7#18 -/, (by first | exact i_B_X12_readPot_4_8 | (intro j a b; rw [z_up_a]; split; omega; exact i_B_X12_readPot_4_8 j a b)) /- B_X12_readPot_4.inv8#18 -/, (by first | exact i_B_X12_readPot_4_9 | (intro j a; rw [z_up_n _ _ (by omega)]; exact i_B_X12_readPot_4_9 j a)) /- B_X12_readPot_4.inv9#18 -/, (by exact hps2.2) /- B_X12_readPot_4.inv10#18 -/, (by unfold Hid; intro e; exact absurd e hz34) /- B_X12_readPot_4.inv11#18 -/, (by unfold Hid; intro e; exact absurd e hz34) /- B_X12_readPot_4.inv12#18 -/, (by unfold Hid; intro e; exact absurd e hz34) /- B_X12_readPot_4.inv13#18 -/⟩ (by rw [if_pos (show z10 = 0 by assumption)]; split <;> omega) /- B_X12_readPot_4.dec#18 -/
  ·
    refine wp_some ?_
    try dsimp only
    all_goals exact ⟨(by exact i_B_X12_readPot_4_6) /- post1#2 -/, (by omega) /- post2#2 -/, (by omega) /- post3#2 -/, (by exact i_B_X12_readPot_4_8) /- post4#2 -/, (by exact i_B_X12_readPot_4_9) /- post5#2 -/, (by unfold Hid; exact ⟨z4, by omega, i_B_X12_readPot_4_10, fun e => absurd e (by assumption)⟩) /- post6#2 -/⟩
