
theorem eta6 {α1 α2 α3 α4 α5 α6 : Type} (t : α1 × α2 × α3 × α4 × α5 × α6) : some t = some (t.1, t.2.1, t.2.2.1, t.2.2.2.1, t.2.2.2.2.1, t.2.2.2.2.2) := rfl
theorem eta5 {α1 α2 α3 α4 α5 : Type} (t : α1 × α2 × α3 × α4 × α5) : some t = some (t.1, t.2.1, t.2.2.1, t.2.2.2.1, t.2.2.2.2) := rfl
theorem eqs {α : Type} {x y : Option α} (h : x = y ∧ x.isSome = true) : ∃ r, x = some r ∧ y = some r := by
  obtain ⟨h, hs⟩ := h
  subst h
  cases x with
  | none => cases hs
  | some r => exact ⟨r, rfl, rfl⟩
theorem b0 {β : Type} {x : Option Int32} {a : Option β} {K : Int32 → Option β} (h : x = some 0) : bd1 x (fun z => if z = 0 then a else K z) = a := by subst h; rfl
theorem b1 {β : Type} {x : Option Int32} {a : Option β} {K : Int32 → Option β} (h : x = some 1) : bd1 x (fun z => if z = 0 then a else K z) = K 1 := by subst h; rfl
theorem jn_e {α β : Type} (x : α) (k : α → β) : jn x k = k x := rfl
theorem bnd_e {α β : Type} (x : α) (k : α → β) : bnd x k = k x := rfl
theorem bd1_e {α β : Type} (x : α) (k : α → Option β) : bd1 (some x) k = k x := rfl
theorem ck_e {β : Type} (x : Option β) : ck true x = x := rfl
theorem co2 {N M : Nat} {P : Nat → Nat → Prop} [∀ i j, Decidable (P i j)] (h : (List.range N).all (fun i => (List.range M).all (fun j => decide (P i j))) = true) {i j : Nat} (hi : i < N) (hj : j < M) : P i j :=
  of_decide_eq_true (List.all_eq_true.mp (List.all_eq_true.mp h i (List.mem_range.mpr hi)) j (List.mem_range.mpr hj))
theorem co3 {N M K : Nat} {P : Nat → Nat → Nat → Prop} [∀ i j k, Decidable (P i j k)] (h : (List.range N).all (fun i => (List.range M).all (fun j => (List.range K).all (fun k => decide (P i j k)))) = true) {i j k : Nat} (hi : i < N) (hj : j < M) (hk : k < K) : P i j k :=
  of_decide_eq_true (List.all_eq_true.mp (List.all_eq_true.mp (List.all_eq_true.mp h i (List.mem_range.mpr hi)) j (List.mem_range.mpr hj)) k (List.mem_range.mpr hk))
theorem lt_l {x a : Int32} {n : Int} (ha : a.toInt = n) (h : x.toInt < n) : x < a := (fa_lt x a).mpr (by rw [ha]; exact h)
theorem gt_l {x a : Int32} {n : Int} (ha : a.toInt = n) (h : n < x.toInt) : a < x := (fa_lt a x).mpr (by rw [ha]; exact h)
theorem nlt_l {x a : Int32} {n : Int} (ha : a.toInt = n) (h : ¬ x.toInt < n) : ¬ x < a := fun q => h (by rw [← ha]; exact (fa_lt x a).mp q)
theorem ngt_l {x a : Int32} {n : Int} (ha : a.toInt = n) (h : ¬ n < x.toInt) : ¬ a < x := fun q => h (by rw [← ha]; exact (fa_lt a x).mp q)
theorem ge_l {x a : Int32} {n : Int} (ha : a.toInt = n) (h : n ≤ x.toInt) : a ≤ x := (fa_le a x).mpr (by rw [ha]; exact h)
theorem nge_l {x a : Int32} {n : Int} (ha : a.toInt = n) (h : ¬ n ≤ x.toInt) : ¬ a ≤ x := fun q => h (by rw [← ha]; exact (fa_le a x).mp q)
theorem le_l {x a : Int32} {n : Int} (ha : a.toInt = n) (h : x.toInt ≤ n) : x ≤ a := (fa_le x a).mpr (by rw [ha]; exact h)
theorem nle_l {x a : Int32} {n : Int} (ha : a.toInt = n) (h : ¬ x.toInt ≤ n) : ¬ x ≤ a := fun q => h (by rw [← ha]; exact (fa_le x a).mp q)
theorem ne_l {x a : Int32} {n : Int} (ha : a.toInt = n) (h : x.toInt ≠ n) : ¬ x = a := fun q => h (by rw [← ha, q])
theorem rgg (x : Int32) (a b : Nat) (hb : b < 2 ^ 31) : x.toInt < a ∨ (b : Int) < x.toInt ∨ (¬ x.toInt < a ∧ ¬ (b : Int) < x.toInt ∧ ∃ j, j < b + 1 ∧ a ≤ j ∧ x = nI j) := by
  by_cases h1 : x.toInt < a
  · exact Or.inl h1
  · by_cases h2 : (b : Int) < x.toInt
    · exact Or.inr (Or.inl h2)
    · refine Or.inr (Or.inr ⟨h1, h2, x.toInt.toNat, by omega, by omega, ?_⟩)
      apply Int32.toInt_inj.mp
      rw [nI_toInt (by omega)]
      omega
theorem in_s (x lo hi : Int64) : f_X12_in x lo hi = some (if x < lo then 0 else if hi < x then 0 else 1) := by
  unfold f_X12_in
  by_cases h1 : x < lo
  · rw [if_pos ((lg_cmp_lt x lo).mpr h1), if_pos h1]
  · rw [if_neg (fun h => h1 ((lg_cmp_lt x lo).mp h)), if_neg h1]
    by_cases h2 : hi < x
    · rw [if_pos ((lg_cmp_gt x hi).mpr h2), if_pos h2]
    · rw [if_neg (fun h => h2 ((lg_cmp_gt x hi).mp h)), if_neg h2]
theorem i64 (x : Int32) : x.toInt64.toInt = x.toInt := Int32.toInt_toInt64 x
theorem in_L {x : Int32} {lo hi : Int64} (h : x.toInt < lo.toInt) : f_X12_in x.toInt64 lo hi = some 0 := by
  rw [in_s, if_pos ((fa_lt64 _ _).mpr (by rw [i64]; exact h))]
theorem in_H {x : Int32} {lo hi : Int64} (h : hi.toInt < x.toInt) : f_X12_in x.toInt64 lo hi = some 0 := by
  rw [in_s, if_pos (show hi < x.toInt64 from (fa_lt64 _ _).mpr (by rw [i64]; exact h)), ite_self]
theorem in_I {x : Int32} {lo hi : Int64} (h1 : ¬ x.toInt < lo.toInt) (h2 : ¬ hi.toInt < x.toInt) : f_X12_in x.toInt64 lo hi = some 1 := by
  rw [in_s, if_neg (fun q => h1 (by rw [← i64]; exact (fa_lt64 _ _).mp q)), if_neg (fun q => h2 (by rw [← i64]; exact (fa_lt64 _ _).mp q))]
theorem hs_out {s x : Int32} (h : x.toInt < 0 ∨ s.toInt ≤ x.toInt) : f_X6_hasSeat s x = some 0 := by
  unfold f_X6_hasSeat
  by_cases h0 : x < 0
  · rw [if_pos h0]
  · rw [if_neg h0, if_pos ((fa_le s x).mpr (h.elim (fun q => absurd (lt_l (by decide) q) h0) id))]
theorem hs_in {s x : Int32} (h1 : ¬ x.toInt < 0) (h2 : ¬ s.toInt ≤ x.toInt) : f_X6_hasSeat s x = some 1 := by
  unfold f_X6_hasSeat
  rw [if_neg (show ¬ x < (0 : Int32) from nlt_l (by decide) h1), if_neg (fun q => h2 ((fa_le s x).mp q))]
theorem hr_out {s x : Int32} (h : x.toInt < 0 ∨ s.toInt ≤ x.toInt) : f_X6_hasStir s x = some 0 := by
  unfold f_X6_hasStir
  by_cases h0 : x < 0
  · rw [if_pos h0]
  · rw [if_neg h0, if_pos ((fa_le s x).mpr (h.elim (fun q => absurd (lt_l (by decide) q) h0) id))]
theorem kb {x : Option Int32} {v : Int32} (h : x = some v) (hz : zB v = true) : bd1 x (fun (z1 : Int32) => (ck (zB z1) (some z1))) = some v := by
  subst h
  show ck (zB v) (some v) = some v
  rw [hz]
  rfl

theorem s_fill : (f_J7_fill_53178 7 (fun _ => (0 : Int32)) (1 : Int32)).isSome = true := by decide +kernel
noncomputable def u_fill_0 : Nat → Int32 := (f_J7_fill_53178 7 (fun _ => (0 : Int32)) (1 : Int32)).get s_fill
theorem h_fill : f_J7_fill_53178 7 (fun _ => (0 : Int32)) (1 : Int32) = some u_fill_0 := (Option.some_get s_fill).symm
theorem s_X12_init211 : (f_X12_firstDraft (fun _ => (0 : Int32)) (fun _ => (0 : Int32))).isSome = true := by decide +kernel
noncomputable def t_X12_init211 : Int32 × Int32 × Int32 × Int32 × (Nat → Int32) × (Nat → Int32) := (f_X12_firstDraft (fun _ => (0 : Int32)) (fun _ => (0 : Int32))).get s_X12_init211
noncomputable def u_X12_init211_0 : Int32 := t_X12_init211.1
noncomputable def u_X12_init211_1 : Int32 := t_X12_init211.2.1
noncomputable def u_X12_init211_2 : Int32 := t_X12_init211.2.2.1
noncomputable def u_X12_init211_3 : Int32 := t_X12_init211.2.2.2.1
noncomputable def u_X12_init211_4 : (Nat → Int32) := t_X12_init211.2.2.2.2.1
noncomputable def u_X12_init211_5 : (Nat → Int32) := t_X12_init211.2.2.2.2.2
theorem g_X12_init211 : f_X12_firstDraft (fun _ => (0 : Int32)) (fun _ => (0 : Int32)) = some t_X12_init211 := (Option.some_get s_X12_init211).symm
theorem h_X12_init211 : f_X12_firstDraft (fun _ => (0 : Int32)) (fun _ => (0 : Int32)) = some (u_X12_init211_0, u_X12_init211_1, u_X12_init211_2, u_X12_init211_3, u_X12_init211_4, u_X12_init211_5) := by
  unfold u_X12_init211_0 u_X12_init211_1 u_X12_init211_2 u_X12_init211_3 u_X12_init211_4 u_X12_init211_5
  exact g_X12_init211.trans (eta6 t_X12_init211)
theorem s_X12_init215 : (f_X12_keepDraft u_X12_init211_0 u_X12_init211_1 (fun _ => (0 : Int32)) (fun _ => (0 : Int32)) (fun _ => (0 : Int32)) u_X12_init211_4 u_X12_init211_5).isSome = true := by decide +kernel
noncomputable def t_X12_init215 : Int32 × Int32 × (Nat → Int32) × (Nat → Int32) × (Nat → Int32) := (f_X12_keepDraft u_X12_init211_0 u_X12_init211_1 (fun _ => (0 : Int32)) (fun _ => (0 : Int32)) (fun _ => (0 : Int32)) u_X12_init211_4 u_X12_init211_5).get s_X12_init215
noncomputable def u_X12_init215_0 : Int32 := t_X12_init215.1
noncomputable def u_X12_init215_1 : Int32 := t_X12_init215.2.1
noncomputable def u_X12_init215_2 : (Nat → Int32) := t_X12_init215.2.2.1
noncomputable def u_X12_init215_3 : (Nat → Int32) := t_X12_init215.2.2.2.1
noncomputable def u_X12_init215_4 : (Nat → Int32) := t_X12_init215.2.2.2.2
theorem g_X12_init215 : f_X12_keepDraft u_X12_init211_0 u_X12_init211_1 (fun _ => (0 : Int32)) (fun _ => (0 : Int32)) (fun _ => (0 : Int32)) u_X12_init211_4 u_X12_init211_5 = some t_X12_init215 := (Option.some_get s_X12_init215).symm
theorem h_X12_init215 : f_X12_keepDraft u_X12_init211_0 u_X12_init211_1 (fun _ => (0 : Int32)) (fun _ => (0 : Int32)) (fun _ => (0 : Int32)) u_X12_init211_4 u_X12_init211_5 = some (u_X12_init215_0, u_X12_init215_1, u_X12_init215_2, u_X12_init215_3, u_X12_init215_4) := by
  have h := g_X12_init215.trans (eta5 t_X12_init215)
  exact h
theorem q_seats : u_X12_init215_0 = (4 : Int32) := by decide +kernel
theorem q_stirs : u_X12_init215_1 = (0 : Int32) := by decide +kernel
theorem q_seen : u_X12_init215_2 ((31 : Int32)).toNatClampNeg = (0 : Int32) := by decide +kernel
theorem seat_c (x : Int32) : (f_X6_hasSeat (4 : Int32) x = some 0 ∧ f_X12_isSeat u_X12_init215_0 x = some 0) ∨ (f_X6_hasSeat (4 : Int32) x = some 1 ∧ f_X12_isSeat u_X12_init215_0 x = some 1 ∧ ∃ j, j < 4 ∧ x = nI j) := by
  rw [q_seats]
  rcases rgg x 0 3 (by decide) with h | h | ⟨h1, h2, j, hj, -, e⟩
  · exact Or.inl ⟨hs_out (Or.inl h), kb (in_L h) (by decide)⟩
  · exact Or.inl ⟨hs_out (Or.inr (show (4 : Int) ≤ _ from by omega)), kb (in_H h) (by decide)⟩
  · exact Or.inr ⟨hs_in h1 (show ¬ (4 : Int) ≤ _ from by omega), kb (in_I h1 h2) (by decide), j, hj, e⟩
theorem stir_c (x : Int32) : f_X6_hasStir (0 : Int32) x = some 0 ∧ f_X12_isStir u_X12_init215_1 x = some 0 := by
  rw [q_stirs]
  by_cases h : x.toInt < 0
  · exact ⟨hr_out (Or.inl h), kb (in_L h) (by decide)⟩
  · exact ⟨hr_out (Or.inr (show (0 : Int) ≤ _ from by omega)), kb (in_H (show (-1 : Int) < _ from by omega)) (by decide)⟩
theorem part_c (x : Int32) : (f_X11_isPart x = some 0 ∧ f_X12_isTold x = some 0) ∨ (f_X11_isPart x = some 1 ∧ f_X12_isTold x = some 1 ∧ ∃ j, j < 2 ∧ x = nI j) := by
  rcases rgg x 0 1 (by decide) with h | h | ⟨h1, h2, j, hj, -, e⟩
  · refine Or.inl ⟨?_, kb (in_L h) (by decide)⟩
    unfold f_X11_isPart
    rw [if_neg (show ¬ x = (0 : Int32) from ne_l (n := 0) (by decide) (by omega)), if_neg (show ¬ x = (1 : Int32) from ne_l (n := 1) (by decide) (by omega))]
  · refine Or.inl ⟨?_, kb (in_H h) (by decide)⟩
    unfold f_X11_isPart
    rw [if_neg (show ¬ x = (0 : Int32) from ne_l (n := 0) (by decide) (by omega)), if_neg (show ¬ x = (1 : Int32) from ne_l (n := 1) (by decide) (by omega))]
  · refine Or.inr ⟨?_, kb (in_I h1 h2) (by decide), j, hj, e⟩
    rw [e]
    exact co_dec (N := 2) (P := fun j => f_X11_isPart (nI j) = some 1) (by decide +kernel) hj
theorem rq_c (x : Int32) (n : Nat) (hn : n < 1000) : (¬ x = 0 ∧ f_X11_isRowQuestion x (nI n) = some 0 ∧ (x.toInt < 10 ∨ (9 + n : Int) < x.toInt)) ∨ (f_X11_isRowQuestion x (nI n) = some 1 ∧ (x = 0 ∨ ∃ j, j < n ∧ x = nI (10 + j))) := by
  have e : ((10 : Int32) + nI n) = nI (10 + n) := nI_add 10 n
  unfold f_X11_isRowQuestion
  rw [e]
  by_cases h0 : x = 0
  · exact Or.inr ⟨by rw [if_pos h0], Or.inl h0⟩
  · rw [if_neg h0]
    by_cases h1 : x.toInt < 10
    · exact Or.inl ⟨h0, by rw [if_pos (show x < (10 : Int32) from lt_l (by decide) h1)], Or.inl h1⟩
    · rw [if_neg (show ¬ x < (10 : Int32) from nlt_l (by decide) h1)]
      by_cases h2 : (9 + n : Int) < x.toInt
      · exact Or.inl ⟨h0, by rw [if_pos (show nI (10 + n) ≤ x from ge_l (n := ((10 + n : Nat) : Int)) (nI_toInt (by omega)) (by omega))], Or.inr h2⟩
      · refine Or.inr ⟨by rw [if_neg (show ¬ nI (10 + n) ≤ x from nge_l (n := ((10 + n : Nat) : Int)) (nI_toInt (by omega)) (by omega))], Or.inr ⟨x.toInt.toNat - 10, by omega, ?_⟩⟩
        apply Int32.toInt_inj.mp
        rw [nI_toInt (by omega)]
        omega
theorem isSheet_c (x : Int32) : (f_X11_isSheet x = some 0 ∧ f_X12_in x.toInt64 (0 : Int64) (3 : Int64) = some 0) ∨ (f_X11_isSheet x = some 1 ∧ f_X12_in x.toInt64 (0 : Int64) (3 : Int64) = some 1 ∧ ∃ j, j < 4 ∧ x = nI j) := by
  rcases rgg x 0 3 (by decide) with h | h | ⟨h1, h2, j, hj, -, e⟩
  · refine Or.inl ⟨?_, in_L h⟩
    unfold f_X11_isSheet
    rw [if_pos (show x < (0 : Int32) from lt_l (by decide) h)]
  · refine Or.inl ⟨?_, in_H h⟩
    unfold f_X11_isSheet
    rw [if_neg (show ¬ x < (0 : Int32) from nlt_l (n := 0) (by decide) (by omega)), if_pos (show (4 : Int32) ≤ x from ge_l (n := 4) (by decide) (by omega))]
  · refine Or.inr ⟨?_, in_I h1 h2, j, hj, e⟩
    rw [e]
    exact co_dec (N := 4) (P := fun j => f_X11_isSheet (nI j) = some 1) (by decide +kernel) hj
theorem isLane_c (x : Int32) : (f_X11_isLane x = some 0 ∧ f_X12_in x.toInt64 (0 : Int64) (2 : Int64) = some 0) ∨ (f_X11_isLane x = some 1 ∧ f_X12_in x.toInt64 (0 : Int64) (2 : Int64) = some 1 ∧ ∃ j, j < 3 ∧ x = nI j) := by
  rcases rgg x 0 2 (by decide) with h | h | ⟨h1, h2, j, hj, -, e⟩
  · refine Or.inl ⟨?_, in_L h⟩
    unfold f_X11_isLane
    rw [if_pos (show x < (0 : Int32) from lt_l (by decide) h)]
  · refine Or.inl ⟨?_, in_H h⟩
    unfold f_X11_isLane
    rw [if_neg (show ¬ x < (0 : Int32) from nlt_l (n := 0) (by decide) (by omega)), if_pos (show (3 : Int32) ≤ x from ge_l (n := 3) (by decide) (by omega))]
  · refine Or.inr ⟨?_, in_I h1 h2, j, hj, e⟩
    rw [e]
    exact co_dec (N := 3) (P := fun j => f_X11_isLane (nI j) = some 1) (by decide +kernel) hj
theorem isImage_c (x : Int32) : (f_X11_isImage x = some 0 ∧ f_X12_in x.toInt64 (0 : Int64) (1 : Int64) = some 0) ∨ (f_X11_isImage x = some 1 ∧ f_X12_in x.toInt64 (0 : Int64) (1 : Int64) = some 1 ∧ ∃ j, j < 2 ∧ x = nI j) := by
  rcases rgg x 0 1 (by decide) with h | h | ⟨h1, h2, j, hj, -, e⟩
  · refine Or.inl ⟨?_, in_L h⟩
    unfold f_X11_isImage
    rw [if_pos (show x < (0 : Int32) from lt_l (by decide) h)]
  · refine Or.inl ⟨?_, in_H h⟩
    unfold f_X11_isImage
    rw [if_neg (show ¬ x < (0 : Int32) from nlt_l (n := 0) (by decide) (by omega)), if_pos (show (2 : Int32) ≤ x from ge_l (n := 2) (by decide) (by omega))]
  · refine Or.inr ⟨?_, in_I h1 h2, j, hj, e⟩
    rw [e]
    exact co_dec (N := 2) (P := fun j => f_X11_isImage (nI j) = some 1) (by decide +kernel) hj
theorem ex2 {α1 α2 : Type} {x : Option (α1 × α2)} {r : α1} (h : x.map Prod.fst = some r) : ∃ o2, x = some (r, o2) := by
  cases x with
  | none => cases h
  | some y => cases h; exact ⟨y.2, rfl⟩
theorem ex3 {α1 α2 α3 : Type} {x : Option (α1 × α2 × α3)} {r : α1} (h : x.map Prod.fst = some r) : ∃ o2 o3, x = some (r, o2, o3) := by
  cases x with
  | none => cases h
  | some y => cases h; exact ⟨y.2.1, y.2.2, rfl⟩
theorem ex4 {α1 α2 α3 α4 : Type} {x : Option (α1 × α2 × α3 × α4)} {r : α1} (h : x.map Prod.fst = some r) : ∃ o2 o3 o4, x = some (r, o2, o3, o4) := by
  cases x with
  | none => cases h
  | some y => cases h; exact ⟨y.2.1, y.2.2.1, y.2.2.2, rfl⟩
theorem ex10 {α1 α2 α3 α4 α5 α6 α7 α8 α9 α10 : Type} {x : Option (α1 × α2 × α3 × α4 × α5 × α6 × α7 × α8 × α9 × α10)} {r : α1} (h : x.map Prod.fst = some r) : ∃ o2 o3 o4 o5 o6 o7 o8 o9 o10, x = some (r, o2, o3, o4, o5, o6, o7, o8, o9, o10) := by
  cases x with
  | none => cases h
  | some y => cases h; exact ⟨y.2.1, y.2.2.1, y.2.2.2.1, y.2.2.2.2.1, y.2.2.2.2.2.1, y.2.2.2.2.2.2.1, y.2.2.2.2.2.2.2.1, y.2.2.2.2.2.2.2.2.1, y.2.2.2.2.2.2.2.2.2, rfl⟩
theorem ex13 {α1 α2 α3 α4 α5 α6 α7 α8 α9 α10 α11 α12 α13 : Type} {x : Option (α1 × α2 × α3 × α4 × α5 × α6 × α7 × α8 × α9 × α10 × α11 × α12 × α13)} {r : α1} (h : x.map Prod.fst = some r) : ∃ o2 o3 o4 o5 o6 o7 o8 o9 o10 o11 o12 o13, x = some (r, o2, o3, o4, o5, o6, o7, o8, o9, o10, o11, o12, o13) := by
  cases x with
  | none => cases h
  | some y => cases h; exact ⟨y.2.1, y.2.2.1, y.2.2.2.1, y.2.2.2.2.1, y.2.2.2.2.2.1, y.2.2.2.2.2.2.1, y.2.2.2.2.2.2.2.1, y.2.2.2.2.2.2.2.2.1, y.2.2.2.2.2.2.2.2.2.1, y.2.2.2.2.2.2.2.2.2.2.1, y.2.2.2.2.2.2.2.2.2.2.2.1, y.2.2.2.2.2.2.2.2.2.2.2.2, rfl⟩
theorem ex19 {α1 α2 α3 α4 α5 α6 α7 α8 α9 α10 α11 α12 α13 α14 α15 α16 α17 α18 α19 : Type} {x : Option (α1 × α2 × α3 × α4 × α5 × α6 × α7 × α8 × α9 × α10 × α11 × α12 × α13 × α14 × α15 × α16 × α17 × α18 × α19)} {r : α1} (h : x.map Prod.fst = some r) : ∃ o2 o3 o4 o5 o6 o7 o8 o9 o10 o11 o12 o13 o14 o15 o16 o17 o18 o19, x = some (r, o2, o3, o4, o5, o6, o7, o8, o9, o10, o11, o12, o13, o14, o15, o16, o17, o18, o19) := by
  cases x with
  | none => cases h
  | some y => cases h; exact ⟨y.2.1, y.2.2.1, y.2.2.2.1, y.2.2.2.2.1, y.2.2.2.2.2.1, y.2.2.2.2.2.2.1, y.2.2.2.2.2.2.2.1, y.2.2.2.2.2.2.2.2.1, y.2.2.2.2.2.2.2.2.2.1, y.2.2.2.2.2.2.2.2.2.2.1, y.2.2.2.2.2.2.2.2.2.2.2.1, y.2.2.2.2.2.2.2.2.2.2.2.2.1, y.2.2.2.2.2.2.2.2.2.2.2.2.2.1, y.2.2.2.2.2.2.2.2.2.2.2.2.2.2.1, y.2.2.2.2.2.2.2.2.2.2.2.2.2.2.2.1, y.2.2.2.2.2.2.2.2.2.2.2.2.2.2.2.2.1, y.2.2.2.2.2.2.2.2.2.2.2.2.2.2.2.2.2.1, y.2.2.2.2.2.2.2.2.2.2.2.2.2.2.2.2.2.2, rfl⟩
theorem ex20 {α1 α2 α3 α4 α5 α6 α7 α8 α9 α10 α11 α12 α13 α14 α15 α16 α17 α18 α19 α20 : Type} {x : Option (α1 × α2 × α3 × α4 × α5 × α6 × α7 × α8 × α9 × α10 × α11 × α12 × α13 × α14 × α15 × α16 × α17 × α18 × α19 × α20)} {r : α1} (h : x.map Prod.fst = some r) : ∃ o2 o3 o4 o5 o6 o7 o8 o9 o10 o11 o12 o13 o14 o15 o16 o17 o18 o19 o20, x = some (r, o2, o3, o4, o5, o6, o7, o8, o9, o10, o11, o12, o13, o14, o15, o16, o17, o18, o19, o20) := by
  cases x with
  | none => cases h
  | some y => cases h; exact ⟨y.2.1, y.2.2.1, y.2.2.2.1, y.2.2.2.2.1, y.2.2.2.2.2.1, y.2.2.2.2.2.2.1, y.2.2.2.2.2.2.2.1, y.2.2.2.2.2.2.2.2.1, y.2.2.2.2.2.2.2.2.2.1, y.2.2.2.2.2.2.2.2.2.2.1, y.2.2.2.2.2.2.2.2.2.2.2.1, y.2.2.2.2.2.2.2.2.2.2.2.2.1, y.2.2.2.2.2.2.2.2.2.2.2.2.2.1, y.2.2.2.2.2.2.2.2.2.2.2.2.2.2.1, y.2.2.2.2.2.2.2.2.2.2.2.2.2.2.2.1, y.2.2.2.2.2.2.2.2.2.2.2.2.2.2.2.2.1, y.2.2.2.2.2.2.2.2.2.2.2.2.2.2.2.2.2.1, y.2.2.2.2.2.2.2.2.2.2.2.2.2.2.2.2.2.2.1, y.2.2.2.2.2.2.2.2.2.2.2.2.2.2.2.2.2.2.2, rfl⟩
theorem ex36 {α1 α2 α3 α4 α5 α6 α7 α8 α9 α10 α11 α12 α13 α14 α15 α16 α17 α18 α19 α20 α21 α22 α23 α24 α25 α26 α27 α28 α29 α30 α31 α32 α33 α34 α35 α36 : Type} {x : Option (α1 × α2 × α3 × α4 × α5 × α6 × α7 × α8 × α9 × α10 × α11 × α12 × α13 × α14 × α15 × α16 × α17 × α18 × α19 × α20 × α21 × α22 × α23 × α24 × α25 × α26 × α27 × α28 × α29 × α30 × α31 × α32 × α33 × α34 × α35 × α36)} {r : α1} (h : x.map Prod.fst = some r) : ∃ o2 o3 o4 o5 o6 o7 o8 o9 o10 o11 o12 o13 o14 o15 o16 o17 o18 o19 o20 o21 o22 o23 o24 o25 o26 o27 o28 o29 o30 o31 o32 o33 o34 o35 o36, x = some (r, o2, o3, o4, o5, o6, o7, o8, o9, o10, o11, o12, o13, o14, o15, o16, o17, o18, o19, o20, o21, o22, o23, o24, o25, o26, o27, o28, o29, o30, o31, o32, o33, o34, o35, o36) := by
  cases x with
  | none => cases h
  | some y => cases h; exact ⟨y.2.1, y.2.2.1, y.2.2.2.1, y.2.2.2.2.1, y.2.2.2.2.2.1, y.2.2.2.2.2.2.1, y.2.2.2.2.2.2.2.1, y.2.2.2.2.2.2.2.2.1, y.2.2.2.2.2.2.2.2.2.1, y.2.2.2.2.2.2.2.2.2.2.1, y.2.2.2.2.2.2.2.2.2.2.2.1, y.2.2.2.2.2.2.2.2.2.2.2.2.1, y.2.2.2.2.2.2.2.2.2.2.2.2.2.1, y.2.2.2.2.2.2.2.2.2.2.2.2.2.2.1, y.2.2.2.2.2.2.2.2.2.2.2.2.2.2.2.1, y.2.2.2.2.2.2.2.2.2.2.2.2.2.2.2.2.1, y.2.2.2.2.2.2.2.2.2.2.2.2.2.2.2.2.2.1, y.2.2.2.2.2.2.2.2.2.2.2.2.2.2.2.2.2.2.1, y.2.2.2.2.2.2.2.2.2.2.2.2.2.2.2.2.2.2.2.1, y.2.2.2.2.2.2.2.2.2.2.2.2.2.2.2.2.2.2.2.2.1, y.2.2.2.2.2.2.2.2.2.2.2.2.2.2.2.2.2.2.2.2.2.1, y.2.2.2.2.2.2.2.2.2.2.2.2.2.2.2.2.2.2.2.2.2.2.1, y.2.2.2.2.2.2.2.2.2.2.2.2.2.2.2.2.2.2.2.2.2.2.2.1, y.2.2.2.2.2.2.2.2.2.2.2.2.2.2.2.2.2.2.2.2.2.2.2.2.1, y.2.2.2.2.2.2.2.2.2.2.2.2.2.2.2.2.2.2.2.2.2.2.2.2.2.1, y.2.2.2.2.2.2.2.2.2.2.2.2.2.2.2.2.2.2.2.2.2.2.2.2.2.2.1, y.2.2.2.2.2.2.2.2.2.2.2.2.2.2.2.2.2.2.2.2.2.2.2.2.2.2.2.1, y.2.2.2.2.2.2.2.2.2.2.2.2.2.2.2.2.2.2.2.2.2.2.2.2.2.2.2.2.1, y.2.2.2.2.2.2.2.2.2.2.2.2.2.2.2.2.2.2.2.2.2.2.2.2.2.2.2.2.2.1, y.2.2.2.2.2.2.2.2.2.2.2.2.2.2.2.2.2.2.2.2.2.2.2.2.2.2.2.2.2.2.1, y.2.2.2.2.2.2.2.2.2.2.2.2.2.2.2.2.2.2.2.2.2.2.2.2.2.2.2.2.2.2.2.1, y.2.2.2.2.2.2.2.2.2.2.2.2.2.2.2.2.2.2.2.2.2.2.2.2.2.2.2.2.2.2.2.2.1, y.2.2.2.2.2.2.2.2.2.2.2.2.2.2.2.2.2.2.2.2.2.2.2.2.2.2.2.2.2.2.2.2.2.1, y.2.2.2.2.2.2.2.2.2.2.2.2.2.2.2.2.2.2.2.2.2.2.2.2.2.2.2.2.2.2.2.2.2.2.1, y.2.2.2.2.2.2.2.2.2.2.2.2.2.2.2.2.2.2.2.2.2.2.2.2.2.2.2.2.2.2.2.2.2.2.2, rfl⟩

theorem n50 : ¬ (5 : Int32) = 0 := by decide
theorem n51 : ¬ (5 : Int32) = 1 := by decide
theorem n52 : ¬ (5 : Int32) = 2 := by decide
theorem n53 : ¬ (5 : Int32) = 3 := by decide
theorem n54 : ¬ (5 : Int32) = 4 := by decide
theorem fault_n (a l x : Int32) : f_X7_faultAt (-4 : Int32) a l x = some 1 := rfl
theorem co_dec4 {P : Nat → Prop} (h0 : P 0) (h1 : P 1) (h2 : P 2) (h3 : P 3) {j : Nat} (hj : j < 4) : P j := by
  rcases j with _ | _ | _ | _ | j
  · exact h0
  · exact h1
  · exact h2
  · exact h3
  · omega


theorem ap_s (x1 : Int64) (n : Nat) (z l : Int32) (w : Nat → Int32) (h0 : ¬ z < 0) (hi : ixB l 320 = true) : lq3 (B_X9_append_18 x1) (n + 1) z l w = lq3 (B_X9_append_18 x1) n (z + (-8 : Int32)) (l + (1 : Int32)) (upd w (l).toNatClampNeg (vp_nar .byte (((x1 >>> (z.toInt64 &&& 63))).toInt32).toInt8.toInt32)) := by
  show B_X9_append_18 x1 (lq3 (B_X9_append_18 x1) n) z l w = _
  rw [B_X9_append_18, if_neg h0, hi, ck_e, bnd_e, bnd_e, bnd_e]
theorem ap_e (x1 : Int64) (n : Nat) (z l : Int32) (w : Nat → Int32) (h0 : z < 0) : lq3 (B_X9_append_18 x1) (n + 1) z l w = some ((1 : Int32), l, w) := by
  show B_X9_append_18 x1 (lq3 (B_X9_append_18 x1) n) z l w = _
  rw [B_X9_append_18, if_pos h0]
theorem fd_s (x1 : Int64) (n : Nat) (z l : Int32) (w : Nat → Int32) (h0 : ¬ z < 0) (hi : ixB l 320 = true) : lq3 (B_X12_feed_19 x1) (n + 1) z l w = lq3 (B_X12_feed_19 x1) n (z + (-8 : Int32)) (l + (1 : Int32)) (upd w (l).toNatClampNeg (((x1 >>> (z.toInt64 &&& 63)) &&& (255 : Int64))).toInt32) := by
  show B_X12_feed_19 x1 (lq3 (B_X12_feed_19 x1) n) z l w = _
  rw [B_X12_feed_19, if_neg h0, hi, ck_e, bnd_e, bnd_e, bnd_e]
theorem fd_e (x1 : Int64) (n : Nat) (z l : Int32) (w : Nat → Int32) (h0 : z < 0) : lq3 (B_X12_feed_19 x1) (n + 1) z l w = some (l, l, w) := by
  show B_X12_feed_19 x1 (lq3 (B_X12_feed_19 x1) n) z l w = _
  rw [B_X12_feed_19, if_pos h0]

theorem rd_x0 (x4 : Int32) (J : Int32 → Int32 → Option (Int32 × Int32)) (a x2 x3 : Int32) : lq3 (B_X11_read_45 x4 J (-4 : Int32) a x2 x3) 1000 0 0 0 = if x4 ≤ 0 then J 0 0 else J 1 0 := by
  by_cases h : x4 ≤ 0
  · rw [if_pos h]
    show B_X11_read_45 x4 J (-4 : Int32) a x2 x3 (lq3 (B_X11_read_45 x4 J (-4 : Int32) a x2 x3) 999) 0 0 0 = J 0 0
    rw [B_X11_read_45, if_pos h]
  · rw [if_neg h]
    show B_X11_read_45 x4 J (-4 : Int32) a x2 x3 (lq3 (B_X11_read_45 x4 J (-4 : Int32) a x2 x3) 999) 0 0 0 = J 1 0
    rw [B_X11_read_45, if_neg h, if_pos (show (0 : Int32) = 0 from rfl), fault_n]
    show B_X11_read_45 x4 J (-4 : Int32) a x2 x3 (lq3 (B_X11_read_45 x4 J (-4 : Int32) a x2 x3) 998) (0 + 1) 0 1 = J 1 0
    rw [B_X11_read_45]
    by_cases h2 : x4 ≤ 0 + 1
    · rw [if_pos h2]
    · rw [if_neg h2, if_neg (show ¬ (1 : Int32) = 0 from by decide)]
theorem rd_y0 (J : Option (Int32 × Int32)) (x3 : Int32) : lq1 (B_X11_read_114 0 J x3) 1000 0 = J := by
  show B_X11_read_114 0 J x3 (lq1 (B_X11_read_114 0 J x3) 999) 0 = J
  rw [B_X11_read_114, if_pos (show (0 : Int32) ≤ 0 from by decide)]
theorem rd_x1 (x4 : Int32) (J : Int32 → Int32 → Option (Int32 × Int32)) (a x2 x3 : Int32) : lq3 (B_X11_read_45_2 x4 J (-4 : Int32) a x2 x3) 1000 0 0 0 = if x4 ≤ 0 then J 0 0 else J 1 0 := by
  by_cases h : x4 ≤ 0
  · rw [if_pos h]
    show B_X11_read_45_2 x4 J (-4 : Int32) a x2 x3 (lq3 (B_X11_read_45_2 x4 J (-4 : Int32) a x2 x3) 999) 0 0 0 = J 0 0
    rw [B_X11_read_45_2, if_pos h]
  · rw [if_neg h]
    show B_X11_read_45_2 x4 J (-4 : Int32) a x2 x3 (lq3 (B_X11_read_45_2 x4 J (-4 : Int32) a x2 x3) 999) 0 0 0 = J 1 0
    rw [B_X11_read_45_2, if_neg h, if_pos (show (0 : Int32) = 0 from rfl), fault_n]
    show B_X11_read_45_2 x4 J (-4 : Int32) a x2 x3 (lq3 (B_X11_read_45_2 x4 J (-4 : Int32) a x2 x3) 998) (0 + 1) 0 1 = J 1 0
    rw [B_X11_read_45_2]
    by_cases h2 : x4 ≤ 0 + 1
    · rw [if_pos h2]
    · rw [if_neg h2, if_neg (show ¬ (1 : Int32) = 0 from by decide)]
theorem rd_y1 (J : Option (Int32 × Int32)) (x3 : Int32) : lq1 (B_X11_read_114_2 0 J x3) 1000 0 = J := by
  show B_X11_read_114_2 0 J x3 (lq1 (B_X11_read_114_2 0 J x3) 999) 0 = J
  rw [B_X11_read_114_2, if_pos (show (0 : Int32) ≤ 0 from by decide)]
theorem rd_x2 (x4 : Int32) (J : Int32 → Int32 → Option (Int32 × Int32)) (a x2 x3 : Int32) : lq3 (B_X11_read_45_3 x4 J (-4 : Int32) a x2 x3) 1000 0 0 0 = if x4 ≤ 0 then J 0 0 else J 1 0 := by
  by_cases h : x4 ≤ 0
  · rw [if_pos h]
    show B_X11_read_45_3 x4 J (-4 : Int32) a x2 x3 (lq3 (B_X11_read_45_3 x4 J (-4 : Int32) a x2 x3) 999) 0 0 0 = J 0 0
    rw [B_X11_read_45_3, if_pos h]
  · rw [if_neg h]
    show B_X11_read_45_3 x4 J (-4 : Int32) a x2 x3 (lq3 (B_X11_read_45_3 x4 J (-4 : Int32) a x2 x3) 999) 0 0 0 = J 1 0
    rw [B_X11_read_45_3, if_neg h, if_pos (show (0 : Int32) = 0 from rfl), fault_n]
    show B_X11_read_45_3 x4 J (-4 : Int32) a x2 x3 (lq3 (B_X11_read_45_3 x4 J (-4 : Int32) a x2 x3) 998) (0 + 1) 0 1 = J 1 0
    rw [B_X11_read_45_3]
    by_cases h2 : x4 ≤ 0 + 1
    · rw [if_pos h2]
    · rw [if_neg h2, if_neg (show ¬ (1 : Int32) = 0 from by decide)]
theorem rd_y2 (J : Option (Int32 × Int32)) (x3 : Int32) : lq1 (B_X11_read_114_3 0 J x3) 1000 0 = J := by
  show B_X11_read_114_3 0 J x3 (lq1 (B_X11_read_114_3 0 J x3) 999) 0 = J
  rw [B_X11_read_114_3, if_pos (show (0 : Int32) ≤ 0 from by decide)]
theorem rd_x3 (x4 : Int32) (J : Int32 → Int32 → Option (Int32 × Int32)) (a x2 x3 : Int32) : lq3 (B_X11_read_45_4 x4 J (-4 : Int32) a x2 x3) 1000 0 0 0 = if x4 ≤ 0 then J 0 0 else J 1 0 := by
  by_cases h : x4 ≤ 0
  · rw [if_pos h]
    show B_X11_read_45_4 x4 J (-4 : Int32) a x2 x3 (lq3 (B_X11_read_45_4 x4 J (-4 : Int32) a x2 x3) 999) 0 0 0 = J 0 0
    rw [B_X11_read_45_4, if_pos h]
  · rw [if_neg h]
    show B_X11_read_45_4 x4 J (-4 : Int32) a x2 x3 (lq3 (B_X11_read_45_4 x4 J (-4 : Int32) a x2 x3) 999) 0 0 0 = J 1 0
    rw [B_X11_read_45_4, if_neg h, if_pos (show (0 : Int32) = 0 from rfl), fault_n]
    show B_X11_read_45_4 x4 J (-4 : Int32) a x2 x3 (lq3 (B_X11_read_45_4 x4 J (-4 : Int32) a x2 x3) 998) (0 + 1) 0 1 = J 1 0
    rw [B_X11_read_45_4]
    by_cases h2 : x4 ≤ 0 + 1
    · rw [if_pos h2]
    · rw [if_neg h2, if_neg (show ¬ (1 : Int32) = 0 from by decide)]
theorem rd_y3 (J : Option (Int32 × Int32)) (x3 : Int32) : lq1 (B_X11_read_114_4 0 J x3) 1000 0 = J := by
  show B_X11_read_114_4 0 J x3 (lq1 (B_X11_read_114_4 0 J x3) 999) 0 = J
  rw [B_X11_read_114_4, if_pos (show (0 : Int32) ≤ 0 from by decide)]
theorem rd_k (x4 : Int32) (J9 : Int32 → Int32 → Option (Int32 × Int32 × (Nat → Int32))) (x3 x1 st : Int32) (w3 cells : Nat → Int32) (J12 : Int32 → Option (Int32 × Int32 × (Nat → Int32))) (lanes : Nat → Int32) (x2 : Int32) (sizes : Nat → Int32) (hix : ixB x1 4 = true) (hln : lanes (x1).toNatClampNeg = (-4 : Int32)) : lq3 (B_X12_read_39 x4 J9 x3 x1 st w3 cells J12 lanes x2 sizes) 1000 0 0 0 = if x4 ≤ 0 then J9 0 0 else J9 1 0 := by
  by_cases h : x4 ≤ 0
  · rw [if_pos h]
    show B_X12_read_39 x4 J9 x3 x1 st w3 cells J12 lanes x2 sizes (lq3 (B_X12_read_39 x4 J9 x3 x1 st w3 cells J12 lanes x2 sizes) 999) 0 0 0 = J9 0 0
    rw [B_X12_read_39, if_pos h]
  · rw [if_neg h]
    show B_X12_read_39 x4 J9 x3 x1 st w3 cells J12 lanes x2 sizes (lq3 (B_X12_read_39 x4 J9 x3 x1 st w3 cells J12 lanes x2 sizes) 999) 0 0 0 = J9 1 0
    rw [B_X12_read_39, if_neg h, if_pos (show (0 : Int32) = 0 from rfl), bnd_e, hix, ck_e, jn_e, if_pos hln]
    show B_X12_read_39 x4 J9 x3 x1 st w3 cells J12 lanes x2 sizes (lq3 (B_X12_read_39 x4 J9 x3 x1 st w3 cells J12 lanes x2 sizes) 998) (0 + 1) 0 1 = J9 1 0
    rw [B_X12_read_39]
    by_cases h2 : x4 ≤ 0 + 1
    · rw [if_pos h2]
    · rw [if_neg h2, if_neg (show ¬ (1 : Int32) = 0 from by decide)]
