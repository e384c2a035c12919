theorem okS_init {u : Int → Int} (hu : ∀ j, 0 ≤ j → j < 7 → u j = 1) : okS 4 0 0 0 0 (fun _ => 0) (fun _ => 0) u (fun _ => 0) (fun _ => 0) := by
  refine ⟨by decide, by decide, by decide, by decide, fun j _ _ => ?_, fun j _ _ => ?_, fun j a b => ?_, fun j _ _ => ?_, fun j a b => ?_⟩
  · show (0 : Int) ≤ 0 ∧ (0 : Int) ≤ 9
    decide
  · show (0 : Int) ≤ 0 ∧ (0 : Int) < 128
    decide
  · rw [hu j a b]
    decide
  · show (0 : Int) ≤ 0 ∧ (0 : Int) ≤ 9 * 0
    decide
  · omega
theorem InvX_init {u : Int → Int} (hu : ∀ j, 0 ≤ j → j < 7 → u j = 1) : InvX (0 : Int) (fun _ => (0 : Int)) (4 : Int) (0 : Int) (fun _ => (0 : Int)) (fun _ => (0 : Int)) (0 : Int) (0 : Int) (0 : Int) (0 : Int) (fun _ => (0 : Int)) (fun _ => (0 : Int)) u (fun _ => (0 : Int)) (fun _ => (0 : Int)) (fun _ => (0 : Int)) (0 : Int) (0 : Int) (0 : Int) (0 : Int) (fun _ => (0 : Int)) (fun _ => (0 : Int)) u (fun _ => (0 : Int)) (fun _ => (0 : Int)) (0 : Int) (0 : Int) (0 : Int) (0 : Int) (fun _ => (0 : Int)) (fun _ => (0 : Int)) u (fun _ => (0 : Int)) (fun _ => (0 : Int)) (-4 : Int) (0 : Int) (-4 : Int) (0 : Int) (-4 : Int) (0 : Int) (-4 : Int) (0 : Int) (fun _ => (0 : Int)) (fun _ => (0 : Int)) (fun _ => (0 : Int)) (fun _ => (0 : Int)) (fun _ => (0 : Int)) (fun _ => (0 : Int)) (0 : Int) := by
  have h := okS_init hu
  have hz : ∀ j : Int, 0 ≤ j → j < 40 → -2147483648 ≤ (fun _ => (0 : Int)) j ∧ (fun _ => (0 : Int)) j < 2147483648 := fun j _ _ => (by decide : -2147483648 ≤ (0 : Int) ∧ (0 : Int) < 2147483648)
  refine ⟨by decide, fun j _ _ => (by decide : -128 ≤ (0 : Int) ∧ (0 : Int) < 128), ⟨by decide, by decide, fun j _ _ => (by decide : (0 : Int) ≤ 0 ∧ (0 : Int) ≤ 9), fun r a b => absurd b (by omega)⟩, h, fun j _ _ => Or.inl rfl, fun c => absurd rfl c, fun c => absurd rfl c, by decide, by decide, by decide, by decide, hz, hz, hz, hz, fun j _ _ => (by decide : -4 ≤ (0 : Int) ∧ (0 : Int) < 5), fun j _ _ => (by decide : (0 : Int) ≤ 0 ∧ (0 : Int) < 5), by decide⟩
theorem InvK_init {n s : Int} {st kp br nd dr dn : Int → Int} (h1 : n = 4) (h2 : s = 0) (h3 : ∀ j, 0 ≤ j → j < 38 → st j = dr j) (h4 : ∀ j, 0 ≤ j → j < 2 → kp j = 0) (h5 : ∀ j, 0 ≤ j → j < 7 → nd j = dn j) (h6 : ∀ j, 0 ≤ j → j < 38 → dr j = if 16 ≤ j ∧ j < 23 then 1 else 0) (h7 : ∀ j, 0 ≤ j → j < 7 → dn j = 0) : InvK (0 : Int) (fun _ => (0 : Int)) n s nd br st kp (z_up (z_up (z_up (z_up (fun _ => (0 : Int)) (0 : Int) (-4 : Int)) (1 : Int) (-4 : Int)) (2 : Int) (-4 : Int)) (3 : Int) (-4 : Int)) (fun _ => (0 : Int)) (fun _ => (0 : Int)) (0 : Int) := by
  subst h1 h2
  have e : ∀ j, 0 ≤ j → j < 38 → st j = if 16 ≤ j ∧ j < 23 then 1 else 0 := fun j a b => by rw [h3 j a b, h6 j a b]
  refine ⟨by decide, fun j _ _ => (by decide : (0 : Int) ≤ 0 ∧ (0 : Int) ≤ 255), ⟨by decide, by decide, fun j a b => by rw [h5 j a b, h7 j a b]; decide, fun r a b => absurd b (by omega)⟩, ?_, fun j a b => Or.inl (h4 j a b), fun k a b c => absurd (h4 k a b) c, fun j a b => ?_, fun j _ _ => (by decide : -2147483648 ≤ (0 : Int) ∧ (0 : Int) < 2147483648), by decide⟩
  · refine ⟨by rw [e 7 (by omega) (by omega)]; decide, by rw [e 8 (by omega) (by omega)]; decide, by rw [e 30 (by omega) (by omega)]; decide, by rw [e 31 (by omega) (by omega)]; decide, fun j a b => ?_, fun j a b => ?_, fun j a b => ?_, fun j a b => ?_, fun j a b => ?_⟩
    · rw [e j a (by omega), if_neg (by omega)]; decide
    · dsimp only; rw [e _ (by omega) (by omega), if_neg (by omega)]; decide
    · dsimp only; rw [e _ (by omega) (by omega), if_pos (by omega)]; decide
    · dsimp only; rw [e _ (by omega) (by omega), e 30 (by omega) (by omega), if_neg (by omega), if_neg (by omega)]; decide
    · rw [e 31 (by omega) (by omega), if_neg (by omega)] at b; omega
  · simp only [z_up_a]
    refine ⟨?_, by decide⟩
    repeat' split
    all_goals omega
theorem SRel_init {u : Int → Int} {n s : Int} {st kp br nd dr dn : Int → Int} (hu : ∀ j, 0 ≤ j → j < 7 → u j = 1) (h1 : n = 4) (h2 : s = 0) (h3 : ∀ j, 0 ≤ j → j < 38 → st j = dr j) (h4 : ∀ j, 0 ≤ j → j < 2 → kp j = 0) (h5 : ∀ j, 0 ≤ j → j < 7 → nd j = dn j) (h6 : ∀ j, 0 ≤ j → j < 38 → dr j = if 16 ≤ j ∧ j < 23 then 1 else 0) (h7 : ∀ j, 0 ≤ j → j < 7 → dn j = 0) : SRel (0 : Int) (0 : Int) (fun _ => (0 : Int)) (fun _ => (0 : Int)) (4 : Int) (0 : Int) n s (fun _ => (0 : Int)) (fun _ => (0 : Int)) nd br (0 : Int) (0 : Int) (0 : Int) (0 : Int) (fun _ => (0 : Int)) (fun _ => (0 : Int)) u (fun _ => (0 : Int)) (fun _ => (0 : Int)) st (fun _ => (0 : Int)) kp (0 : Int) (0 : Int) (0 : Int) (0 : Int) (fun _ => (0 : Int)) (fun _ => (0 : Int)) u (fun _ => (0 : Int)) (fun _ => (0 : Int)) (0 : Int) (0 : Int) (0 : Int) (0 : Int) (fun _ => (0 : Int)) (fun _ => (0 : Int)) u (fun _ => (0 : Int)) (fun _ => (0 : Int)) (-4 : Int) (z_up (z_up (z_up (z_up (fun _ => (0 : Int)) (0 : Int) (-4 : Int)) (1 : Int) (-4 : Int)) (2 : Int) (-4 : Int)) (3 : Int) (-4 : Int)) (0 : Int) (fun _ => (0 : Int)) (fun _ => (0 : Int)) (fun _ => (0 : Int)) (-4 : Int) (0 : Int) (fun _ => (0 : Int)) (-4 : Int) (0 : Int) (fun _ => (0 : Int)) (-4 : Int) (0 : Int) (fun _ => (0 : Int)) (0 : Int) (0 : Int) := by
  subst h1 h2
  have e : ∀ j, 0 ≤ j → j < 38 → st j = if 16 ≤ j ∧ j < 23 then 1 else 0 := fun j a b => by rw [h3 j a b, h6 j a b]
  refine ⟨rfl, fun j a b => absurd b (by omega), ⟨rfl, rfl, fun j a b => by rw [h5 j a b, h7 j a b], fun t a b => absurd b (by omega)⟩, ⟨?_, ?_, ?_, ?_, fun j a b => ?_, fun j a b => ?_, fun j a b => ?_, fun j a b => ?_, fun j a b => absurd b (by omega)⟩, fun k a b => (h4 k a b).symm, fun c => absurd (h4 0 (by omega) (by omega)) c, fun c => absurd (h4 1 (by omega) (by omega)) c, ⟨rfl, rfl, fun _ _ _ => rfl⟩, ⟨rfl, rfl, fun _ _ _ => rfl⟩, ⟨rfl, rfl, fun _ _ _ => rfl⟩, ⟨rfl, rfl, fun _ _ _ => rfl⟩, rfl⟩
  · rw [e 31 (by omega) (by omega), if_neg (by omega)]
  · rw [e 7 (by omega) (by omega), if_neg (by omega)]
  · rw [e 8 (by omega) (by omega), if_neg (by omega)]
  · rw [e 30 (by omega) (by omega), if_neg (by omega)]
  · rw [e j a (by omega), if_neg (by omega)]
  · rw [e _ (by omega) (by omega), if_neg (by omega)]
  · rw [e _ (by omega) (by omega), if_pos (by omega)]; exact hu j a b
  · rw [e _ (by omega) (by omega), if_neg (by omega)]
