theorem look_r {t : Int → Int} {L x r : Int} (ht : ∀ j, 0 ≤ j → j < 320 → 0 ≤ t j ∧ t j ≤ 255) (hL : L ≤ 320) (h0 : 0 ≤ x) (h : r = if x < L then t x else -1) : -1 ≤ r ∧ r ≤ 255 := by
  rw [h]
  split
  · have := ht x h0 (by omega); omega
  · omega
theorem look_d {t : Int → Int} {L x r : Int} (ht : ∀ j, 0 ≤ j → j < 320 → 0 ≤ t j ∧ t j ≤ 255) (hL : L ≤ 320) (h0 : 0 ≤ x) (h : r = if x < L then t x else -1) : (x < L ∧ r = t x ∧ 0 ≤ r ∧ r ≤ 255) ∨ (L ≤ x ∧ r = -1) := by
  by_cases c : x < L
  · rw [if_pos c] at h
    have := ht x h0 (by omega)
    left; omega
  · rw [if_neg c] at h
    right; omega
theorem if01 {P : Prop} [Decidable P] {z : Int} (h : z = if P then 1 else 0) : (z = 1 ∧ P) ∨ (z = 0 ∧ ¬ P) := by
  by_cases c : P
  · rw [if_pos c] at h; exact Or.inl ⟨h, c⟩
  · rw [if_neg c] at h; exact Or.inr ⟨h, c⟩
theorem tokI_next {t : Int → Int} {L pos frm so v fl wa pos2 frm2 so2 v2 fl2 wa2 : Int} (ht : ∀ j, 0 ≤ j → j < 320 → 0 ≤ t j ∧ t j ≤ 255) (hL : L ≤ 320) (h : tokI L pos frm so v fl wa)
    (h1 : ¬ fl = 0 → pos2 = pos ∧ frm2 = frm ∧ so2 = so ∧ v2 = v ∧ fl2 = fl ∧ wa2 = wa) (h2 : fl = 0 → (pos ≤ frm2 ∧ frm2 ≤ L) ∧ (∀ j, pos ≤ j → j < frm2 → t j = 32) ∧ (frm2 < L → ¬ t frm2 = 32) ∧ tokr t L frm2 pos2 so2 v2 fl2 ∧ (wa2 = if fl2 = 0 then wa else frm2)) :
    tokI L pos2 frm2 so2 v2 fl2 wa2 ∧ frm ≤ frm2 ∧ (fl = 0 → pos ≤ frm2) ∧ (¬ fl = 0 → ¬ fl2 = 0) := by
  obtain ⟨i1, i2, i3, i4, i5, i6, i7⟩ := h
  by_cases c : fl = 0
  · obtain ⟨a1, a2, a3, a4, a5⟩ := h2 c
    obtain ⟨b1, b2, b3, b4, b5, b6⟩ := tokr_use ht (by omega) hL a1.2 a4
    refine ⟨⟨by omega, b2, b3, by omega, ?_, b5, b6⟩, by omega, fun _ => a1.1, fun h => absurd c h⟩
    intro h
    rw [if_neg h] at a5
    omega
  · obtain ⟨rfl, rfl, rfl, rfl, rfl, rfl⟩ := h1 c
    exact ⟨⟨i1, i2, i3, i4, i5, i6, i7⟩, Int.le_refl _, fun h => absurd h c, fun h => h⟩
/-! the reference's reader, held against what is told -/
def bR (B t : Int → Int) (L : Int) : Prop := ∀ j, 0 ≤ j → j < L → (B j = t j ∧ t j < 128) ∨ (B j < 0 ∧ 128 ≤ t j)
def cur (B : Int → Int) (L p pos frm so v : Int) : Prop := frm = tS B L p ∧ pos = tA B L p ∧ so = tT B L p ∧ (so = 2 → v = tV B L p) ∧ ¬ tT B L p = 4
def STt (B : Int → Int) (L p pos frm so v fl wa : Int) : Prop := (fl = 0 ∧ cur B L p pos frm so v) ∨ (¬ fl = 0 ∧ wa = tS B L p ∧ tT B L p = 4)
theorem tokr_TK {B t : Int → Int} {L p s a so v fl : Int} (hB : bR B t L) (hp : 0 ≤ p) (h1 : p ≤ s ∧ s ≤ L) (h2 : ∀ j, p ≤ j → j < s → t j = 32) (h3 : s < L → ¬ t s = 32) (h : tokr t L s a so v fl) : (fl = 0 ∧ TK B L p s a so v ∧ ¬ so = 4) ∨ (fl = 1 ∧ ∃ a2, TK B L p s a2 4 v) := by
  have g2 : ∀ j, p ≤ j → j < s → B j = 32 := fun j x y => by
    have := hB j (by omega) (by omega)
    have := h2 j x y
    omega
  have g3 : s < L → ¬ B s = 32 := fun x => by
    have := hB s (by omega) x
    have := h3 x
    omega
  unfold tokr at h
  by_cases c0 : s = L
  · rw [if_pos c0] at h
    refine Or.inl ⟨h.2.2, ⟨h1, g2, g3, ?_⟩, by omega⟩
    unfold tokc
    rw [if_pos c0]
    exact ⟨h.1, h.2.1⟩
  · rw [if_neg c0] at h
    have e := hB s (by omega) (by omega)
    by_cases c1 : 97 ≤ t s ∧ t s ≤ 122
    · rw [if_pos c1] at h
      obtain ⟨a1, a2, a3, a4, a5, a6⟩ := h
      refine Or.inl ⟨a6, ⟨h1, g2, g3, ?_⟩, by omega⟩
      unfold tokc
      rw [if_neg c0, if_pos (by omega)]
      refine ⟨a1, a2, a3, fun j x y => ?_, fun x => ?_⟩
      · have := hB j (by omega) (by omega)
        have := a4 j x y
        omega
      · have := hB a (by omega) x
        have := a5 x
        omega
    · rw [if_neg c1] at h
      by_cases c2 : 48 ≤ t s ∧ t s ≤ 57
      · rw [if_pos c2] at h
        obtain ⟨a1, a2, a3, a4, a5, a6, a7, a8⟩ := h
        have k4 : ∀ j, s ≤ j → j < a → 48 ≤ B j ∧ B j ≤ 57 := fun j x y => by
          have := hB j (by omega) (by omega)
          have := a4 j x y
          omega
        have k5 : a < L → ¬ (48 ≤ B a ∧ B a ≤ 57) := fun x => by
          have := hB a (by omega) x
          have := a5 x
          omega
        have es : B s = t s := by omega
        by_cases c3 : a - s ≤ 2
        · rw [if_pos c3] at a8
          refine Or.inl ⟨a8, ⟨h1, g2, g3, ?_⟩, by omega⟩
          unfold tokc
          rw [if_neg c0, if_neg (by omega), if_pos (by omega)]
          refine ⟨by rw [if_pos c3]; exact a1, a2, a3, k4, k5, fun x => ?_, fun x => ?_⟩
          · rw [es]; exact a6 x
          · have := hB (s + 1) (by omega) (by omega)
            have := a4 (s + 1) (by omega) (by omega)
            have := a7 (by omega)
            omega
        · rw [if_neg c3] at a8
          refine Or.inr ⟨a8, a, ⟨h1, g2, g3, ?_⟩⟩
          unfold tokc
          rw [if_neg c0, if_neg (by omega), if_pos (by omega)]
          exact ⟨by rw [if_neg c3], a2, a3, k4, k5, fun x => by omega, fun x => by omega⟩
      · rw [if_neg c2] at h
        obtain ⟨a1, a2, a3⟩ := h
        by_cases c3 : t s = 59
        · rw [if_pos c3] at a3
          refine Or.inl ⟨a3, ⟨h1, g2, g3, ?_⟩, by omega⟩
          unfold tokc
          rw [if_neg c0, if_neg (by omega), if_neg (by omega), if_pos (by omega)]
          exact ⟨a1, a2⟩
        · rw [if_neg c3] at a3
          refine Or.inr ⟨a3, s, ⟨h1, g2, g3, ?_⟩⟩
          unfold tokc
          rw [if_neg c0, if_neg (by omega), if_neg (by omega), if_neg (by omega)]
          exact ⟨rfl, rfl⟩
theorem nt_st {B t : Int → Int} {L pos frm so v fl wa pos2 frm2 so2 v2 fl2 wa2 : Int} (hB : bR B t L) (hp : 0 ≤ pos)
    (h1 : ¬ fl = 0 → pos2 = pos ∧ frm2 = frm ∧ so2 = so ∧ v2 = v ∧ fl2 = fl ∧ wa2 = wa) (h2 : fl = 0 → (pos ≤ frm2 ∧ frm2 ≤ L) ∧ (∀ j, pos ≤ j → j < frm2 → t j = 32) ∧ (frm2 < L → ¬ t frm2 = 32) ∧ tokr t L frm2 pos2 so2 v2 fl2 ∧ (wa2 = if fl2 = 0 then wa else frm2)) :
    (fl = 0 → STt B L pos pos2 frm2 so2 v2 fl2 wa2) ∧ (¬ fl = 0 → ¬ fl2 = 0 ∧ wa2 = wa) := by
  refine ⟨fun c => ?_, fun c => ?_⟩
  · obtain ⟨a1, a2, a3, a4, a5⟩ := h2 c
    rcases tokr_TK hB hp a1 a2 a3 a4 with ⟨e, k, z⟩ | ⟨e, a, k⟩
    · obtain ⟨k1, k2, k3, k4⟩ := tk_eq k
      exact Or.inl ⟨e, k1, k2, k3, k4, by rw [← k3]; exact z⟩
    · obtain ⟨k1, k2, k3, k4⟩ := tk_eq k
      rw [if_neg (by omega)] at a5
      exact Or.inr ⟨by omega, by rw [a5]; exact k1, k3.symm⟩
  · obtain ⟨_, _, _, _, e5, e6⟩ := h1 c
    exact ⟨by omega, e6⟩
/-- what looked() finds -/
def lkP (so v frm x1 x2 fl wa r fl1 wa1 : Int) : Prop := (fl = 0 → (so = 2 ∧ x1 ≤ v ∧ v ≤ x2 ∧ r = v ∧ fl1 = 0) ∨ (¬ (so = 2 ∧ x1 ≤ v ∧ v ≤ x2) ∧ ¬ fl1 = 0 ∧ wa1 = frm)) ∧ (¬ fl = 0 → ¬ fl1 = 0 ∧ wa1 = wa)
theorem lkd_p {fl so v x1 x2 frm wa r fl2 wa2 : Int} (h1 : r = if fl = 0 ∧ so = 2 ∧ x1 ≤ v ∧ v ≤ x2 then v else 0) (h2 : fl2 = if ¬ fl = 0 then fl else if ¬ so = 2 then 2 else if x1 ≤ v ∧ v ≤ x2 then 0 else 3) (h3 : wa2 = if fl = 0 ∧ ¬ (fl = 0 ∧ so = 2 ∧ x1 ≤ v ∧ v ≤ x2) then frm else wa) : lkP so v frm x1 x2 fl wa r fl2 wa2 := by
  unfold lkP
  by_cases c : fl = 0
  · by_cases d : so = 2
    · by_cases e : x1 ≤ v ∧ v ≤ x2
      · rw [if_pos ⟨c, d, e⟩] at h1
        rw [if_neg (by omega), if_neg (by omega), if_pos e] at h2
        exact ⟨fun _ => Or.inl ⟨d, e.1, e.2, h1, h2⟩, fun z => absurd c z⟩
      · rw [if_neg (by omega), if_neg (by omega), if_neg e] at h2
        rw [if_pos (by omega)] at h3
        exact ⟨fun _ => Or.inr ⟨fun z => e z.2, by omega, h3⟩, fun z => absurd c z⟩
    · rw [if_neg (by omega), if_pos d] at h2
      rw [if_pos (by omega)] at h3
      exact ⟨fun _ => Or.inr ⟨fun z => d z.1, by omega, h3⟩, fun z => absurd c z⟩
  · rw [if_pos c] at h2
    rw [if_neg (by omega)] at h3
    exact ⟨fun z => absurd z c, fun _ => ⟨by omega, h3⟩⟩
/-- a number is read of the token at P -/
def rdE (B : Int → Int) (L P x1 x2 : Int) (E : Prop) (fl wa r pos2 frm2 so2 v2 fl2 wa2 : Int) : Prop :=
  (fl = 0 → (tT B L P = 2 ∧ x1 ≤ tV B L P ∧ tV B L P ≤ x2 ∧ E ∧ r = tV B L P ∧ STt B L (tA B L P) pos2 frm2 so2 v2 fl2 wa2) ∨ (¬ (tT B L P = 2 ∧ x1 ≤ tV B L P ∧ tV B L P ≤ x2 ∧ E) ∧ ¬ fl2 = 0 ∧ wa2 = tS B L P)) ∧ (¬ fl = 0 → ¬ fl2 = 0 ∧ wa2 = wa)
theorem rdE_lkE {B : Int → Int} {E : Prop} {L P pos frm so v fl wa x1 x2 r fl1 wa1 fl3 wa3 pos2 frm2 so2 v2 fl2 wa2 : Int} (hc : fl = 0 → cur B L P pos frm so v) (hl : lkP so v frm x1 x2 fl wa r fl1 wa1) (hd : (fl1 = 0 → (E ∧ fl3 = 0) ∨ (¬ E ∧ ¬ fl3 = 0 ∧ wa3 = frm)) ∧ (¬ fl1 = 0 → ¬ fl3 = 0 ∧ wa3 = wa1)) (hn : (fl3 = 0 → STt B L pos pos2 frm2 so2 v2 fl2 wa2) ∧ (¬ fl3 = 0 → ¬ fl2 = 0 ∧ wa2 = wa3)) : rdE B L P x1 x2 E fl wa r pos2 frm2 so2 v2 fl2 wa2 := by
  refine ⟨fun c => ?_, fun c => ?_⟩
  · obtain ⟨c1, c2, c3, c4, c5⟩ := hc c
    rcases hl.1 c with ⟨g1, g2, g3, g4, g5⟩ | ⟨g1, g2, g3⟩
    · have e := c4 g1
      rcases hd.1 g5 with ⟨d1, d2⟩ | ⟨d1, d2, d3⟩
      · refine Or.inl ⟨by omega, by omega, by omega, d1, by omega, ?_⟩
        rw [← c2]; exact hn.1 d2
      · exact Or.inr ⟨fun z => d1 z.2.2.2, (hn.2 d2).1, by rw [(hn.2 d2).2, d3, c1]⟩
    · obtain ⟨d1, d2⟩ := hd.2 g2
      refine Or.inr ⟨fun z => g1 ?_, (hn.2 d1).1, by rw [(hn.2 d1).2, d2, g3, c1]⟩
      have e2 : so = 2 := by have := z.1; omega
      have := c4 e2
      have := z.2.1
      have := z.2.2.1
      exact ⟨e2, by omega, by omega⟩
  · obtain ⟨g1, g2⟩ := hl.2 c
    obtain ⟨d1, d2⟩ := hd.2 g1
    obtain ⟨k1, k2⟩ := hn.2 d1
    exact ⟨k1, by omega⟩
theorem rdE_lk {B : Int → Int} {L P pos frm so v fl wa x1 x2 r fl1 wa1 pos2 frm2 so2 v2 fl2 wa2 : Int} (hc : fl = 0 → cur B L P pos frm so v) (hl : lkP so v frm x1 x2 fl wa r fl1 wa1) (hn : (fl1 = 0 → STt B L pos pos2 frm2 so2 v2 fl2 wa2) ∧ (¬ fl1 = 0 → ¬ fl2 = 0 ∧ wa2 = wa1)) : rdE B L P x1 x2 True fl wa r pos2 frm2 so2 v2 fl2 wa2 :=
  rdE_lkE (E := True) (fl3 := fl1) (wa3 := wa1) hc hl ⟨fun e => Or.inl ⟨trivial, e⟩, fun e => ⟨e, rfl⟩⟩ hn
/-- the numbers of a line, c of them read and good, or a fault among them -/
def RQ (B : Int → Int) (L p nm : Int) (D : Int → Int) (c pos frm so v fl wa : Int) : Prop := (fl = 0 ∧ (∀ j, 0 ≤ j → j < c → okn B L p nm D j) ∧ cur B L (PP B L p c) pos frm so v) ∨ (¬ fl = 0 ∧ lnW B L p nm D wa)
section
variable {B : Int → Int} {L p nm c pos frm so v fl wa pos2 frm2 so2 v2 fl2 wa2 x1 x2 r : Int} {D : Int → Int} {E : Prop}
theorem RQ_0 (h : STt B L p pos frm so v fl wa) : RQ B L p nm D 0 pos frm so v fl wa := by
  rcases h with ⟨h1, h2⟩ | ⟨h1, h2, h3⟩
  · exact Or.inl ⟨h1, fun j a b => by omega, h2⟩
  · refine Or.inr ⟨h1, 0, ⟨by omega, fun j a b => by omega, fun z => ?_⟩, fun z => ?_, h2⟩
    · have := z.1; rw [PP_0] at this; omega
    · have := z.1; rw [PP_0] at this; omega
theorem RQ_s (hc : 0 ≤ c) (h : RQ B L p nm D c pos frm so v fl wa) (hr : rdE B L (PP B L p c) x1 x2 E fl wa r pos2 frm2 so2 v2 fl2 wa2) (hk : fl = 0 → ((tT B L (PP B L p c) = 2 ∧ x1 ≤ tV B L (PP B L p c) ∧ tV B L (PP B L p c) ≤ x2 ∧ E) ↔ okn B L p nm D c)) (hf : fl = 0 → ¬ (tT B L (PP B L p c) = 3 ∧ z_T 0 nm ≤ c)) : RQ B L p nm D (c + 1) pos2 frm2 so2 v2 fl2 wa2 ∧ (fl2 = 0 → fl = 0 ∧ r = tV B L (PP B L p c)) := by
  by_cases e : fl = 0
  · rcases h with ⟨_, g1, g2⟩ | ⟨g, _⟩
    · rcases hr.1 e with ⟨k1, k2, k3, k4, k5, k6⟩ | ⟨k1, k2, k3⟩
      · have ho := (hk e).mp ⟨k1, k2, k3, k4⟩
        refine ⟨?_, fun _ => ⟨e, k5⟩⟩
        have all : ∀ j, 0 ≤ j → j < c + 1 → okn B L p nm D j := fun j a b => by
          by_cases ej : j = c
          · rw [ej]; exact ho
          · exact g1 j a (by omega)
        rcases k6 with ⟨m1, m2⟩ | ⟨m1, m2, m3⟩
        · exact Or.inl ⟨m1, all, by rw [PP_s hc]; exact m2⟩
        · refine Or.inr ⟨m1, c + 1, ⟨by omega, all, fun z => ?_⟩, fun z => ?_, by rw [PP_s hc]; exact m2⟩
          · have := z.1; rw [PP_s hc] at this; omega
          · have := z.1; rw [PP_s hc] at this; omega
      · exact ⟨Or.inr ⟨k2, c, ⟨hc, g1, fun z => k1 ((hk e).mpr z)⟩, hf e, k3⟩, fun z => absurd z k2⟩
    · exact absurd e g
  · rcases h with ⟨g, _⟩ | ⟨_, g⟩
    · exact absurd g e
    · obtain ⟨k1, k2⟩ := hr.2 e
      exact ⟨Or.inr ⟨k1, by rw [k2]; exact g⟩, fun z => absurd z k1⟩
theorem okn_0 : okn B L p nm D 0 ↔ tT B L (PP B L p 0) = 2 ∧ 0 < z_T 1 nm ∧ z_T 2 nm ≤ tV B L (PP B L p 0) ∧ tV B L (PP B L p 0) ≤ z_T 3 nm := by
  unfold okn
  constructor
  · rintro ⟨h1, h2, h3, _, _⟩
    exact ⟨h1, h2, (h3 rfl).1, (h3 rfl).2⟩
  · rintro ⟨h1, h2, h3, h4⟩
    exact ⟨h1, h2, fun _ => ⟨h3, h4⟩, fun z => absurd rfl z, fun z => by omega⟩
theorem okn_n (h0 : ¬ c = 0) (h : c = 1 → ¬ nm = 4 ∧ ¬ nm = 9) : okn B L p nm D c ↔ tT B L (PP B L p c) = 2 ∧ c < z_T 1 nm ∧ z_T 4 nm ≤ tV B L (PP B L p c) ∧ tV B L (PP B L p c) ≤ z_T 5 nm := by
  unfold okn
  constructor
  · rintro ⟨h1, h2, _, h3, _⟩
    exact ⟨h1, h2, (h3 h0).1, (h3 h0).2⟩
  · rintro ⟨h1, h2, h3, h4⟩
    refine ⟨h1, h2, fun z => absurd z h0, fun _ => ⟨h3, h4⟩, fun z => ?_⟩
    obtain ⟨z1, z2⟩ := z
    unfold agn at z2
    have := h z1
    omega
theorem okn_1 (h1 : z_T 1 nm = 2) : okn B L p nm D 1 ↔ tT B L (PP B L p 1) = 2 ∧ z_T 4 nm ≤ tV B L (PP B L p 1) ∧ tV B L (PP B L p 1) ≤ z_T 5 nm ∧ ¬ agn (fun i => D (30 + i)) (fun i => tV B L (PP B L p i)) nm (tV B L (PP B L p 1)) := by
  unfold okn
  constructor
  · rintro ⟨k1, k2, _, k3, k4⟩
    exact ⟨k1, (k3 (by omega)).1, (k3 (by omega)).2, fun z => k4 ⟨rfl, z⟩⟩
  · rintro ⟨k1, k2, k3, k4⟩
    exact ⟨k1, by omega, fun z => by omega, fun _ => ⟨k2, k3⟩, fun z => k4 z.2⟩
/-- the first number of a line -/
theorem RQ_a (h : cur B L p pos frm so v) (hr : rdE B L p x1 x2 True fl wa r pos2 frm2 so2 v2 fl2 wa2) (h0 : fl = 0) (e1 : z_T 2 nm = x1) (e2 : z_T 3 nm = x2) (e3 : 0 < z_T 1 nm) (e4 : 0 < z_T 0 nm) : RQ B L p nm D 1 pos2 frm2 so2 v2 fl2 wa2 ∧ (fl2 = 0 → r = tV B L p) := by
  subst h0
  have q := RQ_s (B := B) (L := L) (p := p) (nm := nm) (D := D) (c := 0) (fl := 0) (wa := wa) (by omega) (Or.inl ⟨rfl, fun j a b => by omega, h⟩) hr (fun _ => by rw [okn_0]; subst e1 e2; exact ⟨fun z => ⟨z.1, e3, z.2.1, z.2.2.1⟩, fun z => ⟨z.1, z.2.2.1, z.2.2.2, trivial⟩⟩) (fun _ z => by have := z.2; omega)
  exact ⟨q.1, fun z => (q.2 z).2⟩
theorem rdE_cur (hr : rdE B L p x1 x2 E fl wa r pos2 frm2 so2 v2 fl2 wa2) (h : fl2 = 0) : fl = 0 ∧ r = tV B L p ∧ (x1 ≤ r ∧ r ≤ x2) ∧ cur B L (tA B L p) pos2 frm2 so2 v2 := by
  by_cases e : fl = 0
  · rcases hr.1 e with ⟨k1, k2, k3, k4, k5, k6⟩ | ⟨k1, k2, k3⟩
    · rcases k6 with ⟨m1, m2⟩ | ⟨m1, _⟩
      · exact ⟨e, k5, by omega, m2⟩
      · exact absurd h m1
    · exact absurd h k2
  · exact absurd h (hr.2 e).1
/-- the second number of a line -/
theorem RQ_b (h : RQ B L p nm D 1 pos frm so v fl wa) (hr : rdE B L (tA B L p) x1 x2 True fl wa r pos2 frm2 so2 v2 fl2 wa2) (e1 : z_T 4 nm = x1) (e2 : z_T 5 nm = x2) (e3 : 1 < z_T 1 nm) (e4 : 1 < z_T 0 nm) (e5 : ¬ nm = 4 ∧ ¬ nm = 9) : RQ B L p nm D 2 pos2 frm2 so2 v2 fl2 wa2 ∧ (fl2 = 0 → fl = 0 ∧ r = tV B L (tA B L p)) :=
  RQ_s (B := B) (L := L) (p := p) (nm := nm) (D := D) (c := 1) (by omega) h hr (fun _ => by rw [okn_n (by omega) (fun _ => e5)]; subst e1 e2; exact ⟨fun z => ⟨z.1, e3, z.2.1, z.2.2.1⟩, fun z => ⟨z.1, z.2.2.1, z.2.2.2, trivial⟩⟩) (fun _ z => by have := z.2; omega)
/-- the second number of friend, of swap -/
theorem RQ_c (h : RQ B L p nm D 1 pos frm so v fl wa) (hr : rdE B L (tA B L p) 0 6 E fl wa r pos2 frm2 so2 v2 fl2 wa2) (e5 : nm = 4 ∨ nm = 9) (hE : fl = 0 → (E ↔ ¬ agn (fun i => D (30 + i)) (fun i => tV B L (PP B L p i)) nm (tV B L (tA B L p)))) : RQ B L p nm D 2 pos2 frm2 so2 v2 fl2 wa2 ∧ (fl2 = 0 → fl = 0 ∧ r = tV B L (tA B L p)) := by
  have f1 : z_T 1 nm = 2 := by rcases e5 with e | e <;> (rw [e]; rfl)
  have f4 : z_T 4 nm = 0 := by rcases e5 with e | e <;> (rw [e]; rfl)
  have f5 : z_T 5 nm = 6 := by rcases e5 with e | e <;> (rw [e]; rfl)
  have f0 : z_T 0 nm = 2 := by rcases e5 with e | e <;> (rw [e]; rfl)
  refine RQ_s (B := B) (L := L) (p := p) (nm := nm) (D := D) (c := 1) (by omega) h hr (fun z => ?_) (fun _ z => by have := z.2; omega)
  rw [okn_1 f1, f4, f5]
  have g := hE z
  exact ⟨fun q => ⟨q.1, q.2.1, q.2.2.1, g.mp q.2.2.2⟩, fun q => ⟨q.1, q.2.1, q.2.2.1, g.mpr q.2.2.2⟩⟩
/-- all numbers that a line can have were read -/
theorem RQ_z (h : RQ B L p nm D c pos frm so v fl wa) (hc : 0 ≤ c) (e1 : z_T 1 nm = c) (e0 : z_T 0 nm = c) : fl = 0 → lnC B L p nm D c ∧ z_T 0 nm ≤ c ∧ cur B L (PP B L p c) pos frm so v := by
  intro e
  rcases h with ⟨_, g1, g2⟩ | ⟨g, _⟩
  · exact ⟨⟨hc, g1, fun z => by have := z.2.1; omega⟩, by omega, g2⟩
  · exact absurd e g
theorem RQ_w (h : RQ B L p nm D c pos frm so v fl wa) : ¬ fl = 0 → lnW B L p nm D wa := by
  intro e
  rcases h with ⟨g, _⟩ | ⟨_, g⟩
  · exact absurd g e
  · exact g
theorem pot_step {fl1 wa1 wa3 z19 : Int} (hc : 0 ≤ c) (hc7 : c ≤ 7) (h : RQ B L p 1 D c pos frm so v fl wa) (h0 : fl = 0) (hm : c = 0 ∨ so = 2) (hnd : (z19 = 0 ∧ (c < 7 ∨ ¬ so = 2)) ∨ (¬ z19 = 0 ∧ wa1 = frm ∧ ¬ c < 7)) (hl : lkP so v frm 0 9 z19 wa1 r fl1 wa2) (hn : (fl1 = 0 → STt B L pos pos2 frm2 so2 v2 fl2 wa3) ∧ (¬ fl1 = 0 → ¬ fl2 = 0 ∧ wa3 = wa2)) : (fl1 = 0 → RQ B L p 1 D (c + 1) pos2 frm2 so2 v2 fl2 wa3 ∧ r = tV B L (PP B L p c)) ∧ (¬ fl1 = 0 → ¬ fl2 = 0 ∧ RQ B L p 1 D c pos2 frm2 so2 v2 fl2 wa3) := by
  rcases h with ⟨_, g1, c1, c2, c3, c4, c5⟩ | ⟨g, _⟩
  · have ho : okn B L p 1 D c ↔ (tT B L (PP B L p c) = 2 ∧ c < 7 ∧ 0 ≤ tV B L (PP B L p c) ∧ tV B L (PP B L p c) ≤ 9) := by
      by_cases e : c = 0
      · subst e; exact okn_0
      · exact okn_n e (fun _ => by omega)
    refine ⟨fun e => ?_, fun e => ?_⟩
    · rcases hnd with ⟨d1, d2⟩ | ⟨d1, _⟩
      · rcases hl.1 d1 with ⟨k1, k2, k3, k4, k5⟩ | ⟨_, k2, _⟩
        · have e2 := c4 k1
          have ok := ho.mpr ⟨by omega, by omega, by omega, by omega⟩
          refine ⟨?_, by omega⟩
          have all : ∀ j, 0 ≤ j → j < c + 1 → okn B L p 1 D j := fun j a b => by
            by_cases ej : j = c
            · rw [ej]; exact ok
            · exact g1 j a (by omega)
          rw [c2] at hn
          rcases hn.1 e with ⟨m1, m2⟩ | ⟨m1, m2, m3⟩
          · exact Or.inl ⟨m1, all, by rw [PP_s hc]; exact m2⟩
          · refine Or.inr ⟨m1, c + 1, ⟨by omega, all, fun z => ?_⟩, fun z => ?_, by rw [PP_s hc]; exact m2⟩
            · have := z.1; rw [PP_s hc] at this; omega
            · have := z.1; rw [PP_s hc] at this; omega
        · exact absurd e k2
      · exact absurd e (hl.2 d1).1
    · obtain ⟨k1, k2⟩ := hn.2 e
      have kw : wa2 = frm ∧ ¬ okn B L p 1 D c := by
        rcases hnd with ⟨d1, d2⟩ | ⟨d1, d2, d3⟩
        · rcases hl.1 d1 with ⟨_, _, _, _, m⟩ | ⟨m1, m2, m3⟩
          · exact absurd m e
          · refine ⟨m3, fun z => m1 ?_⟩
            have z := ho.mp z
            have e2 : so = 2 := by omega
            have := c4 e2
            exact ⟨e2, by omega, by omega⟩
        · exact ⟨by rw [(hl.2 d1).2, d2], fun z => d3 (ho.mp z).2.1⟩
      refine ⟨k1, Or.inr ⟨k1, c, ⟨hc, g1, kw.2⟩, fun z => ?_, by rw [k2, kw.1, c1]⟩⟩
      have z2 : (1 : Int) ≤ c := z.2
      have z1 := z.1
      omega
  · exact absurd h0 g
theorem lnF_4 (h : tT B L p = 4) {q : Int} (hq : q = tS B L p) : lnF B L p D q := ⟨by omega, -4, Or.inr ⟨rfl, fun z => by omega⟩, Or.inl ⟨Or.inl h, hq⟩⟩
theorem nd_E {g code fl2 wa2 : Int} (h1 : fl2 = if g = 0 ∧ fl = 0 then code else fl) (h2 : wa2 = if g = 0 ∧ fl = 0 then frm else wa) (hc : ¬ code = 0) (hE : fl = 0 → (¬ g = 0 ↔ E)) : (fl = 0 → (E ∧ fl2 = 0) ∨ (¬ E ∧ ¬ fl2 = 0 ∧ wa2 = frm)) ∧ (¬ fl = 0 → ¬ fl2 = 0 ∧ wa2 = wa) := by
  by_cases e : fl = 0
  · refine ⟨fun _ => ?_, fun z => absurd e z⟩
    have w := hE e
    by_cases d : g = 0
    · rw [if_pos ⟨d, e⟩] at h1 h2
      exact Or.inr ⟨fun z => (w.mpr z) d, by omega, h2⟩
    · rw [if_neg (fun z => d z.1)] at h1
      exact Or.inl ⟨w.mp d, by omega⟩
  · rw [if_neg (fun z => e z.2)] at h1 h2
    exact ⟨fun z => absurd z e, fun _ => ⟨by omega, h2⟩⟩
end
theorem agn4 {fr nu : Int → Int} {v : Int} : ¬ agn fr nu 4 v ↔ ¬ nu 0 = v ∧ bt (fr (nu 0)) v = 0 := by
  unfold agn
  constructor
  · intro h
    refine ⟨fun z => h (Or.inl ⟨rfl, Or.inl z.symm⟩), ?_⟩
    by_cases c : bt (fr (nu 0)) v = 0
    · exact c
    · exact absurd (Or.inl ⟨rfl, Or.inr c⟩) h
  · rintro ⟨h1, h2⟩ (⟨_, z | z⟩ | ⟨z, _⟩)
    · exact h1 z.symm
    · exact z h2
    · omega
theorem agn9 {fr nu : Int → Int} {v : Int} : ¬ agn fr nu 9 v ↔ ¬ nu 0 = v := by
  unfold agn
  constructor
  · intro h z
    exact h (Or.inr ⟨rfl, z.symm⟩)
  · rintro h1 (⟨z, _⟩ | ⟨_, z⟩)
    · omega
    · exact h1 z.symm
def rrel (D : Int → Int) (n s h : Int) (need dst dr : Int → Int) : Prop := n = D 0 ∧ s = D 1 ∧ max h 0 = D 2 ∧ dr 7 = D 4 ∧ dr 8 = D 5 ∧ (∀ j, 0 ≤ j → j < 7 → need j = D (10 + j)) ∧ (∀ j, 0 ≤ j → j < 7 → dr j = D (20 + j)) ∧ (∀ j, 0 ≤ j → j < 7 → dr (9 + j) = D (30 + j)) ∧ (∀ j, 0 ≤ j → j < 7 → dr (16 + j) = D (40 + j)) ∧
  (∀ r, 0 ≤ r → r < s → 7 + dst (3 * r) = D (100 + 3 * r) ∧ dst (3 * r + 1) = D (101 + 3 * r) ∧ dst (3 * r + 2) = D (102 + 3 * r))
theorem st_keep {b : Int → Int} {L p nm c s : Int} {D dst : Int → Int} (hn : nm < 7) (h : ∀ r, 0 ≤ r → r < s → 7 + dst (3 * r) = D (100 + 3 * r) ∧ dst (3 * r + 1) = D (101 + 3 * r) ∧ dst (3 * r + 2) = D (102 + 3 * r)) : ∀ r, 0 ≤ r → r < s → 7 + dst (3 * r) = tak b L p nm c D (100 + 3 * r) ∧ dst (3 * r + 1) = tak b L p nm c D (101 + 3 * r) ∧ dst (3 * r + 2) = tak b L p nm c D (102 + 3 * r) := by
  intro r a q
  rw [tak_st (by omega), tak_st (by omega), tak_st (by omega), if_neg (by omega), if_neg (by omega), if_neg (by omega), if_neg (by omega), if_neg (by omega), if_neg (by omega), if_neg (by omega), if_neg (by omega), if_neg (by omega)]
  exact h r a q
theorem ar10 {b : Int → Int} {L p nm c : Int} {D f : Int → Int} (hn : ¬ nm = 6) (h : ∀ j, 0 ≤ j → j < 7 → f j = D (10 + j)) : ∀ j, 0 ≤ j → j < 7 → f j = tak b L p nm c D (10 + j) := fun j a q => by rw [tak_10 a q, if_neg (fun z => hn z.1)]; exact h j a q
theorem ar20 {b : Int → Int} {L p nm c : Int} {D f : Int → Int} (hn : ¬ nm = 1) (h : ∀ j, 0 ≤ j → j < 7 → f j = D (20 + j)) : ∀ j, 0 ≤ j → j < 7 → f j = tak b L p nm c D (20 + j) := fun j a q => by rw [tak_20 a q, if_neg (fun z => hn z.1)]; exact h j a q
theorem ar30 {b : Int → Int} {L p nm c : Int} {D f : Int → Int} (hn : ¬ nm = 4) (h : ∀ j, 0 ≤ j → j < 7 → f j = D (30 + j)) : ∀ j, 0 ≤ j → j < 7 → f j = tak b L p nm c D (30 + j) := fun j a q => by rw [tak_30 a q, if_neg (fun z => hn z.1)]; exact h j a q
theorem ar40 {b : Int → Int} {L p nm c : Int} {D f : Int → Int} (hn : ¬ nm = 5) (h : ∀ j, 0 ≤ j → j < 7 → f j = D (40 + j)) : ∀ j, 0 ≤ j → j < 7 → f j = tak b L p nm c D (40 + j) := fun j a q => by rw [tak_40 a q, if_neg (fun z => hn z.1)]; exact h j a q
section
variable {B : Int → Int} {L p n s h : Int} {D need dst dr : Int → Int}
theorem rrel_seats (q : rrel D n s h need dst dr) {x : Int} (hx : x = tV B L p) : rrel (tak B L p 0 1 D) x s h need dst dr := by
  obtain ⟨r1, r2, r3, r4, r5, r6, r7, r8, r9, r10⟩ := q
  exact ⟨hx, r2, r3, r4, r5, ar10 (by decide) r6, ar20 (by decide) r7, ar30 (by decide) (f := fun j => dr (9 + j)) r8, ar40 (by decide) (f := fun j => dr (16 + j)) r9, st_keep (by decide) r10⟩
theorem rrel_bone (q : rrel D n s h need dst dr) {x : Int} (hx : x = tV B L p) : rrel (tak B L p 2 1 D) n s (max h x) need dst (z_up dr 7 x) := by
  obtain ⟨r1, r2, r3, r4, r5, r6, r7, r8, r9, r10⟩ := q
  refine ⟨r1, r2, ?_, by rw [z_up_s]; exact hx, by rw [z_up_n _ _ (by omega)]; exact r5, ar10 (by decide) r6, ar20 (by decide) (fun j a b => ?_), ar30 (by decide) (f := fun j => z_up dr 7 x (9 + j)) (fun j a b => ?_), ar40 (by decide) (f := fun j => z_up dr 7 x (16 + j)) (fun j a b => ?_), st_keep (by decide) r10⟩
  · show max (max h x) 0 = max (D 2) (tV B L p)
    omega
  · rw [z_up_n _ _ (by omega)]; exact r7 j a b
  · try dsimp only
    rw [z_up_n _ _ (by omega)]; exact r8 j a b
  · try dsimp only
    rw [z_up_n _ _ (by omega)]; exact r9 j a b
theorem rrel_king (q : rrel D n s h need dst dr) {x : Int} (hx : x = tV B L p) : rrel (tak B L p 3 1 D) n s (max h x) need dst (z_up dr 8 x) := by
  obtain ⟨r1, r2, r3, r4, r5, r6, r7, r8, r9, r10⟩ := q
  refine ⟨r1, r2, ?_, by rw [z_up_n _ _ (by omega)]; exact r4, by rw [z_up_s]; exact hx, ar10 (by decide) r6, ar20 (by decide) (fun j a b => ?_), ar30 (by decide) (f := fun j => z_up dr 8 x (9 + j)) (fun j a b => ?_), ar40 (by decide) (f := fun j => z_up dr 8 x (16 + j)) (fun j a b => ?_), st_keep (by decide) r10⟩
  · show max (max h x) 0 = max (D 2) (tV B L p)
    omega
  · rw [z_up_n _ _ (by omega)]; exact r7 j a b
  · try dsimp only
    rw [z_up_n _ _ (by omega)]; exact r8 j a b
  · try dsimp only
    rw [z_up_n _ _ (by omega)]; exact r9 j a b
theorem rrel_pot (q : rrel D n s h need dst dr) {dr2 : Int → Int} {h2 c : Int} (hc1 : 1 ≤ c) (hc : c ≤ 7) (g1 : ∀ j, 0 ≤ j → j < c → dr2 j = tV B L (PP B L p j)) (g2 : ∀ j, c ≤ j → dr2 j = dr j) (hh : h2 = max h (c - 1)) : rrel (tak B L p 1 c D) n s h2 need dst dr2 := by
  obtain ⟨r1, r2, r3, r4, r5, r6, r7, r8, r9, r10⟩ := q
  refine ⟨r1, r2, ?_, by rw [g2 _ (by omega)]; exact r4, by rw [g2 _ (by omega)]; exact r5, ar10 (by decide) r6, (fun j a b => ?_), ar30 (by decide) (f := fun j => dr2 (9 + j)) (fun j a b => ?_), ar40 (by decide) (f := fun j => dr2 (16 + j)) (fun j a b => ?_), st_keep (by decide) r10⟩
  · show max h2 0 = max (D 2) (c - 1)
    omega
  · rw [tak_20 a b]
    by_cases e : j < c
    · rw [if_pos ⟨rfl, e⟩]; exact g1 j a e
    · rw [if_neg (fun z => e z.2), g2 _ (by omega)]; exact r7 j a b
  · try dsimp only
    rw [g2 _ (by omega)]; exact r8 j a b
  · try dsimp only
    rw [g2 _ (by omega)]; exact r9 j a b
theorem rrel_friend (q : rrel D n s h need dst dr) {x y : Int} (hx : x = tV B L p) (hy : y = tV B L (tA B L p)) (x0 : 0 ≤ x) (x6 : x ≤ 6) : rrel (tak B L p 4 2 D) n s (max (max h x) y) need dst (z_up dr (9 + x) (z_or (dr (9 + x)) (z_shl 1 y))) := by
  obtain ⟨r1, r2, r3, r4, r5, r6, r7, r8, r9, r10⟩ := q
  refine ⟨r1, r2, ?_, by rw [z_up_n _ _ (by omega)]; exact r4, by rw [z_up_n _ _ (by omega)]; exact r5, ar10 (by decide) r6, ar20 (by decide) (fun j a b => ?_), (fun j a b => ?_), ar40 (by decide) (f := fun j => z_up dr (9 + x) (z_or (dr (9 + x)) (z_shl 1 y)) (16 + j)) (fun j a b => ?_), st_keep (by decide) r10⟩
  · show max (max (max h x) y) 0 = max (D 2) (max (tV B L p) (tV B L (tA B L p)))
    omega
  · rw [z_up_n _ _ (by omega)]; exact r7 j a b
  · rw [tak_30 a b, z_up_a, ← hx, ← hy]
    by_cases e : j = x
    · rw [if_pos (by omega), if_pos ⟨rfl, e⟩, e, r8 x x0 (by omega)]
    · rw [if_neg (by omega), if_neg (fun z => e z.2)]; exact r8 j a b
  · try dsimp only
    rw [z_up_n _ _ (by omega)]; exact r9 j a b
theorem rrel_spoons (q : rrel D n s h need dst dr) {x y : Int} (hx : x = tV B L p) (hy : y = tV B L (tA B L p)) (x0 : 0 ≤ x) (x6 : x ≤ 6) : rrel (tak B L p 5 2 D) n s (max h x) need dst (z_up dr (16 + x) y) := by
  obtain ⟨r1, r2, r3, r4, r5, r6, r7, r8, r9, r10⟩ := q
  refine ⟨r1, r2, ?_, by rw [z_up_n _ _ (by omega)]; exact r4, by rw [z_up_n _ _ (by omega)]; exact r5, ar10 (by decide) r6, ar20 (by decide) (fun j a b => ?_), ar30 (by decide) (f := fun j => z_up dr (16 + x) y (9 + j)) (fun j a b => ?_), (fun j a b => ?_), st_keep (by decide) r10⟩
  · show max (max h x) 0 = max (D 2) (tV B L p)
    omega
  · rw [z_up_n _ _ (by omega)]; exact r7 j a b
  · try dsimp only
    rw [z_up_n _ _ (by omega)]; exact r8 j a b
  · rw [tak_40 a b, z_up_a, ← hx, ← hy]
    by_cases e : j = x
    · rw [if_pos (by omega), if_pos ⟨rfl, e⟩]
    · rw [if_neg (by omega), if_neg (fun z => e z.2)]; exact r9 j a b
theorem rrel_need (q : rrel D n s h need dst dr) {x y : Int} (hx : x = tV B L p) (hy : y = tV B L (tA B L p)) : rrel (tak B L p 6 2 D) n s (max h x) (z_up need x y) dst dr := by
  obtain ⟨r1, r2, r3, r4, r5, r6, r7, r8, r9, r10⟩ := q
  refine ⟨r1, r2, ?_, r4, r5, (fun j a b => ?_), ar20 (by decide) r7, ar30 (by decide) (f := fun j => dr (9 + j)) r8, ar40 (by decide) (f := fun j => dr (16 + j)) r9, st_keep (by decide) r10⟩
  · show max (max h x) 0 = max (D 2) (tV B L p)
    omega
  · rw [tak_10 a b, z_up_a, ← hx, ← hy]
    by_cases e : j = x
    · rw [if_pos e, if_pos ⟨rfl, e⟩]
    · rw [if_neg e, if_neg (fun z => e z.2)]; exact r6 j a b
theorem rrel_stir (q : rrel D n s h need dst dr) {dst2 : Int → Int} {h2 nm c : Int} (hn : 7 ≤ nm) (hs : 0 ≤ s) (g0 : ∀ j, j < 3 * s → dst2 j = dst j) (g1 : 7 + dst2 (3 * s) = nm) (g2 : dst2 (3 * s + 1) = if nm = 8 then 0 else tV B L p) (g3 : dst2 (3 * s + 2) = if nm = 9 then tV B L (tA B L p) else 0) (hh : max h2 0 = grt nm c (D 2) (tV B L p) (tV B L (tA B L p))) : rrel (tak B L p nm c D) n (s + 1) h2 need dst2 dr := by
  obtain ⟨r1, r2, r3, r4, r5, r6, r7, r8, r9, r10⟩ := q
  refine ⟨by rw [tak_0, if_neg (by omega)]; exact r1, by rw [tak_1, if_pos hn]; omega, by rw [tak_2]; exact hh, by rw [tak_4, if_neg (by omega)]; exact r4, by rw [tak_5, if_neg (by omega)]; exact r5, ar10 (by omega) r6, ar20 (by omega) r7, ar30 (by omega) (f := fun j => dr (9 + j)) r8, ar40 (by omega) (f := fun j => dr (16 + j)) r9, ?_⟩
  intro r a b
  by_cases e : r = s
  · subst e
    refine ⟨?_, ?_, ?_⟩
    · rw [tak_st (by omega), if_pos ⟨hn, by omega⟩]; exact g1
    · rw [tak_st (by omega), if_neg (by omega), if_pos ⟨hn, by omega⟩]; exact g2
    · rw [tak_st (by omega), if_neg (by omega), if_neg (by omega), if_pos ⟨hn, by omega⟩]; exact g3
  · rw [tak_st (by omega), tak_st (by omega), tak_st (by omega), if_neg (by omega), if_neg (by omega), if_neg (by omega), if_neg (by omega), if_neg (by omega), if_neg (by omega), if_neg (by omega), if_neg (by omega), if_neg (by omega), g0 _ (by omega), g0 _ (by omega), g0 _ (by omega)]
    exact r10 r a (by omega)
end
theorem rrel_0 {dr nd dst : Int → Int} (h1 : ∀ j, 0 ≤ j → j < 38 → dr j = if 16 ≤ j ∧ j < 23 then 1 else 0) (h2 : ∀ j, 0 ≤ j → j < 7 → nd j = 0) : rrel D0 4 0 (-4) nd dst dr := by
  refine ⟨rfl, rfl, by show max (-4 : Int) 0 = 0; omega, ?_, ?_, fun j a b => ?_, fun j a b => ?_, fun j a b => ?_, fun j a b => ?_, fun r a b => by omega⟩
  · rw [h1 7 (by omega) (by omega), if_neg (by omega)]; rfl
  · rw [h1 8 (by omega) (by omega), if_neg (by omega)]; rfl
  · rw [h2 j a b]; unfold D0; rw [if_neg (by omega), if_neg (by omega)]
  · rw [h1 j a (by omega), if_neg (by omega)]; unfold D0; rw [if_neg (by omega), if_neg (by omega)]
  · rw [h1 _ (by omega) (by omega), if_neg (by omega)]; unfold D0; rw [if_neg (by omega), if_neg (by omega)]
  · rw [h1 _ (by omega) (by omega), if_pos (by omega)]; unfold D0; rw [if_neg (by omega), if_pos (by omega)]
/-! the names of lines -/
theorem wp_jnP0 {β : Type} {F : Option β} {k : Option β → Option β} {P : β → Prop} (I : Prop) (h1 : I → wp F P) (h2 : ∀ J : Option β, (I → wp J P) → wp (k J) P) : wp (jn F k) P := h2 F h1
def lk (t : Int → Int) (L x : Int) : Int := if x < L then t x else -1
theorem lk_in {t : Int → Int} {L x : Int} (h : x < L) : lk t L x = t x := if_pos h
def isP (t : Int → Int) (L s a n c0 c1 c2 : Int) : Prop := a - s = n ∧ lk t L s = c0 ∧ lk t L (s + 1) = c1 ∧ lk t L (s + 2) = c2
def enP (t : Int → Int) (L s c3 c4 c5 : Int) : Prop := lk t L (s + 3) = c3 ∧ (c4 = 0 ∨ lk t L (s + 4) = c4) ∧ (c5 = 0 ∨ lk t L (s + 5) = c5)
def cnm (r : Int) : Int := if r ≤ 3 then r + 7 else r - 4
def lnR (t : Int → Int) (s a r : Int) : Prop := (r = -4 ∧ ∀ k, 0 ≤ k → k < 11 → ¬ nmd t s a k) ∨ ((0 ≤ r ∧ r ≤ 10) ∧ nmd t s a (cnm r))
theorem lnR_r {t : Int → Int} {s a r : Int} (h : lnR t s a r) : r = -4 ∨ (0 ≤ r ∧ r ≤ 10) := by
  rcases h with h | h
  · exact Or.inl h.1
  · exact Or.inr h.1
theorem nmd_bR {B t : Int → Int} {L s a k : Int} (hB : bR B t L) (h0 : 0 ≤ s) (ha : a ≤ L) (k0 : 0 ≤ k) (k1 : k < 11) : nmd B s a k ↔ nmd t s a k := by
  constructor
  · rintro ⟨h1, h2⟩
    refine ⟨h1, fun i x y => ?_⟩
    have e := h2 i x y
    have c := ch_z k0 k1 x y
    have := hB (s + i) (by omega) (by omega)
    omega
  · rintro ⟨h1, h2⟩
    refine ⟨h1, fun i x y => ?_⟩
    have e := h2 i x y
    have c := ch_z k0 k1 x y
    have := hB (s + i) (by omega) (by omega)
    omega
theorem lnR_stir {t : Int → Int} {s a r : Int} (h : (r = -4 ∧ (¬ nmd t s a 7 ∧ ¬ nmd t s a 8 ∧ ¬ nmd t s a 9 ∧ ¬ nmd t s a 10)) ∨ (r = 0 ∧ nmd t s a 7) ∨ (r = 1 ∧ nmd t s a 8) ∨ (r = 2 ∧ nmd t s a 9) ∨ (r = 3 ∧ nmd t s a 10)) (n0 : ¬ nmd t s a 0) (n1 : ¬ nmd t s a 1) (n2 : ¬ nmd t s a 2) (n3 : ¬ nmd t s a 3) (n4 : ¬ nmd t s a 4) (n5 : ¬ nmd t s a 5) (n6 : ¬ nmd t s a 6) : lnR t s a r := by
  rcases h with ⟨h, h7, h8, h9, h10⟩ | ⟨rfl, h⟩ | ⟨rfl, h⟩ | ⟨rfl, h⟩ | ⟨rfl, h⟩
  · refine Or.inl ⟨h, fun k k0 k1 => ?_⟩
    rcases nm_cases k0 k1 with e | e | e | e | e | e | e | e | e | e | e <;> (rw [e]; assumption)
  · exact Or.inr ⟨by omega, h⟩
  · exact Or.inr ⟨by omega, h⟩
  · exact Or.inr ⟨by omega, h⟩
  · exact Or.inr ⟨by omega, h⟩
/-- the reference's name of a line, as isNm has it -/
theorem lnR_isNm {B t : Int → Int} {L p s a so r : Int} (hB : bR B t L) (h0 : 0 ≤ s) (ha : a ≤ L) (e1 : s = tS B L p) (e2 : a = tA B L p) (e3 : so = tT B L p) (h : (so = 1 ∧ lnR t s a r) ∨ (¬ so = 1 ∧ r = -4)) : isNm B L p (if r = -4 then -4 else cnm r) := by
  subst e1 e2 e3
  rcases h with ⟨h1, h2 | ⟨h2, h3⟩⟩ | ⟨h1, h2⟩
  · rw [if_pos h2.1]
    exact Or.inr ⟨rfl, fun _ k k0 k1 => fun z => h2.2 k k0 k1 ((nmd_bR hB h0 ha k0 k1).mp z)⟩
  · rw [if_neg (by omega)]
    have hc : 0 ≤ cnm r ∧ cnm r < 11 := by unfold cnm; split <;> omega
    exact Or.inl ⟨hc.1, hc.2, h1, (nmd_bR hB h0 ha hc.1 hc.2).mpr h3⟩
  · rw [if_pos h2]
    exact Or.inr ⟨rfl, fun z => absurd z h1⟩
theorem mrel_ref {B : Int → Int} {L p k c m m2 : Int} {D : Int → Int} (hk : k = -4 ∨ (0 ≤ k ∧ k ≤ 10)) (hk4 : ¬ k = -4) (h : mrel D m 4) (hm : m2 = if 4 ≤ k ∧ k ≤ 7 then z_or m (z_shl 1 k) else m) : mrel (tak B L p (cnm k) c D) m2 4 := by
  by_cases e : 4 ≤ k ∧ k ≤ 7
  · rw [if_pos e] at hm
    have hc : cnm k = k - 4 := if_neg (by omega)
    have q := mrel_take (b := B) (L := L) (p := p) (c := c) (sh := 4) (nm := k - 4) (by omega) (by omega) (by omega) (by omega) h
    rw [show 4 + (k - 4) = k from by omega] at q
    rw [hm, hc]; exact q
  · rw [if_neg e] at hm
    rw [hm]
    refine mrel_same ?_ h
    unfold cnm
    split <;> omega
theorem fnm_ref {B : Int → Int} {L p k s m fl so : Int} {D : Int → Int} (h4 : ¬ tT B L p = 4) (hk : k = -4 ∨ (0 ≤ k ∧ k ≤ 10)) (hs : s = D 1) (hm : mrel D m 4) : fnm B L p D (if k = -4 then -4 else cnm k) ↔ (k = -4 ∨ (k ≤ 3 ∧ 5 ≤ s) ∨ ((4 ≤ k ∧ k ≤ 7) ∧ ¬ bt m k = 0)) := by
  unfold fnm
  by_cases c1 : k = -4
  · rw [if_pos c1]
    exact ⟨fun _ => Or.inl c1, fun _ => Or.inr (Or.inl rfl)⟩
  · rw [if_neg c1]
    unfold cnm
    by_cases c2 : k ≤ 3
    · rw [if_pos c2]
      constructor
      · rintro (z | z | z | z)
        · exact absurd z h4
        · omega
        · omega
        · exact Or.inr (Or.inl ⟨c2, by omega⟩)
      · rintro (z | z | z)
        · exact absurd z c1
        · exact Or.inr (Or.inr (Or.inr ⟨by omega, by omega⟩))
        · omega
    · rw [if_neg c2]
      by_cases c3 : k ≤ 7
      · have w := hm (k - 4) (by omega) (by omega)
        rw [show 4 + (k - 4) = k from by omega] at w
        constructor
        · rintro (z | z | z | z)
          · exact absurd z h4
          · omega
          · exact Or.inr (Or.inr ⟨by omega, fun y => z.2 (w.mp y)⟩)
          · omega
        · rintro (z | z | z)
          · exact absurd z c1
          · omega
          · exact Or.inr (Or.inr (Or.inl ⟨by omega, fun y => z.2 (w.mpr y)⟩))
      · constructor
        · rintro (z | z | z | z)
          · exact absurd z h4
          · omega
          · omega
          · omega
        · rintro (z | z | z) <;> omega
theorem nx_0 {t : Int → Int} {L s a : Int} (hL : a ≤ L) : nmd t s a 0 ↔ isP t L s a 5 115 101 97 ∧ enP t L s 116 115 0 := by
  have el : z_sl 0 = 5 := rfl
  have b0 : z_sb 0 0 = 115 := by decide +kernel
  have b1 : z_sb 0 1 = 101 := by decide +kernel
  have b2 : z_sb 0 2 = 97 := by decide +kernel
  have b3 : z_sb 0 3 = 116 := by decide +kernel
  have b4 : z_sb 0 4 = 115 := by decide +kernel
  constructor
  · rintro ⟨h1, h2⟩
    have e0 := h2 0 (by omega) (by omega)
    have e1 := h2 1 (by omega) (by omega)
    have e2 := h2 2 (by omega) (by omega)
    have e3 := h2 3 (by omega) (by omega)
    have e4 := h2 4 (by omega) (by omega)
    rw [Int.add_zero] at e0
    exact ⟨⟨by omega, by rw [lk_in (by omega)]; omega, by rw [lk_in (by omega)]; omega, by rw [lk_in (by omega)]; omega⟩, ⟨by rw [lk_in (by omega)]; omega, Or.inr (by rw [lk_in (by omega)]; omega), Or.inl rfl⟩⟩
  · rintro ⟨⟨h1, h2, h3, h4⟩, ⟨h5, h6, h7⟩⟩
    rw [lk_in (by omega)] at h2
    rw [lk_in (by omega)] at h3
    rw [lk_in (by omega)] at h4
    rw [lk_in (by omega)] at h5
    have h6x : t (s + 4) = 115 := by rcases h6 with q | q; omega; (rw [lk_in (by omega)] at q; exact q)
    refine ⟨by omega, fun i x y => ?_⟩
    have ei : i = 0 ∨ i = 1 ∨ i = 2 ∨ i = 3 ∨ i = 4 := by omega
    rcases ei with rfl | rfl | rfl | rfl | rfl
    · rw [Int.add_zero, b0]; omega
    · rw [b1]; omega
    · rw [b2]; omega
    · rw [b3]; omega
    · rw [b4]; omega
theorem nx_1 {t : Int → Int} {L s a : Int} (hL : a ≤ L) : nmd t s a 1 ↔ isP t L s a 3 112 111 116 := by
  have el : z_sl 1 = 3 := rfl
  have b0 : z_sb 1 0 = 112 := by decide +kernel
  have b1 : z_sb 1 1 = 111 := by decide +kernel
  have b2 : z_sb 1 2 = 116 := by decide +kernel
  constructor
  · rintro ⟨h1, h2⟩
    have e0 := h2 0 (by omega) (by omega)
    have e1 := h2 1 (by omega) (by omega)
    have e2 := h2 2 (by omega) (by omega)
    rw [Int.add_zero] at e0
    exact ⟨by omega, by rw [lk_in (by omega)]; omega, by rw [lk_in (by omega)]; omega, by rw [lk_in (by omega)]; omega⟩
  · rintro ⟨h1, h2, h3, h4⟩
    rw [lk_in (by omega)] at h2
    rw [lk_in (by omega)] at h3
    rw [lk_in (by omega)] at h4
    refine ⟨by omega, fun i x y => ?_⟩
    have ei : i = 0 ∨ i = 1 ∨ i = 2 := by omega
    rcases ei with rfl | rfl | rfl
    · rw [Int.add_zero, b0]; omega
    · rw [b1]; omega
    · rw [b2]; omega
theorem nx_2 {t : Int → Int} {L s a : Int} (hL : a ≤ L) : nmd t s a 2 ↔ isP t L s a 4 98 111 110 ∧ enP t L s 101 0 0 := by
  have el : z_sl 2 = 4 := rfl
  have b0 : z_sb 2 0 = 98 := by decide +kernel
  have b1 : z_sb 2 1 = 111 := by decide +kernel
  have b2 : z_sb 2 2 = 110 := by decide +kernel
  have b3 : z_sb 2 3 = 101 := by decide +kernel
  constructor
  · rintro ⟨h1, h2⟩
    have e0 := h2 0 (by omega) (by omega)
    have e1 := h2 1 (by omega) (by omega)
    have e2 := h2 2 (by omega) (by omega)
    have e3 := h2 3 (by omega) (by omega)
    rw [Int.add_zero] at e0
    exact ⟨⟨by omega, by rw [lk_in (by omega)]; omega, by rw [lk_in (by omega)]; omega, by rw [lk_in (by omega)]; omega⟩, ⟨by rw [lk_in (by omega)]; omega, Or.inl rfl, Or.inl rfl⟩⟩
  · rintro ⟨⟨h1, h2, h3, h4⟩, ⟨h5, h6, h7⟩⟩
    rw [lk_in (by omega)] at h2
    rw [lk_in (by omega)] at h3
    rw [lk_in (by omega)] at h4
    rw [lk_in (by omega)] at h5
    refine ⟨by omega, fun i x y => ?_⟩
    have ei : i = 0 ∨ i = 1 ∨ i = 2 ∨ i = 3 := by omega
    rcases ei with rfl | rfl | rfl | rfl
    · rw [Int.add_zero, b0]; omega
    · rw [b1]; omega
    · rw [b2]; omega
    · rw [b3]; omega
theorem nx_3 {t : Int → Int} {L s a : Int} (hL : a ≤ L) : nmd t s a 3 ↔ isP t L s a 4 107 105 110 ∧ enP t L s 103 0 0 := by
  have el : z_sl 3 = 4 := rfl
  have b0 : z_sb 3 0 = 107 := by decide +kernel
  have b1 : z_sb 3 1 = 105 := by decide +kernel
  have b2 : z_sb 3 2 = 110 := by decide +kernel
  have b3 : z_sb 3 3 = 103 := by decide +kernel
  constructor
  · rintro ⟨h1, h2⟩
    have e0 := h2 0 (by omega) (by omega)
    have e1 := h2 1 (by omega) (by omega)
    have e2 := h2 2 (by omega) (by omega)
    have e3 := h2 3 (by omega) (by omega)
    rw [Int.add_zero] at e0
    exact ⟨⟨by omega, by rw [lk_in (by omega)]; omega, by rw [lk_in (by omega)]; omega, by rw [lk_in (by omega)]; omega⟩, ⟨by rw [lk_in (by omega)]; omega, Or.inl rfl, Or.inl rfl⟩⟩
  · rintro ⟨⟨h1, h2, h3, h4⟩, ⟨h5, h6, h7⟩⟩
    rw [lk_in (by omega)] at h2
    rw [lk_in (by omega)] at h3
    rw [lk_in (by omega)] at h4
    rw [lk_in (by omega)] at h5
    refine ⟨by omega, fun i x y => ?_⟩
    have ei : i = 0 ∨ i = 1 ∨ i = 2 ∨ i = 3 := by omega
    rcases ei with rfl | rfl | rfl | rfl
    · rw [Int.add_zero, b0]; omega
    · rw [b1]; omega
    · rw [b2]; omega
    · rw [b3]; omega
theorem nx_4 {t : Int → Int} {L s a : Int} (hL : a ≤ L) : nmd t s a 4 ↔ isP t L s a 6 102 114 105 ∧ enP t L s 101 110 100 := by
  have el : z_sl 4 = 6 := rfl
  have b0 : z_sb 4 0 = 102 := by decide +kernel
  have b1 : z_sb 4 1 = 114 := by decide +kernel
  have b2 : z_sb 4 2 = 105 := by decide +kernel
  have b3 : z_sb 4 3 = 101 := by decide +kernel
  have b4 : z_sb 4 4 = 110 := by decide +kernel
  have b5 : z_sb 4 5 = 100 := by decide +kernel
  constructor
  · rintro ⟨h1, h2⟩
    have e0 := h2 0 (by omega) (by omega)
    have e1 := h2 1 (by omega) (by omega)
    have e2 := h2 2 (by omega) (by omega)
    have e3 := h2 3 (by omega) (by omega)
    have e4 := h2 4 (by omega) (by omega)
    have e5 := h2 5 (by omega) (by omega)
    rw [Int.add_zero] at e0
    exact ⟨⟨by omega, by rw [lk_in (by omega)]; omega, by rw [lk_in (by omega)]; omega, by rw [lk_in (by omega)]; omega⟩, ⟨by rw [lk_in (by omega)]; omega, Or.inr (by rw [lk_in (by omega)]; omega), Or.inr (by rw [lk_in (by omega)]; omega)⟩⟩
  · rintro ⟨⟨h1, h2, h3, h4⟩, ⟨h5, h6, h7⟩⟩
    rw [lk_in (by omega)] at h2
    rw [lk_in (by omega)] at h3
    rw [lk_in (by omega)] at h4
    rw [lk_in (by omega)] at h5
    have h6x : t (s + 4) = 110 := by rcases h6 with q | q; omega; (rw [lk_in (by omega)] at q; exact q)
    have h7x : t (s + 5) = 100 := by rcases h7 with q | q; omega; (rw [lk_in (by omega)] at q; exact q)
    refine ⟨by omega, fun i x y => ?_⟩
    have ei : i = 0 ∨ i = 1 ∨ i = 2 ∨ i = 3 ∨ i = 4 ∨ i = 5 := by omega
    rcases ei with rfl | rfl | rfl | rfl | rfl | rfl
    · rw [Int.add_zero, b0]; omega
    · rw [b1]; omega
    · rw [b2]; omega
    · rw [b3]; omega
    · rw [b4]; omega
    · rw [b5]; omega
theorem nx_5 {t : Int → Int} {L s a : Int} (hL : a ≤ L) : nmd t s a 5 ↔ isP t L s a 6 115 112 111 ∧ enP t L s 111 110 115 := by
  have el : z_sl 5 = 6 := rfl
  have b0 : z_sb 5 0 = 115 := by decide +kernel
  have b1 : z_sb 5 1 = 112 := by decide +kernel
  have b2 : z_sb 5 2 = 111 := by decide +kernel
  have b3 : z_sb 5 3 = 111 := by decide +kernel
  have b4 : z_sb 5 4 = 110 := by decide +kernel
  have b5 : z_sb 5 5 = 115 := by decide +kernel
  constructor
  · rintro ⟨h1, h2⟩
    have e0 := h2 0 (by omega) (by omega)
    have e1 := h2 1 (by omega) (by omega)
    have e2 := h2 2 (by omega) (by omega)
    have e3 := h2 3 (by omega) (by omega)
    have e4 := h2 4 (by omega) (by omega)
    have e5 := h2 5 (by omega) (by omega)
    rw [Int.add_zero] at e0
    exact ⟨⟨by omega, by rw [lk_in (by omega)]; omega, by rw [lk_in (by omega)]; omega, by rw [lk_in (by omega)]; omega⟩, ⟨by rw [lk_in (by omega)]; omega, Or.inr (by rw [lk_in (by omega)]; omega), Or.inr (by rw [lk_in (by omega)]; omega)⟩⟩
  · rintro ⟨⟨h1, h2, h3, h4⟩, ⟨h5, h6, h7⟩⟩
    rw [lk_in (by omega)] at h2
    rw [lk_in (by omega)] at h3
    rw [lk_in (by omega)] at h4
    rw [lk_in (by omega)] at h5
    have h6x : t (s + 4) = 110 := by rcases h6 with q | q; omega; (rw [lk_in (by omega)] at q; exact q)
    have h7x : t (s + 5) = 115 := by rcases h7 with q | q; omega; (rw [lk_in (by omega)] at q; exact q)
    refine ⟨by omega, fun i x y => ?_⟩
    have ei : i = 0 ∨ i = 1 ∨ i = 2 ∨ i = 3 ∨ i = 4 ∨ i = 5 := by omega
    rcases ei with rfl | rfl | rfl | rfl | rfl | rfl
    · rw [Int.add_zero, b0]; omega
    · rw [b1]; omega
    · rw [b2]; omega
    · rw [b3]; omega
    · rw [b4]; omega
    · rw [b5]; omega
theorem nx_6 {t : Int → Int} {L s a : Int} (hL : a ≤ L) : nmd t s a 6 ↔ isP t L s a 4 110 101 101 ∧ enP t L s 100 0 0 := by
  have el : z_sl 6 = 4 := rfl
  have b0 : z_sb 6 0 = 110 := by decide +kernel
  have b1 : z_sb 6 1 = 101 := by decide +kernel
  have b2 : z_sb 6 2 = 101 := by decide +kernel
  have b3 : z_sb 6 3 = 100 := by decide +kernel
  constructor
  · rintro ⟨h1, h2⟩
    have e0 := h2 0 (by omega) (by omega)
    have e1 := h2 1 (by omega) (by omega)
    have e2 := h2 2 (by omega) (by omega)
    have e3 := h2 3 (by omega) (by omega)
    rw [Int.add_zero] at e0
    exact ⟨⟨by omega, by rw [lk_in (by omega)]; omega, by rw [lk_in (by omega)]; omega, by rw [lk_in (by omega)]; omega⟩, ⟨by rw [lk_in (by omega)]; omega, Or.inl rfl, Or.inl rfl⟩⟩
  · rintro ⟨⟨h1, h2, h3, h4⟩, ⟨h5, h6, h7⟩⟩
    rw [lk_in (by omega)] at h2
    rw [lk_in (by omega)] at h3
    rw [lk_in (by omega)] at h4
    rw [lk_in (by omega)] at h5
    refine ⟨by omega, fun i x y => ?_⟩
    have ei : i = 0 ∨ i = 1 ∨ i = 2 ∨ i = 3 := by omega
    rcases ei with rfl | rfl | rfl | rfl
    · rw [Int.add_zero, b0]; omega
    · rw [b1]; omega
    · rw [b2]; omega
    · rw [b3]; omega
theorem nx_7 {t : Int → Int} {L s a : Int} (hL : a ≤ L) : nmd t s a 7 ↔ isP t L s a 4 116 117 114 ∧ enP t L s 110 0 0 := by
  have el : z_sl 7 = 4 := rfl
  have b0 : z_sb 7 0 = 116 := by decide +kernel
  have b1 : z_sb 7 1 = 117 := by decide +kernel
  have b2 : z_sb 7 2 = 114 := by decide +kernel
  have b3 : z_sb 7 3 = 110 := by decide +kernel
  constructor
  · rintro ⟨h1, h2⟩
    have e0 := h2 0 (by omega) (by omega)
    have e1 := h2 1 (by omega) (by omega)
    have e2 := h2 2 (by omega) (by omega)
    have e3 := h2 3 (by omega) (by omega)
    rw [Int.add_zero] at e0
    exact ⟨⟨by omega, by rw [lk_in (by omega)]; omega, by rw [lk_in (by omega)]; omega, by rw [lk_in (by omega)]; omega⟩, ⟨by rw [lk_in (by omega)]; omega, Or.inl rfl, Or.inl rfl⟩⟩
  · rintro ⟨⟨h1, h2, h3, h4⟩, ⟨h5, h6, h7⟩⟩
    rw [lk_in (by omega)] at h2
    rw [lk_in (by omega)] at h3
    rw [lk_in (by omega)] at h4
    rw [lk_in (by omega)] at h5
    refine ⟨by omega, fun i x y => ?_⟩
    have ei : i = 0 ∨ i = 1 ∨ i = 2 ∨ i = 3 := by omega
    rcases ei with rfl | rfl | rfl | rfl
    · rw [Int.add_zero, b0]; omega
    · rw [b1]; omega
    · rw [b2]; omega
    · rw [b3]; omega
theorem nx_8 {t : Int → Int} {L s a : Int} (hL : a ≤ L) : nmd t s a 8 ↔ isP t L s a 4 102 108 105 ∧ enP t L s 112 0 0 := by
  have el : z_sl 8 = 4 := rfl
  have b0 : z_sb 8 0 = 102 := by decide +kernel
  have b1 : z_sb 8 1 = 108 := by decide +kernel
  have b2 : z_sb 8 2 = 105 := by decide +kernel
  have b3 : z_sb 8 3 = 112 := by decide +kernel
  constructor
  · rintro ⟨h1, h2⟩
    have e0 := h2 0 (by omega) (by omega)
    have e1 := h2 1 (by omega) (by omega)
    have e2 := h2 2 (by omega) (by omega)
    have e3 := h2 3 (by omega) (by omega)
    rw [Int.add_zero] at e0
    exact ⟨⟨by omega, by rw [lk_in (by omega)]; omega, by rw [lk_in (by omega)]; omega, by rw [lk_in (by omega)]; omega⟩, ⟨by rw [lk_in (by omega)]; omega, Or.inl rfl, Or.inl rfl⟩⟩
  · rintro ⟨⟨h1, h2, h3, h4⟩, ⟨h5, h6, h7⟩⟩
    rw [lk_in (by omega)] at h2
    rw [lk_in (by omega)] at h3
    rw [lk_in (by omega)] at h4
    rw [lk_in (by omega)] at h5
    refine ⟨by omega, fun i x y => ?_⟩
    have ei : i = 0 ∨ i = 1 ∨ i = 2 ∨ i = 3 := by omega
    rcases ei with rfl | rfl | rfl | rfl
    · rw [Int.add_zero, b0]; omega
    · rw [b1]; omega
    · rw [b2]; omega
    · rw [b3]; omega
theorem nx_9 {t : Int → Int} {L s a : Int} (hL : a ≤ L) : nmd t s a 9 ↔ isP t L s a 4 115 119 97 ∧ enP t L s 112 0 0 := by
  have el : z_sl 9 = 4 := rfl
  have b0 : z_sb 9 0 = 115 := by decide +kernel
  have b1 : z_sb 9 1 = 119 := by decide +kernel
  have b2 : z_sb 9 2 = 97 := by decide +kernel
  have b3 : z_sb 9 3 = 112 := by decide +kernel
  constructor
  · rintro ⟨h1, h2⟩
    have e0 := h2 0 (by omega) (by omega)
    have e1 := h2 1 (by omega) (by omega)
    have e2 := h2 2 (by omega) (by omega)
    have e3 := h2 3 (by omega) (by omega)
    rw [Int.add_zero] at e0
    exact ⟨⟨by omega, by rw [lk_in (by omega)]; omega, by rw [lk_in (by omega)]; omega, by rw [lk_in (by omega)]; omega⟩, ⟨by rw [lk_in (by omega)]; omega, Or.inl rfl, Or.inl rfl⟩⟩
  · rintro ⟨⟨h1, h2, h3, h4⟩, ⟨h5, h6, h7⟩⟩
    rw [lk_in (by omega)] at h2
    rw [lk_in (by omega)] at h3
    rw [lk_in (by omega)] at h4
    rw [lk_in (by omega)] at h5
    refine ⟨by omega, fun i x y => ?_⟩
    have ei : i = 0 ∨ i = 1 ∨ i = 2 ∨ i = 3 := by omega
    rcases ei with rfl | rfl | rfl | rfl
    · rw [Int.add_zero, b0]; omega
    · rw [b1]; omega
    · rw [b2]; omega
    · rw [b3]; omega
theorem nx_10 {t : Int → Int} {L s a : Int} (hL : a ≤ L) : nmd t s a 10 ↔ isP t L s a 4 108 105 102 ∧ enP t L s 116 0 0 := by
  have el : z_sl 10 = 4 := rfl
  have b0 : z_sb 10 0 = 108 := by decide +kernel
  have b1 : z_sb 10 1 = 105 := by decide +kernel
  have b2 : z_sb 10 2 = 102 := by decide +kernel
  have b3 : z_sb 10 3 = 116 := by decide +kernel
  constructor
  · rintro ⟨h1, h2⟩
    have e0 := h2 0 (by omega) (by omega)
    have e1 := h2 1 (by omega) (by omega)
    have e2 := h2 2 (by omega) (by omega)
    have e3 := h2 3 (by omega) (by omega)
    rw [Int.add_zero] at e0
    exact ⟨⟨by omega, by rw [lk_in (by omega)]; omega, by rw [lk_in (by omega)]; omega, by rw [lk_in (by omega)]; omega⟩, ⟨by rw [lk_in (by omega)]; omega, Or.inl rfl, Or.inl rfl⟩⟩
  · rintro ⟨⟨h1, h2, h3, h4⟩, ⟨h5, h6, h7⟩⟩
    rw [lk_in (by omega)] at h2
    rw [lk_in (by omega)] at h3
    rw [lk_in (by omega)] at h4
    rw [lk_in (by omega)] at h5
    refine ⟨by omega, fun i x y => ?_⟩
    have ei : i = 0 ∨ i = 1 ∨ i = 2 ∨ i = 3 := by omega
    rcases ei with rfl | rfl | rfl | rfl
    · rw [Int.add_zero, b0]; omega
    · rw [b1]; omega
    · rw [b2]; omega
    · rw [b3]; omega
set_option maxHeartbeats 1000000 in
theorem s_X12_is (i_p0_taped : Int) (i_p0_pos : Int) (i_p0_from : Int) (v_p0_tape : (Int → Int)) (x1 : Int) (x2 : Int) (x3 : Int) (x4 : Int) (h1 : 0 ≤ i_p0_taped) (h2 : i_p0_taped ≤ 320) (h3 : ∀ j, 0 ≤ j → j < 320 → 0 ≤ v_p0_tape j ∧ v_p0_tape j ≤ 255) (h4 : 0 ≤ i_p0_from) (h5 : i_p0_from ≤ i_p0_pos) (h6 : i_p0_pos ≤ i_p0_taped) (h7 : 0 ≤ x1) (h8 : x1 < 128) (h9 : 0 ≤ x2) (h10 : x2 < 128) (h11 : 0 ≤ x3) (h12 : x3 < 128) (h13 : 0 ≤ x4) (h14 : x4 < 128) : wp (f_X12_is i_p0_taped i_p0_pos i_p0_from v_p0_tape x1 x2 x3 x4) (fun o => (o = 0 ∨ o = 1) ∧ ((o = 1 ∧ isP v_p0_tape i_p0_taped i_p0_from i_p0_pos x1 x2 x3 x4) ∨ (o = 0 ∧ ¬ isP v_p0_tape i_p0_taped i_p0_from i_p0_pos x1 x2 x3 x4))) := by
  unfold f_X12_is
  refine wp_ck (z_r32_i.mpr ⟨(by omega) /- z_r32.lo (i_p0_pos - i_p0_from)#1 -/, (by omega) /- z_r32.hi (i_p0_pos - i_p0_from)#1 -/⟩) ?_
  refine wp_ck (z_r32_i.mpr ⟨(by omega) /- z_r32.lo x1#1 -/, (by omega) /- z_r32.hi x1#1 -/⟩) ?_
  refine wp_if (fun c1 => ?_) (fun c1 => ?_)
  ·
    refine wp_bd1 (s_X12_look _ _ _ (by omega) /- pre X12_look.1#1 -/ (by omega) /- pre X12_look.2#1 -/ (by omega) /- pre X12_look.3#1 -/ (by omega) /- pre X12_look.4#1 -/) (fun z3 q_X12_look_1 => ?_)
    try dsimp only at q_X12_look_1
    have hl1 := look_r h3 h2 (by omega) q_X12_look_1
    have hk1 : _ = lk v_p0_tape i_p0_taped (i_p0_from) := q_X12_look_1
    clear q_X12_look_1
    refine wp_ck (z_r32_i.mpr ⟨(by omega) /- z_r32.lo z3#1 -/, (by omega) /- z_r32.hi z3#1 -/⟩) ?_
    refine wp_ck (z_r32_i.mpr ⟨(by omega) /- z_r32.lo x2#1 -/, (by omega) /- z_r32.hi x2#1 -/⟩) ?_
    refine wp_if (fun c2 => ?_) (fun c2 => ?_)
    ·
      refine wp_bd1 (s_X12_look _ _ _ (by omega) /- pre X12_look.1#2 -/ (by omega) /- pre X12_look.2#2 -/ (by omega) /- pre X12_look.3#2 -/ (by omega) /- pre X12_look.4#2 -/) (fun z6 q_X12_look_2 => ?_)
      try dsimp only at q_X12_look_2
      have hl2 := look_r h3 h2 (by omega) q_X12_look_2
      have hk2 : _ = lk v_p0_tape i_p0_taped (i_p0_from + 1) := q_X12_look_2
      clear q_X12_look_2
      refine wp_ck (z_r32_i.mpr ⟨(by omega) /- z_r32.lo z6#1 -/, (by omega) /- z_r32.hi z6#1 -/⟩) ?_
      refine wp_ck (z_r32_i.mpr ⟨(by omega) /- z_r32.lo x3#1 -/, (by omega) /- z_r32.hi x3#1 -/⟩) ?_
      refine wp_if (fun c3 => ?_) (fun c3 => ?_)
      ·
        refine wp_bd1 (s_X12_look _ _ _ (by omega) /- pre X12_look.1#3 -/ (by omega) /- pre X12_look.2#3 -/ (by omega) /- pre X12_look.3#3 -/ (by omega) /- pre X12_look.4#3 -/) (fun z9 q_X12_look_3 => ?_)
        try dsimp only at q_X12_look_3
        have hl3 := look_r h3 h2 (by omega) q_X12_look_3
        have hk3 : _ = lk v_p0_tape i_p0_taped (i_p0_from + 2) := q_X12_look_3
        clear q_X12_look_3
        refine wp_ck (z_r32_i.mpr ⟨(by omega) /- z_r32.lo z9#1 -/, (by omega) /- z_r32.hi z9#1 -/⟩) ?_
        refine wp_ck (z_r32_i.mpr ⟨(by omega) /- z_r32.lo x4#1 -/, (by omega) /- z_r32.hi x4#1 -/⟩) ?_
        refine wp_if (fun c4 => ?_) (fun c4 => ?_)
        ·
          refine wp_some ?_
          try dsimp only
          all_goals exact ⟨(by omega) /- post1#1 -/, (by unfold isP; omega) /- post2#1 -/⟩
        ·
          refine wp_some ?_
          try dsimp only
          all_goals exact ⟨(by omega) /- post1#2 -/, (by unfold isP; omega) /- post2#2 -/⟩
      ·
        refine wp_some ?_
        try dsimp only
        all_goals exact ⟨(by omega) /- post1#3 -/, (by unfold isP; omega) /- post2#3 -/⟩
    ·
      refine wp_some ?_
      try dsimp only
      all_goals exact ⟨(by omega) /- post1#4 -/, (by unfold isP; omega) /- post2#4 -/⟩
  ·
    refine wp_some ?_
    try dsimp only
    all_goals exact ⟨(by omega) /- post1#5 -/, (by unfold isP; omega) /- post2#5 -/⟩

set_option maxHeartbeats 1000000 in
theorem s_X12_ends (i_p0_taped : Int) (i_p0_from : Int) (v_p0_tape : (Int → Int)) (x1 : Int) (x2 : Int) (x3 : Int) (h1 : 0 ≤ i_p0_taped) (h2 : i_p0_taped ≤ 320) (h3 : ∀ j, 0 ≤ j → j < 320 → 0 ≤ v_p0_tape j ∧ v_p0_tape j ≤ 255) (h4 : 0 ≤ i_p0_from) (h5 : i_p0_from ≤ i_p0_taped) (h6 : 0 ≤ x1) (h7 : x1 < 128) (h8 : 0 ≤ x2) (h9 : x2 < 128) (h10 : 0 ≤ x3) (h11 : x3 < 128) : wp (f_X12_ends i_p0_taped i_p0_from v_p0_tape x1 x2 x3) (fun o => (o = 0 ∨ o = 1) ∧ ((o = 1 ∧ enP v_p0_tape i_p0_taped i_p0_from x1 x2 x3) ∨ (o = 0 ∧ ¬ enP v_p0_tape i_p0_taped i_p0_from x1 x2 x3))) := by
  unfold f_X12_ends
  refine wp_bd1 (s_X12_look _ _ _ (by omega) /- pre X12_look.1#1 -/ (by omega) /- pre X12_look.2#1 -/ (by omega) /- pre X12_look.3#1 -/ (by omega) /- pre X12_look.4#1 -/) (fun z1 q_X12_look_1 => ?_)
  try dsimp only at q_X12_look_1
  have hl1 := look_r h3 h2 (by omega) q_X12_look_1
  have hk1 : _ = lk v_p0_tape i_p0_taped (i_p0_from + 3) := q_X12_look_1
  clear q_X12_look_1
  refine wp_ck (z_r32_i.mpr ⟨(by omega) /- z_r32.lo z1#1 -/, (by omega) /- z_r32.hi z1#1 -/⟩) ?_
  refine wp_ck (z_r32_i.mpr ⟨(by omega) /- z_r32.lo x1#1 -/, (by omega) /- z_r32.hi x1#1 -/⟩) ?_
  refine wp_if (fun c1 => ?_) (fun c1 => ?_)
  ·
    refine wp_ck (z_r32_i.mpr ⟨(by omega) /- z_r32.lo x2#1 -/, (by omega) /- z_r32.hi x2#1 -/⟩) ?_
    refine wp_jnP0 (x2 = 0 ∨ lk v_p0_tape i_p0_taped (i_p0_from + 4) = x2) (fun pJ5 => ?_) (fun J5 hJ5 => ?_)
    ·
      refine wp_ck (z_r32_i.mpr ⟨(by omega) /- z_r32.lo x3#1 -/, (by omega) /- z_r32.hi x3#1 -/⟩) ?_
      refine wp_if (fun c2 => ?_) (fun c2 => ?_)
      ·
        refine wp_some ?_
        try dsimp only
        all_goals exact ⟨(by omega) /- post1#1 -/, (by unfold enP; omega) /- post2#1 -/⟩
      ·
        refine wp_bd1 (s_X12_look _ _ _ (by omega) /- pre X12_look.1#2 -/ (by omega) /- pre X12_look.2#2 -/ (by omega) /- pre X12_look.3#2 -/ (by omega) /- pre X12_look.4#2 -/) (fun z7 q_X12_look_2 => ?_)
        try dsimp only at q_X12_look_2
        have hl2 := look_r h3 h2 (by omega) q_X12_look_2
        have hk2 : _ = lk v_p0_tape i_p0_taped (i_p0_from + 5) := q_X12_look_2
        clear q_X12_look_2
        refine wp_ck (z_r32_i.mpr ⟨(by omega) /- z_r32.lo z7#1 -/, (by omega) /- z_r32.hi z7#1 -/⟩) ?_
        refine wp_if (fun c3 => ?_) (fun c3 => ?_)
        ·
          refine wp_some ?_
          try dsimp only
          all_goals exact ⟨(by omega) /- post1#2 -/, (by unfold enP; omega) /- post2#2 -/⟩
        ·
          refine wp_some ?_
          try dsimp only
          all_goals exact ⟨(by omega) /- post1#3 -/, (by unfold enP; omega) /- post2#3 -/⟩
    refine wp_if (fun c4 => ?_) (fun c4 => ?_)
    ·
      exact hJ5  (by omega) /- to J5#1 -/
    ·
      refine wp_bd1 (s_X12_look _ _ _ (by omega) /- pre X12_look.1#3 -/ (by omega) /- pre X12_look.2#3 -/ (by omega) /- pre X12_look.3#3 -/ (by omega) /- pre X12_look.4#3 -/) (fun z9 q_X12_look_3 => ?_)
      try dsimp only at q_X12_look_3
      have hl3 := look_r h3 h2 (by omega) q_X12_look_3
      have hk3 : _ = lk v_p0_tape i_p0_taped (i_p0_from + 4) := q_X12_look_3
      clear q_X12_look_3
      refine wp_ck (z_r32_i.mpr ⟨(by omega) /- z_r32.lo z9#1 -/, (by omega) /- z_r32.hi z9#1 -/⟩) ?_
      refine wp_if (fun c5 => ?_) (fun c5 => ?_)
      ·
        exact hJ5  (by omega) /- to J5#2 -/
      ·
        refine wp_some ?_
        try dsimp only
        all_goals exact ⟨(by omega) /- post1#4 -/, (by unfold enP; omega) /- post2#4 -/⟩
  ·
    refine wp_some ?_
    try dsimp only
    all_goals exact ⟨(by omega) /- post1#5 -/, (by unfold enP; omega) /- post2#5 -/⟩

set_option maxHeartbeats 1000000 in
theorem s_X12_stirNow (i_p0_taped : Int) (i_p0_pos : Int) (i_p0_from : Int) (v_p0_tape : (Int → Int)) (h1 : 0 ≤ i_p0_taped) (h2 : i_p0_taped ≤ 320) (h3 : ∀ j, 0 ≤ j → j < 320 → 0 ≤ v_p0_tape j ∧ v_p0_tape j ≤ 255) (h4 : 0 ≤ i_p0_from) (h5 : i_p0_from ≤ i_p0_pos) (h6 : i_p0_pos ≤ i_p0_taped) : wp (f_X12_stirNow i_p0_taped i_p0_pos i_p0_from v_p0_tape) (fun o => (o = -4 ∨ (0 ≤ o ∧ o ≤ 3)) ∧ ((o = -4 ∧ (¬ nmd v_p0_tape i_p0_from i_p0_pos 7 ∧ ¬ nmd v_p0_tape i_p0_from i_p0_pos 8 ∧ ¬ nmd v_p0_tape i_p0_from i_p0_pos 9 ∧ ¬ nmd v_p0_tape i_p0_from i_p0_pos 10)) ∨ (o = 0 ∧ nmd v_p0_tape i_p0_from i_p0_pos 7) ∨ (o = 1 ∧ nmd v_p0_tape i_p0_from i_p0_pos 8) ∨ (o = 2 ∧ nmd v_p0_tape i_p0_from i_p0_pos 9) ∨ (o = 3 ∧ nmd v_p0_tape i_p0_from i_p0_pos 10))) := by
  unfold f_X12_stirNow
  refine wp_bd1 (s_X12_is _ _ _ _ _ _ _ _ (by omega) /- pre X12_is.1#1 -/ (by omega) /- pre X12_is.2#1 -/ (by exact h3) /- pre X12_is.3#1 -/ (by omega) /- pre X12_is.4#1 -/ (by omega) /- pre X12_is.5#1 -/ (by omega) /- pre X12_is.6#1 -/ (by omega) /- pre X12_is.7#1 -/ (by omega) /- pre X12_is.8#1 -/ (by omega) /- pre X12_is.9#1 -/ (by omega) /- pre X12_is.10#1 -/ (by omega) /- pre X12_is.11#1 -/ (by omega) /- pre X12_is.12#1 -/ (by omega) /- pre X12_is.13#1 -/ (by omega) /- pre X12_is.14#1 -/) (fun z1 q_X12_is_1 => ?_)
  try dsimp only at q_X12_is_1
  obtain ⟨q_X12_is_1_1, q_X12_is_1_2⟩ := q_X12_is_1
  refine wp_ck (z_r32_i.mpr ⟨(by omega) /- z_r32.lo z1#1 -/, (by omega) /- z_r32.hi z1#1 -/⟩) ?_
  refine wp_jnP0 (¬ nmd v_p0_tape i_p0_from i_p0_pos 7) (fun pJ3 => ?_) (fun J3 hJ3 => ?_)
  ·
    refine wp_bd1 (s_X12_is _ _ _ _ _ _ _ _ (by omega) /- pre X12_is.1#2 -/ (by omega) /- pre X12_is.2#2 -/ (by exact h3) /- pre X12_is.3#2 -/ (by omega) /- pre X12_is.4#2 -/ (by omega) /- pre X12_is.5#2 -/ (by omega) /- pre X12_is.6#2 -/ (by omega) /- pre X12_is.7#2 -/ (by omega) /- pre X12_is.8#2 -/ (by omega) /- pre X12_is.9#2 -/ (by omega) /- pre X12_is.10#2 -/ (by omega) /- pre X12_is.11#2 -/ (by omega) /- pre X12_is.12#2 -/ (by omega) /- pre X12_is.13#2 -/ (by omega) /- pre X12_is.14#2 -/) (fun z4 q_X12_is_2 => ?_)
    try dsimp only at q_X12_is_2
    obtain ⟨q_X12_is_2_1, q_X12_is_2_2⟩ := q_X12_is_2
    refine wp_ck (z_r32_i.mpr ⟨(by omega) /- z_r32.lo z4#1 -/, (by omega) /- z_r32.hi z4#1 -/⟩) ?_
    refine wp_jnP0 (¬ nmd v_p0_tape i_p0_from i_p0_pos 8) (fun pJ6 => ?_) (fun J6 hJ6 => ?_)
    ·
      refine wp_bd1 (s_X12_is _ _ _ _ _ _ _ _ (by omega) /- pre X12_is.1#3 -/ (by omega) /- pre X12_is.2#3 -/ (by exact h3) /- pre X12_is.3#3 -/ (by omega) /- pre X12_is.4#3 -/ (by omega) /- pre X12_is.5#3 -/ (by omega) /- pre X12_is.6#3 -/ (by omega) /- pre X12_is.7#3 -/ (by omega) /- pre X12_is.8#3 -/ (by omega) /- pre X12_is.9#3 -/ (by omega) /- pre X12_is.10#3 -/ (by omega) /- pre X12_is.11#3 -/ (by omega) /- pre X12_is.12#3 -/ (by omega) /- pre X12_is.13#3 -/ (by omega) /- pre X12_is.14#3 -/) (fun z7 q_X12_is_3 => ?_)
      try dsimp only at q_X12_is_3
      obtain ⟨q_X12_is_3_1, q_X12_is_3_2⟩ := q_X12_is_3
      refine wp_ck (z_r32_i.mpr ⟨(by omega) /- z_r32.lo z7#1 -/, (by omega) /- z_r32.hi z7#1 -/⟩) ?_
      refine wp_jnP0 (¬ nmd v_p0_tape i_p0_from i_p0_pos 9) (fun pJ9 => ?_) (fun J9 hJ9 => ?_)
      ·
        refine wp_bd1 (s_X12_is _ _ _ _ _ _ _ _ (by omega) /- pre X12_is.1#4 -/ (by omega) /- pre X12_is.2#4 -/ (by exact h3) /- pre X12_is.3#4 -/ (by omega) /- pre X12_is.4#4 -/ (by omega) /- pre X12_is.5#4 -/ (by omega) /- pre X12_is.6#4 -/ (by omega) /- pre X12_is.7#4 -/ (by omega) /- pre X12_is.8#4 -/ (by omega) /- pre X12_is.9#4 -/ (by omega) /- pre X12_is.10#4 -/ (by omega) /- pre X12_is.11#4 -/ (by omega) /- pre X12_is.12#4 -/ (by omega) /- pre X12_is.13#4 -/ (by omega) /- pre X12_is.14#4 -/) (fun z10 q_X12_is_4 => ?_)
        try dsimp only at q_X12_is_4
        obtain ⟨q_X12_is_4_1, q_X12_is_4_2⟩ := q_X12_is_4
        refine wp_ck (z_r32_i.mpr ⟨(by omega) /- z_r32.lo z10#1 -/, (by omega) /- z_r32.hi z10#1 -/⟩) ?_
        refine wp_if (fun c1 => ?_) (fun c1 => ?_)
        ·
          refine wp_some ?_
          try dsimp only
          all_goals exact ⟨(by omega) /- post1#1 -/, (by exact Or.inl ⟨rfl, pJ3, pJ6, pJ9, by intro h; have h9 := (nx_10 (L := i_p0_taped) h6).mp h; have h8 := h9.1; rcases q_X12_is_4_2 with g | g; omega; exact g.2 h8⟩) /- post2#1 -/⟩
        ·
          refine wp_bd1 (s_X12_ends _ _ _ _ _ _ (by omega) /- pre X12_ends.1#1 -/ (by omega) /- pre X12_ends.2#1 -/ (by exact h3) /- pre X12_ends.3#1 -/ (by omega) /- pre X12_ends.4#1 -/ (by omega) /- pre X12_ends.5#1 -/ (by omega) /- pre X12_ends.6#1 -/ (by omega) /- pre X12_ends.7#1 -/ (by omega) /- pre X12_ends.8#1 -/ (by omega) /- pre X12_ends.9#1 -/ (by omega) /- pre X12_ends.10#1 -/ (by omega) /- pre X12_ends.11#1 -/) (fun z12 q_X12_ends_1 => ?_)
          try dsimp only at q_X12_ends_1
          obtain ⟨q_X12_ends_1_1, q_X12_ends_1_2⟩ := q_X12_ends_1
          refine wp_ck (z_r32_i.mpr ⟨(by omega) /- z_r32.lo z12#1 -/, (by omega) /- z_r32.hi z12#1 -/⟩) ?_
          refine wp_if (fun c2 => ?_) (fun c2 => ?_)
          ·
            refine wp_some ?_
            try dsimp only
            all_goals exact ⟨(by omega) /- post1#2 -/, (by exact Or.inl ⟨rfl, pJ3, pJ6, pJ9, by intro h; have h9 := (nx_10 (L := i_p0_taped) h6).mp h; rcases q_X12_ends_1_2 with g | g; omega; exact g.2 h9.2⟩) /- post2#2 -/⟩
          ·
            refine wp_some ?_
            try dsimp only
            all_goals exact ⟨(by omega) /- post1#3 -/, (by exact Or.inr (Or.inr (Or.inr (Or.inr ⟨rfl, (nx_10 (L := i_p0_taped) h6).mpr ⟨(by rcases q_X12_is_4_2 with g | g; exact g.2; omega), (by rcases q_X12_ends_1_2 with g | g; exact g.2; omega)⟩⟩)))) /- post2#3 -/⟩
      refine wp_if (fun c3 => ?_) (fun c3 => ?_)
      ·
        exact hJ9  (by intro h; have h9 := (nx_9 (L := i_p0_taped) h6).mp h; have h8 := h9.1; rcases q_X12_is_3_2 with g | g; omega; exact g.2 h8) /- to J9#1 -/
      ·
        refine wp_bd1 (s_X12_ends _ _ _ _ _ _ (by omega) /- pre X12_ends.1#2 -/ (by omega) /- pre X12_ends.2#2 -/ (by exact h3) /- pre X12_ends.3#2 -/ (by omega) /- pre X12_ends.4#2 -/ (by omega) /- pre X12_ends.5#2 -/ (by omega) /- pre X12_ends.6#2 -/ (by omega) /- pre X12_ends.7#2 -/ (by omega) /- pre X12_ends.8#2 -/ (by omega) /- pre X12_ends.9#2 -/ (by omega) /- pre X12_ends.10#2 -/ (by omega) /- pre X12_ends.11#2 -/) (fun z14 q_X12_ends_2 => ?_)
        try dsimp only at q_X12_ends_2
        obtain ⟨q_X12_ends_2_1, q_X12_ends_2_2⟩ := q_X12_ends_2
        refine wp_ck (z_r32_i.mpr ⟨(by omega) /- z_r32.lo z14#1 -/, (by omega) /- z_r32.hi z14#1 -/⟩) ?_
        refine wp_if (fun c4 => ?_) (fun c4 => ?_)
        ·
          exact hJ9  (by intro h; have h9 := (nx_9 (L := i_p0_taped) h6).mp h; rcases q_X12_ends_2_2 with g | g; omega; exact g.2 h9.2) /- to J9#2 -/
        ·
          refine wp_some ?_
          try dsimp only
          all_goals exact ⟨(by omega) /- post1#4 -/, (by exact Or.inr (Or.inr (Or.inr (Or.inl ⟨rfl, (nx_9 (L := i_p0_taped) h6).mpr ⟨(by rcases q_X12_is_3_2 with g | g; exact g.2; omega), (by rcases q_X12_ends_2_2 with g | g; exact g.2; omega)⟩⟩)))) /- post2#4 -/⟩
    refine wp_if (fun c5 => ?_) (fun c5 => ?_)
    ·
      exact hJ6  (by intro h; have h9 := (nx_8 (L := i_p0_taped) h6).mp h; have h8 := h9.1; rcases q_X12_is_2_2 with g | g; omega; exact g.2 h8) /- to J6#1 -/
    ·
      refine wp_bd1 (s_X12_ends _ _ _ _ _ _ (by omega) /- pre X12_ends.1#3 -/ (by omega) /- pre X12_ends.2#3 -/ (by exact h3) /- pre X12_ends.3#3 -/ (by omega) /- pre X12_ends.4#3 -/ (by omega) /- pre X12_ends.5#3 -/ (by omega) /- pre X12_ends.6#3 -/ (by omega) /- pre X12_ends.7#3 -/ (by omega) /- pre X12_ends.8#3 -/ (by omega) /- pre X12_ends.9#3 -/ (by omega) /- pre X12_ends.10#3 -/ (by omega) /- pre X12_ends.11#3 -/) (fun z16 q_X12_ends_3 => ?_)
      try dsimp only at q_X12_ends_3
      obtain ⟨q_X12_ends_3_1, q_X12_ends_3_2⟩ := q_X12_ends_3
      refine wp_ck (z_r32_i.mpr ⟨(by omega) /- z_r32.lo z16#1 -/, (by omega) /- z_r32.hi z16#1 -/⟩) ?_
      refine wp_if (fun c6 => ?_) (fun c6 => ?_)
      ·
        exact hJ6  (by intro h; have h9 := (nx_8 (L := i_p0_taped) h6).mp h; rcases q_X12_ends_3_2 with g | g; omega; exact g.2 h9.2) /- to J6#2 -/
      ·
        refine wp_some ?_
        try dsimp only
        all_goals exact ⟨(by omega) /- post1#5 -/, (by exact Or.inr (Or.inr (Or.inl ⟨rfl, (nx_8 (L := i_p0_taped) h6).mpr ⟨(by rcases q_X12_is_2_2 with g | g; exact g.2; omega), (by rcases q_X12_ends_3_2 with g | g; exact g.2; omega)⟩⟩))) /- post2#5 -/⟩
  refine wp_if (fun c7 => ?_) (fun c7 => ?_)
  ·
    exact hJ3  (by intro h; have h9 := (nx_7 (L := i_p0_taped) h6).mp h; have h8 := h9.1; rcases q_X12_is_1_2 with g | g; omega; exact g.2 h8) /- to J3#1 -/
  ·
    refine wp_bd1 (s_X12_ends _ _ _ _ _ _ (by omega) /- pre X12_ends.1#4 -/ (by omega) /- pre X12_ends.2#4 -/ (by exact h3) /- pre X12_ends.3#4 -/ (by omega) /- pre X12_ends.4#4 -/ (by omega) /- pre X12_ends.5#4 -/ (by omega) /- pre X12_ends.6#4 -/ (by omega) /- pre X12_ends.7#4 -/ (by omega) /- pre X12_ends.8#4 -/ (by omega) /- pre X12_ends.9#4 -/ (by omega) /- pre X12_ends.10#4 -/ (by omega) /- pre X12_ends.11#4 -/) (fun z18 q_X12_ends_4 => ?_)
    try dsimp only at q_X12_ends_4
    obtain ⟨q_X12_ends_4_1, q_X12_ends_4_2⟩ := q_X12_ends_4
    refine wp_ck (z_r32_i.mpr ⟨(by omega) /- z_r32.lo z18#1 -/, (by omega) /- z_r32.hi z18#1 -/⟩) ?_
    refine wp_if (fun c8 => ?_) (fun c8 => ?_)
    ·
      exact hJ3  (by intro h; have h9 := (nx_7 (L := i_p0_taped) h6).mp h; rcases q_X12_ends_4_2 with g | g; omega; exact g.2 h9.2) /- to J3#2 -/
    ·
      refine wp_some ?_
      try dsimp only
      all_goals exact ⟨(by omega) /- post1#6 -/, (by exact Or.inr (Or.inl ⟨rfl, (nx_7 (L := i_p0_taped) h6).mpr ⟨(by rcases q_X12_is_1_2 with g | g; exact g.2; omega), (by rcases q_X12_ends_4_2 with g | g; exact g.2; omega)⟩⟩)) /- post2#6 -/⟩

set_option maxHeartbeats 1000000 in
theorem s_X12_lineNow (i_p0_taped : Int) (i_p0_pos : Int) (i_p0_from : Int) (v_p0_tape : (Int → Int)) (h1 : 0 ≤ i_p0_taped) (h2 : i_p0_taped ≤ 320) (h3 : ∀ j, 0 ≤ j → j < 320 → 0 ≤ v_p0_tape j ∧ v_p0_tape j ≤ 255) (h4 : 0 ≤ i_p0_from) (h5 : i_p0_from ≤ i_p0_pos) (h6 : i_p0_pos ≤ i_p0_taped) : wp (f_X12_lineNow i_p0_taped i_p0_pos i_p0_from v_p0_tape) (fun o => (o = -4 ∨ (0 ≤ o ∧ o ≤ 10)) ∧ (lnR v_p0_tape i_p0_from i_p0_pos o)) := by
  unfold f_X12_lineNow
  refine wp_bd1 (s_X12_is _ _ _ _ _ _ _ _ (by omega) /- pre X12_is.1#1 -/ (by omega) /- pre X12_is.2#1 -/ (by exact h3) /- pre X12_is.3#1 -/ (by omega) /- pre X12_is.4#1 -/ (by omega) /- pre X12_is.5#1 -/ (by omega) /- pre X12_is.6#1 -/ (by omega) /- pre X12_is.7#1 -/ (by omega) /- pre X12_is.8#1 -/ (by omega) /- pre X12_is.9#1 -/ (by omega) /- pre X12_is.10#1 -/ (by omega) /- pre X12_is.11#1 -/ (by omega) /- pre X12_is.12#1 -/ (by omega) /- pre X12_is.13#1 -/ (by omega) /- pre X12_is.14#1 -/) (fun z1 q_X12_is_1 => ?_)
  try dsimp only at q_X12_is_1
  obtain ⟨q_X12_is_1_1, q_X12_is_1_2⟩ := q_X12_is_1
  refine wp_ck (z_r32_i.mpr ⟨(by omega) /- z_r32.lo z1#1 -/, (by omega) /- z_r32.hi z1#1 -/⟩) ?_
  refine wp_jnP0 (¬ nmd v_p0_tape i_p0_from i_p0_pos 0) (fun pJ3 => ?_) (fun J3 hJ3 => ?_)
  ·
    refine wp_bd1 (s_X12_is _ _ _ _ _ _ _ _ (by omega) /- pre X12_is.1#2 -/ (by omega) /- pre X12_is.2#2 -/ (by exact h3) /- pre X12_is.3#2 -/ (by omega) /- pre X12_is.4#2 -/ (by omega) /- pre X12_is.5#2 -/ (by omega) /- pre X12_is.6#2 -/ (by omega) /- pre X12_is.7#2 -/ (by omega) /- pre X12_is.8#2 -/ (by omega) /- pre X12_is.9#2 -/ (by omega) /- pre X12_is.10#2 -/ (by omega) /- pre X12_is.11#2 -/ (by omega) /- pre X12_is.12#2 -/ (by omega) /- pre X12_is.13#2 -/ (by omega) /- pre X12_is.14#2 -/) (fun z4 q_X12_is_2 => ?_)
    try dsimp only at q_X12_is_2
    obtain ⟨q_X12_is_2_1, q_X12_is_2_2⟩ := q_X12_is_2
    refine wp_ck (z_r32_i.mpr ⟨(by omega) /- z_r32.lo z4#1 -/, (by omega) /- z_r32.hi z4#1 -/⟩) ?_
    refine wp_if (fun c1 => ?_) (fun c1 => ?_)
    ·
      refine wp_bd1 (s_X12_is _ _ _ _ _ _ _ _ (by omega) /- pre X12_is.1#3 -/ (by omega) /- pre X12_is.2#3 -/ (by exact h3) /- pre X12_is.3#3 -/ (by omega) /- pre X12_is.4#3 -/ (by omega) /- pre X12_is.5#3 -/ (by omega) /- pre X12_is.6#3 -/ (by omega) /- pre X12_is.7#3 -/ (by omega) /- pre X12_is.8#3 -/ (by omega) /- pre X12_is.9#3 -/ (by omega) /- pre X12_is.10#3 -/ (by omega) /- pre X12_is.11#3 -/ (by omega) /- pre X12_is.12#3 -/ (by omega) /- pre X12_is.13#3 -/ (by omega) /- pre X12_is.14#3 -/) (fun z6 q_X12_is_3 => ?_)
      try dsimp only at q_X12_is_3
      obtain ⟨q_X12_is_3_1, q_X12_is_3_2⟩ := q_X12_is_3
      refine wp_ck (z_r32_i.mpr ⟨(by omega) /- z_r32.lo z6#1 -/, (by omega) /- z_r32.hi z6#1 -/⟩) ?_
      refine wp_jnP0 (¬ nmd v_p0_tape i_p0_from i_p0_pos 2) (fun pJ8 => ?_) (fun J8 hJ8 => ?_)
      ·
        refine wp_bd1 (s_X12_is _ _ _ _ _ _ _ _ (by omega) /- pre X12_is.1#4 -/ (by omega) /- pre X12_is.2#4 -/ (by exact h3) /- pre X12_is.3#4 -/ (by omega) /- pre X12_is.4#4 -/ (by omega) /- pre X12_is.5#4 -/ (by omega) /- pre X12_is.6#4 -/ (by omega) /- pre X12_is.7#4 -/ (by omega) /- pre X12_is.8#4 -/ (by omega) /- pre X12_is.9#4 -/ (by omega) /- pre X12_is.10#4 -/ (by omega) /- pre X12_is.11#4 -/ (by omega) /- pre X12_is.12#4 -/ (by omega) /- pre X12_is.13#4 -/ (by omega) /- pre X12_is.14#4 -/) (fun z9 q_X12_is_4 => ?_)
        try dsimp only at q_X12_is_4
        obtain ⟨q_X12_is_4_1, q_X12_is_4_2⟩ := q_X12_is_4
        refine wp_ck (z_r32_i.mpr ⟨(by omega) /- z_r32.lo z9#1 -/, (by omega) /- z_r32.hi z9#1 -/⟩) ?_
        refine wp_jnP0 (¬ nmd v_p0_tape i_p0_from i_p0_pos 3) (fun pJ11 => ?_) (fun J11 hJ11 => ?_)
        ·
          refine wp_bd1 (s_X12_is _ _ _ _ _ _ _ _ (by omega) /- pre X12_is.1#5 -/ (by omega) /- pre X12_is.2#5 -/ (by exact h3) /- pre X12_is.3#5 -/ (by omega) /- pre X12_is.4#5 -/ (by omega) /- pre X12_is.5#5 -/ (by omega) /- pre X12_is.6#5 -/ (by omega) /- pre X12_is.7#5 -/ (by omega) /- pre X12_is.8#5 -/ (by omega) /- pre X12_is.9#5 -/ (by omega) /- pre X12_is.10#5 -/ (by omega) /- pre X12_is.11#5 -/ (by omega) /- pre X12_is.12#5 -/ (by omega) /- pre X12_is.13#5 -/ (by omega) /- pre X12_is.14#5 -/) (fun z12 q_X12_is_5 => ?_)
          try dsimp only at q_X12_is_5
          obtain ⟨q_X12_is_5_1, q_X12_is_5_2⟩ := q_X12_is_5
          refine wp_ck (z_r32_i.mpr ⟨(by omega) /- z_r32.lo z12#1 -/, (by omega) /- z_r32.hi z12#1 -/⟩) ?_
          refine wp_jnP0 (¬ nmd v_p0_tape i_p0_from i_p0_pos 4) (fun pJ14 => ?_) (fun J14 hJ14 => ?_)
          ·
            refine wp_bd1 (s_X12_is _ _ _ _ _ _ _ _ (by omega) /- pre X12_is.1#6 -/ (by omega) /- pre X12_is.2#6 -/ (by exact h3) /- pre X12_is.3#6 -/ (by omega) /- pre X12_is.4#6 -/ (by omega) /- pre X12_is.5#6 -/ (by omega) /- pre X12_is.6#6 -/ (by omega) /- pre X12_is.7#6 -/ (by omega) /- pre X12_is.8#6 -/ (by omega) /- pre X12_is.9#6 -/ (by omega) /- pre X12_is.10#6 -/ (by omega) /- pre X12_is.11#6 -/ (by omega) /- pre X12_is.12#6 -/ (by omega) /- pre X12_is.13#6 -/ (by omega) /- pre X12_is.14#6 -/) (fun z15 q_X12_is_6 => ?_)
            try dsimp only at q_X12_is_6
            obtain ⟨q_X12_is_6_1, q_X12_is_6_2⟩ := q_X12_is_6
            refine wp_ck (z_r32_i.mpr ⟨(by omega) /- z_r32.lo z15#1 -/, (by omega) /- z_r32.hi z15#1 -/⟩) ?_
            refine wp_jnP0 (¬ nmd v_p0_tape i_p0_from i_p0_pos 5) (fun pJ17 => ?_) (fun J17 hJ17 => ?_)
            ·
              refine wp_bd1 (s_X12_is _ _ _ _ _ _ _ _ (by omega) /- pre X12_is.1#7 -/ (by omega) /- pre X12_is.2#7 -/ (by exact h3) /- pre X12_is.3#7 -/ (by omega) /- pre X12_is.4#7 -/ (by omega) /- pre X12_is.5#7 -/ (by omega) /- pre X12_is.6#7 -/ (by omega) /- pre X12_is.7#7 -/ (by omega) /- pre X12_is.8#7 -/ (by omega) /- pre X12_is.9#7 -/ (by omega) /- pre X12_is.10#7 -/ (by omega) /- pre X12_is.11#7 -/ (by omega) /- pre X12_is.12#7 -/ (by omega) /- pre X12_is.13#7 -/ (by omega) /- pre X12_is.14#7 -/) (fun z18 q_X12_is_7 => ?_)
              try dsimp only at q_X12_is_7
              obtain ⟨q_X12_is_7_1, q_X12_is_7_2⟩ := q_X12_is_7
              refine wp_ck (z_r32_i.mpr ⟨(by omega) /- z_r32.lo z18#1 -/, (by omega) /- z_r32.hi z18#1 -/⟩) ?_
              refine wp_if (fun c2 => ?_) (fun c2 => ?_)
              ·
                refine wp_bd1 (s_X12_stirNow _ _ _ _ (by omega) /- pre X12_stirNow.1#1 -/ (by omega) /- pre X12_stirNow.2#1 -/ (by exact h3) /- pre X12_stirNow.3#1 -/ (by omega) /- pre X12_stirNow.4#1 -/ (by omega) /- pre X12_stirNow.5#1 -/ (by omega) /- pre X12_stirNow.6#1 -/) (fun z20 q_X12_stirNow_1 => ?_)
                try dsimp only at q_X12_stirNow_1
                obtain ⟨q_X12_stirNow_1_1, q_X12_stirNow_1_2⟩ := q_X12_stirNow_1
                refine wp_some ?_
                try dsimp only
                all_goals exact ⟨(by omega) /- post1#1 -/, (by exact lnR_stir q_X12_stirNow_1_2 pJ3 (by intro h; have h9 := (nx_1 (L := i_p0_taped) h6).mp h; have h8 := h9; rcases q_X12_is_2_2 with g | g; omega; exact g.2 h8) pJ8 pJ11 pJ14 pJ17 (by intro h; have h9 := (nx_6 (L := i_p0_taped) h6).mp h; have h8 := h9.1; rcases q_X12_is_7_2 with g | g; omega; exact g.2 h8)) /- post2#1 -/⟩
              ·
                refine wp_bd1 (s_X12_ends _ _ _ _ _ _ (by omega) /- pre X12_ends.1#1 -/ (by omega) /- pre X12_ends.2#1 -/ (by exact h3) /- pre X12_ends.3#1 -/ (by omega) /- pre X12_ends.4#1 -/ (by omega) /- pre X12_ends.5#1 -/ (by omega) /- pre X12_ends.6#1 -/ (by omega) /- pre X12_ends.7#1 -/ (by omega) /- pre X12_ends.8#1 -/ (by omega) /- pre X12_ends.9#1 -/ (by omega) /- pre X12_ends.10#1 -/ (by omega) /- pre X12_ends.11#1 -/) (fun z21 q_X12_ends_1 => ?_)
                try dsimp only at q_X12_ends_1
                obtain ⟨q_X12_ends_1_1, q_X12_ends_1_2⟩ := q_X12_ends_1
                refine wp_ck (z_r32_i.mpr ⟨(by omega) /- z_r32.lo z21#1 -/, (by omega) /- z_r32.hi z21#1 -/⟩) ?_
                refine wp_if (fun c3 => ?_) (fun c3 => ?_)
                ·
                  refine wp_bd1 (s_X12_stirNow _ _ _ _ (by omega) /- pre X12_stirNow.1#2 -/ (by omega) /- pre X12_stirNow.2#2 -/ (by exact h3) /- pre X12_stirNow.3#2 -/ (by omega) /- pre X12_stirNow.4#2 -/ (by omega) /- pre X12_stirNow.5#2 -/ (by omega) /- pre X12_stirNow.6#2 -/) (fun z23 q_X12_stirNow_2 => ?_)
                  try dsimp only at q_X12_stirNow_2
                  obtain ⟨q_X12_stirNow_2_1, q_X12_stirNow_2_2⟩ := q_X12_stirNow_2
                  refine wp_some ?_
                  try dsimp only
                  all_goals exact ⟨(by omega) /- post1#2 -/, (by exact lnR_stir q_X12_stirNow_2_2 pJ3 (by intro h; have h9 := (nx_1 (L := i_p0_taped) h6).mp h; have h8 := h9; rcases q_X12_is_2_2 with g | g; omega; exact g.2 h8) pJ8 pJ11 pJ14 pJ17 (by intro h; have h9 := (nx_6 (L := i_p0_taped) h6).mp h; rcases q_X12_ends_1_2 with g | g; omega; exact g.2 h9.2)) /- post2#2 -/⟩
                ·
                  refine wp_some ?_
                  try dsimp only
                  all_goals exact ⟨(by omega) /- post1#3 -/, (by exact Or.inr ⟨by omega, (nx_6 (L := i_p0_taped) h6).mpr ⟨(by rcases q_X12_is_7_2 with g | g; exact g.2; omega), (by rcases q_X12_ends_1_2 with g | g; exact g.2; omega)⟩⟩) /- post2#3 -/⟩
            refine wp_if (fun c4 => ?_) (fun c4 => ?_)
            ·
              exact hJ17  (by intro h; have h9 := (nx_5 (L := i_p0_taped) h6).mp h; have h8 := h9.1; rcases q_X12_is_6_2 with g | g; omega; exact g.2 h8) /- to J17#1 -/
            ·
              refine wp_bd1 (s_X12_ends _ _ _ _ _ _ (by omega) /- pre X12_ends.1#2 -/ (by omega) /- pre X12_ends.2#2 -/ (by exact h3) /- pre X12_ends.3#2 -/ (by omega) /- pre X12_ends.4#2 -/ (by omega) /- pre X12_ends.5#2 -/ (by omega) /- pre X12_ends.6#2 -/ (by omega) /- pre X12_ends.7#2 -/ (by omega) /- pre X12_ends.8#2 -/ (by omega) /- pre X12_ends.9#2 -/ (by omega) /- pre X12_ends.10#2 -/ (by omega) /- pre X12_ends.11#2 -/) (fun z24 q_X12_ends_2 => ?_)
              try dsimp only at q_X12_ends_2
              obtain ⟨q_X12_ends_2_1, q_X12_ends_2_2⟩ := q_X12_ends_2
              refine wp_ck (z_r32_i.mpr ⟨(by omega) /- z_r32.lo z24#1 -/, (by omega) /- z_r32.hi z24#1 -/⟩) ?_
              refine wp_if (fun c5 => ?_) (fun c5 => ?_)
              ·
                exact hJ17  (by intro h; have h9 := (nx_5 (L := i_p0_taped) h6).mp h; rcases q_X12_ends_2_2 with g | g; omega; exact g.2 h9.2) /- to J17#2 -/
              ·
                refine wp_some ?_
                try dsimp only
                all_goals exact ⟨(by omega) /- post1#4 -/, (by exact Or.inr ⟨by omega, (nx_5 (L := i_p0_taped) h6).mpr ⟨(by rcases q_X12_is_6_2 with g | g; exact g.2; omega), (by rcases q_X12_ends_2_2 with g | g; exact g.2; omega)⟩⟩) /- post2#4 -/⟩
          refine wp_if (fun c6 => ?_) (fun c6 => ?_)
          ·
            exact hJ14  (by intro h; have h9 := (nx_4 (L := i_p0_taped) h6).mp h; have h8 := h9.1; rcases q_X12_is_5_2 with g | g; omega; exact g.2 h8) /- to J14#1 -/
          ·
            refine wp_bd1 (s_X12_ends _ _ _ _ _ _ (by omega) /- pre X12_ends.1#3 -/ (by omega) /- pre X12_ends.2#3 -/ (by exact h3) /- pre X12_ends.3#3 -/ (by omega) /- pre X12_ends.4#3 -/ (by omega) /- pre X12_ends.5#3 -/ (by omega) /- pre X12_ends.6#3 -/ (by omega) /- pre X12_ends.7#3 -/ (by omega) /- pre X12_ends.8#3 -/ (by omega) /- pre X12_ends.9#3 -/ (by omega) /- pre X12_ends.10#3 -/ (by omega) /- pre X12_ends.11#3 -/) (fun z26 q_X12_ends_3 => ?_)
            try dsimp only at q_X12_ends_3
            obtain ⟨q_X12_ends_3_1, q_X12_ends_3_2⟩ := q_X12_ends_3
            refine wp_ck (z_r32_i.mpr ⟨(by omega) /- z_r32.lo z26#1 -/, (by omega) /- z_r32.hi z26#1 -/⟩) ?_
            refine wp_if (fun c7 => ?_) (fun c7 => ?_)
            ·
              exact hJ14  (by intro h; have h9 := (nx_4 (L := i_p0_taped) h6).mp h; rcases q_X12_ends_3_2 with g | g; omega; exact g.2 h9.2) /- to J14#2 -/
            ·
              refine wp_some ?_
              try dsimp only
              all_goals exact ⟨(by omega) /- post1#5 -/, (by exact Or.inr ⟨by omega, (nx_4 (L := i_p0_taped) h6).mpr ⟨(by rcases q_X12_is_5_2 with g | g; exact g.2; omega), (by rcases q_X12_ends_3_2 with g | g; exact g.2; omega)⟩⟩) /- post2#5 -/⟩
        refine wp_if (fun c8 => ?_) (fun c8 => ?_)
        ·
          exact hJ11  (by intro h; have h9 := (nx_3 (L := i_p0_taped) h6).mp h; have h8 := h9.1; rcases q_X12_is_4_2 with g | g; omega; exact g.2 h8) /- to J11#1 -/
        ·
          refine wp_bd1 (s_X12_ends _ _ _ _ _ _ (by omega) /- pre X12_ends.1#4 -/ (by omega) /- pre X12_ends.2#4 -/ (by exact h3) /- pre X12_ends.3#4 -/ (by omega) /- pre X12_ends.4#4 -/ (by omega) /- pre X12_ends.5#4 -/ (by omega) /- pre X12_ends.6#4 -/ (by omega) /- pre X12_ends.7#4 -/ (by omega) /- pre X12_ends.8#4 -/ (by omega) /- pre X12_ends.9#4 -/ (by omega) /- pre X12_ends.10#4 -/ (by omega) /- pre X12_ends.11#4 -/) (fun z28 q_X12_ends_4 => ?_)
          try dsimp only at q_X12_ends_4
          obtain ⟨q_X12_ends_4_1, q_X12_ends_4_2⟩ := q_X12_ends_4
          refine wp_ck (z_r32_i.mpr ⟨(by omega) /- z_r32.lo z28#1 -/, (by omega) /- z_r32.hi z28#1 -/⟩) ?_
          refine wp_if (fun c9 => ?_) (fun c9 => ?_)
          ·
            exact hJ11  (by intro h; have h9 := (nx_3 (L := i_p0_taped) h6).mp h; rcases q_X12_ends_4_2 with g | g; omega; exact g.2 h9.2) /- to J11#2 -/
          ·
            refine wp_some ?_
            try dsimp only
            all_goals exact ⟨(by omega) /- post1#6 -/, (by exact Or.inr ⟨by omega, (nx_3 (L := i_p0_taped) h6).mpr ⟨(by rcases q_X12_is_4_2 with g | g; exact g.2; omega), (by rcases q_X12_ends_4_2 with g | g; exact g.2; omega)⟩⟩) /- post2#6 -/⟩
      refine wp_if (fun c10 => ?_) (fun c10 => ?_)
      ·
        exact hJ8  (by intro h; have h9 := (nx_2 (L := i_p0_taped) h6).mp h; have h8 := h9.1; rcases q_X12_is_3_2 with g | g; omega; exact g.2 h8) /- to J8#1 -/
      ·
        refine wp_bd1 (s_X12_ends _ _ _ _ _ _ (by omega) /- pre X12_ends.1#5 -/ (by omega) /- pre X12_ends.2#5 -/ (by exact h3) /- pre X12_ends.3#5 -/ (by omega) /- pre X12_ends.4#5 -/ (by omega) /- pre X12_ends.5#5 -/ (by omega) /- pre X12_ends.6#5 -/ (by omega) /- pre X12_ends.7#5 -/ (by omega) /- pre X12_ends.8#5 -/ (by omega) /- pre X12_ends.9#5 -/ (by omega) /- pre X12_ends.10#5 -/ (by omega) /- pre X12_ends.11#5 -/) (fun z30 q_X12_ends_5 => ?_)
        try dsimp only at q_X12_ends_5
        obtain ⟨q_X12_ends_5_1, q_X12_ends_5_2⟩ := q_X12_ends_5
        refine wp_ck (z_r32_i.mpr ⟨(by omega) /- z_r32.lo z30#1 -/, (by omega) /- z_r32.hi z30#1 -/⟩) ?_
        refine wp_if (fun c11 => ?_) (fun c11 => ?_)
        ·
          exact hJ8  (by intro h; have h9 := (nx_2 (L := i_p0_taped) h6).mp h; rcases q_X12_ends_5_2 with g | g; omega; exact g.2 h9.2) /- to J8#2 -/
        ·
          refine wp_some ?_
          try dsimp only
          all_goals exact ⟨(by omega) /- post1#7 -/, (by exact Or.inr ⟨by omega, (nx_2 (L := i_p0_taped) h6).mpr ⟨(by rcases q_X12_is_3_2 with g | g; exact g.2; omega), (by rcases q_X12_ends_5_2 with g | g; exact g.2; omega)⟩⟩) /- post2#7 -/⟩
    ·
      refine wp_some ?_
      try dsimp only
      all_goals exact ⟨(by omega) /- post1#8 -/, (by exact Or.inr ⟨by omega, (nx_1 (L := i_p0_taped) h6).mpr (by rcases q_X12_is_2_2 with g | g; exact g.2; omega)⟩) /- post2#8 -/⟩
  refine wp_if (fun c12 => ?_) (fun c12 => ?_)
  ·
    exact hJ3  (by intro h; have h9 := (nx_0 (L := i_p0_taped) h6).mp h; have h8 := h9.1; rcases q_X12_is_1_2 with g | g; omega; exact g.2 h8) /- to J3#1 -/
  ·
    refine wp_bd1 (s_X12_ends _ _ _ _ _ _ (by omega) /- pre X12_ends.1#6 -/ (by omega) /- pre X12_ends.2#6 -/ (by exact h3) /- pre X12_ends.3#6 -/ (by omega) /- pre X12_ends.4#6 -/ (by omega) /- pre X12_ends.5#6 -/ (by omega) /- pre X12_ends.6#6 -/ (by omega) /- pre X12_ends.7#6 -/ (by omega) /- pre X12_ends.8#6 -/ (by omega) /- pre X12_ends.9#6 -/ (by omega) /- pre X12_ends.10#6 -/ (by omega) /- pre X12_ends.11#6 -/) (fun z32 q_X12_ends_6 => ?_)
    try dsimp only at q_X12_ends_6
    obtain ⟨q_X12_ends_6_1, q_X12_ends_6_2⟩ := q_X12_ends_6
    refine wp_ck (z_r32_i.mpr ⟨(by omega) /- z_r32.lo z32#1 -/, (by omega) /- z_r32.hi z32#1 -/⟩) ?_
    refine wp_if (fun c13 => ?_) (fun c13 => ?_)
    ·
      exact hJ3  (by intro h; have h9 := (nx_0 (L := i_p0_taped) h6).mp h; rcases q_X12_ends_6_2 with g | g; omega; exact g.2 h9.2) /- to J3#2 -/
    ·
      refine wp_some ?_
      try dsimp only
      all_goals exact ⟨(by omega) /- post1#9 -/, (by exact Or.inr ⟨by omega, (nx_0 (L := i_p0_taped) h6).mpr ⟨(by rcases q_X12_is_1_2 with g | g; exact g.2; omega), (by rcases q_X12_ends_6_2 with g | g; exact g.2; omega)⟩⟩) /- post2#9 -/⟩

set_option maxHeartbeats 4000000 in
theorem s_X12_nextToken (i_p0_taped : Int) (i_p0_pos : Int) (i_p0_from : Int) (i_p0_sort : Int) (i_p0_value : Int) (i_p0_fault : Int) (i_p0_wrongAt : Int) (v_p0_tape : (Int → Int)) (h1 : 0 ≤ i_p0_taped) (h2 : i_p0_taped ≤ 320) (h3 : 0 ≤ i_p0_pos) (h4 : i_p0_pos ≤ i_p0_taped) (h5 : ∀ j, 0 ≤ j → j < 320 → 0 ≤ v_p0_tape j ∧ v_p0_tape j ≤ 255) (h6 : 0 ≤ i_p0_fault) (h7 : i_p0_fault ≤ 6) : wp (f_X12_nextToken i_p0_taped i_p0_pos i_p0_from i_p0_sort i_p0_value i_p0_fault i_p0_wrongAt v_p0_tape) (fun o => (¬ i_p0_fault = 0 → o.1 = i_p0_pos ∧ o.2.1 = i_p0_from ∧ o.2.2.1 = i_p0_sort ∧ o.2.2.2.1 = i_p0_value ∧ o.2.2.2.2.1 = i_p0_fault ∧ o.2.2.2.2.2 = i_p0_wrongAt) ∧ (i_p0_fault = 0 → (i_p0_pos ≤ o.2.1 ∧ o.2.1 ≤ i_p0_taped) ∧ (∀ j, i_p0_pos ≤ j → j < o.2.1 → v_p0_tape j = 32) ∧ (o.2.1 < i_p0_taped → ¬ v_p0_tape o.2.1 = 32) ∧ tokr v_p0_tape i_p0_taped o.2.1 o.1 o.2.2.1 o.2.2.2.1 o.2.2.2.2.1 ∧ (o.2.2.2.2.2 = if o.2.2.2.2.1 = 0 then i_p0_wrongAt else o.2.1))) := by
  unfold f_X12_nextToken
  refine wp_ck (z_r32_i.mpr ⟨(by omega) /- z_r32.lo i_p0_fault#1 -/, (by omega) /- z_r32.hi i_p0_fault#1 -/⟩) ?_
  refine wp_if (fun c1 => ?_) (fun c1 => ?_)
  ·
    refine wp_jn ?_
    refine wp_lq1 (fun (z50 : Int) => (i_p0_pos ≤ z50) ∧ (z50 ≤ i_p0_taped) ∧ (∀ j, i_p0_pos ≤ j → j < z50 → v_p0_tape j = 32)) (fun (z50 : Int) => (i_p0_taped - z50).toNat) (fun again8 z50 hI ih_B_X12_nextToken_8 => ?_) 1000 _ ⟨(by omega) /- B_X12_nextToken_8.init1#1 -/, (by omega) /- B_X12_nextToken_8.init2#1 -/, (by intro j; omega) /- B_X12_nextToken_8.init3#1 -/⟩ (by omega) /- B_X12_nextToken_8.fuel#1 -/
    obtain ⟨i_B_X12_nextToken_8_1, i_B_X12_nextToken_8_2, i_B_X12_nextToken_8_3⟩ := hI
    unfold B_X12_nextToken_8
    refine wp_bd1 (s_X12_look _ _ _ (by omega) /- pre X12_look.1#1 -/ (by omega) /- pre X12_look.2#1 -/ (by omega) /- pre X12_look.3#1 -/ (by omega) /- pre X12_look.4#1 -/) (fun z52 q_X12_look_1 => ?_)
    try dsimp only at q_X12_look_1
    have hl1 := look_d h5 h2 (by omega) q_X12_look_1
    clear q_X12_look_1
    refine wp_ck (z_r32_i.mpr ⟨(by omega) /- z_r32.lo z52#1 -/, (by omega) /- z_r32.hi z52#1 -/⟩) ?_
    refine wp_if (fun c2 => ?_) (fun c2 => ?_)
    ·
      refine wp_bndE (fun z54 hz54 => ?_)
      exact ih_B_X12_nextToken_8 _ ⟨(by omega) /- B_X12_nextToken_8.inv1#1 -/, (by omega) /- B_X12_nextToken_8.inv2#1 -/, (by intro j a b; by_cases e : j = z50; subst e; omega; exact i_B_X12_nextToken_8_3 j a (by omega)) /- B_X12_nextToken_8.inv3#1 -/⟩ (by omega) /- B_X12_nextToken_8.dec#1 -/
    ·
      refine wp_bnd ?_
      refine wp_bd1 (s_X12_look _ _ _ (by omega) /- pre X12_look.1#2 -/ (by omega) /- pre X12_look.2#2 -/ (by omega) /- pre X12_look.3#2 -/ (by omega) /- pre X12_look.4#2 -/) (fun z5 q_X12_look_2 => ?_)
      try dsimp only at q_X12_look_2
      have hl2 := look_d h5 h2 (by omega) q_X12_look_2
      clear q_X12_look_2
      refine wp_bnd ?_
      refine wp_ck (z_r32_i.mpr ⟨(by omega) /- z_r32.lo z6#1 -/, (by omega) /- z_r32.hi z6#1 -/⟩) ?_
      refine wp_if (fun c3 => ?_) (fun c3 => ?_)
      ·
        refine wp_bd1 (s_X12_in _ _ _ (by omega) /- pre X12_in.1#1 -/ (by omega) /- pre X12_in.2#1 -/ (by omega) /- pre X12_in.3#1 -/ (by omega) /- pre X12_in.4#1 -/ (by omega) /- pre X12_in.5#1 -/ (by omega) /- pre X12_in.6#1 -/) (fun z8 q_X12_in_1 => ?_)
        try dsimp only at q_X12_in_1
        have hi1 := if01 q_X12_in_1
        clear q_X12_in_1
        refine wp_ck (z_r32_i.mpr ⟨(by omega) /- z_r32.lo z8#1 -/, (by omega) /- z_r32.hi z8#1 -/⟩) ?_
        refine wp_if (fun c4 => ?_) (fun c4 => ?_)
        ·
          refine wp_bd1 (s_X12_in _ _ _ (by omega) /- pre X12_in.1#2 -/ (by omega) /- pre X12_in.2#2 -/ (by omega) /- pre X12_in.3#2 -/ (by omega) /- pre X12_in.4#2 -/ (by omega) /- pre X12_in.5#2 -/ (by omega) /- pre X12_in.6#2 -/) (fun z10 q_X12_in_2 => ?_)
          try dsimp only at q_X12_in_2
          have hi2 := if01 q_X12_in_2
          clear q_X12_in_2
          refine wp_ck (z_r32_i.mpr ⟨(by omega) /- z_r32.lo z10#1 -/, (by omega) /- z_r32.hi z10#1 -/⟩) ?_
          refine wp_if (fun c5 => ?_) (fun c5 => ?_)
          ·
            refine wp_bnd ?_
            refine wp_jn ?_
            refine wp_if (fun c6 => ?_) (fun c6 => ?_)
            ·
              refine wp_bd2 (s_X12_needs _ _ _ _ _ (by omega) /- pre X12_needs.1#1 -/ (by omega) /- pre X12_needs.2#1 -/ (by omega) /- pre X12_needs.3#1 -/) (fun z15 z16 q_X12_needs_1 => ?_)
              try dsimp only at q_X12_needs_1
              obtain ⟨q_X12_needs_1_1, q_X12_needs_1_2⟩ := q_X12_needs_1
              refine wp_bndE (fun z17 hz17 => ?_)
              refine wp_some ?_
              try dsimp only
              all_goals exact ⟨(by intro h; exfalso; omega) /- post1#1 -/, (by 
                                        intro _
                                        refine ⟨by omega, i_B_X12_nextToken_8_3, fun _ => by omega, ?_, by split <;> omega⟩
                                        unfold tokr
                                        rw [if_neg (by omega), if_neg (by omega), if_neg (by omega)]
                                        exact ⟨rfl, by omega, by rw [if_pos (by omega)]; omega⟩) /- post2#1 -/⟩
            ·
              refine wp_bd2 (s_X12_needs _ _ _ _ _ (by omega) /- pre X12_needs.1#2 -/ (by omega) /- pre X12_needs.2#2 -/ (by omega) /- pre X12_needs.3#2 -/) (fun z15 z16 q_X12_needs_2 => ?_)
              try dsimp only at q_X12_needs_2
              obtain ⟨q_X12_needs_2_1, q_X12_needs_2_2⟩ := q_X12_needs_2
              refine wp_bndE (fun z17 hz17 => ?_)
              refine wp_some ?_
              try dsimp only
              all_goals exact ⟨(by intro h; exfalso; omega) /- post1#2 -/, (by 
                                        intro _
                                        refine ⟨by omega, i_B_X12_nextToken_8_3, fun _ => by omega, ?_, by split <;> omega⟩
                                        unfold tokr
                                        rw [if_neg (by omega), if_neg (by omega), if_neg (by omega)]
                                        exact ⟨rfl, by omega, by rw [if_neg (by omega)]; omega⟩) /- post2#2 -/⟩
          ·
            refine wp_bnd ?_
            refine wp_bnd ?_
            refine wp_jn ?_
            refine wp_lq2 (fun (z28 : Int) (z29 : Int) => (z50 ≤ z28) ∧ (z28 ≤ i_p0_taped) ∧ (∀ j, z50 ≤ j → j < z28 → 48 ≤ v_p0_tape j ∧ v_p0_tape j ≤ 57) ∧ (z28 = z50 → z29 = 0) ∧ (z28 - z50 = 1 → z29 = v_p0_tape z50 - 48) ∧ (2 ≤ z28 - z50 → z29 = 10 * (v_p0_tape z50 - 48) + (v_p0_tape (z50 + 1) - 48))) (fun (z28 : Int) (z29 : Int) => (i_p0_taped - z28).toNat) (fun again140 z28 z29 hI ih_B_X12_nextToken_140 => ?_) 1000 _ _ ⟨(by omega) /- B_X12_nextToken_140.init1#1 -/, (by omega) /- B_X12_nextToken_140.init2#1 -/, (by intro j; omega) /- B_X12_nextToken_140.init3#1 -/, (by intro _; rfl) /- B_X12_nextToken_140.init4#1 -/, (by intro h; omega) /- B_X12_nextToken_140.init5#1 -/, (by intro h; omega) /- B_X12_nextToken_140.init6#1 -/⟩ (by omega) /- B_X12_nextToken_140.fuel#1 -/
            obtain ⟨i_B_X12_nextToken_140_1, i_B_X12_nextToken_140_2, i_B_X12_nextToken_140_3, i_B_X12_nextToken_140_4, i_B_X12_nextToken_140_5, i_B_X12_nextToken_140_6⟩ := hI
            unfold B_X12_nextToken_140
            refine wp_bd1 (s_X12_look _ _ _ (by omega) /- pre X12_look.1#3 -/ (by omega) /- pre X12_look.2#3 -/ (by omega) /- pre X12_look.3#3 -/ (by omega) /- pre X12_look.4#3 -/) (fun z31 q_X12_look_3 => ?_)
            try dsimp only at q_X12_look_3
            have hl3 := look_d h5 h2 (by omega) q_X12_look_3
            clear q_X12_look_3
            refine wp_ck (z_r32_i.mpr ⟨(by omega) /- z_r32.lo z31#1 -/, (by omega) /- z_r32.hi z31#1 -/⟩) ?_
            refine wp_bd1 (s_X12_in _ _ _ (by omega) /- pre X12_in.1#3 -/ (by omega) /- pre X12_in.2#3 -/ (by omega) /- pre X12_in.3#3 -/ (by omega) /- pre X12_in.4#3 -/ (by omega) /- pre X12_in.5#3 -/ (by omega) /- pre X12_in.6#3 -/) (fun z33 q_X12_in_3 => ?_)
            try dsimp only at q_X12_in_3
            have hi3 := if01 q_X12_in_3
            clear q_X12_in_3
            refine wp_ck (z_r32_i.mpr ⟨(by omega) /- z_r32.lo z33#1 -/, (by omega) /- z_r32.hi z33#1 -/⟩) ?_
            refine wp_if (fun c7 => ?_) (fun c7 => ?_)
            ·
              refine wp_ck (z_r32_i.mpr ⟨(by omega) /- z_r32.lo (z20 - z4)#1 -/, (by omega) /- z_r32.hi (z20 - z4)#1 -/⟩) ?_
              refine wp_if (fun c8 => ?_) (fun c8 => ?_)
              ·
                refine wp_bd2 (s_X12_needs _ _ _ _ _ (by omega) /- pre X12_needs.1#3 -/ (by omega) /- pre X12_needs.2#3 -/ (by omega) /- pre X12_needs.3#3 -/) (fun z24 z25 q_X12_needs_3 => ?_)
                try dsimp only at q_X12_needs_3
                obtain ⟨q_X12_needs_3_1, q_X12_needs_3_2⟩ := q_X12_needs_3
                refine wp_some ?_
                try dsimp only
                all_goals exact ⟨(by intro h; exfalso; omega) /- post1#3 -/, (by 
                                        intro _
                                        refine ⟨by omega, i_B_X12_nextToken_8_3, fun _ => by omega, ?_, by split <;> omega⟩
                                        unfold tokr
                                        rw [if_neg (by omega), if_neg (by omega), if_pos (by omega)]
                                        refine ⟨rfl, ?_, by omega, i_B_X12_nextToken_140_3, fun _ => by omega, i_B_X12_nextToken_140_5, i_B_X12_nextToken_140_6, by rw [if_neg (by omega)]; omega⟩
                                        rcases Int.lt_or_eq_of_le i_B_X12_nextToken_140_1 with h | h
                                        · exact h
                                        · exfalso; subst h; omega) /- post2#3 -/⟩
              ·
                refine wp_bd2 (s_X12_needs _ _ _ _ _ (by omega) /- pre X12_needs.1#4 -/ (by omega) /- pre X12_needs.2#4 -/ (by omega) /- pre X12_needs.3#4 -/) (fun z26 z27 q_X12_needs_4 => ?_)
                try dsimp only at q_X12_needs_4
                obtain ⟨q_X12_needs_4_1, q_X12_needs_4_2⟩ := q_X12_needs_4
                refine wp_some ?_
                try dsimp only
                all_goals exact ⟨(by intro h; exfalso; omega) /- post1#4 -/, (by 
                                        intro _
                                        refine ⟨by omega, i_B_X12_nextToken_8_3, fun _ => by omega, ?_, by split <;> omega⟩
                                        unfold tokr
                                        rw [if_neg (by omega), if_neg (by omega), if_pos (by omega)]
                                        refine ⟨rfl, ?_, by omega, i_B_X12_nextToken_140_3, fun _ => by omega, i_B_X12_nextToken_140_5, i_B_X12_nextToken_140_6, by rw [if_pos (by omega)]; omega⟩
                                        rcases Int.lt_or_eq_of_le i_B_X12_nextToken_140_1 with h | h
                                        · exact h
                                        · exfalso; subst h; omega) /- post2#4 -/⟩
            ·
              refine wp_ck (z_r32_i.mpr ⟨(by omega) /- z_r32.lo (z28 - z4)#1 -/, (by omega) /- z_r32.hi (z28 - z4)#1 -/⟩) ?_
              refine wp_jn ?_
              refine wp_if (fun c9 => ?_) (fun c9 => ?_)
              ·
                refine wp_bnd ?_
                refine wp_bndE (fun z39 hz39 => ?_)
                exact ih_B_X12_nextToken_140 _ _ ⟨(by omega) /- B_X12_nextToken_140.inv1#1 -/, (by omega) /- B_X12_nextToken_140.inv2#1 -/, (by intro j a b; by_cases e : j = z28; subst e; omega; exact i_B_X12_nextToken_140_3 j a (by omega)) /- B_X12_nextToken_140.inv3#1 -/, (by omega) /- B_X12_nextToken_140.inv4#1 -/, (by intro h; exfalso; omega) /- B_X12_nextToken_140.inv5#1 -/, (by intro h; exact i_B_X12_nextToken_140_6 (by omega)) /- B_X12_nextToken_140.inv6#1 -/⟩ (by omega) /- B_X12_nextToken_140.dec#1 -/
              ·
                refine wp_bd1 (s_X12_look _ _ _ (by omega) /- pre X12_look.1#4 -/ (by omega) /- pre X12_look.2#4 -/ (by omega) /- pre X12_look.3#4 -/ (by omega) /- pre X12_look.4#4 -/) (fun z40 q_X12_look_4 => ?_)
                try dsimp only at q_X12_look_4
                have hl4 := look_d h5 h2 (by omega) q_X12_look_4
                clear q_X12_look_4
                refine wp_bnd ?_
                refine wp_bndE (fun z39 hz39 => ?_)
                exact ih_B_X12_nextToken_140 _ _ ⟨(by omega) /- B_X12_nextToken_140.inv1#2 -/, (by omega) /- B_X12_nextToken_140.inv2#2 -/, (by intro j a b; by_cases e : j = z28; subst e; omega; exact i_B_X12_nextToken_140_3 j a (by omega)) /- B_X12_nextToken_140.inv3#2 -/, (by omega) /- B_X12_nextToken_140.inv4#2 -/, (by 
                                        intro h; have e : z28 = z50 := by omega
                                        have q := i_B_X12_nextToken_140_4 e
                                        rw [e] at hl4
                                        omega) /- B_X12_nextToken_140.inv5#2 -/, (by 
                                        intro h; have e : z28 = z50 + 1 := by omega
                                        have q := i_B_X12_nextToken_140_5 (by omega)
                                        rw [e] at hl4
                                        omega) /- B_X12_nextToken_140.inv6#2 -/⟩ (by omega) /- B_X12_nextToken_140.dec#2 -/
        ·
          refine wp_bnd ?_
          refine wp_lq1 (fun (z42 : Int) => (z50 ≤ z42) ∧ (z42 ≤ i_p0_taped) ∧ (∀ j, z50 ≤ j → j < z42 → 97 ≤ v_p0_tape j ∧ v_p0_tape j ≤ 122)) (fun (z42 : Int) => (i_p0_taped - z42).toNat) (fun again82 z42 hI ih_B_X12_nextToken_82 => ?_) 1000 _ ⟨(by omega) /- B_X12_nextToken_82.init1#1 -/, (by omega) /- B_X12_nextToken_82.init2#1 -/, (by intro j; omega) /- B_X12_nextToken_82.init3#1 -/⟩ (by omega) /- B_X12_nextToken_82.fuel#1 -/
          obtain ⟨i_B_X12_nextToken_82_1, i_B_X12_nextToken_82_2, i_B_X12_nextToken_82_3⟩ := hI
          unfold B_X12_nextToken_82
          refine wp_bd1 (s_X12_look _ _ _ (by omega) /- pre X12_look.1#5 -/ (by omega) /- pre X12_look.2#5 -/ (by omega) /- pre X12_look.3#5 -/ (by omega) /- pre X12_look.4#5 -/) (fun z44 q_X12_look_5 => ?_)
          try dsimp only at q_X12_look_5
          have hl5 := look_d h5 h2 (by omega) q_X12_look_5
          clear q_X12_look_5
          refine wp_ck (z_r32_i.mpr ⟨(by omega) /- z_r32.lo z44#1 -/, (by omega) /- z_r32.hi z44#1 -/⟩) ?_
          refine wp_bd1 (s_X12_in _ _ _ (by omega) /- pre X12_in.1#4 -/ (by omega) /- pre X12_in.2#4 -/ (by omega) /- pre X12_in.3#4 -/ (by omega) /- pre X12_in.4#4 -/ (by omega) /- pre X12_in.5#4 -/ (by omega) /- pre X12_in.6#4 -/) (fun z46 q_X12_in_4 => ?_)
          try dsimp only at q_X12_in_4
          have hi4 := if01 q_X12_in_4
          clear q_X12_in_4
          refine wp_ck (z_r32_i.mpr ⟨(by omega) /- z_r32.lo z46#1 -/, (by omega) /- z_r32.hi z46#1 -/⟩) ?_
          refine wp_if (fun c10 => ?_) (fun c10 => ?_)
          ·
            refine wp_some ?_
            try dsimp only
            all_goals exact ⟨(by intro h; exfalso; omega) /- post1#5 -/, (by 
                                        intro _
                                        refine ⟨by omega, i_B_X12_nextToken_8_3, fun _ => by omega, ?_, by split <;> omega⟩
                                        unfold tokr
                                        rw [if_neg (by omega), if_pos (by omega)]
                                        refine ⟨rfl, ?_, by omega, i_B_X12_nextToken_82_3, fun _ => by omega, by omega⟩
                                        rcases Int.lt_or_eq_of_le i_B_X12_nextToken_82_1 with h | h
                                        · exact h
                                        · exfalso; subst h; omega) /- post2#5 -/⟩
          ·
            refine wp_bndE (fun z48 hz48 => ?_)
            exact ih_B_X12_nextToken_82 _ ⟨(by omega) /- B_X12_nextToken_82.inv1#1 -/, (by omega) /- B_X12_nextToken_82.inv2#1 -/, (by intro j a b; by_cases e : j = z42; subst e; omega; exact i_B_X12_nextToken_82_3 j a (by omega)) /- B_X12_nextToken_82.inv3#1 -/⟩ (by omega) /- B_X12_nextToken_82.dec#1 -/
      ·
        refine wp_bnd ?_
        refine wp_some ?_
        try dsimp only
        all_goals exact ⟨(by intro h; exfalso; omega) /- post1#6 -/, (by 
                                        intro _
                                        refine ⟨by omega, i_B_X12_nextToken_8_3, fun _ => by omega, ?_, by split <;> omega⟩
                                        unfold tokr
                                        rw [if_pos (by omega)]
                                        exact ⟨rfl, rfl, by omega⟩) /- post2#6 -/⟩
  ·
    refine wp_some ?_
    try dsimp only
    all_goals exact ⟨(by intro _; exact ⟨rfl, rfl, rfl, rfl, rfl, rfl⟩) /- post1#7 -/, (by intro h; exfalso; omega) /- post2#7 -/⟩

set_option maxHeartbeats 4000000 in
theorem s_X12_looked (i_p0_from : Int) (i_p0_sort : Int) (i_p0_value : Int) (i_p0_fault : Int) (i_p0_wrongAt : Int) (x1 : Int) (x2 : Int) (i_p0_taped i_p0_pos : Int) (h1 : tokI i_p0_taped i_p0_pos i_p0_from i_p0_sort i_p0_value i_p0_fault i_p0_wrongAt) (h2 : 0 ≤ x1) (h3 : x1 ≤ 9) (h4 : 0 ≤ x2) (h5 : x2 ≤ 9) : wp (f_X12_looked i_p0_from i_p0_sort i_p0_value i_p0_fault i_p0_wrongAt x1 x2) (fun o => (o.1 = if (i_p0_fault = 0 ∧ i_p0_sort = 2 ∧ x1 ≤ i_p0_value ∧ i_p0_value ≤ x2) then i_p0_value else 0) ∧ (o.2.1 = if ¬ i_p0_fault = 0 then i_p0_fault else if ¬ i_p0_sort = 2 then 2 else if x1 ≤ i_p0_value ∧ i_p0_value ≤ x2 then 0 else 3) ∧ (o.2.2 = if i_p0_fault = 0 ∧ ¬ (i_p0_fault = 0 ∧ i_p0_sort = 2 ∧ x1 ≤ i_p0_value ∧ i_p0_value ≤ x2) then i_p0_from else i_p0_wrongAt)) := by
  unfold f_X12_looked
  obtain ⟨i1, i2, i3, i4, i5, i6, i7⟩ := h1
  refine wp_ck (z_r32_i.mpr ⟨(by first | omega | grind) /- z_r32.lo i_p0_fault#1 -/, (by first | omega | grind) /- z_r32.hi i_p0_fault#1 -/⟩) ?_
  refine wp_jn ?_
  refine wp_if (fun c1 => ?_) (fun c1 => ?_)
  ·
    refine wp_ck (z_r32_i.mpr ⟨(by first | omega | grind) /- z_r32.lo i_p0_sort#1 -/, (by first | omega | grind) /- z_r32.hi i_p0_sort#1 -/⟩) ?_
    refine wp_if (fun c2 => ?_) (fun c2 => ?_)
    ·
      refine wp_bd2 (s_X12_needs _ _ _ _ _ (by first | omega | grind) /- pre X12_needs.1#1 -/ (by first | omega | grind) /- pre X12_needs.2#1 -/ (by first | omega | grind) /- pre X12_needs.3#1 -/) (fun z19 z20 q_X12_needs_1 => ?_)
      try dsimp only at q_X12_needs_1
      obtain ⟨q_X12_needs_1_1, q_X12_needs_1_2⟩ := q_X12_needs_1
      refine wp_ck (z_r32_i.mpr ⟨(by first | omega | grind) /- z_r32.lo z2#1 -/, (by first | omega | grind) /- z_r32.hi z2#1 -/⟩) ?_
      refine wp_jn ?_
      refine wp_if (fun c3 => ?_) (fun c3 => ?_)
      ·
        refine wp_ck (z_r32_i.mpr ⟨(by first | omega | grind) /- z_r32.lo i_p0_value#1 -/, (by first | omega | grind) /- z_r32.hi i_p0_value#1 -/⟩) ?_
        refine wp_ck (z_r32_i.mpr ⟨(by first | omega | grind) /- z_r32.lo x1#1 -/, (by first | omega | grind) /- z_r32.hi x1#1 -/⟩) ?_
        refine wp_ck (z_r32_i.mpr ⟨(by first | omega | grind) /- z_r32.lo x2#1 -/, (by first | omega | grind) /- z_r32.hi x2#1 -/⟩) ?_
        refine wp_bd1 (s_X12_in _ _ _ (by first | omega | grind) /- pre X12_in.1#1 -/ (by first | omega | grind) /- pre X12_in.2#1 -/ (by first | omega | grind) /- pre X12_in.3#1 -/ (by first | omega | grind) /- pre X12_in.4#1 -/ (by first | omega | grind) /- pre X12_in.5#1 -/ (by first | omega | grind) /- pre X12_in.6#1 -/) (fun z13 q_X12_in_1 => ?_)
        try dsimp only at q_X12_in_1
        have hi1 := if01 q_X12_in_1
        clear q_X12_in_1
        refine wp_bd2 (s_X12_needs _ _ _ _ _ (by first | omega | grind) /- pre X12_needs.1#2 -/ (by first | omega | grind) /- pre X12_needs.2#2 -/ (by first | omega | grind) /- pre X12_needs.3#2 -/) (fun z14 z15 q_X12_needs_2 => ?_)
        try dsimp only at q_X12_needs_2
        obtain ⟨q_X12_needs_2_1, q_X12_needs_2_2⟩ := q_X12_needs_2
        refine wp_ck (z_r32_i.mpr ⟨(by first | omega | grind) /- z_r32.lo z6#1 -/, (by first | omega | grind) /- z_r32.hi z6#1 -/⟩) ?_
        refine wp_if (fun c4 => ?_) (fun c4 => ?_)
        ·
          refine wp_some ?_
          try dsimp only
          all_goals exact ⟨(by first | omega | grind) /- post1#1 -/, (by first | omega | grind) /- post2#1 -/, (by first | omega | grind) /- post3#1 -/⟩
        ·
          refine wp_some ?_
          try dsimp only
          all_goals exact ⟨(by first | omega | grind) /- post1#2 -/, (by first | omega | grind) /- post2#2 -/, (by first | omega | grind) /- post3#2 -/⟩
      ·
        refine wp_ck (z_r32_i.mpr ⟨(by first | omega | grind) /- z_r32.lo z6#2 -/, (by first | omega | grind) /- z_r32.hi z6#2 -/⟩) ?_
        refine wp_if (fun c5 => ?_) (fun c5 => ?_)
        ·
          refine wp_some ?_
          try dsimp only
          all_goals exact ⟨(by first | omega | grind) /- post1#3 -/, (by first | omega | grind) /- post2#3 -/, (by first | omega | grind) /- post3#3 -/⟩
        ·
          refine wp_some ?_
          try dsimp only
          all_goals exact ⟨(by first | omega | grind) /- post1#4 -/, (by first | omega | grind) /- post2#4 -/, (by first | omega | grind) /- post3#4 -/⟩
    ·
      refine wp_bd2 (s_X12_needs _ _ _ _ _ (by first | omega | grind) /- pre X12_needs.1#3 -/ (by first | omega | grind) /- pre X12_needs.2#3 -/ (by first | omega | grind) /- pre X12_needs.3#3 -/) (fun z17 z18 q_X12_needs_3 => ?_)
      try dsimp only at q_X12_needs_3
      obtain ⟨q_X12_needs_3_1, q_X12_needs_3_2⟩ := q_X12_needs_3
      refine wp_ck (z_r32_i.mpr ⟨(by first | omega | grind) /- z_r32.lo z2#2 -/, (by first | omega | grind) /- z_r32.hi z2#2 -/⟩) ?_
      refine wp_jn ?_
      refine wp_if (fun c6 => ?_) (fun c6 => ?_)
      ·
        refine wp_ck (z_r32_i.mpr ⟨(by first | omega | grind) /- z_r32.lo i_p0_value#2 -/, (by first | omega | grind) /- z_r32.hi i_p0_value#2 -/⟩) ?_
        refine wp_ck (z_r32_i.mpr ⟨(by first | omega | grind) /- z_r32.lo x1#2 -/, (by first | omega | grind) /- z_r32.hi x1#2 -/⟩) ?_
        refine wp_ck (z_r32_i.mpr ⟨(by first | omega | grind) /- z_r32.lo x2#2 -/, (by first | omega | grind) /- z_r32.hi x2#2 -/⟩) ?_
        refine wp_bd1 (s_X12_in _ _ _ (by first | omega | grind) /- pre X12_in.1#2 -/ (by first | omega | grind) /- pre X12_in.2#2 -/ (by first | omega | grind) /- pre X12_in.3#2 -/ (by first | omega | grind) /- pre X12_in.4#2 -/ (by first | omega | grind) /- pre X12_in.5#2 -/ (by first | omega | grind) /- pre X12_in.6#2 -/) (fun z13 q_X12_in_2 => ?_)
        try dsimp only at q_X12_in_2
        have hi2 := if01 q_X12_in_2
        clear q_X12_in_2
        refine wp_bd2 (s_X12_needs _ _ _ _ _ (by first | omega | grind) /- pre X12_needs.1#4 -/ (by first | omega | grind) /- pre X12_needs.2#4 -/ (by first | omega | grind) /- pre X12_needs.3#4 -/) (fun z14 z15 q_X12_needs_4 => ?_)
        try dsimp only at q_X12_needs_4
        obtain ⟨q_X12_needs_4_1, q_X12_needs_4_2⟩ := q_X12_needs_4
        refine wp_ck (z_r32_i.mpr ⟨(by first | omega | grind) /- z_r32.lo z6#3 -/, (by first | omega | grind) /- z_r32.hi z6#3 -/⟩) ?_
        refine wp_if (fun c7 => ?_) (fun c7 => ?_)
        ·
          refine wp_some ?_
          try dsimp only
          all_goals exact ⟨(by first | omega | grind) /- post1#5 -/, (by first | omega | grind) /- post2#5 -/, (by first | omega | grind) /- post3#5 -/⟩
        ·
          refine wp_some ?_
          try dsimp only
          all_goals exact ⟨(by first | omega | grind) /- post1#6 -/, (by first | omega | grind) /- post2#6 -/, (by first | omega | grind) /- post3#6 -/⟩
      ·
        refine wp_ck (z_r32_i.mpr ⟨(by first | omega | grind) /- z_r32.lo z6#4 -/, (by first | omega | grind) /- z_r32.hi z6#4 -/⟩) ?_
        refine wp_if (fun c8 => ?_) (fun c8 => ?_)
        ·
          refine wp_some ?_
          try dsimp only
          all_goals exact ⟨(by first | omega | grind) /- post1#7 -/, (by first | omega | grind) /- post2#7 -/, (by first | omega | grind) /- post3#7 -/⟩
        ·
          refine wp_some ?_
          try dsimp only
          all_goals exact ⟨(by first | omega | grind) /- post1#8 -/, (by first | omega | grind) /- post2#8 -/, (by first | omega | grind) /- post3#8 -/⟩
  ·
    refine wp_ck (z_r32_i.mpr ⟨(by first | omega | grind) /- z_r32.lo z2#3 -/, (by first | omega | grind) /- z_r32.hi z2#3 -/⟩) ?_
    refine wp_jn ?_
    refine wp_if (fun c9 => ?_) (fun c9 => ?_)
    ·
      refine wp_ck (z_r32_i.mpr ⟨(by first | omega | grind) /- z_r32.lo i_p0_value#3 -/, (by first | omega | grind) /- z_r32.hi i_p0_value#3 -/⟩) ?_
      refine wp_ck (z_r32_i.mpr ⟨(by first | omega | grind) /- z_r32.lo x1#3 -/, (by first | omega | grind) /- z_r32.hi x1#3 -/⟩) ?_
      refine wp_ck (z_r32_i.mpr ⟨(by first | omega | grind) /- z_r32.lo x2#3 -/, (by first | omega | grind) /- z_r32.hi x2#3 -/⟩) ?_
      refine wp_bd1 (s_X12_in _ _ _ (by first | omega | grind) /- pre X12_in.1#3 -/ (by first | omega | grind) /- pre X12_in.2#3 -/ (by first | omega | grind) /- pre X12_in.3#3 -/ (by first | omega | grind) /- pre X12_in.4#3 -/ (by first | omega | grind) /- pre X12_in.5#3 -/ (by first | omega | grind) /- pre X12_in.6#3 -/) (fun z13 q_X12_in_3 => ?_)
      try dsimp only at q_X12_in_3
      have hi3 := if01 q_X12_in_3
      clear q_X12_in_3
      refine wp_bd2 (s_X12_needs _ _ _ _ _ (by first | omega | grind) /- pre X12_needs.1#5 -/ (by first | omega | grind) /- pre X12_needs.2#5 -/ (by first | omega | grind) /- pre X12_needs.3#5 -/) (fun z14 z15 q_X12_needs_5 => ?_)
      try dsimp only at q_X12_needs_5
      obtain ⟨q_X12_needs_5_1, q_X12_needs_5_2⟩ := q_X12_needs_5
      refine wp_ck (z_r32_i.mpr ⟨(by first | omega | grind) /- z_r32.lo z6#5 -/, (by first | omega | grind) /- z_r32.hi z6#5 -/⟩) ?_
      refine wp_if (fun c10 => ?_) (fun c10 => ?_)
      ·
        refine wp_some ?_
        try dsimp only
        all_goals exact ⟨(by first | omega | grind) /- post1#9 -/, (by first | omega | grind) /- post2#9 -/, (by first | omega | grind) /- post3#9 -/⟩
      ·
        refine wp_some ?_
        try dsimp only
        all_goals exact ⟨(by first | omega | grind) /- post1#10 -/, (by first | omega | grind) /- post2#10 -/, (by first | omega | grind) /- post3#10 -/⟩
    ·
      refine wp_ck (z_r32_i.mpr ⟨(by first | omega | grind) /- z_r32.lo z6#6 -/, (by first | omega | grind) /- z_r32.hi z6#6 -/⟩) ?_
      refine wp_if (fun c11 => ?_) (fun c11 => ?_)
      ·
        refine wp_some ?_
        try dsimp only
        all_goals exact ⟨(by first | omega | grind) /- post1#11 -/, (by first | omega | grind) /- post2#11 -/, (by first | omega | grind) /- post3#11 -/⟩
      ·
        refine wp_some ?_
        try dsimp only
        all_goals exact ⟨(by first | omega | grind) /- post1#12 -/, (by first | omega | grind) /- post2#12 -/, (by first | omega | grind) /- post3#12 -/⟩
