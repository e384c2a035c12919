noncomputable def B_J7_fill_d0a16_6 (z2 : Int32) (n_p0 : Nat) (x1 : Int64) (again6 : Int32 → (Nat → Int64) → Option ((Nat → Int64))) (z3 : Int32) (w4 : (Nat → Int64)) : Option ((Nat → Int64)) := (if z2 ≤ z3 then (some w4) else (ck (ixB z3 n_p0) (bnd (vp_updL w4 (z3).toNatClampNeg x1) (fun (w6 : (Nat → Int64)) => (bnd (z3 + (1 : Int32)) (fun (z7 : Int32) => (again6 z7 w6)))))))
noncomputable def f_J7_fill_d0a16 (n_p0 : Nat) (v_p0 : (Nat → Int64)) (x1 : Int64) : Option ((Nat → Int64)) := (bnd (0 : Int32) (fun (z1 : Int32) => (bnd (Int32.ofNat n_p0) (fun (z2 : Int32) => (lq2 (B_J7_fill_d0a16_6 z2 n_p0 x1) 1000 z1 v_p0)))))
abbrev rm_J7_fill_d0a16 : Room := { frames := 0, cells := 0, slots := 0, locals := 0 }
set_option maxHeartbeats 8000000 in
set_option maxRecDepth 100000 in
theorem c_J7_fill_d0a16 (l : Launch) (D : va_G) (G : Nat → ClassId) (sz : Nat) (a_p0 : Nat) (n_p0 : Nat) (v_p0 : (Nat → Int64)) (x1 : Int64) (o_v_p0 : (Nat → Int64)) (hf : f_J7_fill_d0a16 n_p0 v_p0 x1 = some o_v_p0) : Met l yJ7_fill_d0a16 wsJ7_fill_d0a16 rm_J7_fill_d0a16 (pcG D G [.ref a_p0, .long x1] sz [(a_p0, .inl (G 2, n_p0, .inr (.inl v_p0)))]) (qcV D G [(a_p0, .inl (G 2, n_p0, .inr (.inl o_v_p0)))] (va_A [(a_p0, .inl (G 2, n_p0, .inr (.inl v_p0)))] sz)) 0 0 (va_A [(a_p0, .inl (G 2, n_p0, .inr (.inl v_p0)))] sz) := by
  refine Met.ofW (cc := cJ7_fill_d0a16) (maxL := 5) (ret := none) (by decide) rfl ?_
  intro p e s m args below meth c s₁ B hml hv
  obtain ⟨rfl, hsz, hP, hK, hD0⟩ := hv
  have hx := B.exec
  have hb := B.bytes
  have hr := B.returns
  have hts := atoms_spec (ws := wsJ7_fill_d0a16) B.pre
  have hown : s.vm.findClass RJ7 = some m.cls := findClass_of_methodNamed B.named
  have hlocks := B.notSynchronized
  subst hsz
  have hD := hD0.self (sz := s.heap.size)
  generalize hAe : va_A [(a_p0, .inl (G 2, n_p0, .inr (.inl v_p0)))] s.heap.size = A at hD ⊢
  have hA : ∀ q : Nat, s.heap.size ≤ q → A q := fun q h => by rw [← hAe]; exact Or.inr h
  clear hAe hD0
  have hS : va_S A s.heap s.heap [] := va_S.rf
  have hl := lv_entry ([.ref a_p0, .long x1]) (n := 5) (Nat.le_of_ble_eq_true rfl)
  rw [lg_entry_eq]
  generalize (lg_sl ([.ref a_p0, .long x1]) ++ List.replicate (5 - (lg_sl ([.ref a_p0, .long x1])).length) Slot.unset).toArray = ls at hl ⊢
  have hl : lv_has ls 5 [(0, .ref a_p0), (1, .long x1)] := hl
  refine W_nameQ (fun Q hQ => ?_)
  obtain ⟨H, hH⟩ : ∃ H, H = s.heap := ⟨_, rfl⟩
  replace hS : va_S A s.heap H [] := by rw [hH]; exact hS
  replace hP : va_P D vwCl [(a_p0, .inl (G 2, n_p0, .inr (.inl v_p0)))] H := by rw [hH]; exact hP
  rw [← hH]
  clear hH
  unfold f_J7_fill_d0a16 at hf
  refine lv_iconst (v := (0 : Int32)) hx hb dJ7_fill_d0a16_0 (by decide) ?_
  refine lv_topi (fun z1 ez => ?_)
  replace hf := bnd_s hf ez
  clear ez
  refine lv_istore_n (lv' := [(3, .int z1), (0, .ref a_p0), (1, .long x1)]) hx hb dJ7_fill_d0a16_1 rfl hl (by decide) rfl (fun ls hl => ?_)
  refine lv_aload_n hx hb dJ7_fill_d0a16_2 rfl (lv_at hl 1 rfl) ?_
  refine va_alen (v := (Int32.ofNat n_p0)) hx hb hK hP 0 2 rfl rfl rfl dJ7_fill_d0a16_3 ?_
  refine lv_topi (fun z2 ez => ?_)
  replace hf := bnd_s hf ez
  clear ez
  refine lv_istore (lv' := [(4, .int z2), (3, .int z1), (0, .ref a_p0), (1, .long x1)]) hx hb dJ7_fill_d0a16_4 hl (by decide) rfl (fun ls hl => ?_)
  have hq := lq2_i hf
  clear hf
  obtain ⟨B5, eB5, NB5, hf⟩ := hq
  have hB5 : ∀ (n : Nat) (z3 : Int32) (w4 : (Nat → Int64)) (ls : Array Slot) (H : Heap) (locs : List Loc), lv_has ls 5 [(4, .int z2), (3, .int z3), (0, .ref a_p0), (1, .long x1)] → va_P D vwCl [(a_p0, .inl (G 2, n_p0, .inr (.inl w4)))] H → va_D A [(a_p0, .inl (G 2, n_p0, .inr (.inl w4)))] → va_S A s.heap H locs → lq2 B5 n z3 w4 = some o_v_p0 → W p l e rm_J7_fill_d0a16 s m ([.ref a_p0, .long x1] : List Value).toArray below meth c H locs 0 0 Q (F0 m 6 ls []) := by
    clear hf hl hP hD hS
    intro n
    induction n with
    | zero =>
      intro z3 w4 ls H locs hl hP hD hS hf
      exact (lq2_0 hf).elim
    | succ n ih6 =>
      intro z3 w4 ls H locs hl hP hD hS hf
      replace hf := lq2_s eB5 hf
      unfold B_J7_fill_d0a16_6 at hf
      refine lv_iload_n hx hb dJ7_fill_d0a16_6 rfl (lv_at hl 1 rfl) ?_
      refine lv_iload hx hb dJ7_fill_d0a16_7 (lv_at hl 0 rfl) ?_
      refine lv_icmp_ge (tgt := 22) hx hb dJ7_fill_d0a16_9 (by decide) (fun cc => ?_) (fun cc => ?_)
      ·
        replace hf := ite_t cc hf
        clear cc
        obtain rfl := ou1 hf
        rw [hQ]
        exact W.vret hx hb hr (fun t ht hW => ⟨⟨(), rfl, trivial, by rw [ht]; exact hP, va_K.moved hW.alike hK, hD⟩, hS.F ht⟩) hS.2.2 dJ7_fill_d0a16_22
      ·
        replace hf := ite_f cc hf
        clear cc
        refine lv_aload_n hx hb dJ7_fill_d0a16_12 rfl (lv_at hl 2 rfl) ?_
        refine lv_iload_n hx hb dJ7_fill_d0a16_13 rfl (lv_at hl 1 rfl) ?_
        refine lv_lload_n hx hb dJ7_fill_d0a16_14 rfl (lv_at hl 3 rfl) ?_
        have hc := ck_c hf
        replace hf := ck_r hf
        refine gs_last (wf := fun w6 => [(a_p0, .inl (G 2, n_p0, .inr (.inl w6)))]) hx hb hK hP hD hS 0 2 rfl rfl (ixB_in hc) dJ7_fill_d0a16_15 (fun _ => rfl) (fun w6 ez H locs hP hD hS => ?_)
        replace hf := bnd_s hf ez
        clear ez hc
        obtain ⟨z7, ez⟩ : ∃ y : Int32, y = (z3 + (1 : Int32)) := ⟨_, rfl⟩
        replace hf := bnd_s hf ez
        refine lv_iinc (v := z7) (lv' := [(3, .int z7), (4, .int z2), (0, .ref a_p0), (1, .long x1)]) hx hb dJ7_fill_d0a16_16 hl (k := 1) rfl (by rw [ez]; rfl) (by decide) rfl (fun ls hl => ?_)
        clear ez
        refine lv_goto (tgt := 6) hx hb dJ7_fill_d0a16_19 (by decide) ?_
        exact ih6 _ _ _ _ _ (lv_sub hl [1, 0, 2, 3] rfl) hP hD hS hf
  exact hB5 _ _ _ _ _ _ (lv_sub hl [0, 1, 2, 3] rfl) hP hD hS hf

noncomputable def B_X3_triesWithFinds_107 (x2 : Int32) (w4 : (Nat → Int64)) (again107 : Int32 → Int64 → Option (Int64 × (Nat → Int64))) (z8 : Int32) (z9 : Int64) : Option (Int64 × (Nat → Int64)) := (if x2 < z8 then (some (z9, w4)) else (ck (ixB z8 13) (bnd (z9 + (w4 (z8).toNatClampNeg)) (fun (z11 : Int64) => (bnd (z8 + (1 : Int32)) (fun (z12 : Int32) => (again107 z12 z11)))))))
noncomputable def B_X3_triesWithFinds_25 (J18 : (Nat → Int64) → Option (Int64 × (Nat → Int64))) (i_p0_kitchen_rules_seats : Int32) (again25 : Int32 → (Nat → Int64) → Option (Int64 × (Nat → Int64))) (z21 : Int32) (w22 : (Nat → Int64)) : Option (Int64 × (Nat → Int64)) := (if z21 ≤ 0 then (J18 w22) else (ck (ixB z21 13) (ck (ixB (z21 - (1 : Int32)) 13) (ck (ixB z21 13) (bnd (vp_updL w22 (z21).toNatClampNeg (((w22 (z21).toNatClampNeg) * ((i_p0_kitchen_rules_seats - (1 : Int32))).toInt64) + (w22 ((z21 - (1 : Int32))).toNatClampNeg))) (fun (w24 : (Nat → Int64)) => (bnd (z21 + (-1 : Int32)) (fun (z25 : Int32) => (again25 z25 w24)))))))))
noncomputable def B_X3_triesWithFinds_17 (x2 : Int32) (J5 : (Nat → Int64) → Option (Int64 × (Nat → Int64))) (i_p0_kitchen_rules_seats : Int32) (again17 : Int32 → (Nat → Int64) → Option (Int64 × (Nat → Int64))) (z13 : Int32) (w14 : (Nat → Int64)) : Option (Int64 × (Nat → Int64)) := (if x2 < z13 then (J5 w14) else (bnd z13 (fun (z16 : Int32) => (jn (fun (w17 : (Nat → Int64)) => (ck (ixB (0 : Int32) 13) (ck (ixB (0 : Int32) 13) (bnd (vp_updL w17 ((0 : Int32)).toNatClampNeg ((w17 ((0 : Int32)).toNatClampNeg) * ((i_p0_kitchen_rules_seats - (1 : Int32))).toInt64)) (fun (w19 : (Nat → Int64)) => (bnd (z13 + (1 : Int32)) (fun (z20 : Int32) => (again17 z20 w19)))))))) (fun (J18 : (Nat → Int64) → Option (Int64 × (Nat → Int64))) => (lq2 (B_X3_triesWithFinds_25 J18 i_p0_kitchen_rules_seats) 1000 z16 w14))))))
noncomputable def f_X3_triesWithFinds (i_p0_kitchen_rules_seats : Int32) (v_p0_finds : (Nat → Int64)) (x1 : Int32) (x2 : Int32) : Option (Int64 × (Nat → Int64)) := (bd1 (f_J7_fill_d0a16 13 v_p0_finds (0 : Int64)) (fun (w1 : (Nat → Int64)) => (ck (ixB (0 : Int32) 13) (bnd (vp_updL w1 ((0 : Int32)).toNatClampNeg (1 : Int64)) (fun (w2 : (Nat → Int64)) => (bnd (1 : Int32) (fun (z3 : Int32) => (jn (fun (w4 : (Nat → Int64)) => (bnd (0 : Int64) (fun (z6 : Int64) => (bnd x1 (fun (z7 : Int32) => (lq2 (B_X3_triesWithFinds_107 x2 w4) 1000 z7 z6)))))) (fun (J5 : (Nat → Int64) → Option (Int64 × (Nat → Int64))) => (lq2 (B_X3_triesWithFinds_17 x2 J5 i_p0_kitchen_rules_seats) 1000 z3 w2))))))))))
abbrev rm_X3_triesWithFinds : Room := { frames := 1, cells := 0, slots := 0, locals := 24 }
theorem inX3_triesWithFinds_X3 : ∀ w ∈ wsX30, w ∈ wsX3_triesWithFinds := by decide +kernel
theorem mwX3_triesWithFinds_1 : Cond.fieldLink RX3 18 "LadleKings$Luck" "finds" "[J" ∈ wsX3_triesWithFinds := by decide +kernel
theorem mwX3_triesWithFinds_2 : Cond.fieldLink RX3 21 "LadleKings$Luck" "kitchen" "LLadleKings$Kitchen;" ∈ wsX3_triesWithFinds := by decide +kernel
theorem inX3_triesWithFinds_X2 : ∀ w ∈ wsX20, w ∈ wsX3_triesWithFinds := by decide +kernel
theorem mwX3_triesWithFinds_4 : Cond.fieldLink RX3 60 "LadleKings$Kitchen" "rules" "LLadleKings$Rules;" ∈ wsX3_triesWithFinds := by decide +kernel
theorem inX3_triesWithFinds_X6 : ∀ w ∈ wsX60, w ∈ wsX3_triesWithFinds := by decide +kernel
theorem mwX3_triesWithFinds_6 : Cond.fieldLink RX3 64 "LadleKings$Rules" "seats" "I" ∈ wsX3_triesWithFinds := by decide +kernel
set_option maxHeartbeats 8000000 in
set_option maxRecDepth 100000 in
theorem c_X3_triesWithFinds (l : Launch) (D : va_G) (G : Nat → ClassId) (sz : Nat) (a_p0 : Nat) (a_p0_kitchen : Nat) (a_p0_rows : Nat) (a_p0_later : Nat) (a_p0_finds : Nat) (a_p0_kitchen_rules : Nat) (a_p0_kitchen_state : Nat) (a_p0_kitchen_places : Nat) (a_p0_kitchen_holders : Nat) (a_p0_kitchen_stirred : Nat) (a_p0_kitchen_rules_need : Nat) (a_p0_kitchen_rules_kind : Nat) (a_p0_kitchen_rules_first : Nat) (a_p0_kitchen_rules_second : Nat) (a_p0_kitchen_rules_after : Nat) (i_p0_kitchen_rules_seats : Int32) (i_p0_kitchen_rules_stirs : Int32) (v_p0_finds : (Nat → Int64)) (x1 : Int32) (x2 : Int32) (r : Int64) (o_v_p0_finds : (Nat → Int64)) (hf : f_X3_triesWithFinds i_p0_kitchen_rules_seats v_p0_finds x1 x2 = some (r, o_v_p0_finds)) : Met l yX3_triesWithFinds wsX3_triesWithFinds rm_X3_triesWithFinds (pcG D G [.ref a_p0, .int x1, .int x2] sz [(a_p0, .inr (3, [.ref a_p0_kitchen, .ref a_p0_rows, .ref a_p0_later, .ref a_p0_finds])), (a_p0_kitchen, .inr (2, [.ref a_p0_kitchen_rules, .ref a_p0_kitchen_state, .ref a_p0_kitchen_places, .ref a_p0_kitchen_holders, .ref a_p0_kitchen_stirred])), (a_p0_kitchen_rules, .inr (6, [.int i_p0_kitchen_rules_seats, .int i_p0_kitchen_rules_stirs, .ref a_p0_kitchen_rules_need, .ref a_p0_kitchen_rules_kind, .ref a_p0_kitchen_rules_first, .ref a_p0_kitchen_rules_second, .ref a_p0_kitchen_rules_after])), (a_p0_finds, .inl (G 2, 13, .inr (.inl v_p0_finds)))]) (qcL D G r [(a_p0, .inr (3, [.ref a_p0_kitchen, .ref a_p0_rows, .ref a_p0_later, .ref a_p0_finds])), (a_p0_kitchen, .inr (2, [.ref a_p0_kitchen_rules, .ref a_p0_kitchen_state, .ref a_p0_kitchen_places, .ref a_p0_kitchen_holders, .ref a_p0_kitchen_stirred])), (a_p0_kitchen_rules, .inr (6, [.int i_p0_kitchen_rules_seats, .int i_p0_kitchen_rules_stirs, .ref a_p0_kitchen_rules_need, .ref a_p0_kitchen_rules_kind, .ref a_p0_kitchen_rules_first, .ref a_p0_kitchen_rules_second, .ref a_p0_kitchen_rules_after])), (a_p0_finds, .inl (G 2, 13, .inr (.inl o_v_p0_finds)))] (va_A [(a_p0, .inr (3, [.ref a_p0_kitchen, .ref a_p0_rows, .ref a_p0_later, .ref a_p0_finds])), (a_p0_kitchen, .inr (2, [.ref a_p0_kitchen_rules, .ref a_p0_kitchen_state, .ref a_p0_kitchen_places, .ref a_p0_kitchen_holders, .ref a_p0_kitchen_stirred])), (a_p0_kitchen_rules, .inr (6, [.int i_p0_kitchen_rules_seats, .int i_p0_kitchen_rules_stirs, .ref a_p0_kitchen_rules_need, .ref a_p0_kitchen_rules_kind, .ref a_p0_kitchen_rules_first, .ref a_p0_kitchen_rules_second, .ref a_p0_kitchen_rules_after])), (a_p0_finds, .inl (G 2, 13, .inr (.inl v_p0_finds)))] sz)) 0 0 (va_A [(a_p0, .inr (3, [.ref a_p0_kitchen, .ref a_p0_rows, .ref a_p0_later, .ref a_p0_finds])), (a_p0_kitchen, .inr (2, [.ref a_p0_kitchen_rules, .ref a_p0_kitchen_state, .ref a_p0_kitchen_places, .ref a_p0_kitchen_holders, .ref a_p0_kitchen_stirred])), (a_p0_kitchen_rules, .inr (6, [.int i_p0_kitchen_rules_seats, .int i_p0_kitchen_rules_stirs, .ref a_p0_kitchen_rules_need, .ref a_p0_kitchen_rules_kind, .ref a_p0_kitchen_rules_first, .ref a_p0_kitchen_rules_second, .ref a_p0_kitchen_rules_after])), (a_p0_finds, .inl (G 2, 13, .inr (.inl v_p0_finds)))] sz) := by
  refine Met.ofW (cc := cX3_triesWithFinds) (maxL := 6) (ret := (some .long)) (by decide) rfl ?_
  intro p e s m args below meth c s₁ B hml hv
  obtain ⟨rfl, hsz, hP, hK, hD0⟩ := hv
  have hx := B.exec
  have hb := B.bytes
  have hr := B.returns
  have hts := atoms_spec (ws := wsX3_triesWithFinds) B.pre
  have hown : s.vm.findClass RX3 = some m.cls := findClass_of_methodNamed B.named
  have hlocks := B.notSynchronized
  subst hsz
  have hD := hD0.self (sz := s.heap.size)
  generalize hAe : va_A [(a_p0, .inr (3, [.ref a_p0_kitchen, .ref a_p0_rows, .ref a_p0_later, .ref a_p0_finds])), (a_p0_kitchen, .inr (2, [.ref a_p0_kitchen_rules, .ref a_p0_kitchen_state, .ref a_p0_kitchen_places, .ref a_p0_kitchen_holders, .ref a_p0_kitchen_stirred])), (a_p0_kitchen_rules, .inr (6, [.int i_p0_kitchen_rules_seats, .int i_p0_kitchen_rules_stirs, .ref a_p0_kitchen_rules_need, .ref a_p0_kitchen_rules_kind, .ref a_p0_kitchen_rules_first, .ref a_p0_kitchen_rules_second, .ref a_p0_kitchen_rules_after])), (a_p0_finds, .inl (G 2, 13, .inr (.inl v_p0_finds)))] s.heap.size = A at hD ⊢
  have hA : ∀ q : Nat, s.heap.size ≤ q → A q := fun q h => by rw [← hAe]; exact Or.inr h
  clear hAe hD0
  have hS : va_S A s.heap s.heap [] := va_S.rf
  have hl := lv_entry ([.ref a_p0, .int x1, .int x2]) (n := 6) (Nat.le_of_ble_eq_true rfl)
  rw [lg_entry_eq]
  generalize (lg_sl ([.ref a_p0, .int x1, .int x2]) ++ List.replicate (6 - (lg_sl ([.ref a_p0, .int x1, .int x2])).length) Slot.unset).toArray = ls at hl ⊢
  have hl : lv_has ls 6 [(0, .ref a_p0), (1, .int x1), (2, .int x2)] := hl
  refine W_nameQ (fun Q hQ => ?_)
  obtain ⟨H, hH⟩ : ∃ H, H = s.heap := ⟨_, rfl⟩
  replace hS : va_S A s.heap H [] := by rw [hH]; exact hS
  replace hP : va_P D vwCl [(a_p0, .inr (3, [.ref a_p0_kitchen, .ref a_p0_rows, .ref a_p0_later, .ref a_p0_finds])), (a_p0_kitchen, .inr (2, [.ref a_p0_kitchen_rules, .ref a_p0_kitchen_state, .ref a_p0_kitchen_places, .ref a_p0_kitchen_holders, .ref a_p0_kitchen_stirred])), (a_p0_kitchen_rules, .inr (6, [.int i_p0_kitchen_rules_seats, .int i_p0_kitchen_rules_stirs, .ref a_p0_kitchen_rules_need, .ref a_p0_kitchen_rules_kind, .ref a_p0_kitchen_rules_first, .ref a_p0_kitchen_rules_second, .ref a_p0_kitchen_rules_after])), (a_p0_finds, .inl (G 2, 13, .inr (.inl v_p0_finds)))] H := by rw [hH]; exact hP
  rw [← hH]
  clear hH
  unfold f_X3_triesWithFinds at hf
  refine lv_aload_n hx hb dX3_triesWithFinds_0 rfl (lv_at hl 0 rfl) ?_
  refine va_get (D := D) (ci := 3) (v := .ref a_p0_finds) (C := RX3) (T := TX3) (N := 4) hx hb hts inX3_triesWithFinds_X3 hown hK hP 0 rfl rfl 3 (by decide) (hts _ mwX3_triesWithFinds_1) (fun _ h9 => h9) rfl dX3_triesWithFinds_1 ?_
  refine lv_lconst (v := (0 : Int64)) hx hb dX3_triesWithFinds_4 (by decide) ?_
  have hq := bd1_s hf
  clear hf
  obtain ⟨w1, hcall, hf⟩ := hq
  refine gcV (ws' := [(a_p0, .inr (3, [.ref a_p0_kitchen, .ref a_p0_rows, .ref a_p0_later, .ref a_p0_finds])), (a_p0_kitchen, .inr (2, [.ref a_p0_kitchen_rules, .ref a_p0_kitchen_state, .ref a_p0_kitchen_places, .ref a_p0_kitchen_holders, .ref a_p0_kitchen_stirred])), (a_p0_kitchen_rules, .inr (6, [.int i_p0_kitchen_rules_seats, .int i_p0_kitchen_rules_stirs, .ref a_p0_kitchen_rules_need, .ref a_p0_kitchen_rules_kind, .ref a_p0_kitchen_rules_first, .ref a_p0_kitchen_rules_second, .ref a_p0_kitchen_rules_after])), (a_p0_finds, .inl (G 2, 13, .inr (.inl w1)))]) (va_runS (As := [.ref a_p0_finds, .long (0 : Int64)]) (rest := []) ⟨hx, hb, hml, hown, hts⟩ (c_J7_fill_d0a16 (l := l) (D := D) (G := G) (sz := H.size) (a_p0 := a_p0_finds) (n_p0 := 13) (v_p0 := v_p0_finds) (x1 := (0 : Int64)) (o_v_p0 := w1) (hf := hcall)) (va_cwS 2 hts gX3_triesWithFinds_J7_fill_d0a16 rfl rfl rfl (by decide +kernel) ⟨Nat.le_of_ble_eq_true rfl, Nat.le_of_ble_eq_true rfl⟩) (preG_S (hP.sub [3] rfl) (hD.sub [3] rfl rfl) hK) rfl rfl hl.1 rfl (lv_room (Nat.le_of_ble_eq_true rfl)) dX3_triesWithFinds_5 ⟨Nat.le_of_ble_eq_true rfl, Nat.le_of_ble_eq_true rfl⟩) hP hD hS hA [3] [0, 1, 2] [0, 1, 2, 3] rfl rfl rfl (by decide) rfl rfl rfl (fun H locs hP hD hS => ?_)
  clear hcall
  refine lv_aload_n hx hb dX3_triesWithFinds_8 rfl (lv_at hl 0 rfl) ?_
  refine va_get (D := D) (ci := 3) (v := .ref a_p0_finds) (C := RX3) (T := TX3) (N := 4) hx hb hts inX3_triesWithFinds_X3 hown hK hP 0 rfl rfl 3 (by decide) (hts _ mwX3_triesWithFinds_1) (fun _ h9 => h9) rfl dX3_triesWithFinds_9 ?_
  refine lv_iconst (v := (0 : Int32)) hx hb dX3_triesWithFinds_12 (by decide) ?_
  refine lv_lconst (v := (1 : Int64)) hx hb dX3_triesWithFinds_13 (by decide) ?_
  have hc := ck_c hf
  replace hf := ck_r hf
  refine gs_last (wf := fun w2 => [(a_p0, .inr (3, [.ref a_p0_kitchen, .ref a_p0_rows, .ref a_p0_later, .ref a_p0_finds])), (a_p0_kitchen, .inr (2, [.ref a_p0_kitchen_rules, .ref a_p0_kitchen_state, .ref a_p0_kitchen_places, .ref a_p0_kitchen_holders, .ref a_p0_kitchen_stirred])), (a_p0_kitchen_rules, .inr (6, [.int i_p0_kitchen_rules_seats, .int i_p0_kitchen_rules_stirs, .ref a_p0_kitchen_rules_need, .ref a_p0_kitchen_rules_kind, .ref a_p0_kitchen_rules_first, .ref a_p0_kitchen_rules_second, .ref a_p0_kitchen_rules_after])), (a_p0_finds, .inl (G 2, 13, .inr (.inl w2)))]) hx hb hK hP hD hS 3 2 rfl rfl (ixB_in hc) dX3_triesWithFinds_14 (fun _ => rfl) (fun w2 ez H locs hP hD hS => ?_)
  replace hf := bnd_s hf ez
  clear ez hc
  refine lv_iconst (v := (1 : Int32)) hx hb dX3_triesWithFinds_15 (by decide) ?_
  refine lv_topi (fun z3 ez => ?_)
  replace hf := bnd_s hf ez
  clear ez
  refine lv_istore_n (lv' := [(3, .int z3), (0, .ref a_p0), (1, .int x1), (2, .int x2)]) hx hb dX3_triesWithFinds_16 rfl hl (by decide) rfl (fun ls hl => ?_)
  have hq := jn_i hf
  clear hf
  obtain ⟨J5, eJ5, hf⟩ := hq
  have hJ5 : ∀ (w4 : (Nat → Int64)) (ls : Array Slot) (H : Heap) (locs : List Loc), lv_has ls 6 [(0, .ref a_p0), (1, .int x1), (2, .int x2)] → va_P D vwCl [(a_p0, .inr (3, [.ref a_p0_kitchen, .ref a_p0_rows, .ref a_p0_later, .ref a_p0_finds])), (a_p0_kitchen, .inr (2, [.ref a_p0_kitchen_rules, .ref a_p0_kitchen_state, .ref a_p0_kitchen_places, .ref a_p0_kitchen_holders, .ref a_p0_kitchen_stirred])), (a_p0_kitchen_rules, .inr (6, [.int i_p0_kitchen_rules_seats, .int i_p0_kitchen_rules_stirs, .ref a_p0_kitchen_rules_need, .ref a_p0_kitchen_rules_kind, .ref a_p0_kitchen_rules_first, .ref a_p0_kitchen_rules_second, .ref a_p0_kitchen_rules_after])), (a_p0_finds, .inl (G 2, 13, .inr (.inl w4)))] H → va_D A [(a_p0, .inr (3, [.ref a_p0_kitchen, .ref a_p0_rows, .ref a_p0_later, .ref a_p0_finds])), (a_p0_kitchen, .inr (2, [.ref a_p0_kitchen_rules, .ref a_p0_kitchen_state, .ref a_p0_kitchen_places, .ref a_p0_kitchen_holders, .ref a_p0_kitchen_stirred])), (a_p0_kitchen_rules, .inr (6, [.int i_p0_kitchen_rules_seats, .int i_p0_kitchen_rules_stirs, .ref a_p0_kitchen_rules_need, .ref a_p0_kitchen_rules_kind, .ref a_p0_kitchen_rules_first, .ref a_p0_kitchen_rules_second, .ref a_p0_kitchen_rules_after])), (a_p0_finds, .inl (G 2, 13, .inr (.inl w4)))] → va_S A s.heap H locs → J5 w4 = some (r, o_v_p0_finds) → W p l e rm_X3_triesWithFinds s m ([.ref a_p0, .int x1, .int x2] : List Value).toArray below meth c H locs 0 0 Q (F0 m 102 ls []) := by
    clear hf hl hP hD hS
    intro w4 ls H locs hl hP hD hS hf
    replace hf := jn1_s eJ5 hf
    refine lv_lconst (v := (0 : Int64)) hx hb dX3_triesWithFinds_102 (by decide) ?_
    refine lv_topl (fun z6 ez => ?_)
    replace hf := bnd_s hf ez
    clear ez
    refine lv_lstore_n (lv' := [(3, .long z6), (0, .ref a_p0), (1, .int x1), (2, .int x2)]) hx hb dX3_triesWithFinds_103 rfl hl (by decide) rfl (fun ls hl => ?_)
    refine lv_iload_n hx hb dX3_triesWithFinds_104 rfl (lv_at hl 2 rfl) ?_
    refine lv_topi (fun z7 ez => ?_)
    replace hf := bnd_s hf ez
    clear ez
    refine lv_istore (lv' := [(5, .int z7), (3, .long z6), (0, .ref a_p0), (1, .int x1), (2, .int x2)]) hx hb dX3_triesWithFinds_105 hl (by decide) rfl (fun ls hl => ?_)
    have hq := lq2_i hf
    clear hf
    obtain ⟨B10, eB10, NB10, hf⟩ := hq
    have hB10 : ∀ (n : Nat) (z8 : Int32) (z9 : Int64) (ls : Array Slot) (H : Heap) (locs : List Loc), lv_has ls 6 [(5, .int z8), (3, .long z9), (0, .ref a_p0), (2, .int x2)] → va_P D vwCl [(a_p0, .inr (3, [.ref a_p0_kitchen, .ref a_p0_rows, .ref a_p0_later, .ref a_p0_finds])), (a_p0_kitchen, .inr (2, [.ref a_p0_kitchen_rules, .ref a_p0_kitchen_state, .ref a_p0_kitchen_places, .ref a_p0_kitchen_holders, .ref a_p0_kitchen_stirred])), (a_p0_kitchen_rules, .inr (6, [.int i_p0_kitchen_rules_seats, .int i_p0_kitchen_rules_stirs, .ref a_p0_kitchen_rules_need, .ref a_p0_kitchen_rules_kind, .ref a_p0_kitchen_rules_first, .ref a_p0_kitchen_rules_second, .ref a_p0_kitchen_rules_after])), (a_p0_finds, .inl (G 2, 13, .inr (.inl w4)))] H → va_D A [(a_p0, .inr (3, [.ref a_p0_kitchen, .ref a_p0_rows, .ref a_p0_later, .ref a_p0_finds])), (a_p0_kitchen, .inr (2, [.ref a_p0_kitchen_rules, .ref a_p0_kitchen_state, .ref a_p0_kitchen_places, .ref a_p0_kitchen_holders, .ref a_p0_kitchen_stirred])), (a_p0_kitchen_rules, .inr (6, [.int i_p0_kitchen_rules_seats, .int i_p0_kitchen_rules_stirs, .ref a_p0_kitchen_rules_need, .ref a_p0_kitchen_rules_kind, .ref a_p0_kitchen_rules_first, .ref a_p0_kitchen_rules_second, .ref a_p0_kitchen_rules_after])), (a_p0_finds, .inl (G 2, 13, .inr (.inl w4)))] → va_S A s.heap H locs → lq2 B10 n z8 z9 = some (r, o_v_p0_finds) → W p l e rm_X3_triesWithFinds s m ([.ref a_p0, .int x1, .int x2] : List Value).toArray below meth c H locs 0 0 Q (F0 m 107 ls []) := by
      clear hf hl hP hD hS
      intro n
      induction n with
      | zero =>
        intro z8 z9 ls H locs hl hP hD hS hf
        exact (lq2_0 hf).elim
      | succ n ih107 =>
        intro z8 z9 ls H locs hl hP hD hS hf
        replace hf := lq2_s eB10 hf
        unfold B_X3_triesWithFinds_107 at hf
        refine lv_iload hx hb dX3_triesWithFinds_107 (lv_at hl 0 rfl) ?_
        refine lv_iload_n hx hb dX3_triesWithFinds_109 rfl (lv_at hl 3 rfl) ?_
        refine lv_icmp_gt (tgt := 129) hx hb dX3_triesWithFinds_110 (by decide) (fun cc => ?_) (fun cc => ?_)
        ·
          replace hf := ite_t cc hf
          clear cc
          refine lv_lload_n hx hb dX3_triesWithFinds_129 rfl (lv_at hl 1 rfl) ?_
          obtain ⟨rfl, rfl⟩ := ou2 hf
          rw [hQ]
          exact W.lret hx hb hr (fun t ht hW => ⟨⟨_, (), rfl, rfl, by rw [ht]; exact hP, va_K.moved hW.alike hK, hD⟩, hS.F ht⟩) hS.2.2 dX3_triesWithFinds_130
        ·
          replace hf := ite_f cc hf
          clear cc
          refine lv_lload_n hx hb dX3_triesWithFinds_113 rfl (lv_at hl 1 rfl) ?_
          refine lv_aload_n hx hb dX3_triesWithFinds_114 rfl (lv_at hl 2 rfl) ?_
          refine va_get (D := D) (ci := 3) (v := .ref a_p0_finds) (C := RX3) (T := TX3) (N := 4) hx hb hts inX3_triesWithFinds_X3 hown hK hP 0 rfl rfl 3 (by decide) (hts _ mwX3_triesWithFinds_1) (fun _ h9 => h9) rfl dX3_triesWithFinds_115 ?_
          refine lv_iload hx hb dX3_triesWithFinds_118 (lv_at hl 0 rfl) ?_
          have hc := ck_c hf
          replace hf := ck_r hf
          refine va_lald hx hb hK hP 3 2 rfl rfl (ixB_in hc) dX3_triesWithFinds_120 ?_
          clear hc
          refine lv_ladd hx hb dX3_triesWithFinds_121 ?_
          refine lv_topl (fun z11 ez => ?_)
          replace hf := bnd_s hf ez
          clear ez
          refine lv_lstore_n (lv' := [(3, .long z11), (5, .int z8), (0, .ref a_p0), (2, .int x2)]) hx hb dX3_triesWithFinds_122 rfl hl (by decide) rfl (fun ls hl => ?_)
          obtain ⟨z12, ez⟩ : ∃ y : Int32, y = (z8 + (1 : Int32)) := ⟨_, rfl⟩
          replace hf := bnd_s hf ez
          refine lv_iinc (v := z12) (lv' := [(5, .int z12), (3, .long z11), (0, .ref a_p0), (2, .int x2)]) hx hb dX3_triesWithFinds_123 hl (k := 1) rfl (by rw [ez]; rfl) (by decide) rfl (fun ls hl => ?_)
          clear ez
          refine lv_goto (tgt := 107) hx hb dX3_triesWithFinds_126 (by decide) ?_
          exact ih107 _ _ _ _ _ (lv_sub hl [0, 1, 2, 3] rfl) hP hD hS hf
    exact hB10 _ _ _ _ _ _ (lv_sub hl [0, 1, 2, 4] rfl) hP hD hS hf
  have hq := lq2_i hf
  clear hf
  obtain ⟨B15, eB15, NB15, hf⟩ := hq
  have hB15 : ∀ (n : Nat) (z13 : Int32) (w14 : (Nat → Int64)) (ls : Array Slot) (H : Heap) (locs : List Loc), lv_has ls 6 [(3, .int z13), (0, .ref a_p0), (1, .int x1), (2, .int x2)] → va_P D vwCl [(a_p0, .inr (3, [.ref a_p0_kitchen, .ref a_p0_rows, .ref a_p0_later, .ref a_p0_finds])), (a_p0_kitchen, .inr (2, [.ref a_p0_kitchen_rules, .ref a_p0_kitchen_state, .ref a_p0_kitchen_places, .ref a_p0_kitchen_holders, .ref a_p0_kitchen_stirred])), (a_p0_kitchen_rules, .inr (6, [.int i_p0_kitchen_rules_seats, .int i_p0_kitchen_rules_stirs, .ref a_p0_kitchen_rules_need, .ref a_p0_kitchen_rules_kind, .ref a_p0_kitchen_rules_first, .ref a_p0_kitchen_rules_second, .ref a_p0_kitchen_rules_after])), (a_p0_finds, .inl (G 2, 13, .inr (.inl w14)))] H → va_D A [(a_p0, .inr (3, [.ref a_p0_kitchen, .ref a_p0_rows, .ref a_p0_later, .ref a_p0_finds])), (a_p0_kitchen, .inr (2, [.ref a_p0_kitchen_rules, .ref a_p0_kitchen_state, .ref a_p0_kitchen_places, .ref a_p0_kitchen_holders, .ref a_p0_kitchen_stirred])), (a_p0_kitchen_rules, .inr (6, [.int i_p0_kitchen_rules_seats, .int i_p0_kitchen_rules_stirs, .ref a_p0_kitchen_rules_need, .ref a_p0_kitchen_rules_kind, .ref a_p0_kitchen_rules_first, .ref a_p0_kitchen_rules_second, .ref a_p0_kitchen_rules_after])), (a_p0_finds, .inl (G 2, 13, .inr (.inl w14)))] → va_S A s.heap H locs → lq2 B15 n z13 w14 = some (r, o_v_p0_finds) → W p l e rm_X3_triesWithFinds s m ([.ref a_p0, .int x1, .int x2] : List Value).toArray below meth c H locs 0 0 Q (F0 m 17 ls []) := by
    clear hf hl hP hD hS
    intro n
    induction n with
    | zero =>
      intro z13 w14 ls H locs hl hP hD hS hf
      exact (lq2_0 hf).elim
    | succ n ih17 =>
      intro z13 w14 ls H locs hl hP hD hS hf
      replace hf := lq2_s eB15 hf
      unfold B_X3_triesWithFinds_17 at hf
      refine lv_iload_n hx hb dX3_triesWithFinds_17 rfl (lv_at hl 0 rfl) ?_
      refine lv_iload_n hx hb dX3_triesWithFinds_18 rfl (lv_at hl 3 rfl) ?_
      refine lv_icmp_gt (tgt := 102) hx hb dX3_triesWithFinds_19 (by decide) (fun cc => ?_) (fun cc => ?_)
      ·
        replace hf := ite_t cc hf
        clear cc
        exact hJ5 _ _ _ _ (lv_sub hl [1, 2, 3] rfl) hP hD hS hf
      ·
        replace hf := ite_f cc hf
        clear cc
        refine lv_iload_n hx hb dX3_triesWithFinds_22 rfl (lv_at hl 0 rfl) ?_
        refine lv_topi (fun z16 ez => ?_)
        replace hf := bnd_s hf ez
        clear ez
        refine lv_istore (lv' := [(4, .int z16), (3, .int z13), (0, .ref a_p0), (1, .int x1), (2, .int x2)]) hx hb dX3_triesWithFinds_23 hl (by decide) rfl (fun ls hl => ?_)
        have hq := jn_i hf
        clear hf
        obtain ⟨J18, eJ18, hf⟩ := hq
        have hJ18 : ∀ (w17 : (Nat → Int64)) (ls : Array Slot) (H : Heap) (locs : List Loc), lv_has ls 6 [(3, .int z13), (0, .ref a_p0), (1, .int x1), (2, .int x2)] → va_P D vwCl [(a_p0, .inr (3, [.ref a_p0_kitchen, .ref a_p0_rows, .ref a_p0_later, .ref a_p0_finds])), (a_p0_kitchen, .inr (2, [.ref a_p0_kitchen_rules, .ref a_p0_kitchen_state, .ref a_p0_kitchen_places, .ref a_p0_kitchen_holders, .ref a_p0_kitchen_stirred])), (a_p0_kitchen_rules, .inr (6, [.int i_p0_kitchen_rules_seats, .int i_p0_kitchen_rules_stirs, .ref a_p0_kitchen_rules_need, .ref a_p0_kitchen_rules_kind, .ref a_p0_kitchen_rules_first, .ref a_p0_kitchen_rules_second, .ref a_p0_kitchen_rules_after])), (a_p0_finds, .inl (G 2, 13, .inr (.inl w17)))] H → va_D A [(a_p0, .inr (3, [.ref a_p0_kitchen, .ref a_p0_rows, .ref a_p0_later, .ref a_p0_finds])), (a_p0_kitchen, .inr (2, [.ref a_p0_kitchen_rules, .ref a_p0_kitchen_state, .ref a_p0_kitchen_places, .ref a_p0_kitchen_holders, .ref a_p0_kitchen_stirred])), (a_p0_kitchen_rules, .inr (6, [.int i_p0_kitchen_rules_seats, .int i_p0_kitchen_rules_stirs, .ref a_p0_kitchen_rules_need, .ref a_p0_kitchen_rules_kind, .ref a_p0_kitchen_rules_first, .ref a_p0_kitchen_rules_second, .ref a_p0_kitchen_rules_after])), (a_p0_finds, .inl (G 2, 13, .inr (.inl w17)))] → va_S A s.heap H locs → J18 w17 = some (r, o_v_p0_finds) → W p l e rm_X3_triesWithFinds s m ([.ref a_p0, .int x1, .int x2] : List Value).toArray below meth c H locs 0 0 Q (F0 m 74 ls []) := by
          clear hf hl hP hD hS
          intro w17 ls H locs hl hP hD hS hf
          replace hf := jn1_s eJ18 hf
          refine lv_aload_n hx hb dX3_triesWithFinds_74 rfl (lv_at hl 1 rfl) ?_
          refine va_get (D := D) (ci := 3) (v := .ref a_p0_finds) (C := RX3) (T := TX3) (N := 4) hx hb hts inX3_triesWithFinds_X3 hown hK hP 0 rfl rfl 3 (by decide) (hts _ mwX3_triesWithFinds_1) (fun _ h9 => h9) rfl dX3_triesWithFinds_75 ?_
          refine lv_iconst (v := (0 : Int32)) hx hb dX3_triesWithFinds_78 (by decide) ?_
          refine lv_dup2_11 hx hb dX3_triesWithFinds_79 rfl rfl ?_
          have hc := ck_c hf
          replace hf := ck_r hf
          refine va_lald hx hb hK hP 3 2 rfl rfl (ixB_in hc) dX3_triesWithFinds_80 ?_
          clear hc
          refine lv_aload_n hx hb dX3_triesWithFinds_81 rfl (lv_at hl 1 rfl) ?_
          refine va_get (D := D) (ci := 3) (v := .ref a_p0_kitchen) (C := RX3) (T := TX3) (N := 4) hx hb hts inX3_triesWithFinds_X3 hown hK hP 0 rfl rfl 0 (by decide) (hts _ mwX3_triesWithFinds_2) (fun _ h9 => h9) rfl dX3_triesWithFinds_82 ?_
          refine va_get (D := D) (ci := 2) (v := .ref a_p0_kitchen_rules) (C := RX2) (T := TX2) (N := 5) hx hb hts inX3_triesWithFinds_X2 hown hK hP 1 rfl rfl 0 (by decide) (hts _ mwX3_triesWithFinds_4) (fun _ h9 => h9) rfl dX3_triesWithFinds_85 ?_
          refine va_get (D := D) (ci := 6) (v := .int i_p0_kitchen_rules_seats) (C := RX6) (T := TX6) (N := 7) hx hb hts inX3_triesWithFinds_X6 hown hK hP 2 rfl rfl 0 (by decide) (hts _ mwX3_triesWithFinds_6) (fun _ h9 => h9) rfl dX3_triesWithFinds_88 ?_
          refine lv_iconst (v := (1 : Int32)) hx hb dX3_triesWithFinds_91 (by decide) ?_
          refine lv_isub hx hb dX3_triesWithFinds_92 ?_
          refine lv_i2l hx hb dX3_triesWithFinds_93 rfl ?_
          refine lv_lmul hx hb dX3_triesWithFinds_94 ?_
          have hc := ck_c hf
          replace hf := ck_r hf
          refine gs_last (wf := fun w19 => [(a_p0, .inr (3, [.ref a_p0_kitchen, .ref a_p0_rows, .ref a_p0_later, .ref a_p0_finds])), (a_p0_kitchen, .inr (2, [.ref a_p0_kitchen_rules, .ref a_p0_kitchen_state, .ref a_p0_kitchen_places, .ref a_p0_kitchen_holders, .ref a_p0_kitchen_stirred])), (a_p0_kitchen_rules, .inr (6, [.int i_p0_kitchen_rules_seats, .int i_p0_kitchen_rules_stirs, .ref a_p0_kitchen_rules_need, .ref a_p0_kitchen_rules_kind, .ref a_p0_kitchen_rules_first, .ref a_p0_kitchen_rules_second, .ref a_p0_kitchen_rules_after])), (a_p0_finds, .inl (G 2, 13, .inr (.inl w19)))]) hx hb hK hP hD hS 3 2 rfl rfl (ixB_in hc) dX3_triesWithFinds_95 (fun _ => rfl) (fun w19 ez H locs hP hD hS => ?_)
          replace hf := bnd_s hf ez
          clear ez hc
          obtain ⟨z20, ez⟩ : ∃ y : Int32, y = (z13 + (1 : Int32)) := ⟨_, rfl⟩
          replace hf := bnd_s hf ez
          refine lv_iinc (v := z20) (lv' := [(3, .int z20), (0, .ref a_p0), (1, .int x1), (2, .int x2)]) hx hb dX3_triesWithFinds_96 hl (k := 0) rfl (by rw [ez]; rfl) (by decide) rfl (fun ls hl => ?_)
          clear ez
          refine lv_goto (tgt := 17) hx hb dX3_triesWithFinds_99 (by decide) ?_
          exact ih17 _ _ _ _ _ (lv_sub hl [0, 1, 2, 3] rfl) hP hD hS hf
        have hq := lq2_i hf
        clear hf
        obtain ⟨B23, eB23, NB23, hf⟩ := hq
        have hB23 : ∀ (n : Nat) (z21 : Int32) (w22 : (Nat → Int64)) (ls : Array Slot) (H : Heap) (locs : List Loc), lv_has ls 6 [(4, .int z21), (3, .int z13), (0, .ref a_p0), (1, .int x1), (2, .int x2)] → va_P D vwCl [(a_p0, .inr (3, [.ref a_p0_kitchen, .ref a_p0_rows, .ref a_p0_later, .ref a_p0_finds])), (a_p0_kitchen, .inr (2, [.ref a_p0_kitchen_rules, .ref a_p0_kitchen_state, .ref a_p0_kitchen_places, .ref a_p0_kitchen_holders, .ref a_p0_kitchen_stirred])), (a_p0_kitchen_rules, .inr (6, [.int i_p0_kitchen_rules_seats, .int i_p0_kitchen_rules_stirs, .ref a_p0_kitchen_rules_need, .ref a_p0_kitchen_rules_kind, .ref a_p0_kitchen_rules_first, .ref a_p0_kitchen_rules_second, .ref a_p0_kitchen_rules_after])), (a_p0_finds, .inl (G 2, 13, .inr (.inl w22)))] H → va_D A [(a_p0, .inr (3, [.ref a_p0_kitchen, .ref a_p0_rows, .ref a_p0_later, .ref a_p0_finds])), (a_p0_kitchen, .inr (2, [.ref a_p0_kitchen_rules, .ref a_p0_kitchen_state, .ref a_p0_kitchen_places, .ref a_p0_kitchen_holders, .ref a_p0_kitchen_stirred])), (a_p0_kitchen_rules, .inr (6, [.int i_p0_kitchen_rules_seats, .int i_p0_kitchen_rules_stirs, .ref a_p0_kitchen_rules_need, .ref a_p0_kitchen_rules_kind, .ref a_p0_kitchen_rules_first, .ref a_p0_kitchen_rules_second, .ref a_p0_kitchen_rules_after])), (a_p0_finds, .inl (G 2, 13, .inr (.inl w22)))] → va_S A s.heap H locs → lq2 B23 n z21 w22 = some (r, o_v_p0_finds) → W p l e rm_X3_triesWithFinds s m ([.ref a_p0, .int x1, .int x2] : List Value).toArray below meth c H locs 0 0 Q (F0 m 25 ls []) := by
          clear hf hl hP hD hS
          intro n
          induction n with
          | zero =>
            intro z21 w22 ls H locs hl hP hD hS hf
            exact (lq2_0 hf).elim
          | succ n ih25 =>
            intro z21 w22 ls H locs hl hP hD hS hf
            replace hf := lq2_s eB23 hf
            unfold B_X3_triesWithFinds_25 at hf
            refine lv_iload hx hb dX3_triesWithFinds_25 (lv_at hl 0 rfl) ?_
            refine lv_if_le (tgt := 74) hx hb dX3_triesWithFinds_27 (by decide) (fun cc => ?_) (fun cc => ?_)
            ·
              replace hf := ite_t cc hf
              clear cc
              exact hJ18 _ _ _ _ (lv_sub hl [1, 2, 3, 4] rfl) hP hD hS hf
            ·
              replace hf := ite_f cc hf
              clear cc
              refine lv_aload_n hx hb dX3_triesWithFinds_30 rfl (lv_at hl 2 rfl) ?_
              refine va_get (D := D) (ci := 3) (v := .ref a_p0_finds) (C := RX3) (T := TX3) (N := 4) hx hb hts inX3_triesWithFinds_X3 hown hK hP 0 rfl rfl 3 (by decide) (hts _ mwX3_triesWithFinds_1) (fun _ h9 => h9) rfl dX3_triesWithFinds_31 ?_
              refine lv_iload hx hb dX3_triesWithFinds_34 (lv_at hl 0 rfl) ?_
              refine lv_aload_n hx hb dX3_triesWithFinds_36 rfl (lv_at hl 2 rfl) ?_
              refine va_get (D := D) (ci := 3) (v := .ref a_p0_finds) (C := RX3) (T := TX3) (N := 4) hx hb hts inX3_triesWithFinds_X3 hown hK hP 0 rfl rfl 3 (by decide) (hts _ mwX3_triesWithFinds_1) (fun _ h9 => h9) rfl dX3_triesWithFinds_37 ?_
              refine lv_iload hx hb dX3_triesWithFinds_40 (lv_at hl 0 rfl) ?_
              have hc := ck_c hf
              replace hf := ck_r hf
              refine va_lald hx hb hK hP 3 2 rfl rfl (ixB_in hc) dX3_triesWithFinds_42 ?_
              clear hc
              refine lv_aload_n hx hb dX3_triesWithFinds_43 rfl (lv_at hl 2 rfl) ?_
              refine va_get (D := D) (ci := 3) (v := .ref a_p0_kitchen) (C := RX3) (T := TX3) (N := 4) hx hb hts inX3_triesWithFinds_X3 hown hK hP 0 rfl rfl 0 (by decide) (hts _ mwX3_triesWithFinds_2) (fun _ h9 => h9) rfl dX3_triesWithFinds_44 ?_
              refine va_get (D := D) (ci := 2) (v := .ref a_p0_kitchen_rules) (C := RX2) (T := TX2) (N := 5) hx hb hts inX3_triesWithFinds_X2 hown hK hP 1 rfl rfl 0 (by decide) (hts _ mwX3_triesWithFinds_4) (fun _ h9 => h9) rfl dX3_triesWithFinds_47 ?_
              refine va_get (D := D) (ci := 6) (v := .int i_p0_kitchen_rules_seats) (C := RX6) (T := TX6) (N := 7) hx hb hts inX3_triesWithFinds_X6 hown hK hP 2 rfl rfl 0 (by decide) (hts _ mwX3_triesWithFinds_6) (fun _ h9 => h9) rfl dX3_triesWithFinds_50 ?_
              refine lv_iconst (v := (1 : Int32)) hx hb dX3_triesWithFinds_53 (by decide) ?_
              refine lv_isub hx hb dX3_triesWithFinds_54 ?_
              refine lv_i2l hx hb dX3_triesWithFinds_55 rfl ?_
              refine lv_lmul hx hb dX3_triesWithFinds_56 ?_
              refine lv_aload_n hx hb dX3_triesWithFinds_57 rfl (lv_at hl 2 rfl) ?_
              refine va_get (D := D) (ci := 3) (v := .ref a_p0_finds) (C := RX3) (T := TX3) (N := 4) hx hb hts inX3_triesWithFinds_X3 hown hK hP 0 rfl rfl 3 (by decide) (hts _ mwX3_triesWithFinds_1) (fun _ h9 => h9) rfl dX3_triesWithFinds_58 ?_
              refine lv_iload hx hb dX3_triesWithFinds_61 (lv_at hl 0 rfl) ?_
              refine lv_iconst (v := (1 : Int32)) hx hb dX3_triesWithFinds_63 (by decide) ?_
              refine lv_isub hx hb dX3_triesWithFinds_64 ?_
              have hc := ck_c hf
              replace hf := ck_r hf
              refine va_lald hx hb hK hP 3 2 rfl rfl (ixB_in hc) dX3_triesWithFinds_65 ?_
              clear hc
              refine lv_ladd hx hb dX3_triesWithFinds_66 ?_
              have hc := ck_c hf
              replace hf := ck_r hf
              refine gs_last (wf := fun w24 => [(a_p0, .inr (3, [.ref a_p0_kitchen, .ref a_p0_rows, .ref a_p0_later, .ref a_p0_finds])), (a_p0_kitchen, .inr (2, [.ref a_p0_kitchen_rules, .ref a_p0_kitchen_state, .ref a_p0_kitchen_places, .ref a_p0_kitchen_holders, .ref a_p0_kitchen_stirred])), (a_p0_kitchen_rules, .inr (6, [.int i_p0_kitchen_rules_seats, .int i_p0_kitchen_rules_stirs, .ref a_p0_kitchen_rules_need, .ref a_p0_kitchen_rules_kind, .ref a_p0_kitchen_rules_first, .ref a_p0_kitchen_rules_second, .ref a_p0_kitchen_rules_after])), (a_p0_finds, .inl (G 2, 13, .inr (.inl w24)))]) hx hb hK hP hD hS 3 2 rfl rfl (ixB_in hc) dX3_triesWithFinds_67 (fun _ => rfl) (fun w24 ez H locs hP hD hS => ?_)
              replace hf := bnd_s hf ez
              clear ez hc
              obtain ⟨z25, ez⟩ : ∃ y : Int32, y = (z21 + (-1 : Int32)) := ⟨_, rfl⟩
              replace hf := bnd_s hf ez
              refine lv_iinc (v := z25) (lv' := [(4, .int z25), (3, .int z13), (0, .ref a_p0), (1, .int x1), (2, .int x2)]) hx hb dX3_triesWithFinds_68 hl (k := 0) rfl (by rw [ez]; rfl) (by decide) rfl (fun ls hl => ?_)
              clear ez
              refine lv_goto (tgt := 25) hx hb dX3_triesWithFinds_71 (by decide) ?_
              exact ih25 _ _ _ _ _ (lv_sub hl [0, 1, 2, 3, 4] rfl) hP hD hS hf
        exact hB23 _ _ _ _ _ _ (lv_sub hl [0, 1, 2, 3, 4] rfl) hP hD hS hf
  exact hB15 _ _ _ _ _ _ (lv_sub hl [0, 1, 2, 3] rfl) hP hD hS hf

noncomputable def B_X3_power_5 (x1 : Int32) (x0 : Int32) (again5 : Int32 → Int64 → Option (Int64)) (z3 : Int32) (z4 : Int64) : Option (Int64) := (if x1 ≤ z3 then (some z4) else (bnd (z4 * (x0).toInt64) (fun (z6 : Int64) => (bnd (z3 + (1 : Int32)) (fun (z7 : Int32) => (again5 z7 z6))))))
noncomputable def f_X3_power (x0 : Int32) (x1 : Int32) : Option (Int64) := (bnd (1 : Int64) (fun (z1 : Int64) => (bnd (0 : Int32) (fun (z2 : Int32) => (lq2 (B_X3_power_5 x1 x0) 1000 z2 z1)))))
abbrev rm_X3_power : Room := { frames := 0, cells := 0, slots := 0, locals := 0 }
set_option maxHeartbeats 8000000 in
set_option maxRecDepth 100000 in
theorem c_X3_power (l : Launch) (D : va_G) (G : Nat → ClassId) (sz : Nat) (x0 : Int32) (x1 : Int32) (r : Int64) (hf : f_X3_power x0 x1 = some r) : Met l yX3_power wsX3_power rm_X3_power (pcG D G [.int x0, .int x1] sz []) (qcL D G r [] (va_A [] sz)) 0 0 (va_A [] sz) := by
  refine Met.ofW (cc := cX3_power) (maxL := 5) (ret := (some .long)) (by decide) rfl ?_
  intro p e s m args below meth c s₁ B hml hv
  obtain ⟨rfl, hsz, hP, hK, hD0⟩ := hv
  have hx := B.exec
  have hb := B.bytes
  have hr := B.returns
  have hts := atoms_spec (ws := wsX3_power) B.pre
  have hown : s.vm.findClass RX3 = some m.cls := findClass_of_methodNamed B.named
  have hlocks := B.notSynchronized
  subst hsz
  have hD := hD0.self (sz := s.heap.size)
  generalize hAe : va_A [] s.heap.size = A at hD ⊢
  have hA : ∀ q : Nat, s.heap.size ≤ q → A q := fun q h => by rw [← hAe]; exact Or.inr h
  clear hAe hD0
  have hS : va_S A s.heap s.heap [] := va_S.rf
  have hl := lv_entry ([.int x0, .int x1]) (n := 5) (Nat.le_of_ble_eq_true rfl)
  rw [lg_entry_eq]
  generalize (lg_sl ([.int x0, .int x1]) ++ List.replicate (5 - (lg_sl ([.int x0, .int x1])).length) Slot.unset).toArray = ls at hl ⊢
  have hl : lv_has ls 5 [(0, .int x0), (1, .int x1)] := hl
  refine W_nameQ (fun Q hQ => ?_)
  obtain ⟨H, hH⟩ : ∃ H, H = s.heap := ⟨_, rfl⟩
  replace hS : va_S A s.heap H [] := by rw [hH]; exact hS
  replace hP : va_P D vwCl [] H := by rw [hH]; exact hP
  rw [← hH]
  clear hH
  unfold f_X3_power at hf
  refine lv_lconst (v := (1 : Int64)) hx hb dX3_power_0 (by decide) ?_
  refine lv_topl (fun z1 ez => ?_)
  replace hf := bnd_s hf ez
  clear ez
  refine lv_lstore_n (lv' := [(2, .long z1), (0, .int x0), (1, .int x1)]) hx hb dX3_power_1 rfl hl (by decide) rfl (fun ls hl => ?_)
  refine lv_iconst (v := (0 : Int32)) hx hb dX3_power_2 (by decide) ?_
  refine lv_topi (fun z2 ez => ?_)
  replace hf := bnd_s hf ez
  clear ez
  refine lv_istore (lv' := [(4, .int z2), (2, .long z1), (0, .int x0), (1, .int x1)]) hx hb dX3_power_3 hl (by decide) rfl (fun ls hl => ?_)
  have hq := lq2_i hf
  clear hf
  obtain ⟨B5, eB5, NB5, hf⟩ := hq
  have hB5 : ∀ (n : Nat) (z3 : Int32) (z4 : Int64) (ls : Array Slot) (H : Heap) (locs : List Loc), lv_has ls 5 [(4, .int z3), (2, .long z4), (0, .int x0), (1, .int x1)] → va_P D vwCl [] H → va_D A [] → va_S A s.heap H locs → lq2 B5 n z3 z4 = some r → W p l e rm_X3_power s m ([.int x0, .int x1] : List Value).toArray below meth c H locs 0 0 Q (F0 m 5 ls []) := by
    clear hf hl hP hD hS
    intro n
    induction n with
    | zero =>
      intro z3 z4 ls H locs hl hP hD hS hf
      exact (lq2_0 hf).elim
    | succ n ih5 =>
      intro z3 z4 ls H locs hl hP hD hS hf
      replace hf := lq2_s eB5 hf
      unfold B_X3_power_5 at hf
      refine lv_iload hx hb dX3_power_5 (lv_at hl 0 rfl) ?_
      refine lv_iload_n hx hb dX3_power_7 rfl (lv_at hl 3 rfl) ?_
      refine lv_icmp_ge (tgt := 22) hx hb dX3_power_8 (by decide) (fun cc => ?_) (fun cc => ?_)
      ·
        replace hf := ite_t cc hf
        clear cc
        refine lv_lload_n hx hb dX3_power_22 rfl (lv_at hl 1 rfl) ?_
        obtain rfl := ou1 hf
        rw [hQ]
        exact W.lret hx hb hr (fun t ht hW => ⟨⟨_, (), rfl, rfl, by rw [ht]; exact hP, va_K.moved hW.alike hK, hD⟩, hS.F ht⟩) hS.2.2 dX3_power_23
      ·
        replace hf := ite_f cc hf
        clear cc
        refine lv_lload_n hx hb dX3_power_11 rfl (lv_at hl 1 rfl) ?_
        refine lv_iload_n hx hb dX3_power_12 rfl (lv_at hl 2 rfl) ?_
        refine lv_i2l hx hb dX3_power_13 rfl ?_
        refine lv_lmul hx hb dX3_power_14 ?_
        refine lv_topl (fun z6 ez => ?_)
        replace hf := bnd_s hf ez
        clear ez
        refine lv_lstore_n (lv' := [(2, .long z6), (4, .int z3), (0, .int x0), (1, .int x1)]) hx hb dX3_power_15 rfl hl (by decide) rfl (fun ls hl => ?_)
        obtain ⟨z7, ez⟩ : ∃ y : Int32, y = (z3 + (1 : Int32)) := ⟨_, rfl⟩
        replace hf := bnd_s hf ez
        refine lv_iinc (v := z7) (lv' := [(4, .int z7), (2, .long z6), (0, .int x0), (1, .int x1)]) hx hb dX3_power_16 hl (k := 1) rfl (by rw [ez]; rfl) (by decide) rfl (fun ls hl => ?_)
        clear ez
        refine lv_goto (tgt := 5) hx hb dX3_power_19 (by decide) ?_
        exact ih5 _ _ _ _ _ (lv_sub hl [0, 1, 2, 3] rfl) hP hD hS hf
  exact hB5 _ _ _ _ _ _ (lv_sub hl [0, 1, 2, 3] rfl) hP hD hS hf

noncomputable def B_X3_greatestDivisor_9 (again9 : Int32 → Int64 → Int64 → Option (Int64)) (z4 : Int32) (z5 : Int64) (z6 : Int64) : Option (Int64) := (if (200 : Int32) ≤ z4 then (some z6) else (if (lg_cmp z5 (0 : Int64)) = 0 then (some z6) else (ck (nzL z5) (bnd (z6 - z6 / z5 * z5) (fun (z8 : Int64) => (bnd z5 (fun (z9 : Int64) => (bnd z8 (fun (z10 : Int64) => (bnd (z4 + (1 : Int32)) (fun (z11 : Int32) => (again9 z11 z10 z9))))))))))))
noncomputable def f_X3_greatestDivisor (x0 : Int64) (x2 : Int64) : Option (Int64) := (bnd x0 (fun (z1 : Int64) => (bnd x2 (fun (z2 : Int64) => (bnd (0 : Int32) (fun (z3 : Int32) => (lq3 (B_X3_greatestDivisor_9) 1000 z3 z2 z1)))))))
abbrev rm_X3_greatestDivisor : Room := { frames := 0, cells := 0, slots := 0, locals := 0 }
set_option maxHeartbeats 8000000 in
set_option maxRecDepth 100000 in
theorem c_X3_greatestDivisor (l : Launch) (D : va_G) (G : Nat → ClassId) (sz : Nat) (x0 : Int64) (x2 : Int64) (r : Int64) (hf : f_X3_greatestDivisor x0 x2 = some r) : Met l yX3_greatestDivisor wsX3_greatestDivisor rm_X3_greatestDivisor (pcG D G [.long x0, .long x2] sz []) (qcL D G r [] (va_A [] sz)) 0 0 (va_A [] sz) := by
  refine Met.ofW (cc := cX3_greatestDivisor) (maxL := 11) (ret := (some .long)) (by decide) rfl ?_
  intro p e s m args below meth c s₁ B hml hv
  obtain ⟨rfl, hsz, hP, hK, hD0⟩ := hv
  have hx := B.exec
  have hb := B.bytes
  have hr := B.returns
  have hts := atoms_spec (ws := wsX3_greatestDivisor) B.pre
  have hown : s.vm.findClass RX3 = some m.cls := findClass_of_methodNamed B.named
  have hlocks := B.notSynchronized
  subst hsz
  have hD := hD0.self (sz := s.heap.size)
  generalize hAe : va_A [] s.heap.size = A at hD ⊢
  have hA : ∀ q : Nat, s.heap.size ≤ q → A q := fun q h => by rw [← hAe]; exact Or.inr h
  clear hAe hD0
  have hS : va_S A s.heap s.heap [] := va_S.rf
  have hl := lv_entry ([.long x0, .long x2]) (n := 11) (Nat.le_of_ble_eq_true rfl)
  rw [lg_entry_eq]
  generalize (lg_sl ([.long x0, .long x2]) ++ List.replicate (11 - (lg_sl ([.long x0, .long x2])).length) Slot.unset).toArray = ls at hl ⊢
  have hl : lv_has ls 11 [(0, .long x0), (2, .long x2)] := hl
  refine W_nameQ (fun Q hQ => ?_)
  obtain ⟨H, hH⟩ : ∃ H, H = s.heap := ⟨_, rfl⟩
  replace hS : va_S A s.heap H [] := by rw [hH]; exact hS
  replace hP : va_P D vwCl [] H := by rw [hH]; exact hP
  rw [← hH]
  clear hH
  unfold f_X3_greatestDivisor at hf
  refine lv_lload_n hx hb dX3_greatestDivisor_0 rfl (lv_at hl 0 rfl) ?_
  refine lv_topl (fun z1 ez => ?_)
  replace hf := bnd_s hf ez
  clear ez
  refine lv_lstore (lv' := [(4, .long z1), (0, .long x0), (2, .long x2)]) hx hb dX3_greatestDivisor_1 hl (by decide) rfl (fun ls hl => ?_)
  refine lv_lload_n hx hb dX3_greatestDivisor_3 rfl (lv_at hl 2 rfl) ?_
  refine lv_topl (fun z2 ez => ?_)
  replace hf := bnd_s hf ez
  clear ez
  refine lv_lstore (lv' := [(6, .long z2), (4, .long z1), (0, .long x0), (2, .long x2)]) hx hb dX3_greatestDivisor_4 hl (by decide) rfl (fun ls hl => ?_)
  refine lv_iconst (v := (0 : Int32)) hx hb dX3_greatestDivisor_6 (by decide) ?_
  refine lv_topi (fun z3 ez => ?_)
  replace hf := bnd_s hf ez
  clear ez
  refine lv_istore (lv' := [(8, .int z3), (6, .long z2), (4, .long z1), (0, .long x0), (2, .long x2)]) hx hb dX3_greatestDivisor_7 hl (by decide) rfl (fun ls hl => ?_)
  have hq := lq3_i hf
  clear hf
  obtain ⟨B7, eB7, NB7, hf⟩ := hq
  have hB7 : ∀ (n : Nat) (z4 : Int32) (z5 : Int64) (z6 : Int64) (ls : Array Slot) (H : Heap) (locs : List Loc), lv_has ls 11 [(8, .int z4), (6, .long z5), (4, .long z6)] → va_P D vwCl [] H → va_D A [] → va_S A s.heap H locs → lq3 B7 n z4 z5 z6 = some r → W p l e rm_X3_greatestDivisor s m ([.long x0, .long x2] : List Value).toArray below meth c H locs 0 0 Q (F0 m 9 ls []) := by
    clear hf hl hP hD hS
    intro n
    induction n with
    | zero =>
      intro z4 z5 z6 ls H locs hl hP hD hS hf
      exact (lq3_0 hf).elim
    | succ n ih9 =>
      intro z4 z5 z6 ls H locs hl hP hD hS hf
      replace hf := lq3_s eB7 hf
      unfold B_X3_greatestDivisor_9 at hf
      refine lv_iload hx hb dX3_greatestDivisor_9 (lv_at hl 0 rfl) ?_
      refine lv_sipush (v := (200 : Int32)) hx hb dX3_greatestDivisor_11 (by decide) ?_
      refine lv_icmp_ge (tgt := 45) hx hb dX3_greatestDivisor_14 (by decide) (fun cc => ?_) (fun cc => ?_)
      ·
        replace hf := ite_t cc hf
        clear cc
        refine lv_lload hx hb dX3_greatestDivisor_45 (lv_at hl 2 rfl) ?_
        obtain rfl := ou1 hf
        rw [hQ]
        exact W.lret hx hb hr (fun t ht hW => ⟨⟨_, (), rfl, rfl, by rw [ht]; exact hP, va_K.moved hW.alike hK, hD⟩, hS.F ht⟩) hS.2.2 dX3_greatestDivisor_47
      ·
        replace hf := ite_f cc hf
        clear cc
        refine lv_lload hx hb dX3_greatestDivisor_17 (lv_at hl 1 rfl) ?_
        refine lv_lconst (v := (0 : Int64)) hx hb dX3_greatestDivisor_19 (by decide) ?_
        refine W.lcmp hx hb dX3_greatestDivisor_20 ?_
        refine lv_if_eq (tgt := 45) hx hb dX3_greatestDivisor_21 (by decide) (fun cc => ?_) (fun cc => ?_)
        ·
          replace hf := ite_t cc hf
          clear cc
          refine lv_lload hx hb dX3_greatestDivisor_45 (lv_at hl 2 rfl) ?_
          obtain rfl := ou1 hf
          rw [hQ]
          exact W.lret hx hb hr (fun t ht hW => ⟨⟨_, (), rfl, rfl, by rw [ht]; exact hP, va_K.moved hW.alike hK, hD⟩, hS.F ht⟩) hS.2.2 dX3_greatestDivisor_47
        ·
          replace hf := ite_f cc hf
          clear cc
          refine lv_lload hx hb dX3_greatestDivisor_24 (lv_at hl 2 rfl) ?_
          refine lv_lload hx hb dX3_greatestDivisor_26 (lv_at hl 1 rfl) ?_
          have hc := ck_c hf
          replace hf := ck_r hf
          refine lv_lrem hx hb dX3_greatestDivisor_28 (nzL_ne hc) ?_
          clear hc
          refine lv_topl (fun z8 ez => ?_)
          replace hf := bnd_s hf ez
          clear ez
          refine lv_lstore (lv' := [(9, .long z8), (8, .int z4), (6, .long z5), (4, .long z6)]) hx hb dX3_greatestDivisor_29 hl (by decide) rfl (fun ls hl => ?_)
          refine lv_lload hx hb dX3_greatestDivisor_31 (lv_at hl 2 rfl) ?_
          refine lv_topl (fun z9 ez => ?_)
          replace hf := bnd_s hf ez
          clear ez
          refine lv_lstore (lv' := [(4, .long z9), (9, .long z8), (8, .int z4), (6, .long z5)]) hx hb dX3_greatestDivisor_33 hl (by decide) rfl (fun ls hl => ?_)
          refine lv_lload hx hb dX3_greatestDivisor_35 (lv_at hl 1 rfl) ?_
          refine lv_topl (fun z10 ez => ?_)
          replace hf := bnd_s hf ez
          clear ez
          refine lv_lstore (lv' := [(6, .long z10), (4, .long z9), (9, .long z8), (8, .int z4)]) hx hb dX3_greatestDivisor_37 hl (by decide) rfl (fun ls hl => ?_)
          obtain ⟨z11, ez⟩ : ∃ y : Int32, y = (z4 + (1 : Int32)) := ⟨_, rfl⟩
          replace hf := bnd_s hf ez
          refine lv_iinc (v := z11) (lv' := [(8, .int z11), (6, .long z10), (4, .long z9), (9, .long z8)]) hx hb dX3_greatestDivisor_39 hl (k := 3) rfl (by rw [ez]; rfl) (by decide) rfl (fun ls hl => ?_)
          clear ez
          refine lv_goto (tgt := 9) hx hb dX3_greatestDivisor_42 (by decide) ?_
          exact ih9 _ _ _ _ _ _ (lv_sub hl [0, 1, 2] rfl) hP hD hS hf
  exact hB7 _ _ _ _ _ _ _ (lv_sub hl [0, 1, 2] rfl) hP hD hS hf

noncomputable def f_X3_part (x0 : Int64) (x2 : Int64) (x4 : Int32) : Option (Int64) := (bd1 (f_X3_greatestDivisor x0 x2) (fun (z1 : Int64) => (bnd z1 (fun (z2 : Int64) => (if (lg_cmp z2 (0 : Int64)) = 0 then (some (x4).toInt64) else (if x4 = 0 then (ck (nzL z2) (some (x0 / z2))) else (ck (nzL z2) (some (x2 / z2)))))))))
abbrev rm_X3_part : Room := { frames := 1, cells := 0, slots := 0, locals := 30 }
set_option maxHeartbeats 8000000 in
set_option maxRecDepth 100000 in
theorem c_X3_part (l : Launch) (D : va_G) (G : Nat → ClassId) (sz : Nat) (x0 : Int64) (x2 : Int64) (x4 : Int32) (r : Int64) (hf : f_X3_part x0 x2 x4 = some r) : Met l yX3_part wsX3_part rm_X3_part (pcG D G [.long x0, .long x2, .int x4] sz []) (qcL D G r [] (va_A [] sz)) 0 0 (va_A [] sz) := by
  refine Met.ofW (cc := cX3_part) (maxL := 7) (ret := (some .long)) (by decide) rfl ?_
  intro p e s m args below meth c s₁ B hml hv
  obtain ⟨rfl, hsz, hP, hK, hD0⟩ := hv
  have hx := B.exec
  have hb := B.bytes
  have hr := B.returns
  have hts := atoms_spec (ws := wsX3_part) B.pre
  have hown : s.vm.findClass RX3 = some m.cls := findClass_of_methodNamed B.named
  have hlocks := B.notSynchronized
  subst hsz
  have hD := hD0.self (sz := s.heap.size)
  generalize hAe : va_A [] s.heap.size = A at hD ⊢
  have hA : ∀ q : Nat, s.heap.size ≤ q → A q := fun q h => by rw [← hAe]; exact Or.inr h
  clear hAe hD0
  have hS : va_S A s.heap s.heap [] := va_S.rf
  have hl := lv_entry ([.long x0, .long x2, .int x4]) (n := 7) (Nat.le_of_ble_eq_true rfl)
  rw [lg_entry_eq]
  generalize (lg_sl ([.long x0, .long x2, .int x4]) ++ List.replicate (7 - (lg_sl ([.long x0, .long x2, .int x4])).length) Slot.unset).toArray = ls at hl ⊢
  have hl : lv_has ls 7 [(0, .long x0), (2, .long x2), (4, .int x4)] := hl
  refine W_nameQ (fun Q hQ => ?_)
  obtain ⟨H, hH⟩ : ∃ H, H = s.heap := ⟨_, rfl⟩
  replace hS : va_S A s.heap H [] := by rw [hH]; exact hS
  replace hP : va_P D vwCl [] H := by rw [hH]; exact hP
  rw [← hH]
  clear hH
  unfold f_X3_part at hf
  refine lv_lload_n hx hb dX3_part_0 rfl (lv_at hl 0 rfl) ?_
  refine lv_lload_n hx hb dX3_part_1 rfl (lv_at hl 1 rfl) ?_
  have hq := bd1_s hf
  clear hf
  obtain ⟨z1, hcall, hf⟩ := hq
  refine gcL (ws' := []) (va_runS (As := [.long x0, .long x2]) (rest := []) ⟨hx, hb, hml, hown, hts⟩ (c_X3_greatestDivisor (l := l) (D := D) (G := G) (sz := H.size) (x0 := x0) (x2 := x2) (r := z1) (hf := hcall)) (va_cwS 2 hts gX3_part_X3_greatestDivisor rfl rfl rfl (by decide +kernel) ⟨Nat.le_of_ble_eq_true rfl, Nat.le_of_ble_eq_true rfl⟩) (preG_S (hP.sub [] rfl) (hD.sub [] rfl rfl) hK) rfl rfl hl.1 rfl (lv_room (Nat.le_of_ble_eq_true rfl)) dX3_part_2 ⟨Nat.le_of_ble_eq_true rfl, Nat.le_of_ble_eq_true rfl⟩) hP hD hS hA [] [] [] rfl rfl rfl (by decide) rfl rfl rfl (fun H locs hP hD hS => ?_)
  clear hcall
  refine lv_topl (fun z2 ez => ?_)
  replace hf := bnd_s hf ez
  clear ez
  refine lv_lstore (lv' := [(5, .long z2), (0, .long x0), (2, .long x2), (4, .int x4)]) hx hb dX3_part_5 hl (by decide) rfl (fun ls hl => ?_)
  refine lv_lload hx hb dX3_part_7 (lv_at hl 0 rfl) ?_
  refine lv_lconst (v := (0 : Int64)) hx hb dX3_part_9 (by decide) ?_
  refine W.lcmp hx hb dX3_part_10 ?_
  refine lv_if_ne (tgt := 18) hx hb dX3_part_11 (by decide) (fun cc => ?_) (fun cc => ?_)
  ·
    replace hf := ite_f cc hf
    clear cc
    refine lv_iload hx hb dX3_part_18 (lv_at hl 3 rfl) ?_
    refine lv_if_ne (tgt := 30) hx hb dX3_part_20 (by decide) (fun cc => ?_) (fun cc => ?_)
    ·
      replace hf := ite_f cc hf
      clear cc
      refine lv_lload_n hx hb dX3_part_30 rfl (lv_at hl 2 rfl) ?_
      refine lv_lload hx hb dX3_part_31 (lv_at hl 0 rfl) ?_
      have hc := ck_c hf
      replace hf := ck_r hf
      refine lv_ldiv hx hb dX3_part_33 (nzL_ne hc) ?_
      clear hc
      obtain rfl := ou1 hf
      rw [hQ]
      exact W.lret hx hb hr (fun t ht hW => ⟨⟨_, (), rfl, rfl, by rw [ht]; exact hP, va_K.moved hW.alike hK, hD⟩, hS.F ht⟩) hS.2.2 dX3_part_34
    ·
      replace hf := ite_t cc hf
      clear cc
      refine lv_lload_n hx hb dX3_part_23 rfl (lv_at hl 1 rfl) ?_
      refine lv_lload hx hb dX3_part_24 (lv_at hl 0 rfl) ?_
      have hc := ck_c hf
      replace hf := ck_r hf
      refine lv_ldiv hx hb dX3_part_26 (nzL_ne hc) ?_
      clear hc
      refine lv_goto (tgt := 34) hx hb dX3_part_27 (by decide) ?_
      obtain rfl := ou1 hf
      rw [hQ]
      exact W.lret hx hb hr (fun t ht hW => ⟨⟨_, (), rfl, rfl, by rw [ht]; exact hP, va_K.moved hW.alike hK, hD⟩, hS.F ht⟩) hS.2.2 dX3_part_34
  ·
    replace hf := ite_t cc hf
    clear cc
    refine lv_iload hx hb dX3_part_14 (lv_at hl 3 rfl) ?_
    refine lv_i2l hx hb dX3_part_16 rfl ?_
    obtain rfl := ou1 hf
    rw [hQ]
    exact W.lret hx hb hr (fun t ht hW => ⟨⟨_, (), rfl, rfl, by rw [ht]; exact hP, va_K.moved hW.alike hK, hD⟩, hS.F ht⟩) hS.2.2 dX3_part_17

noncomputable def f_X8_isFriend (v_p0_friends : (Nat → Int32)) (x1 : Int32) (x2 : Int32) : Option (Int32) := (ck (ixB x1 7) (if (((v_p0_friends (x1).toNatClampNeg) >>> (x2 &&& 31)) &&& (1 : Int32)) = 0 then (some (0 : Int32)) else (some (1 : Int32))))
abbrev rm_X8_isFriend : Room := { frames := 0, cells := 0, slots := 0, locals := 0 }
theorem inX8_isFriend_X8 : ∀ w ∈ wsX80, w ∈ wsX8_isFriend := by decide +kernel
theorem mwX8_isFriend_1 : Cond.fieldLink RX8 15 "LadleKings$State" "friends" "[I" ∈ wsX8_isFriend := by decide +kernel
set_option maxHeartbeats 8000000 in
set_option maxRecDepth 100000 in
theorem c_X8_isFriend (l : Launch) (D : va_G) (G : Nat → ClassId) (sz : Nat) (a_p0 : Nat) (a_p0_pieces : Nat) (a_p0_friends : Nat) (a_p0_spoons : Nat) (a_p0_eaten : Nat) (a_p0_seen : Nat) (i_p0_seenDays : Int32) (i_p0_bone : Int32) (i_p0_king : Int32) (i_p0_days : Int32) (v_p0_friends : (Nat → Int32)) (x1 : Int32) (x2 : Int32) (r : Int32) (hf : f_X8_isFriend v_p0_friends x1 x2 = some r) : Met l yX8_isFriend wsX8_isFriend rm_X8_isFriend (pcG D G [.ref a_p0, .int x1, .int x2] sz [(a_p0, .inr (8, [.ref a_p0_pieces, .ref a_p0_friends, .ref a_p0_spoons, .ref a_p0_eaten, .ref a_p0_seen, .int i_p0_seenDays, .int i_p0_bone, .int i_p0_king, .int i_p0_days])), (a_p0_friends, .inl (G 1, 7, .inl v_p0_friends))]) (qcI D G r [(a_p0, .inr (8, [.ref a_p0_pieces, .ref a_p0_friends, .ref a_p0_spoons, .ref a_p0_eaten, .ref a_p0_seen, .int i_p0_seenDays, .int i_p0_bone, .int i_p0_king, .int i_p0_days])), (a_p0_friends, .inl (G 1, 7, .inl v_p0_friends))] (va_A [(a_p0, .inr (8, [.ref a_p0_pieces, .ref a_p0_friends, .ref a_p0_spoons, .ref a_p0_eaten, .ref a_p0_seen, .int i_p0_seenDays, .int i_p0_bone, .int i_p0_king, .int i_p0_days])), (a_p0_friends, .inl (G 1, 7, .inl v_p0_friends))] sz)) 0 0 (va_A [(a_p0, .inr (8, [.ref a_p0_pieces, .ref a_p0_friends, .ref a_p0_spoons, .ref a_p0_eaten, .ref a_p0_seen, .int i_p0_seenDays, .int i_p0_bone, .int i_p0_king, .int i_p0_days])), (a_p0_friends, .inl (G 1, 7, .inl v_p0_friends))] sz) := by
  refine Met.ofW (cc := cX8_isFriend) (maxL := 3) (ret := (some .boolean)) (by decide) rfl ?_
  intro p e s m args below meth c s₁ B hml hv
  obtain ⟨rfl, hsz, hP, hK, hD0⟩ := hv
  have hx := B.exec
  have hb := B.bytes
  have hr := B.returns
  have hts := atoms_spec (ws := wsX8_isFriend) B.pre
  have hown : s.vm.findClass RX8 = some m.cls := findClass_of_methodNamed B.named
  have hlocks := B.notSynchronized
  subst hsz
  have hD := hD0.self (sz := s.heap.size)
  generalize hAe : va_A [(a_p0, .inr (8, [.ref a_p0_pieces, .ref a_p0_friends, .ref a_p0_spoons, .ref a_p0_eaten, .ref a_p0_seen, .int i_p0_seenDays, .int i_p0_bone, .int i_p0_king, .int i_p0_days])), (a_p0_friends, .inl (G 1, 7, .inl v_p0_friends))] s.heap.size = A at hD ⊢
  have hA : ∀ q : Nat, s.heap.size ≤ q → A q := fun q h => by rw [← hAe]; exact Or.inr h
  clear hAe hD0
  have hS : va_S A s.heap s.heap [] := va_S.rf
  have hl := lv_entry ([.ref a_p0, .int x1, .int x2]) (n := 3) (Nat.le_of_ble_eq_true rfl)
  rw [lg_entry_eq]
  generalize (lg_sl ([.ref a_p0, .int x1, .int x2]) ++ List.replicate (3 - (lg_sl ([.ref a_p0, .int x1, .int x2])).length) Slot.unset).toArray = ls at hl ⊢
  have hl : lv_has ls 3 [(0, .ref a_p0), (1, .int x1), (2, .int x2)] := hl
  refine W_nameQ (fun Q hQ => ?_)
  obtain ⟨H, hH⟩ : ∃ H, H = s.heap := ⟨_, rfl⟩
  replace hS : va_S A s.heap H [] := by rw [hH]; exact hS
  replace hP : va_P D vwCl [(a_p0, .inr (8, [.ref a_p0_pieces, .ref a_p0_friends, .ref a_p0_spoons, .ref a_p0_eaten, .ref a_p0_seen, .int i_p0_seenDays, .int i_p0_bone, .int i_p0_king, .int i_p0_days])), (a_p0_friends, .inl (G 1, 7, .inl v_p0_friends))] H := by rw [hH]; exact hP
  rw [← hH]
  clear hH
  unfold f_X8_isFriend at hf
  refine lv_aload_n hx hb dX8_isFriend_0 rfl (lv_at hl 0 rfl) ?_
  refine va_get (D := D) (ci := 8) (v := .ref a_p0_friends) (C := RX8) (T := TX8) (N := 9) hx hb hts inX8_isFriend_X8 hown hK hP 0 rfl rfl 1 (by decide) (hts _ mwX8_isFriend_1) (fun _ h9 => h9) rfl dX8_isFriend_1 ?_
  refine lv_iload_n hx hb dX8_isFriend_4 rfl (lv_at hl 1 rfl) ?_
  have hc := ck_c hf
  replace hf := ck_r hf
  refine va_iald hx hb hK hP 1 1 rfl rfl (ixB_in hc) dX8_isFriend_5 ?_
  clear hc
  refine lv_iload_n hx hb dX8_isFriend_6 rfl (lv_at hl 2 rfl) ?_
  refine lv_ishr hx hb dX8_isFriend_7 ?_
  refine lv_iconst (v := (1 : Int32)) hx hb dX8_isFriend_8 (by decide) ?_
  refine lv_iand hx hb dX8_isFriend_9 ?_
  refine lv_if_eq (tgt := 17) hx hb dX8_isFriend_10 (by decide) (fun cc => ?_) (fun cc => ?_)
  ·
    replace hf := ite_t cc hf
    clear cc
    refine lv_iconst (v := (0 : Int32)) hx hb dX8_isFriend_17 (by decide) ?_
    obtain rfl := ou1 hf
    rw [hQ]
    exact W.zret hx hb hr rfl (fun t ht hW => ⟨⟨_, (), rfl, rfl, by rw [ht]; exact hP, va_K.moved hW.alike hK, hD⟩, hS.F ht⟩) hS.2.2 dX8_isFriend_18
  ·
    replace hf := ite_f cc hf
    clear cc
    refine lv_iconst (v := (1 : Int32)) hx hb dX8_isFriend_13 (by decide) ?_
    refine lv_goto (tgt := 18) hx hb dX8_isFriend_14 (by decide) ?_
    obtain rfl := ou1 hf
    rw [hQ]
    exact W.zret hx hb hr rfl (fun t ht hW => ⟨⟨_, (), rfl, rfl, by rw [ht]; exact hP, va_K.moved hW.alike hK, hD⟩, hS.F ht⟩) hS.2.2 dX8_isFriend_18

noncomputable def B_X4_howMany_27 (i_p0_kitchen_state_seenDays : Int32) (v_p0_kitchen_state_seen : (Nat → Int32)) (again27 : Int32 → Int32 → Int32 → Int32 → Option (Int32)) (z5 : Int32) (z6 : Int32) (z7 : Int32) (z8 : Int32) : Option (Int32) := (if i_p0_kitchen_state_seenDays ≤ z5 then (some z8) else (ck (ixB z5 6) (bnd (v_p0_kitchen_state_seen (z5).toNatClampNeg) (fun (z10 : Int32) => none))))
noncomputable def f_X4_howMany (i_p0_kitchen_state_seenDays : Int32) (i_p0_kitchen_state_bone : Int32) (i_p0_kitchen_state_king : Int32) (v_p0_kitchen_state_seen : (Nat → Int32)) : Option (Int32) := (bnd (1 : Int32) (fun (z1 : Int32) => (bnd i_p0_kitchen_state_king (fun (z2 : Int32) => (bnd i_p0_kitchen_state_bone (fun (z3 : Int32) => (bnd (0 : Int32) (fun (z4 : Int32) => (lq4 (B_X4_howMany_27 i_p0_kitchen_state_seenDays v_p0_kitchen_state_seen) 1000 z4 z3 z2 z1)))))))))
abbrev rm_X4_howMany : Room := { frames := 0, cells := 0, slots := 0, locals := 0 }
theorem inX4_howMany_X4 : ∀ w ∈ wsX40, w ∈ wsX4_howMany := by decide +kernel
theorem mwX4_howMany_1 : Cond.fieldLink RX4 15 "LadleKings$Past" "kitchen" "LLadleKings$Kitchen;" ∈ wsX4_howMany := by decide +kernel
theorem inX4_howMany_X2 : ∀ w ∈ wsX20, w ∈ wsX4_howMany := by decide +kernel
theorem mwX4_howMany_3 : Cond.fieldLink RX4 19 "LadleKings$Kitchen" "state" "LLadleKings$State;" ∈ wsX4_howMany := by decide +kernel
theorem inX4_howMany_X8 : ∀ w ∈ wsX80, w ∈ wsX4_howMany := by decide +kernel
theorem mwX4_howMany_5 : Cond.fieldLink RX4 25 "LadleKings$State" "king" "I" ∈ wsX4_howMany := by decide +kernel
theorem mwX4_howMany_6 : Cond.fieldLink RX4 31 "LadleKings$State" "bone" "I" ∈ wsX4_howMany := by decide +kernel
theorem mwX4_howMany_7 : Cond.fieldLink RX4 34 "LadleKings$State" "seenDays" "I" ∈ wsX4_howMany := by decide +kernel
theorem mwX4_howMany_8 : Cond.fieldLink RX4 37 "LadleKings$State" "seen" "[I" ∈ wsX4_howMany := by decide +kernel
set_option maxHeartbeats 8000000 in
set_option maxRecDepth 100000 in
theorem c_X4_howMany (l : Launch) (D : va_G) (G : Nat → ClassId) (sz : Nat) (a_p0 : Nat) (a_p0_kitchen : Nat) (a_p0_fitting : Nat) (a_p0_kitchen_rules : Nat) (a_p0_kitchen_state : Nat) (a_p0_kitchen_places : Nat) (a_p0_kitchen_holders : Nat) (a_p0_kitchen_stirred : Nat) (a_p0_kitchen_state_pieces : Nat) (a_p0_kitchen_state_friends : Nat) (a_p0_kitchen_state_spoons : Nat) (a_p0_kitchen_state_eaten : Nat) (a_p0_kitchen_state_seen : Nat) (i_p0_kitchen_state_seenDays : Int32) (i_p0_kitchen_state_bone : Int32) (i_p0_kitchen_state_king : Int32) (i_p0_kitchen_state_days : Int32) (v_p0_kitchen_state_seen : (Nat → Int32)) (r : Int32) (hf : f_X4_howMany i_p0_kitchen_state_seenDays i_p0_kitchen_state_bone i_p0_kitchen_state_king v_p0_kitchen_state_seen = some r) : Met l yX4_howMany wsX4_howMany rm_X4_howMany (pcG D G [.ref a_p0] sz [(a_p0, .inr (4, [.ref a_p0_kitchen, .ref a_p0_fitting])), (a_p0_kitchen, .inr (2, [.ref a_p0_kitchen_rules, .ref a_p0_kitchen_state, .ref a_p0_kitchen_places, .ref a_p0_kitchen_holders, .ref a_p0_kitchen_stirred])), (a_p0_kitchen_state, .inr (8, [.ref a_p0_kitchen_state_pieces, .ref a_p0_kitchen_state_friends, .ref a_p0_kitchen_state_spoons, .ref a_p0_kitchen_state_eaten, .ref a_p0_kitchen_state_seen, .int i_p0_kitchen_state_seenDays, .int i_p0_kitchen_state_bone, .int i_p0_kitchen_state_king, .int i_p0_kitchen_state_days])), (a_p0_kitchen_state_seen, .inl (G 1, 6, .inl v_p0_kitchen_state_seen))]) (qcI D G r [(a_p0, .inr (4, [.ref a_p0_kitchen, .ref a_p0_fitting])), (a_p0_kitchen, .inr (2, [.ref a_p0_kitchen_rules, .ref a_p0_kitchen_state, .ref a_p0_kitchen_places, .ref a_p0_kitchen_holders, .ref a_p0_kitchen_stirred])), (a_p0_kitchen_state, .inr (8, [.ref a_p0_kitchen_state_pieces, .ref a_p0_kitchen_state_friends, .ref a_p0_kitchen_state_spoons, .ref a_p0_kitchen_state_eaten, .ref a_p0_kitchen_state_seen, .int i_p0_kitchen_state_seenDays, .int i_p0_kitchen_state_bone, .int i_p0_kitchen_state_king, .int i_p0_kitchen_state_days])), (a_p0_kitchen_state_seen, .inl (G 1, 6, .inl v_p0_kitchen_state_seen))] (va_A [(a_p0, .inr (4, [.ref a_p0_kitchen, .ref a_p0_fitting])), (a_p0_kitchen, .inr (2, [.ref a_p0_kitchen_rules, .ref a_p0_kitchen_state, .ref a_p0_kitchen_places, .ref a_p0_kitchen_holders, .ref a_p0_kitchen_stirred])), (a_p0_kitchen_state, .inr (8, [.ref a_p0_kitchen_state_pieces, .ref a_p0_kitchen_state_friends, .ref a_p0_kitchen_state_spoons, .ref a_p0_kitchen_state_eaten, .ref a_p0_kitchen_state_seen, .int i_p0_kitchen_state_seenDays, .int i_p0_kitchen_state_bone, .int i_p0_kitchen_state_king, .int i_p0_kitchen_state_days])), (a_p0_kitchen_state_seen, .inl (G 1, 6, .inl v_p0_kitchen_state_seen))] sz)) 0 0 (va_A [(a_p0, .inr (4, [.ref a_p0_kitchen, .ref a_p0_fitting])), (a_p0_kitchen, .inr (2, [.ref a_p0_kitchen_rules, .ref a_p0_kitchen_state, .ref a_p0_kitchen_places, .ref a_p0_kitchen_holders, .ref a_p0_kitchen_stirred])), (a_p0_kitchen_state, .inr (8, [.ref a_p0_kitchen_state_pieces, .ref a_p0_kitchen_state_friends, .ref a_p0_kitchen_state_spoons, .ref a_p0_kitchen_state_eaten, .ref a_p0_kitchen_state_seen, .int i_p0_kitchen_state_seenDays, .int i_p0_kitchen_state_bone, .int i_p0_kitchen_state_king, .int i_p0_kitchen_state_days])), (a_p0_kitchen_state_seen, .inl (G 1, 6, .inl v_p0_kitchen_state_seen))] sz) := by
  refine Met.ofW (cc := cX4_howMany) (maxL := 7) (ret := (some .int)) (by decide) rfl ?_
  intro p e s m args below meth c s₁ B hml hv
  obtain ⟨rfl, hsz, hP, hK, hD0⟩ := hv
  have hx := B.exec
  have hb := B.bytes
  have hr := B.returns
  have hts := atoms_spec (ws := wsX4_howMany) B.pre
  have hown : s.vm.findClass RX4 = some m.cls := findClass_of_methodNamed B.named
  have hlocks := B.notSynchronized
  subst hsz
  have hD := hD0.self (sz := s.heap.size)
  generalize hAe : va_A [(a_p0, .inr (4, [.ref a_p0_kitchen, .ref a_p0_fitting])), (a_p0_kitchen, .inr (2, [.ref a_p0_kitchen_rules, .ref a_p0_kitchen_state, .ref a_p0_kitchen_places, .ref a_p0_kitchen_holders, .ref a_p0_kitchen_stirred])), (a_p0_kitchen_state, .inr (8, [.ref a_p0_kitchen_state_pieces, .ref a_p0_kitchen_state_friends, .ref a_p0_kitchen_state_spoons, .ref a_p0_kitchen_state_eaten, .ref a_p0_kitchen_state_seen, .int i_p0_kitchen_state_seenDays, .int i_p0_kitchen_state_bone, .int i_p0_kitchen_state_king, .int i_p0_kitchen_state_days])), (a_p0_kitchen_state_seen, .inl (G 1, 6, .inl v_p0_kitchen_state_seen))] s.heap.size = A at hD ⊢
  have hA : ∀ q : Nat, s.heap.size ≤ q → A q := fun q h => by rw [← hAe]; exact Or.inr h
  clear hAe hD0
  have hS : va_S A s.heap s.heap [] := va_S.rf
  have hl := lv_entry ([.ref a_p0]) (n := 7) (Nat.le_of_ble_eq_true rfl)
  rw [lg_entry_eq]
  generalize (lg_sl ([.ref a_p0]) ++ List.replicate (7 - (lg_sl ([.ref a_p0])).length) Slot.unset).toArray = ls at hl ⊢
  have hl : lv_has ls 7 [(0, .ref a_p0)] := hl
  refine W_nameQ (fun Q hQ => ?_)
  obtain ⟨H, hH⟩ : ∃ H, H = s.heap := ⟨_, rfl⟩
  replace hS : va_S A s.heap H [] := by rw [hH]; exact hS
  replace hP : va_P D vwCl [(a_p0, .inr (4, [.ref a_p0_kitchen, .ref a_p0_fitting])), (a_p0_kitchen, .inr (2, [.ref a_p0_kitchen_rules, .ref a_p0_kitchen_state, .ref a_p0_kitchen_places, .ref a_p0_kitchen_holders, .ref a_p0_kitchen_stirred])), (a_p0_kitchen_state, .inr (8, [.ref a_p0_kitchen_state_pieces, .ref a_p0_kitchen_state_friends, .ref a_p0_kitchen_state_spoons, .ref a_p0_kitchen_state_eaten, .ref a_p0_kitchen_state_seen, .int i_p0_kitchen_state_seenDays, .int i_p0_kitchen_state_bone, .int i_p0_kitchen_state_king, .int i_p0_kitchen_state_days])), (a_p0_kitchen_state_seen, .inl (G 1, 6, .inl v_p0_kitchen_state_seen))] H := by rw [hH]; exact hP
  rw [← hH]
  clear hH
  unfold f_X4_howMany at hf
  refine lv_iconst (v := (1 : Int32)) hx hb dX4_howMany_0 (by decide) ?_
  refine lv_topi (fun z1 ez => ?_)
  replace hf := bnd_s hf ez
  clear ez
  refine lv_istore_n (lv' := [(1, .int z1), (0, .ref a_p0)]) hx hb dX4_howMany_1 rfl hl (by decide) rfl (fun ls hl => ?_)
  refine lv_aload_n hx hb dX4_howMany_2 rfl (lv_at hl 1 rfl) ?_
  refine va_get (D := D) (ci := 4) (v := .ref a_p0_kitchen) (C := RX4) (T := TX4) (N := 2) hx hb hts inX4_howMany_X4 hown hK hP 0 rfl rfl 0 (by decide) (hts _ mwX4_howMany_1) (fun _ h9 => h9) rfl dX4_howMany_3 ?_
  refine va_get (D := D) (ci := 2) (v := .ref a_p0_kitchen_state) (C := RX2) (T := TX2) (N := 5) hx hb hts inX4_howMany_X2 hown hK hP 1 rfl rfl 1 (by decide) (hts _ mwX4_howMany_3) (fun _ h9 => h9) rfl dX4_howMany_6 ?_
  refine va_get (D := D) (ci := 8) (v := .int i_p0_kitchen_state_king) (C := RX8) (T := TX8) (N := 9) hx hb hts inX4_howMany_X8 hown hK hP 2 rfl rfl 7 (by decide) (hts _ mwX4_howMany_5) (fun _ h9 => h9) rfl dX4_howMany_9 ?_
  refine lv_topi (fun z2 ez => ?_)
  replace hf := bnd_s hf ez
  clear ez
  refine lv_istore_n (lv' := [(2, .int z2), (1, .int z1), (0, .ref a_p0)]) hx hb dX4_howMany_12 rfl hl (by decide) rfl (fun ls hl => ?_)
  refine lv_aload_n hx hb dX4_howMany_13 rfl (lv_at hl 2 rfl) ?_
  refine va_get (D := D) (ci := 4) (v := .ref a_p0_kitchen) (C := RX4) (T := TX4) (N := 2) hx hb hts inX4_howMany_X4 hown hK hP 0 rfl rfl 0 (by decide) (hts _ mwX4_howMany_1) (fun _ h9 => h9) rfl dX4_howMany_14 ?_
  refine va_get (D := D) (ci := 2) (v := .ref a_p0_kitchen_state) (C := RX2) (T := TX2) (N := 5) hx hb hts inX4_howMany_X2 hown hK hP 1 rfl rfl 1 (by decide) (hts _ mwX4_howMany_3) (fun _ h9 => h9) rfl dX4_howMany_17 ?_
  refine va_get (D := D) (ci := 8) (v := .int i_p0_kitchen_state_bone) (C := RX8) (T := TX8) (N := 9) hx hb hts inX4_howMany_X8 hown hK hP 2 rfl rfl 6 (by decide) (hts _ mwX4_howMany_6) (fun _ h9 => h9) rfl dX4_howMany_20 ?_
  refine lv_topi (fun z3 ez => ?_)
  replace hf := bnd_s hf ez
  clear ez
  refine lv_istore_n (lv' := [(3, .int z3), (2, .int z2), (1, .int z1), (0, .ref a_p0)]) hx hb dX4_howMany_23 rfl hl (by decide) rfl (fun ls hl => ?_)
  refine lv_iconst (v := (0 : Int32)) hx hb dX4_howMany_24 (by decide) ?_
  refine lv_topi (fun z4 ez => ?_)
  replace hf := bnd_s hf ez
  clear ez
  refine lv_istore (lv' := [(4, .int z4), (3, .int z3), (2, .int z2), (1, .int z1), (0, .ref a_p0)]) hx hb dX4_howMany_25 hl (by decide) rfl (fun ls hl => ?_)
  have hq := lq4_i hf
  clear hf
  obtain ⟨B9, eB9, NB9, hf⟩ := hq
  have hB9 : ∀ (n : Nat) (z5 : Int32) (z6 : Int32) (z7 : Int32) (z8 : Int32) (ls : Array Slot) (H : Heap) (locs : List Loc), lv_has ls 7 [(4, .int z5), (3, .int z6), (2, .int z7), (1, .int z8), (0, .ref a_p0)] → va_P D vwCl [(a_p0, .inr (4, [.ref a_p0_kitchen, .ref a_p0_fitting])), (a_p0_kitchen, .inr (2, [.ref a_p0_kitchen_rules, .ref a_p0_kitchen_state, .ref a_p0_kitchen_places, .ref a_p0_kitchen_holders, .ref a_p0_kitchen_stirred])), (a_p0_kitchen_state, .inr (8, [.ref a_p0_kitchen_state_pieces, .ref a_p0_kitchen_state_friends, .ref a_p0_kitchen_state_spoons, .ref a_p0_kitchen_state_eaten, .ref a_p0_kitchen_state_seen, .int i_p0_kitchen_state_seenDays, .int i_p0_kitchen_state_bone, .int i_p0_kitchen_state_king, .int i_p0_kitchen_state_days])), (a_p0_kitchen_state_seen, .inl (G 1, 6, .inl v_p0_kitchen_state_seen))] H → va_D A [(a_p0, .inr (4, [.ref a_p0_kitchen, .ref a_p0_fitting])), (a_p0_kitchen, .inr (2, [.ref a_p0_kitchen_rules, .ref a_p0_kitchen_state, .ref a_p0_kitchen_places, .ref a_p0_kitchen_holders, .ref a_p0_kitchen_stirred])), (a_p0_kitchen_state, .inr (8, [.ref a_p0_kitchen_state_pieces, .ref a_p0_kitchen_state_friends, .ref a_p0_kitchen_state_spoons, .ref a_p0_kitchen_state_eaten, .ref a_p0_kitchen_state_seen, .int i_p0_kitchen_state_seenDays, .int i_p0_kitchen_state_bone, .int i_p0_kitchen_state_king, .int i_p0_kitchen_state_days])), (a_p0_kitchen_state_seen, .inl (G 1, 6, .inl v_p0_kitchen_state_seen))] → va_S A s.heap H locs → lq4 B9 n z5 z6 z7 z8 = some r → W p l e rm_X4_howMany s m ([.ref a_p0] : List Value).toArray below meth c H locs 0 0 Q (F0 m 27 ls []) := by
    clear hf hl hP hD hS
    intro n
    induction n with
    | zero =>
      intro z5 z6 z7 z8 ls H locs hl hP hD hS hf
      exact (lq4_0 hf).elim
    | succ n ih27 =>
      intro z5 z6 z7 z8 ls H locs hl hP hD hS hf
      replace hf := lq4_s eB9 hf
      unfold B_X4_howMany_27 at hf
      refine lv_iload hx hb dX4_howMany_27 (lv_at hl 0 rfl) ?_
      refine lv_aload_n hx hb dX4_howMany_29 rfl (lv_at hl 4 rfl) ?_
      refine va_get (D := D) (ci := 4) (v := .ref a_p0_kitchen) (C := RX4) (T := TX4) (N := 2) hx hb hts inX4_howMany_X4 hown hK hP 0 rfl rfl 0 (by decide) (hts _ mwX4_howMany_1) (fun _ h9 => h9) rfl dX4_howMany_30 ?_
      refine va_get (D := D) (ci := 2) (v := .ref a_p0_kitchen_state) (C := RX2) (T := TX2) (N := 5) hx hb hts inX4_howMany_X2 hown hK hP 1 rfl rfl 1 (by decide) (hts _ mwX4_howMany_3) (fun _ h9 => h9) rfl dX4_howMany_33 ?_
      refine va_get (D := D) (ci := 8) (v := .int i_p0_kitchen_state_seenDays) (C := RX8) (T := TX8) (N := 9) hx hb hts inX4_howMany_X8 hown hK hP 2 rfl rfl 5 (by decide) (hts _ mwX4_howMany_7) (fun _ h9 => h9) rfl dX4_howMany_36 ?_
      refine lv_icmp_ge (tgt := 116) hx hb dX4_howMany_39 (by decide) (fun cc => ?_) (fun cc => ?_)
      ·
        replace hf := ite_t cc hf
        clear cc
        refine lv_iload_n hx hb dX4_howMany_116 rfl (lv_at hl 3 rfl) ?_
        obtain rfl := ou1 hf
        rw [hQ]
        exact W.iret hx hb hr (fun t ht hW => ⟨⟨_, (), rfl, rfl, by rw [ht]; exact hP, va_K.moved hW.alike hK, hD⟩, hS.F ht⟩) hS.2.2 dX4_howMany_117
      ·
        replace hf := ite_f cc hf
        clear cc
        refine lv_aload_n hx hb dX4_howMany_42 rfl (lv_at hl 4 rfl) ?_
        refine va_get (D := D) (ci := 4) (v := .ref a_p0_kitchen) (C := RX4) (T := TX4) (N := 2) hx hb hts inX4_howMany_X4 hown hK hP 0 rfl rfl 0 (by decide) (hts _ mwX4_howMany_1) (fun _ h9 => h9) rfl dX4_howMany_43 ?_
        refine va_get (D := D) (ci := 2) (v := .ref a_p0_kitchen_state) (C := RX2) (T := TX2) (N := 5) hx hb hts inX4_howMany_X2 hown hK hP 1 rfl rfl 1 (by decide) (hts _ mwX4_howMany_3) (fun _ h9 => h9) rfl dX4_howMany_46 ?_
        refine va_get (D := D) (ci := 8) (v := .ref a_p0_kitchen_state_seen) (C := RX8) (T := TX8) (N := 9) hx hb hts inX4_howMany_X8 hown hK hP 2 rfl rfl 4 (by decide) (hts _ mwX4_howMany_8) (fun _ h9 => h9) rfl dX4_howMany_49 ?_
        refine lv_iload hx hb dX4_howMany_52 (lv_at hl 0 rfl) ?_
        have hc := ck_c hf
        replace hf := ck_r hf
        refine va_iald hx hb hK hP 3 1 rfl rfl (ixB_in hc) dX4_howMany_54 ?_
        clear hc
        refine lv_topi (fun z10 ez => ?_)
        replace hf := bnd_s hf ez
        clear ez
        refine lv_istore (lv' := [(5, .int z10), (4, .int z5), (3, .int z6), (2, .int z7), (1, .int z8), (0, .ref a_p0)]) hx hb dX4_howMany_55 hl (by decide) rfl (fun ls hl => ?_)
        refine lv_aload_n hx hb dX4_howMany_57 rfl (lv_at hl 5 rfl) ?_
        refine va_get (D := D) (ci := 4) (v := .ref a_p0_kitchen) (C := RX4) (T := TX4) (N := 2) hx hb hts inX4_howMany_X4 hown hK hP 0 rfl rfl 0 (by decide) (hts _ mwX4_howMany_1) (fun _ h9 => h9) rfl dX4_howMany_58 ?_
        refine lv_iload_n hx hb dX4_howMany_61 rfl (lv_at hl 3 rfl) ?_
        cases hf
  exact hB9 _ _ _ _ _ _ _ _ (lv_sub hl [0, 1, 2, 3, 4] rfl) hP hD hS hf

noncomputable def f_X4_stirsOfDay (i_p0_kitchen_state_seenDays : Int32) (i_p0_kitchen_state_bone : Int32) (i_p0_kitchen_state_king : Int32) (v_p0_kitchen_state_seen : (Nat → Int32)) (v_p0_fitting : (Nat → Int32)) (x1 : Int32) : Option (Int32) := (jn (fun (z1 : Int32) => (bnd z1 (fun (z3 : Int32) => (if z3 = 0 then (some (0 : Int32)) else (bd1 (f_X4_howMany i_p0_kitchen_state_seenDays i_p0_kitchen_state_bone i_p0_kitchen_state_king v_p0_kitchen_state_seen) (fun (z4 : Int32) => (if z4 ≤ 0 then (some (0 : Int32)) else (ck (ixB x1 6) (some (v_p0_fitting (x1).toNatClampNeg)))))))))) (fun (J2 : Int32 → Option (Int32)) => (jn (J2 (0 : Int32)) (fun (J5 : Option (Int32)) => (if x1 < 0 then (J5) else (if i_p0_kitchen_state_seenDays ≤ x1 then (J5) else (J2 (1 : Int32))))))))
abbrev rm_X4_stirsOfDay : Room := { frames := 1, cells := 0, slots := 0, locals := 26 }
theorem inX4_stirsOfDay_X4 : ∀ w ∈ wsX40, w ∈ wsX4_stirsOfDay := by decide +kernel
theorem mwX4_stirsOfDay_1 : Cond.fieldLink RX4 9 "LadleKings$Past" "fitting" "[I" ∈ wsX4_stirsOfDay := by decide +kernel
theorem mwX4_stirsOfDay_2 : Cond.fieldLink RX4 15 "LadleKings$Past" "kitchen" "LLadleKings$Kitchen;" ∈ wsX4_stirsOfDay := by decide +kernel
theorem inX4_stirsOfDay_X2 : ∀ w ∈ wsX20, w ∈ wsX4_stirsOfDay := by decide +kernel
theorem mwX4_stirsOfDay_4 : Cond.fieldLink RX4 19 "LadleKings$Kitchen" "state" "LLadleKings$State;" ∈ wsX4_stirsOfDay := by decide +kernel
theorem inX4_stirsOfDay_X8 : ∀ w ∈ wsX80, w ∈ wsX4_stirsOfDay := by decide +kernel
theorem mwX4_stirsOfDay_6 : Cond.fieldLink RX4 34 "LadleKings$State" "seenDays" "I" ∈ wsX4_stirsOfDay := by decide +kernel
set_option maxHeartbeats 8000000 in
set_option maxRecDepth 100000 in
theorem c_X4_stirsOfDay (l : Launch) (D : va_G) (G : Nat → ClassId) (sz : Nat) (a_p0 : Nat) (a_p0_kitchen : Nat) (a_p0_fitting : Nat) (a_p0_kitchen_rules : Nat) (a_p0_kitchen_state : Nat) (a_p0_kitchen_places : Nat) (a_p0_kitchen_holders : Nat) (a_p0_kitchen_stirred : Nat) (a_p0_kitchen_state_pieces : Nat) (a_p0_kitchen_state_friends : Nat) (a_p0_kitchen_state_spoons : Nat) (a_p0_kitchen_state_eaten : Nat) (a_p0_kitchen_state_seen : Nat) (i_p0_kitchen_state_seenDays : Int32) (i_p0_kitchen_state_bone : Int32) (i_p0_kitchen_state_king : Int32) (i_p0_kitchen_state_days : Int32) (v_p0_kitchen_state_seen : (Nat → Int32)) (v_p0_fitting : (Nat → Int32)) (x1 : Int32) (r : Int32) (hf : f_X4_stirsOfDay i_p0_kitchen_state_seenDays i_p0_kitchen_state_bone i_p0_kitchen_state_king v_p0_kitchen_state_seen v_p0_fitting x1 = some r) : Met l yX4_stirsOfDay wsX4_stirsOfDay rm_X4_stirsOfDay (pcG D G [.ref a_p0, .int x1] sz [(a_p0, .inr (4, [.ref a_p0_kitchen, .ref a_p0_fitting])), (a_p0_kitchen, .inr (2, [.ref a_p0_kitchen_rules, .ref a_p0_kitchen_state, .ref a_p0_kitchen_places, .ref a_p0_kitchen_holders, .ref a_p0_kitchen_stirred])), (a_p0_kitchen_state, .inr (8, [.ref a_p0_kitchen_state_pieces, .ref a_p0_kitchen_state_friends, .ref a_p0_kitchen_state_spoons, .ref a_p0_kitchen_state_eaten, .ref a_p0_kitchen_state_seen, .int i_p0_kitchen_state_seenDays, .int i_p0_kitchen_state_bone, .int i_p0_kitchen_state_king, .int i_p0_kitchen_state_days])), (a_p0_kitchen_state_seen, .inl (G 1, 6, .inl v_p0_kitchen_state_seen)), (a_p0_fitting, .inl (G 1, 6, .inl v_p0_fitting))]) (qcI D G r [(a_p0, .inr (4, [.ref a_p0_kitchen, .ref a_p0_fitting])), (a_p0_kitchen, .inr (2, [.ref a_p0_kitchen_rules, .ref a_p0_kitchen_state, .ref a_p0_kitchen_places, .ref a_p0_kitchen_holders, .ref a_p0_kitchen_stirred])), (a_p0_kitchen_state, .inr (8, [.ref a_p0_kitchen_state_pieces, .ref a_p0_kitchen_state_friends, .ref a_p0_kitchen_state_spoons, .ref a_p0_kitchen_state_eaten, .ref a_p0_kitchen_state_seen, .int i_p0_kitchen_state_seenDays, .int i_p0_kitchen_state_bone, .int i_p0_kitchen_state_king, .int i_p0_kitchen_state_days])), (a_p0_kitchen_state_seen, .inl (G 1, 6, .inl v_p0_kitchen_state_seen)), (a_p0_fitting, .inl (G 1, 6, .inl v_p0_fitting))] (va_A [(a_p0, .inr (4, [.ref a_p0_kitchen, .ref a_p0_fitting])), (a_p0_kitchen, .inr (2, [.ref a_p0_kitchen_rules, .ref a_p0_kitchen_state, .ref a_p0_kitchen_places, .ref a_p0_kitchen_holders, .ref a_p0_kitchen_stirred])), (a_p0_kitchen_state, .inr (8, [.ref a_p0_kitchen_state_pieces, .ref a_p0_kitchen_state_friends, .ref a_p0_kitchen_state_spoons, .ref a_p0_kitchen_state_eaten, .ref a_p0_kitchen_state_seen, .int i_p0_kitchen_state_seenDays, .int i_p0_kitchen_state_bone, .int i_p0_kitchen_state_king, .int i_p0_kitchen_state_days])), (a_p0_kitchen_state_seen, .inl (G 1, 6, .inl v_p0_kitchen_state_seen)), (a_p0_fitting, .inl (G 1, 6, .inl v_p0_fitting))] sz)) 0 0 (va_A [(a_p0, .inr (4, [.ref a_p0_kitchen, .ref a_p0_fitting])), (a_p0_kitchen, .inr (2, [.ref a_p0_kitchen_rules, .ref a_p0_kitchen_state, .ref a_p0_kitchen_places, .ref a_p0_kitchen_holders, .ref a_p0_kitchen_stirred])), (a_p0_kitchen_state, .inr (8, [.ref a_p0_kitchen_state_pieces, .ref a_p0_kitchen_state_friends, .ref a_p0_kitchen_state_spoons, .ref a_p0_kitchen_state_eaten, .ref a_p0_kitchen_state_seen, .int i_p0_kitchen_state_seenDays, .int i_p0_kitchen_state_bone, .int i_p0_kitchen_state_king, .int i_p0_kitchen_state_days])), (a_p0_kitchen_state_seen, .inl (G 1, 6, .inl v_p0_kitchen_state_seen)), (a_p0_fitting, .inl (G 1, 6, .inl v_p0_fitting))] sz) := by
  refine Met.ofW (cc := cX4_stirsOfDay) (maxL := 3) (ret := (some .int)) (by decide) rfl ?_
  intro p e s m args below meth c s₁ B hml hv
  obtain ⟨rfl, hsz, hP, hK, hD0⟩ := hv
  have hx := B.exec
  have hb := B.bytes
  have hr := B.returns
  have hts := atoms_spec (ws := wsX4_stirsOfDay) B.pre
  have hown : s.vm.findClass RX4 = some m.cls := findClass_of_methodNamed B.named
  have hlocks := B.notSynchronized
  subst hsz
  have hD := hD0.self (sz := s.heap.size)
  generalize hAe : va_A [(a_p0, .inr (4, [.ref a_p0_kitchen, .ref a_p0_fitting])), (a_p0_kitchen, .inr (2, [.ref a_p0_kitchen_rules, .ref a_p0_kitchen_state, .ref a_p0_kitchen_places, .ref a_p0_kitchen_holders, .ref a_p0_kitchen_stirred])), (a_p0_kitchen_state, .inr (8, [.ref a_p0_kitchen_state_pieces, .ref a_p0_kitchen_state_friends, .ref a_p0_kitchen_state_spoons, .ref a_p0_kitchen_state_eaten, .ref a_p0_kitchen_state_seen, .int i_p0_kitchen_state_seenDays, .int i_p0_kitchen_state_bone, .int i_p0_kitchen_state_king, .int i_p0_kitchen_state_days])), (a_p0_kitchen_state_seen, .inl (G 1, 6, .inl v_p0_kitchen_state_seen)), (a_p0_fitting, .inl (G 1, 6, .inl v_p0_fitting))] s.heap.size = A at hD ⊢
  have hA : ∀ q : Nat, s.heap.size ≤ q → A q := fun q h => by rw [← hAe]; exact Or.inr h
  clear hAe hD0
  have hS : va_S A s.heap s.heap [] := va_S.rf
  have hl := lv_entry ([.ref a_p0, .int x1]) (n := 3) (Nat.le_of_ble_eq_true rfl)
  rw [lg_entry_eq]
  generalize (lg_sl ([.ref a_p0, .int x1]) ++ List.replicate (3 - (lg_sl ([.ref a_p0, .int x1])).length) Slot.unset).toArray = ls at hl ⊢
  have hl : lv_has ls 3 [(0, .ref a_p0), (1, .int x1)] := hl
  refine W_nameQ (fun Q hQ => ?_)
  obtain ⟨H, hH⟩ : ∃ H, H = s.heap := ⟨_, rfl⟩
  replace hS : va_S A s.heap H [] := by rw [hH]; exact hS
  replace hP : va_P D vwCl [(a_p0, .inr (4, [.ref a_p0_kitchen, .ref a_p0_fitting])), (a_p0_kitchen, .inr (2, [.ref a_p0_kitchen_rules, .ref a_p0_kitchen_state, .ref a_p0_kitchen_places, .ref a_p0_kitchen_holders, .ref a_p0_kitchen_stirred])), (a_p0_kitchen_state, .inr (8, [.ref a_p0_kitchen_state_pieces, .ref a_p0_kitchen_state_friends, .ref a_p0_kitchen_state_spoons, .ref a_p0_kitchen_state_eaten, .ref a_p0_kitchen_state_seen, .int i_p0_kitchen_state_seenDays, .int i_p0_kitchen_state_bone, .int i_p0_kitchen_state_king, .int i_p0_kitchen_state_days])), (a_p0_kitchen_state_seen, .inl (G 1, 6, .inl v_p0_kitchen_state_seen)), (a_p0_fitting, .inl (G 1, 6, .inl v_p0_fitting))] H := by rw [hH]; exact hP
  rw [← hH]
  clear hH
  unfold f_X4_stirsOfDay at hf
  refine lv_iload_n hx hb dX4_stirsOfDay_0 rfl (lv_at hl 1 rfl) ?_
  have hq := jn_i hf
  clear hf
  obtain ⟨J2, eJ2, hf⟩ := hq
  have hJ2 : ∀ (z1 : Int32) (ls : Array Slot) (H : Heap) (locs : List Loc), lv_has ls 3 [(0, .ref a_p0), (1, .int x1)] → va_P D vwCl [(a_p0, .inr (4, [.ref a_p0_kitchen, .ref a_p0_fitting])), (a_p0_kitchen, .inr (2, [.ref a_p0_kitchen_rules, .ref a_p0_kitchen_state, .ref a_p0_kitchen_places, .ref a_p0_kitchen_holders, .ref a_p0_kitchen_stirred])), (a_p0_kitchen_state, .inr (8, [.ref a_p0_kitchen_state_pieces, .ref a_p0_kitchen_state_friends, .ref a_p0_kitchen_state_spoons, .ref a_p0_kitchen_state_eaten, .ref a_p0_kitchen_state_seen, .int i_p0_kitchen_state_seenDays, .int i_p0_kitchen_state_bone, .int i_p0_kitchen_state_king, .int i_p0_kitchen_state_days])), (a_p0_kitchen_state_seen, .inl (G 1, 6, .inl v_p0_kitchen_state_seen)), (a_p0_fitting, .inl (G 1, 6, .inl v_p0_fitting))] H → va_D A [(a_p0, .inr (4, [.ref a_p0_kitchen, .ref a_p0_fitting])), (a_p0_kitchen, .inr (2, [.ref a_p0_kitchen_rules, .ref a_p0_kitchen_state, .ref a_p0_kitchen_places, .ref a_p0_kitchen_holders, .ref a_p0_kitchen_stirred])), (a_p0_kitchen_state, .inr (8, [.ref a_p0_kitchen_state_pieces, .ref a_p0_kitchen_state_friends, .ref a_p0_kitchen_state_spoons, .ref a_p0_kitchen_state_eaten, .ref a_p0_kitchen_state_seen, .int i_p0_kitchen_state_seenDays, .int i_p0_kitchen_state_bone, .int i_p0_kitchen_state_king, .int i_p0_kitchen_state_days])), (a_p0_kitchen_state_seen, .inl (G 1, 6, .inl v_p0_kitchen_state_seen)), (a_p0_fitting, .inl (G 1, 6, .inl v_p0_fitting))] → va_S A s.heap H locs → J2 z1 = some r → W p l e rm_X4_stirsOfDay s m ([.ref a_p0, .int x1] : List Value).toArray below meth c H locs 0 0 Q (F0 m 23 ls [.int z1]) := by
    clear hf hl hP hD hS
    intro z1 ls H locs hl hP hD hS hf
    replace hf := jn1_s eJ2 hf
    refine lv_topi (fun z3 ez => ?_)
    replace hf := bnd_s hf ez
    clear ez
    refine lv_istore_n (lv' := [(2, .int z3), (0, .ref a_p0), (1, .int x1)]) hx hb dX4_stirsOfDay_23 rfl hl (by decide) rfl (fun ls hl => ?_)
    refine lv_iload_n hx hb dX4_stirsOfDay_24 rfl (lv_at hl 0 rfl) ?_
    refine lv_if_eq (tgt := 44) hx hb dX4_stirsOfDay_25 (by decide) (fun cc => ?_) (fun cc => ?_)
    ·
      replace hf := ite_t cc hf
      clear cc
      refine lv_iconst (v := (0 : Int32)) hx hb dX4_stirsOfDay_44 (by decide) ?_
      obtain rfl := ou1 hf
      rw [hQ]
      exact W.iret hx hb hr (fun t ht hW => ⟨⟨_, (), rfl, rfl, by rw [ht]; exact hP, va_K.moved hW.alike hK, hD⟩, hS.F ht⟩) hS.2.2 dX4_stirsOfDay_45
    ·
      replace hf := ite_f cc hf
      clear cc
      refine lv_aload_n hx hb dX4_stirsOfDay_28 rfl (lv_at hl 1 rfl) ?_
      have hq := bd1_s hf
      clear hf
      obtain ⟨z4, hcall, hf⟩ := hq
      refine gcI (ws' := [(a_p0, .inr (4, [.ref a_p0_kitchen, .ref a_p0_fitting])), (a_p0_kitchen, .inr (2, [.ref a_p0_kitchen_rules, .ref a_p0_kitchen_state, .ref a_p0_kitchen_places, .ref a_p0_kitchen_holders, .ref a_p0_kitchen_stirred])), (a_p0_kitchen_state, .inr (8, [.ref a_p0_kitchen_state_pieces, .ref a_p0_kitchen_state_friends, .ref a_p0_kitchen_state_spoons, .ref a_p0_kitchen_state_eaten, .ref a_p0_kitchen_state_seen, .int i_p0_kitchen_state_seenDays, .int i_p0_kitchen_state_bone, .int i_p0_kitchen_state_king, .int i_p0_kitchen_state_days])), (a_p0_kitchen_state_seen, .inl (G 1, 6, .inl v_p0_kitchen_state_seen)), (a_p0_fitting, .inl (G 1, 6, .inl v_p0_fitting))]) (va_runV (As := []) (rest := []) ⟨hx, hb, hml, hown, hts⟩ (c_X4_howMany (l := l) (D := D) (G := G) (sz := H.size) (a_p0 := a_p0) (a_p0_kitchen := a_p0_kitchen) (a_p0_fitting := a_p0_fitting) (a_p0_kitchen_rules := a_p0_kitchen_rules) (a_p0_kitchen_state := a_p0_kitchen_state) (a_p0_kitchen_places := a_p0_kitchen_places) (a_p0_kitchen_holders := a_p0_kitchen_holders) (a_p0_kitchen_stirred := a_p0_kitchen_stirred) (a_p0_kitchen_state_pieces := a_p0_kitchen_state_pieces) (a_p0_kitchen_state_friends := a_p0_kitchen_state_friends) (a_p0_kitchen_state_spoons := a_p0_kitchen_state_spoons) (a_p0_kitchen_state_eaten := a_p0_kitchen_state_eaten) (a_p0_kitchen_state_seen := a_p0_kitchen_state_seen) (i_p0_kitchen_state_seenDays := i_p0_kitchen_state_seenDays) (i_p0_kitchen_state_bone := i_p0_kitchen_state_bone) (i_p0_kitchen_state_king := i_p0_kitchen_state_king) (i_p0_kitchen_state_days := i_p0_kitchen_state_days) (v_p0_kitchen_state_seen := v_p0_kitchen_state_seen) (r := z4) (hf := hcall)) (cwV 0 hts gX4_stirsOfDay_X4_howMany rfl rfl rfl (by decide +kernel) ⟨Nat.le_of_ble_eq_true rfl, Nat.le_of_ble_eq_true rfl⟩) (preG_V (ci := 4) (hP.sub [0, 1, 2, 3] rfl) (hD.sub [0, 1, 2, 3] rfl rfl) hK rfl rfl) rfl rfl hl.1 rfl (lv_room (Nat.le_of_ble_eq_true rfl)) dX4_stirsOfDay_29 ⟨Nat.le_of_ble_eq_true rfl, Nat.le_of_ble_eq_true rfl⟩) hP hD hS hA [0, 1, 2, 3] [4] [1, 2, 3, 4, 0] rfl rfl rfl (by decide) rfl rfl rfl (fun H locs hP hD hS => ?_)
      clear hcall
      refine lv_if_le (tgt := 44) hx hb dX4_stirsOfDay_32 (by decide) (fun cc => ?_) (fun cc => ?_)
      ·
        replace hf := ite_t cc hf
        clear cc
        refine lv_iconst (v := (0 : Int32)) hx hb dX4_stirsOfDay_44 (by decide) ?_
        obtain rfl := ou1 hf
        rw [hQ]
        exact W.iret hx hb hr (fun t ht hW => ⟨⟨_, (), rfl, rfl, by rw [ht]; exact hP, va_K.moved hW.alike hK, hD⟩, hS.F ht⟩) hS.2.2 dX4_stirsOfDay_45
      ·
        replace hf := ite_f cc hf
        clear cc
        refine lv_aload_n hx hb dX4_stirsOfDay_35 rfl (lv_at hl 1 rfl) ?_
        refine va_get (D := D) (ci := 4) (v := .ref a_p0_fitting) (C := RX4) (T := TX4) (N := 2) hx hb hts inX4_stirsOfDay_X4 hown hK hP 0 rfl rfl 1 (by decide) (hts _ mwX4_stirsOfDay_1) (fun _ h9 => h9) rfl dX4_stirsOfDay_36 ?_
        refine lv_iload_n hx hb dX4_stirsOfDay_39 rfl (lv_at hl 2 rfl) ?_
        have hc := ck_c hf
        replace hf := ck_r hf
        refine va_iald hx hb hK hP 4 1 rfl rfl (ixB_in hc) dX4_stirsOfDay_40 ?_
        clear hc
        refine lv_goto (tgt := 45) hx hb dX4_stirsOfDay_41 (by decide) ?_
        obtain rfl := ou1 hf
        rw [hQ]
        exact W.iret hx hb hr (fun t ht hW => ⟨⟨_, (), rfl, rfl, by rw [ht]; exact hP, va_K.moved hW.alike hK, hD⟩, hS.F ht⟩) hS.2.2 dX4_stirsOfDay_45
  have hq := jn_i hf
  clear hf
  obtain ⟨J5, eJ5, hf⟩ := hq
  have hJ5 : ∀  (ls : Array Slot) (H : Heap) (locs : List Loc), lv_has ls 3 [(0, .ref a_p0), (1, .int x1)] → va_P D vwCl [(a_p0, .inr (4, [.ref a_p0_kitchen, .ref a_p0_fitting])), (a_p0_kitchen, .inr (2, [.ref a_p0_kitchen_rules, .ref a_p0_kitchen_state, .ref a_p0_kitchen_places, .ref a_p0_kitchen_holders, .ref a_p0_kitchen_stirred])), (a_p0_kitchen_state, .inr (8, [.ref a_p0_kitchen_state_pieces, .ref a_p0_kitchen_state_friends, .ref a_p0_kitchen_state_spoons, .ref a_p0_kitchen_state_eaten, .ref a_p0_kitchen_state_seen, .int i_p0_kitchen_state_seenDays, .int i_p0_kitchen_state_bone, .int i_p0_kitchen_state_king, .int i_p0_kitchen_state_days])), (a_p0_kitchen_state_seen, .inl (G 1, 6, .inl v_p0_kitchen_state_seen)), (a_p0_fitting, .inl (G 1, 6, .inl v_p0_fitting))] H → va_D A [(a_p0, .inr (4, [.ref a_p0_kitchen, .ref a_p0_fitting])), (a_p0_kitchen, .inr (2, [.ref a_p0_kitchen_rules, .ref a_p0_kitchen_state, .ref a_p0_kitchen_places, .ref a_p0_kitchen_holders, .ref a_p0_kitchen_stirred])), (a_p0_kitchen_state, .inr (8, [.ref a_p0_kitchen_state_pieces, .ref a_p0_kitchen_state_friends, .ref a_p0_kitchen_state_spoons, .ref a_p0_kitchen_state_eaten, .ref a_p0_kitchen_state_seen, .int i_p0_kitchen_state_seenDays, .int i_p0_kitchen_state_bone, .int i_p0_kitchen_state_king, .int i_p0_kitchen_state_days])), (a_p0_kitchen_state_seen, .inl (G 1, 6, .inl v_p0_kitchen_state_seen)), (a_p0_fitting, .inl (G 1, 6, .inl v_p0_fitting))] → va_S A s.heap H locs → J5  = some r → W p l e rm_X4_stirsOfDay s m ([.ref a_p0, .int x1] : List Value).toArray below meth c H locs 0 0 Q (F0 m 22 ls []) := by
    clear hf hl hP hD hS
    intro  ls H locs hl hP hD hS hf
    replace hf := jn0_s eJ5 hf
    refine lv_iconst (v := (0 : Int32)) hx hb dX4_stirsOfDay_22 (by decide) ?_
    exact hJ2 _ _ _ _ (lv_sub hl [0, 1] rfl) hP hD hS hf
  refine lv_if_lt (tgt := 22) hx hb dX4_stirsOfDay_1 (by decide) (fun cc => ?_) (fun cc => ?_)
  ·
    replace hf := ite_t cc hf
    clear cc
    exact hJ5  _ _ _ (lv_sub hl [0, 1] rfl) hP hD hS hf
  ·
    replace hf := ite_f cc hf
    clear cc
    refine lv_iload_n hx hb dX4_stirsOfDay_4 rfl (lv_at hl 1 rfl) ?_
    refine lv_aload_n hx hb dX4_stirsOfDay_5 rfl (lv_at hl 0 rfl) ?_
    refine va_get (D := D) (ci := 4) (v := .ref a_p0_kitchen) (C := RX4) (T := TX4) (N := 2) hx hb hts inX4_stirsOfDay_X4 hown hK hP 0 rfl rfl 0 (by decide) (hts _ mwX4_stirsOfDay_2) (fun _ h9 => h9) rfl dX4_stirsOfDay_6 ?_
    refine va_get (D := D) (ci := 2) (v := .ref a_p0_kitchen_state) (C := RX2) (T := TX2) (N := 5) hx hb hts inX4_stirsOfDay_X2 hown hK hP 1 rfl rfl 1 (by decide) (hts _ mwX4_stirsOfDay_4) (fun _ h9 => h9) rfl dX4_stirsOfDay_9 ?_
    refine va_get (D := D) (ci := 8) (v := .int i_p0_kitchen_state_seenDays) (C := RX8) (T := TX8) (N := 9) hx hb hts inX4_stirsOfDay_X8 hown hK hP 2 rfl rfl 5 (by decide) (hts _ mwX4_stirsOfDay_6) (fun _ h9 => h9) rfl dX4_stirsOfDay_12 ?_
    refine lv_icmp_ge (tgt := 22) hx hb dX4_stirsOfDay_15 (by decide) (fun cc => ?_) (fun cc => ?_)
    ·
      replace hf := ite_t cc hf
      clear cc
      exact hJ5  _ _ _ (lv_sub hl [0, 1] rfl) hP hD hS hf
    ·
      replace hf := ite_f cc hf
      clear cc
      refine lv_iconst (v := (1 : Int32)) hx hb dX4_stirsOfDay_18 (by decide) ?_
      refine lv_goto (tgt := 23) hx hb dX4_stirsOfDay_19 (by decide) ?_
      exact hJ2 _ _ _ _ (lv_sub hl [0, 1] rfl) hP hD hS hf

noncomputable def B_X4_firstStirOfDay_8 (i_p0_kitchen_rules_stirs : Int32) (z2 : Int32) (again8 : Int32 → Option (Int32)) (z4 : Int32) : Option (Int32) := (if i_p0_kitchen_rules_stirs ≤ z4 then (some (-4 : Int32)) else (if ((z2 >>> (z4 &&& 31)) &&& (1 : Int32)) = 0 then (bnd (z4 + (1 : Int32)) (fun (z6 : Int32) => (again8 z6))) else (some z4)))
noncomputable def f_X4_firstStirOfDay (i_p0_kitchen_rules_stirs : Int32) (i_p0_kitchen_state_seenDays : Int32) (i_p0_kitchen_state_bone : Int32) (i_p0_kitchen_state_king : Int32) (v_p0_kitchen_state_seen : (Nat → Int32)) (v_p0_fitting : (Nat → Int32)) (x1 : Int32) : Option (Int32) := (bd1 (f_X4_stirsOfDay i_p0_kitchen_state_seenDays i_p0_kitchen_state_bone i_p0_kitchen_state_king v_p0_kitchen_state_seen v_p0_fitting x1) (fun (z1 : Int32) => (bnd z1 (fun (z2 : Int32) => (bnd (0 : Int32) (fun (z3 : Int32) => (lq1 (B_X4_firstStirOfDay_8 i_p0_kitchen_rules_stirs z2) 1000 z3)))))))
abbrev rm_X4_firstStirOfDay : Room := { frames := 2, cells := 0, slots := 0, locals := 48 }
theorem inX4_firstStirOfDay_X4 : ∀ w ∈ wsX40, w ∈ wsX4_firstStirOfDay := by decide +kernel
theorem mwX4_firstStirOfDay_1 : Cond.fieldLink RX4 15 "LadleKings$Past" "kitchen" "LLadleKings$Kitchen;" ∈ wsX4_firstStirOfDay := by decide +kernel
theorem inX4_firstStirOfDay_X2 : ∀ w ∈ wsX20, w ∈ wsX4_firstStirOfDay := by decide +kernel
theorem mwX4_firstStirOfDay_3 : Cond.fieldLink RX4 57 "LadleKings$Kitchen" "rules" "LLadleKings$Rules;" ∈ wsX4_firstStirOfDay := by decide +kernel
theorem inX4_firstStirOfDay_X6 : ∀ w ∈ wsX60, w ∈ wsX4_firstStirOfDay := by decide +kernel
theorem mwX4_firstStirOfDay_5 : Cond.fieldLink RX4 61 "LadleKings$Rules" "stirs" "I" ∈ wsX4_firstStirOfDay := by decide +kernel
set_option maxHeartbeats 8000000 in
set_option maxRecDepth 100000 in
theorem c_X4_firstStirOfDay (l : Launch) (D : va_G) (G : Nat → ClassId) (sz : Nat) (a_p0 : Nat) (a_p0_kitchen : Nat) (a_p0_fitting : Nat) (a_p0_kitchen_rules : Nat) (a_p0_kitchen_state : Nat) (a_p0_kitchen_places : Nat) (a_p0_kitchen_holders : Nat) (a_p0_kitchen_stirred : Nat) (a_p0_kitchen_rules_need : Nat) (a_p0_kitchen_rules_kind : Nat) (a_p0_kitchen_rules_first : Nat) (a_p0_kitchen_rules_second : Nat) (a_p0_kitchen_rules_after : Nat) (a_p0_kitchen_state_pieces : Nat) (a_p0_kitchen_state_friends : Nat) (a_p0_kitchen_state_spoons : Nat) (a_p0_kitchen_state_eaten : Nat) (a_p0_kitchen_state_seen : Nat) (i_p0_kitchen_rules_seats : Int32) (i_p0_kitchen_rules_stirs : Int32) (i_p0_kitchen_state_seenDays : Int32) (i_p0_kitchen_state_bone : Int32) (i_p0_kitchen_state_king : Int32) (i_p0_kitchen_state_days : Int32) (v_p0_kitchen_state_seen : (Nat → Int32)) (v_p0_fitting : (Nat → Int32)) (x1 : Int32) (r : Int32) (hf : f_X4_firstStirOfDay i_p0_kitchen_rules_stirs i_p0_kitchen_state_seenDays i_p0_kitchen_state_bone i_p0_kitchen_state_king v_p0_kitchen_state_seen v_p0_fitting x1 = some r) : Met l yX4_firstStirOfDay wsX4_firstStirOfDay rm_X4_firstStirOfDay (pcG D G [.ref a_p0, .int x1] sz [(a_p0, .inr (4, [.ref a_p0_kitchen, .ref a_p0_fitting])), (a_p0_kitchen, .inr (2, [.ref a_p0_kitchen_rules, .ref a_p0_kitchen_state, .ref a_p0_kitchen_places, .ref a_p0_kitchen_holders, .ref a_p0_kitchen_stirred])), (a_p0_kitchen_rules, .inr (6, [.int i_p0_kitchen_rules_seats, .int i_p0_kitchen_rules_stirs, .ref a_p0_kitchen_rules_need, .ref a_p0_kitchen_rules_kind, .ref a_p0_kitchen_rules_first, .ref a_p0_kitchen_rules_second, .ref a_p0_kitchen_rules_after])), (a_p0_kitchen_state, .inr (8, [.ref a_p0_kitchen_state_pieces, .ref a_p0_kitchen_state_friends, .ref a_p0_kitchen_state_spoons, .ref a_p0_kitchen_state_eaten, .ref a_p0_kitchen_state_seen, .int i_p0_kitchen_state_seenDays, .int i_p0_kitchen_state_bone, .int i_p0_kitchen_state_king, .int i_p0_kitchen_state_days])), (a_p0_kitchen_state_seen, .inl (G 1, 6, .inl v_p0_kitchen_state_seen)), (a_p0_fitting, .inl (G 1, 6, .inl v_p0_fitting))]) (qcI D G r [(a_p0, .inr (4, [.ref a_p0_kitchen, .ref a_p0_fitting])), (a_p0_kitchen, .inr (2, [.ref a_p0_kitchen_rules, .ref a_p0_kitchen_state, .ref a_p0_kitchen_places, .ref a_p0_kitchen_holders, .ref a_p0_kitchen_stirred])), (a_p0_kitchen_rules, .inr (6, [.int i_p0_kitchen_rules_seats, .int i_p0_kitchen_rules_stirs, .ref a_p0_kitchen_rules_need, .ref a_p0_kitchen_rules_kind, .ref a_p0_kitchen_rules_first, .ref a_p0_kitchen_rules_second, .ref a_p0_kitchen_rules_after])), (a_p0_kitchen_state, .inr (8, [.ref a_p0_kitchen_state_pieces, .ref a_p0_kitchen_state_friends, .ref a_p0_kitchen_state_spoons, .ref a_p0_kitchen_state_eaten, .ref a_p0_kitchen_state_seen, .int i_p0_kitchen_state_seenDays, .int i_p0_kitchen_state_bone, .int i_p0_kitchen_state_king, .int i_p0_kitchen_state_days])), (a_p0_kitchen_state_seen, .inl (G 1, 6, .inl v_p0_kitchen_state_seen)), (a_p0_fitting, .inl (G 1, 6, .inl v_p0_fitting))] (va_A [(a_p0, .inr (4, [.ref a_p0_kitchen, .ref a_p0_fitting])), (a_p0_kitchen, .inr (2, [.ref a_p0_kitchen_rules, .ref a_p0_kitchen_state, .ref a_p0_kitchen_places, .ref a_p0_kitchen_holders, .ref a_p0_kitchen_stirred])), (a_p0_kitchen_rules, .inr (6, [.int i_p0_kitchen_rules_seats, .int i_p0_kitchen_rules_stirs, .ref a_p0_kitchen_rules_need, .ref a_p0_kitchen_rules_kind, .ref a_p0_kitchen_rules_first, .ref a_p0_kitchen_rules_second, .ref a_p0_kitchen_rules_after])), (a_p0_kitchen_state, .inr (8, [.ref a_p0_kitchen_state_pieces, .ref a_p0_kitchen_state_friends, .ref a_p0_kitchen_state_spoons, .ref a_p0_kitchen_state_eaten, .ref a_p0_kitchen_state_seen, .int i_p0_kitchen_state_seenDays, .int i_p0_kitchen_state_bone, .int i_p0_kitchen_state_king, .int i_p0_kitchen_state_days])), (a_p0_kitchen_state_seen, .inl (G 1, 6, .inl v_p0_kitchen_state_seen)), (a_p0_fitting, .inl (G 1, 6, .inl v_p0_fitting))] sz)) 0 0 (va_A [(a_p0, .inr (4, [.ref a_p0_kitchen, .ref a_p0_fitting])), (a_p0_kitchen, .inr (2, [.ref a_p0_kitchen_rules, .ref a_p0_kitchen_state, .ref a_p0_kitchen_places, .ref a_p0_kitchen_holders, .ref a_p0_kitchen_stirred])), (a_p0_kitchen_rules, .inr (6, [.int i_p0_kitchen_rules_seats, .int i_p0_kitchen_rules_stirs, .ref a_p0_kitchen_rules_need, .ref a_p0_kitchen_rules_kind, .ref a_p0_kitchen_rules_first, .ref a_p0_kitchen_rules_second, .ref a_p0_kitchen_rules_after])), (a_p0_kitchen_state, .inr (8, [.ref a_p0_kitchen_state_pieces, .ref a_p0_kitchen_state_friends, .ref a_p0_kitchen_state_spoons, .ref a_p0_kitchen_state_eaten, .ref a_p0_kitchen_state_seen, .int i_p0_kitchen_state_seenDays, .int i_p0_kitchen_state_bone, .int i_p0_kitchen_state_king, .int i_p0_kitchen_state_days])), (a_p0_kitchen_state_seen, .inl (G 1, 6, .inl v_p0_kitchen_state_seen)), (a_p0_fitting, .inl (G 1, 6, .inl v_p0_fitting))] sz) := by
  refine Met.ofW (cc := cX4_firstStirOfDay) (maxL := 4) (ret := (some .int)) (by decide) rfl ?_
  intro p e s m args below meth c s₁ B hml hv
  obtain ⟨rfl, hsz, hP, hK, hD0⟩ := hv
  have hx := B.exec
  have hb := B.bytes
  have hr := B.returns
  have hts := atoms_spec (ws := wsX4_firstStirOfDay) B.pre
  have hown : s.vm.findClass RX4 = some m.cls := findClass_of_methodNamed B.named
  have hlocks := B.notSynchronized
  subst hsz
  have hD := hD0.self (sz := s.heap.size)
  generalize hAe : va_A [(a_p0, .inr (4, [.ref a_p0_kitchen, .ref a_p0_fitting])), (a_p0_kitchen, .inr (2, [.ref a_p0_kitchen_rules, .ref a_p0_kitchen_state, .ref a_p0_kitchen_places, .ref a_p0_kitchen_holders, .ref a_p0_kitchen_stirred])), (a_p0_kitchen_rules, .inr (6, [.int i_p0_kitchen_rules_seats, .int i_p0_kitchen_rules_stirs, .ref a_p0_kitchen_rules_need, .ref a_p0_kitchen_rules_kind, .ref a_p0_kitchen_rules_first, .ref a_p0_kitchen_rules_second, .ref a_p0_kitchen_rules_after])), (a_p0_kitchen_state, .inr (8, [.ref a_p0_kitchen_state_pieces, .ref a_p0_kitchen_state_friends, .ref a_p0_kitchen_state_spoons, .ref a_p0_kitchen_state_eaten, .ref a_p0_kitchen_state_seen, .int i_p0_kitchen_state_seenDays, .int i_p0_kitchen_state_bone, .int i_p0_kitchen_state_king, .int i_p0_kitchen_state_days])), (a_p0_kitchen_state_seen, .inl (G 1, 6, .inl v_p0_kitchen_state_seen)), (a_p0_fitting, .inl (G 1, 6, .inl v_p0_fitting))] s.heap.size = A at hD ⊢
  have hA : ∀ q : Nat, s.heap.size ≤ q → A q := fun q h => by rw [← hAe]; exact Or.inr h
  clear hAe hD0
  have hS : va_S A s.heap s.heap [] := va_S.rf
  have hl := lv_entry ([.ref a_p0, .int x1]) (n := 4) (Nat.le_of_ble_eq_true rfl)
  rw [lg_entry_eq]
  generalize (lg_sl ([.ref a_p0, .int x1]) ++ List.replicate (4 - (lg_sl ([.ref a_p0, .int x1])).length) Slot.unset).toArray = ls at hl ⊢
  have hl : lv_has ls 4 [(0, .ref a_p0), (1, .int x1)] := hl
  refine W_nameQ (fun Q hQ => ?_)
  obtain ⟨H, hH⟩ : ∃ H, H = s.heap := ⟨_, rfl⟩
  replace hS : va_S A s.heap H [] := by rw [hH]; exact hS
  replace hP : va_P D vwCl [(a_p0, .inr (4, [.ref a_p0_kitchen, .ref a_p0_fitting])), (a_p0_kitchen, .inr (2, [.ref a_p0_kitchen_rules, .ref a_p0_kitchen_state, .ref a_p0_kitchen_places, .ref a_p0_kitchen_holders, .ref a_p0_kitchen_stirred])), (a_p0_kitchen_rules, .inr (6, [.int i_p0_kitchen_rules_seats, .int i_p0_kitchen_rules_stirs, .ref a_p0_kitchen_rules_need, .ref a_p0_kitchen_rules_kind, .ref a_p0_kitchen_rules_first, .ref a_p0_kitchen_rules_second, .ref a_p0_kitchen_rules_after])), (a_p0_kitchen_state, .inr (8, [.ref a_p0_kitchen_state_pieces, .ref a_p0_kitchen_state_friends, .ref a_p0_kitchen_state_spoons, .ref a_p0_kitchen_state_eaten, .ref a_p0_kitchen_state_seen, .int i_p0_kitchen_state_seenDays, .int i_p0_kitchen_state_bone, .int i_p0_kitchen_state_king, .int i_p0_kitchen_state_days])), (a_p0_kitchen_state_seen, .inl (G 1, 6, .inl v_p0_kitchen_state_seen)), (a_p0_fitting, .inl (G 1, 6, .inl v_p0_fitting))] H := by rw [hH]; exact hP
  rw [← hH]
  clear hH
  unfold f_X4_firstStirOfDay at hf
  refine lv_aload_n hx hb dX4_firstStirOfDay_0 rfl (lv_at hl 0 rfl) ?_
  refine lv_iload_n hx hb dX4_firstStirOfDay_1 rfl (lv_at hl 1 rfl) ?_
  have hq := bd1_s hf
  clear hf
  obtain ⟨z1, hcall, hf⟩ := hq
  refine gcI (ws' := [(a_p0, .inr (4, [.ref a_p0_kitchen, .ref a_p0_fitting])), (a_p0_kitchen, .inr (2, [.ref a_p0_kitchen_rules, .ref a_p0_kitchen_state, .ref a_p0_kitchen_places, .ref a_p0_kitchen_holders, .ref a_p0_kitchen_stirred])), (a_p0_kitchen_rules, .inr (6, [.int i_p0_kitchen_rules_seats, .int i_p0_kitchen_rules_stirs, .ref a_p0_kitchen_rules_need, .ref a_p0_kitchen_rules_kind, .ref a_p0_kitchen_rules_first, .ref a_p0_kitchen_rules_second, .ref a_p0_kitchen_rules_after])), (a_p0_kitchen_state, .inr (8, [.ref a_p0_kitchen_state_pieces, .ref a_p0_kitchen_state_friends, .ref a_p0_kitchen_state_spoons, .ref a_p0_kitchen_state_eaten, .ref a_p0_kitchen_state_seen, .int i_p0_kitchen_state_seenDays, .int i_p0_kitchen_state_bone, .int i_p0_kitchen_state_king, .int i_p0_kitchen_state_days])), (a_p0_kitchen_state_seen, .inl (G 1, 6, .inl v_p0_kitchen_state_seen)), (a_p0_fitting, .inl (G 1, 6, .inl v_p0_fitting))]) (va_runV (As := [.int x1]) (rest := []) ⟨hx, hb, hml, hown, hts⟩ (c_X4_stirsOfDay (l := l) (D := D) (G := G) (sz := H.size) (a_p0 := a_p0) (a_p0_kitchen := a_p0_kitchen) (a_p0_fitting := a_p0_fitting) (a_p0_kitchen_rules := a_p0_kitchen_rules) (a_p0_kitchen_state := a_p0_kitchen_state) (a_p0_kitchen_places := a_p0_kitchen_places) (a_p0_kitchen_holders := a_p0_kitchen_holders) (a_p0_kitchen_stirred := a_p0_kitchen_stirred) (a_p0_kitchen_state_pieces := a_p0_kitchen_state_pieces) (a_p0_kitchen_state_friends := a_p0_kitchen_state_friends) (a_p0_kitchen_state_spoons := a_p0_kitchen_state_spoons) (a_p0_kitchen_state_eaten := a_p0_kitchen_state_eaten) (a_p0_kitchen_state_seen := a_p0_kitchen_state_seen) (i_p0_kitchen_state_seenDays := i_p0_kitchen_state_seenDays) (i_p0_kitchen_state_bone := i_p0_kitchen_state_bone) (i_p0_kitchen_state_king := i_p0_kitchen_state_king) (i_p0_kitchen_state_days := i_p0_kitchen_state_days) (v_p0_kitchen_state_seen := v_p0_kitchen_state_seen) (v_p0_fitting := v_p0_fitting) (x1 := x1) (r := z1) (hf := hcall)) (cwV 1 hts gX4_firstStirOfDay_X4_stirsOfDay rfl rfl rfl (by decide +kernel) ⟨Nat.le_of_ble_eq_true rfl, Nat.le_of_ble_eq_true rfl⟩) (preG_V (ci := 4) (hP.sub [0, 1, 3, 4, 5] rfl) (hD.sub [0, 1, 3, 4, 5] rfl rfl) hK rfl rfl) rfl rfl hl.1 rfl (lv_room (Nat.le_of_ble_eq_true rfl)) dX4_firstStirOfDay_2 ⟨Nat.le_of_ble_eq_true rfl, Nat.le_of_ble_eq_true rfl⟩) hP hD hS hA [0, 1, 3, 4, 5] [2] [1, 2, 0, 3, 4, 5] rfl rfl rfl (by decide) rfl rfl rfl (fun H locs hP hD hS => ?_)
  clear hcall
  refine lv_topi (fun z2 ez => ?_)
  replace hf := bnd_s hf ez
  clear ez
  refine lv_istore_n (lv' := [(2, .int z2), (0, .ref a_p0), (1, .int x1)]) hx hb dX4_firstStirOfDay_5 rfl hl (by decide) rfl (fun ls hl => ?_)
  refine lv_iconst (v := (0 : Int32)) hx hb dX4_firstStirOfDay_6 (by decide) ?_
  refine lv_topi (fun z3 ez => ?_)
  replace hf := bnd_s hf ez
  clear ez
  refine lv_istore_n (lv' := [(3, .int z3), (2, .int z2), (0, .ref a_p0), (1, .int x1)]) hx hb dX4_firstStirOfDay_7 rfl hl (by decide) rfl (fun ls hl => ?_)
  have hq := lq1_i hf
  clear hf
  obtain ⟨B5, eB5, NB5, hf⟩ := hq
  have hB5 : ∀ (n : Nat) (z4 : Int32) (ls : Array Slot) (H : Heap) (locs : List Loc), lv_has ls 4 [(3, .int z4), (2, .int z2), (0, .ref a_p0)] → va_P D vwCl [(a_p0, .inr (4, [.ref a_p0_kitchen, .ref a_p0_fitting])), (a_p0_kitchen, .inr (2, [.ref a_p0_kitchen_rules, .ref a_p0_kitchen_state, .ref a_p0_kitchen_places, .ref a_p0_kitchen_holders, .ref a_p0_kitchen_stirred])), (a_p0_kitchen_rules, .inr (6, [.int i_p0_kitchen_rules_seats, .int i_p0_kitchen_rules_stirs, .ref a_p0_kitchen_rules_need, .ref a_p0_kitchen_rules_kind, .ref a_p0_kitchen_rules_first, .ref a_p0_kitchen_rules_second, .ref a_p0_kitchen_rules_after])), (a_p0_kitchen_state, .inr (8, [.ref a_p0_kitchen_state_pieces, .ref a_p0_kitchen_state_friends, .ref a_p0_kitchen_state_spoons, .ref a_p0_kitchen_state_eaten, .ref a_p0_kitchen_state_seen, .int i_p0_kitchen_state_seenDays, .int i_p0_kitchen_state_bone, .int i_p0_kitchen_state_king, .int i_p0_kitchen_state_days])), (a_p0_kitchen_state_seen, .inl (G 1, 6, .inl v_p0_kitchen_state_seen)), (a_p0_fitting, .inl (G 1, 6, .inl v_p0_fitting))] H → va_D A [(a_p0, .inr (4, [.ref a_p0_kitchen, .ref a_p0_fitting])), (a_p0_kitchen, .inr (2, [.ref a_p0_kitchen_rules, .ref a_p0_kitchen_state, .ref a_p0_kitchen_places, .ref a_p0_kitchen_holders, .ref a_p0_kitchen_stirred])), (a_p0_kitchen_rules, .inr (6, [.int i_p0_kitchen_rules_seats, .int i_p0_kitchen_rules_stirs, .ref a_p0_kitchen_rules_need, .ref a_p0_kitchen_rules_kind, .ref a_p0_kitchen_rules_first, .ref a_p0_kitchen_rules_second, .ref a_p0_kitchen_rules_after])), (a_p0_kitchen_state, .inr (8, [.ref a_p0_kitchen_state_pieces, .ref a_p0_kitchen_state_friends, .ref a_p0_kitchen_state_spoons, .ref a_p0_kitchen_state_eaten, .ref a_p0_kitchen_state_seen, .int i_p0_kitchen_state_seenDays, .int i_p0_kitchen_state_bone, .int i_p0_kitchen_state_king, .int i_p0_kitchen_state_days])), (a_p0_kitchen_state_seen, .inl (G 1, 6, .inl v_p0_kitchen_state_seen)), (a_p0_fitting, .inl (G 1, 6, .inl v_p0_fitting))] → va_S A s.heap H locs → lq1 B5 n z4 = some r → W p l e rm_X4_firstStirOfDay s m ([.ref a_p0, .int x1] : List Value).toArray below meth c H locs 0 0 Q (F0 m 8 ls []) := by
    clear hf hl hP hD hS
    intro n
    induction n with
    | zero =>
      intro z4 ls H locs hl hP hD hS hf
      exact (lq1_0 hf).elim
    | succ n ih8 =>
      intro z4 ls H locs hl hP hD hS hf
      replace hf := lq1_s eB5 hf
      unfold B_X4_firstStirOfDay_8 at hf
      refine lv_iload_n hx hb dX4_firstStirOfDay_8 rfl (lv_at hl 0 rfl) ?_
      refine lv_aload_n hx hb dX4_firstStirOfDay_9 rfl (lv_at hl 2 rfl) ?_
      refine va_get (D := D) (ci := 4) (v := .ref a_p0_kitchen) (C := RX4) (T := TX4) (N := 2) hx hb hts inX4_firstStirOfDay_X4 hown hK hP 0 rfl rfl 0 (by decide) (hts _ mwX4_firstStirOfDay_1) (fun _ h9 => h9) rfl dX4_firstStirOfDay_10 ?_
      refine va_get (D := D) (ci := 2) (v := .ref a_p0_kitchen_rules) (C := RX2) (T := TX2) (N := 5) hx hb hts inX4_firstStirOfDay_X2 hown hK hP 1 rfl rfl 0 (by decide) (hts _ mwX4_firstStirOfDay_3) (fun _ h9 => h9) rfl dX4_firstStirOfDay_13 ?_
      refine va_get (D := D) (ci := 6) (v := .int i_p0_kitchen_rules_stirs) (C := RX6) (T := TX6) (N := 7) hx hb hts inX4_firstStirOfDay_X6 hown hK hP 2 rfl rfl 1 (by decide) (hts _ mwX4_firstStirOfDay_5) (fun _ h9 => h9) rfl dX4_firstStirOfDay_16 ?_
      refine lv_icmp_ge (tgt := 38) hx hb dX4_firstStirOfDay_19 (by decide) (fun cc => ?_) (fun cc => ?_)
      ·
        replace hf := ite_t cc hf
        clear cc
        refine lv_bipush (v := (-4 : Int32)) hx hb dX4_firstStirOfDay_38 (by decide) ?_
        obtain rfl := ou1 hf
        rw [hQ]
        exact W.iret hx hb hr (fun t ht hW => ⟨⟨_, (), rfl, rfl, by rw [ht]; exact hP, va_K.moved hW.alike hK, hD⟩, hS.F ht⟩) hS.2.2 dX4_firstStirOfDay_40
      ·
        replace hf := ite_f cc hf
        clear cc
        refine lv_iload_n hx hb dX4_firstStirOfDay_22 rfl (lv_at hl 1 rfl) ?_
        refine lv_iload_n hx hb dX4_firstStirOfDay_23 rfl (lv_at hl 0 rfl) ?_
        refine lv_ishr hx hb dX4_firstStirOfDay_24 ?_
        refine lv_iconst (v := (1 : Int32)) hx hb dX4_firstStirOfDay_25 (by decide) ?_
        refine lv_iand hx hb dX4_firstStirOfDay_26 ?_
        refine lv_if_eq (tgt := 32) hx hb dX4_firstStirOfDay_27 (by decide) (fun cc => ?_) (fun cc => ?_)
        ·
          replace hf := ite_t cc hf
          clear cc
          obtain ⟨z6, ez⟩ : ∃ y : Int32, y = (z4 + (1 : Int32)) := ⟨_, rfl⟩
          replace hf := bnd_s hf ez
          refine lv_iinc (v := z6) (lv' := [(3, .int z6), (2, .int z2), (0, .ref a_p0)]) hx hb dX4_firstStirOfDay_32 hl (k := 0) rfl (by rw [ez]; rfl) (by decide) rfl (fun ls hl => ?_)
          clear ez
          refine lv_goto (tgt := 8) hx hb dX4_firstStirOfDay_35 (by decide) ?_
          exact ih8 _ _ _ _ (lv_sub hl [0, 1, 2] rfl) hP hD hS hf
        ·
          replace hf := ite_f cc hf
          clear cc
          refine lv_iload_n hx hb dX4_firstStirOfDay_30 rfl (lv_at hl 0 rfl) ?_
          obtain rfl := ou1 hf
          rw [hQ]
          exact W.iret hx hb hr (fun t ht hW => ⟨⟨_, (), rfl, rfl, by rw [ht]; exact hP, va_K.moved hW.alike hK, hD⟩, hS.F ht⟩) hS.2.2 dX4_firstStirOfDay_31
  exact hB5 _ _ _ _ _ (lv_sub hl [0, 1, 2] rfl) hP hD hS hf

noncomputable def B_J7_fill_53178_5 (z2 : Int32) (n_p0 : Nat) (x1 : Int32) (again5 : Int32 → (Nat → Int32) → Option ((Nat → Int32))) (z3 : Int32) (w4 : (Nat → Int32)) : Option ((Nat → Int32)) := (if z2 ≤ z3 then (some w4) else (ck (ixB z3 n_p0) (bnd (upd w4 (z3).toNatClampNeg x1) (fun (w6 : (Nat → Int32)) => (bnd (z3 + (1 : Int32)) (fun (z7 : Int32) => (again5 z7 w6)))))))
noncomputable def f_J7_fill_53178 (n_p0 : Nat) (v_p0 : (Nat → Int32)) (x1 : Int32) : Option ((Nat → Int32)) := (bnd (0 : Int32) (fun (z1 : Int32) => (bnd (Int32.ofNat n_p0) (fun (z2 : Int32) => (lq2 (B_J7_fill_53178_5 z2 n_p0 x1) 1000 z1 v_p0)))))
abbrev rm_J7_fill_53178 : Room := { frames := 0, cells := 0, slots := 0, locals := 0 }
set_option maxHeartbeats 8000000 in
set_option maxRecDepth 100000 in
theorem c_J7_fill_53178 (l : Launch) (D : va_G) (G : Nat → ClassId) (sz : Nat) (a_p0 : Nat) (n_p0 : Nat) (v_p0 : (Nat → Int32)) (x1 : Int32) (o_v_p0 : (Nat → Int32)) (hf : f_J7_fill_53178 n_p0 v_p0 x1 = some o_v_p0) : Met l yJ7_fill_53178 wsJ7_fill_53178 rm_J7_fill_53178 (pcG D G [.ref a_p0, .int x1] sz [(a_p0, .inl (G 1, n_p0, .inl v_p0))]) (qcV D G [(a_p0, .inl (G 1, n_p0, .inl o_v_p0))] (va_A [(a_p0, .inl (G 1, n_p0, .inl v_p0))] sz)) 0 0 (va_A [(a_p0, .inl (G 1, n_p0, .inl v_p0))] sz) := by
  refine Met.ofW (cc := cJ7_fill_53178) (maxL := 4) (ret := none) (by decide) rfl ?_
  intro p e s m args below meth c s₁ B hml hv
  obtain ⟨rfl, hsz, hP, hK, hD0⟩ := hv
  have hx := B.exec
  have hb := B.bytes
  have hr := B.returns
  have hts := atoms_spec (ws := wsJ7_fill_53178) B.pre
  have hown : s.vm.findClass RJ7 = some m.cls := findClass_of_methodNamed B.named
  have hlocks := B.notSynchronized
  subst hsz
  have hD := hD0.self (sz := s.heap.size)
  generalize hAe : va_A [(a_p0, .inl (G 1, n_p0, .inl v_p0))] s.heap.size = A at hD ⊢
  have hA : ∀ q : Nat, s.heap.size ≤ q → A q := fun q h => by rw [← hAe]; exact Or.inr h
  clear hAe hD0
  have hS : va_S A s.heap s.heap [] := va_S.rf
  have hl := lv_entry ([.ref a_p0, .int x1]) (n := 4) (Nat.le_of_ble_eq_true rfl)
  rw [lg_entry_eq]
  generalize (lg_sl ([.ref a_p0, .int x1]) ++ List.replicate (4 - (lg_sl ([.ref a_p0, .int x1])).length) Slot.unset).toArray = ls at hl ⊢
  have hl : lv_has ls 4 [(0, .ref a_p0), (1, .int x1)] := hl
  refine W_nameQ (fun Q hQ => ?_)
  obtain ⟨H, hH⟩ : ∃ H, H = s.heap := ⟨_, rfl⟩
  replace hS : va_S A s.heap H [] := by rw [hH]; exact hS
  replace hP : va_P D vwCl [(a_p0, .inl (G 1, n_p0, .inl v_p0))] H := by rw [hH]; exact hP
  rw [← hH]
  clear hH
  unfold f_J7_fill_53178 at hf
  refine lv_iconst (v := (0 : Int32)) hx hb dJ7_fill_53178_0 (by decide) ?_
  refine lv_topi (fun z1 ez => ?_)
  replace hf := bnd_s hf ez
  clear ez
  refine lv_istore_n (lv' := [(2, .int z1), (0, .ref a_p0), (1, .int x1)]) hx hb dJ7_fill_53178_1 rfl hl (by decide) rfl (fun ls hl => ?_)
  refine lv_aload_n hx hb dJ7_fill_53178_2 rfl (lv_at hl 1 rfl) ?_
  refine va_alen (v := (Int32.ofNat n_p0)) hx hb hK hP 0 1 rfl rfl rfl dJ7_fill_53178_3 ?_
  refine lv_topi (fun z2 ez => ?_)
  replace hf := bnd_s hf ez
  clear ez
  refine lv_istore_n (lv' := [(3, .int z2), (2, .int z1), (0, .ref a_p0), (1, .int x1)]) hx hb dJ7_fill_53178_4 rfl hl (by decide) rfl (fun ls hl => ?_)
  have hq := lq2_i hf
  clear hf
  obtain ⟨B5, eB5, NB5, hf⟩ := hq
  have hB5 : ∀ (n : Nat) (z3 : Int32) (w4 : (Nat → Int32)) (ls : Array Slot) (H : Heap) (locs : List Loc), lv_has ls 4 [(3, .int z2), (2, .int z3), (0, .ref a_p0), (1, .int x1)] → va_P D vwCl [(a_p0, .inl (G 1, n_p0, .inl w4))] H → va_D A [(a_p0, .inl (G 1, n_p0, .inl w4))] → va_S A s.heap H locs → lq2 B5 n z3 w4 = some o_v_p0 → W p l e rm_J7_fill_53178 s m ([.ref a_p0, .int x1] : List Value).toArray below meth c H locs 0 0 Q (F0 m 5 ls []) := by
    clear hf hl hP hD hS
    intro n
    induction n with
    | zero =>
      intro z3 w4 ls H locs hl hP hD hS hf
      exact (lq2_0 hf).elim
    | succ n ih5 =>
      intro z3 w4 ls H locs hl hP hD hS hf
      replace hf := lq2_s eB5 hf
      unfold B_J7_fill_53178_5 at hf
      refine lv_iload_n hx hb dJ7_fill_53178_5 rfl (lv_at hl 1 rfl) ?_
      refine lv_iload_n hx hb dJ7_fill_53178_6 rfl (lv_at hl 0 rfl) ?_
      refine lv_icmp_ge (tgt := 20) hx hb dJ7_fill_53178_7 (by decide) (fun cc => ?_) (fun cc => ?_)
      ·
        replace hf := ite_t cc hf
        clear cc
        obtain rfl := ou1 hf
        rw [hQ]
        exact W.vret hx hb hr (fun t ht hW => ⟨⟨(), rfl, trivial, by rw [ht]; exact hP, va_K.moved hW.alike hK, hD⟩, hS.F ht⟩) hS.2.2 dJ7_fill_53178_20
      ·
        replace hf := ite_f cc hf
        clear cc
        refine lv_aload_n hx hb dJ7_fill_53178_10 rfl (lv_at hl 2 rfl) ?_
        refine lv_iload_n hx hb dJ7_fill_53178_11 rfl (lv_at hl 1 rfl) ?_
        refine lv_iload_n hx hb dJ7_fill_53178_12 rfl (lv_at hl 3 rfl) ?_
        have hc := ck_c hf
        replace hf := ck_r hf
        refine gs_iast (wf := fun w6 => [(a_p0, .inl (G 1, n_p0, .inl w6))]) hx hb hK hP hD hS 0 1 rfl rfl (ixB_in hc) dJ7_fill_53178_13 (fun _ => rfl) (fun w6 ez H locs hP hD hS => ?_)
        replace hf := bnd_s hf ez
        clear ez hc
        obtain ⟨z7, ez⟩ : ∃ y : Int32, y = (z3 + (1 : Int32)) := ⟨_, rfl⟩
        replace hf := bnd_s hf ez
        refine lv_iinc (v := z7) (lv' := [(2, .int z7), (3, .int z2), (0, .ref a_p0), (1, .int x1)]) hx hb dJ7_fill_53178_14 hl (k := 1) rfl (by rw [ez]; rfl) (by decide) rfl (fun ls hl => ?_)
        clear ez
        refine lv_goto (tgt := 5) hx hb dJ7_fill_53178_17 (by decide) ?_
        exact ih5 _ _ _ _ _ (lv_sub hl [1, 0, 2, 3] rfl) hP hD hS hf
  exact hB5 _ _ _ _ _ _ (lv_sub hl [0, 1, 2, 3] rfl) hP hD hS hf

noncomputable def f_X6_reset (v_p0_need : (Nat → Int32)) : Option (Int32 × Int32 × (Nat → Int32)) := (bnd (4 : Int32) (fun (z1 : Int32) => (bnd (0 : Int32) (fun (z2 : Int32) => (bd1 (f_J7_fill_53178 7 v_p0_need (0 : Int32)) (fun (w3 : (Nat → Int32)) => (some (z1, z2, w3))))))))
abbrev rm_X6_reset : Room := { frames := 1, cells := 0, slots := 0, locals := 23 }
theorem inX6_reset_X6 : ∀ w ∈ wsX60, w ∈ wsX6_reset := by decide +kernel
theorem mwX6_reset_1 : Cond.fieldLink RX6 9 "LadleKings$Rules" "seats" "I" ∈ wsX6_reset := by decide +kernel
theorem mwX6_reset_2 : Cond.fieldLink RX6 15 "LadleKings$Rules" "stirs" "I" ∈ wsX6_reset := by decide +kernel
theorem mwX6_reset_3 : Cond.fieldLink RX6 18 "LadleKings$Rules" "need" "[I" ∈ wsX6_reset := by decide +kernel
set_option maxHeartbeats 8000000 in
set_option maxRecDepth 100000 in
theorem c_X6_reset (l : Launch) (D : va_G) (G : Nat → ClassId) (sz : Nat) (a_p0 : Nat) (a_p0_need : Nat) (a_p0_kind : Nat) (a_p0_first : Nat) (a_p0_second : Nat) (a_p0_after : Nat) (i_p0_seats : Int32) (i_p0_stirs : Int32) (v_p0_need : (Nat → Int32)) (o_i_p0_seats : Int32) (o_i_p0_stirs : Int32) (o_v_p0_need : (Nat → Int32)) (hf : f_X6_reset v_p0_need = some (o_i_p0_seats, o_i_p0_stirs, o_v_p0_need)) : Met l yX6_reset wsX6_reset rm_X6_reset (pcG D G [.ref a_p0] sz [(a_p0, .inr (6, [.int i_p0_seats, .int i_p0_stirs, .ref a_p0_need, .ref a_p0_kind, .ref a_p0_first, .ref a_p0_second, .ref a_p0_after])), (a_p0_need, .inl (G 1, 7, .inl v_p0_need))]) (qcV D G [(a_p0, .inr (6, [.int o_i_p0_seats, .int o_i_p0_stirs, .ref a_p0_need, .ref a_p0_kind, .ref a_p0_first, .ref a_p0_second, .ref a_p0_after])), (a_p0_need, .inl (G 1, 7, .inl o_v_p0_need))] (va_A [(a_p0, .inr (6, [.int i_p0_seats, .int i_p0_stirs, .ref a_p0_need, .ref a_p0_kind, .ref a_p0_first, .ref a_p0_second, .ref a_p0_after])), (a_p0_need, .inl (G 1, 7, .inl v_p0_need))] sz)) 0 0 (va_A [(a_p0, .inr (6, [.int i_p0_seats, .int i_p0_stirs, .ref a_p0_need, .ref a_p0_kind, .ref a_p0_first, .ref a_p0_second, .ref a_p0_after])), (a_p0_need, .inl (G 1, 7, .inl v_p0_need))] sz) := by
  refine Met.ofW (cc := cX6_reset) (maxL := 1) (ret := none) (by decide) rfl ?_
  intro p e s m args below meth c s₁ B hml hv
  obtain ⟨rfl, hsz, hP, hK, hD0⟩ := hv
  have hx := B.exec
  have hb := B.bytes
  have hr := B.returns
  have hts := atoms_spec (ws := wsX6_reset) B.pre
  have hown : s.vm.findClass RX6 = some m.cls := findClass_of_methodNamed B.named
  have hlocks := B.notSynchronized
  subst hsz
  have hD := hD0.self (sz := s.heap.size)
  generalize hAe : va_A [(a_p0, .inr (6, [.int i_p0_seats, .int i_p0_stirs, .ref a_p0_need, .ref a_p0_kind, .ref a_p0_first, .ref a_p0_second, .ref a_p0_after])), (a_p0_need, .inl (G 1, 7, .inl v_p0_need))] s.heap.size = A at hD ⊢
  have hA : ∀ q : Nat, s.heap.size ≤ q → A q := fun q h => by rw [← hAe]; exact Or.inr h
  clear hAe hD0
  have hS : va_S A s.heap s.heap [] := va_S.rf
  have hl := lv_entry ([.ref a_p0]) (n := 1) (Nat.le_of_ble_eq_true rfl)
  rw [lg_entry_eq]
  generalize (lg_sl ([.ref a_p0]) ++ List.replicate (1 - (lg_sl ([.ref a_p0])).length) Slot.unset).toArray = ls at hl ⊢
  have hl : lv_has ls 1 [(0, .ref a_p0)] := hl
  refine W_nameQ (fun Q hQ => ?_)
  obtain ⟨H, hH⟩ : ∃ H, H = s.heap := ⟨_, rfl⟩
  replace hS : va_S A s.heap H [] := by rw [hH]; exact hS
  replace hP : va_P D vwCl [(a_p0, .inr (6, [.int i_p0_seats, .int i_p0_stirs, .ref a_p0_need, .ref a_p0_kind, .ref a_p0_first, .ref a_p0_second, .ref a_p0_after])), (a_p0_need, .inl (G 1, 7, .inl v_p0_need))] H := by rw [hH]; exact hP
  rw [← hH]
  clear hH
  unfold f_X6_reset at hf
  refine lv_aload_n hx hb dX6_reset_0 rfl (lv_at hl 0 rfl) ?_
  refine lv_iconst (v := (4 : Int32)) hx hb dX6_reset_1 (by decide) ?_
  refine lv_topi (fun z1 ez => ?_)
  replace hf := bnd_s hf ez
  clear ez
  refine va_put (D := D) (ci := 6) (v := .int z1) (ty := .int) (C := RX6) (T := TX6) (N := 7) hx hb hts inX6_reset_X6 tyX6 tyX6_ok nmX6 hown hK hP hD hS 0 rfl rfl 0 (by decide) (hts _ mwX6_reset_1) (fun _ h9 => h9) rfl (by decide +kernel) rfl rfl (Nat.le_of_ble_eq_true rfl) dX6_reset_2 (fun H locs hP hD hS => ?_)
  have hP : va_P D vwCl [(a_p0, .inr (6, [.int z1, .int i_p0_stirs, .ref a_p0_need, .ref a_p0_kind, .ref a_p0_first, .ref a_p0_second, .ref a_p0_after])), (a_p0_need, .inl (G 1, 7, .inl v_p0_need))] H := hP
  have hD : va_D A [(a_p0, .inr (6, [.int z1, .int i_p0_stirs, .ref a_p0_need, .ref a_p0_kind, .ref a_p0_first, .ref a_p0_second, .ref a_p0_after])), (a_p0_need, .inl (G 1, 7, .inl v_p0_need))] := hD
  refine lv_aload_n hx hb dX6_reset_5 rfl (lv_at hl 0 rfl) ?_
  refine lv_iconst (v := (0 : Int32)) hx hb dX6_reset_6 (by decide) ?_
  refine lv_topi (fun z2 ez => ?_)
  replace hf := bnd_s hf ez
  clear ez
  refine va_put (D := D) (ci := 6) (v := .int z2) (ty := .int) (C := RX6) (T := TX6) (N := 7) hx hb hts inX6_reset_X6 tyX6 tyX6_ok nmX6 hown hK hP hD hS 0 rfl rfl 1 (by decide) (hts _ mwX6_reset_2) (fun _ h9 => h9) rfl (by decide +kernel) rfl rfl (Nat.le_of_ble_eq_true rfl) dX6_reset_7 (fun H locs hP hD hS => ?_)
  have hP : va_P D vwCl [(a_p0, .inr (6, [.int z1, .int z2, .ref a_p0_need, .ref a_p0_kind, .ref a_p0_first, .ref a_p0_second, .ref a_p0_after])), (a_p0_need, .inl (G 1, 7, .inl v_p0_need))] H := hP
  have hD : va_D A [(a_p0, .inr (6, [.int z1, .int z2, .ref a_p0_need, .ref a_p0_kind, .ref a_p0_first, .ref a_p0_second, .ref a_p0_after])), (a_p0_need, .inl (G 1, 7, .inl v_p0_need))] := hD
  refine lv_aload_n hx hb dX6_reset_10 rfl (lv_at hl 0 rfl) ?_
  refine va_get (D := D) (ci := 6) (v := .ref a_p0_need) (C := RX6) (T := TX6) (N := 7) hx hb hts inX6_reset_X6 hown hK hP 0 rfl rfl 2 (by decide) (hts _ mwX6_reset_3) (fun _ h9 => h9) rfl dX6_reset_11 ?_
  refine lv_iconst (v := (0 : Int32)) hx hb dX6_reset_14 (by decide) ?_
  have hq := bd1_s hf
  clear hf
  obtain ⟨w3, hcall, hf⟩ := hq
  refine gcV (ws' := [(a_p0, .inr (6, [.int z1, .int z2, .ref a_p0_need, .ref a_p0_kind, .ref a_p0_first, .ref a_p0_second, .ref a_p0_after])), (a_p0_need, .inl (G 1, 7, .inl w3))]) (va_runS (As := [.ref a_p0_need, .int (0 : Int32)]) (rest := []) ⟨hx, hb, hml, hown, hts⟩ (c_J7_fill_53178 (l := l) (D := D) (G := G) (sz := H.size) (a_p0 := a_p0_need) (n_p0 := 7) (v_p0 := v_p0_need) (x1 := (0 : Int32)) (o_v_p0 := w3) (hf := hcall)) (va_cwS 2 hts gX6_reset_J7_fill_53178 rfl rfl rfl (by decide +kernel) ⟨Nat.le_of_ble_eq_true rfl, Nat.le_of_ble_eq_true rfl⟩) (preG_S (hP.sub [1] rfl) (hD.sub [1] rfl rfl) hK) rfl rfl hl.1 rfl (lv_room (Nat.le_of_ble_eq_true rfl)) dX6_reset_15 ⟨Nat.le_of_ble_eq_true rfl, Nat.le_of_ble_eq_true rfl⟩) hP hD hS hA [1] [0] [0, 1] rfl rfl rfl (by decide) rfl rfl rfl (fun H locs hP hD hS => ?_)
  clear hcall
  obtain ⟨rfl, rfl, rfl⟩ := ou3 hf
  rw [hQ]
  exact W.vret hx hb hr (fun t ht hW => ⟨⟨(), rfl, trivial, by rw [ht]; exact hP, va_K.moved hW.alike hK, hD⟩, hS.F ht⟩) hS.2.2 dX6_reset_18

noncomputable def f_X6_copy (v_p0_need : (Nat → Int32)) (v_p0_after : (Nat → Int32)) (i_p1_seats : Int32) (i_p1_stirs : Int32) (v_p1_need : (Nat → Int32)) (v_p1_after : (Nat → Int32)) : Option (Int32 × Int32 × (Nat → Int32) × (Nat → Int32)) := (bnd i_p1_seats (fun (z1 : Int32) => (bnd i_p1_stirs (fun (z2 : Int32) => (ck (cpB (0 : Int32) (7 : Int32) 7) (ck (cpB (0 : Int32) (7 : Int32) 7) (bnd (va_cpy v_p1_need v_p0_need ((0 : Int32)).toNatClampNeg ((0 : Int32)).toNatClampNeg ((7 : Int32)).toNatClampNeg) (fun (w3 : (Nat → Int32)) => (ck (cpB (0 : Int32) (35 : Int32) 35) (ck (cpB (0 : Int32) (35 : Int32) 35) (bnd (va_cpy v_p1_after v_p0_after ((0 : Int32)).toNatClampNeg ((0 : Int32)).toNatClampNeg ((35 : Int32)).toNatClampNeg) (fun (w4 : (Nat → Int32)) => (some (z1, z2, w3, w4))))))))))))))
abbrev rm_X6_copy : Room := { frames := 1, cells := 0, slots := 0, locals := 60 }
theorem inX6_copy_X6 : ∀ w ∈ wsX60, w ∈ wsX6_copy := by decide +kernel
theorem mwX6_copy_1 : Cond.fieldLink RX6 9 "LadleKings$Rules" "seats" "I" ∈ wsX6_copy := by decide +kernel
theorem mwX6_copy_2 : Cond.fieldLink RX6 15 "LadleKings$Rules" "stirs" "I" ∈ wsX6_copy := by decide +kernel
theorem mwX6_copy_3 : Cond.fieldLink RX6 18 "LadleKings$Rules" "need" "[I" ∈ wsX6_copy := by decide +kernel
theorem mwX6_copy_4 : Cond.methodLink RX6 40 arraycopyName ∈ wsX6_copy := by decide +kernel
theorem mwX6_copy_5 : Cond.native arraycopyName ∈ wsX6_copy := by decide +kernel
theorem mwX6_copy_6 : Cond.static arraycopyName ∈ wsX6_copy := by decide +kernel
theorem mwX6_copy_7 : Cond.initialized "java/lang/System" ∈ wsX6_copy := by decide +kernel
theorem mwX6_copy_8 : Cond.fieldLink RX6 31 "LadleKings$Rules" "after" "[I" ∈ wsX6_copy := by decide +kernel
set_option maxHeartbeats 8000000 in
set_option maxRecDepth 100000 in
theorem c_X6_copy (l : Launch) (D : va_G) (G : Nat → ClassId) (sz : Nat) (a_p0 : Nat) (a_p0_need : Nat) (a_p0_kind : Nat) (a_p0_first : Nat) (a_p0_second : Nat) (a_p0_after : Nat) (a_p1 : Nat) (a_p1_need : Nat) (a_p1_kind : Nat) (a_p1_first : Nat) (a_p1_second : Nat) (a_p1_after : Nat) (i_p0_seats : Int32) (i_p0_stirs : Int32) (v_p0_need : (Nat → Int32)) (v_p0_after : (Nat → Int32)) (i_p1_seats : Int32) (i_p1_stirs : Int32) (v_p1_need : (Nat → Int32)) (v_p1_after : (Nat → Int32)) (o_i_p0_seats : Int32) (o_i_p0_stirs : Int32) (o_v_p0_need : (Nat → Int32)) (o_v_p0_after : (Nat → Int32)) (hf : f_X6_copy v_p0_need v_p0_after i_p1_seats i_p1_stirs v_p1_need v_p1_after = some (o_i_p0_seats, o_i_p0_stirs, o_v_p0_need, o_v_p0_after)) : Met l yX6_copy wsX6_copy rm_X6_copy (pcG D G [.ref a_p0, .ref a_p1] sz [(a_p0, .inr (6, [.int i_p0_seats, .int i_p0_stirs, .ref a_p0_need, .ref a_p0_kind, .ref a_p0_first, .ref a_p0_second, .ref a_p0_after])), (a_p0_need, .inl (G 1, 7, .inl v_p0_need)), (a_p0_after, .inl (G 1, 35, .inl v_p0_after)), (a_p1, .inr (6, [.int i_p1_seats, .int i_p1_stirs, .ref a_p1_need, .ref a_p1_kind, .ref a_p1_first, .ref a_p1_second, .ref a_p1_after])), (a_p1_need, .inl (G 1, 7, .inl v_p1_need)), (a_p1_after, .inl (G 1, 35, .inl v_p1_after))]) (qcV D G [(a_p0, .inr (6, [.int o_i_p0_seats, .int o_i_p0_stirs, .ref a_p0_need, .ref a_p0_kind, .ref a_p0_first, .ref a_p0_second, .ref a_p0_after])), (a_p0_need, .inl (G 1, 7, .inl o_v_p0_need)), (a_p0_after, .inl (G 1, 35, .inl o_v_p0_after)), (a_p1, .inr (6, [.int i_p1_seats, .int i_p1_stirs, .ref a_p1_need, .ref a_p1_kind, .ref a_p1_first, .ref a_p1_second, .ref a_p1_after])), (a_p1_need, .inl (G 1, 7, .inl v_p1_need)), (a_p1_after, .inl (G 1, 35, .inl v_p1_after))] (va_A [(a_p0, .inr (6, [.int i_p0_seats, .int i_p0_stirs, .ref a_p0_need, .ref a_p0_kind, .ref a_p0_first, .ref a_p0_second, .ref a_p0_after])), (a_p0_need, .inl (G 1, 7, .inl v_p0_need)), (a_p0_after, .inl (G 1, 35, .inl v_p0_after)), (a_p1, .inr (6, [.int i_p1_seats, .int i_p1_stirs, .ref a_p1_need, .ref a_p1_kind, .ref a_p1_first, .ref a_p1_second, .ref a_p1_after])), (a_p1_need, .inl (G 1, 7, .inl v_p1_need)), (a_p1_after, .inl (G 1, 35, .inl v_p1_after))] sz)) 0 0 (va_A [(a_p0, .inr (6, [.int i_p0_seats, .int i_p0_stirs, .ref a_p0_need, .ref a_p0_kind, .ref a_p0_first, .ref a_p0_second, .ref a_p0_after])), (a_p0_need, .inl (G 1, 7, .inl v_p0_need)), (a_p0_after, .inl (G 1, 35, .inl v_p0_after)), (a_p1, .inr (6, [.int i_p1_seats, .int i_p1_stirs, .ref a_p1_need, .ref a_p1_kind, .ref a_p1_first, .ref a_p1_second, .ref a_p1_after])), (a_p1_need, .inl (G 1, 7, .inl v_p1_need)), (a_p1_after, .inl (G 1, 35, .inl v_p1_after))] sz) := by
  refine Met.ofW (cc := cX6_copy) (maxL := 2) (ret := none) (by decide) rfl ?_
  intro p e s m args below meth c s₁ B hml hv
  obtain ⟨rfl, hsz, hP, hK, hD0⟩ := hv
  have hx := B.exec
  have hb := B.bytes
  have hr := B.returns
  have hts := atoms_spec (ws := wsX6_copy) B.pre
  have hown : s.vm.findClass RX6 = some m.cls := findClass_of_methodNamed B.named
  have hlocks := B.notSynchronized
  subst hsz
  have hD := hD0.self (sz := s.heap.size)
  generalize hAe : va_A [(a_p0, .inr (6, [.int i_p0_seats, .int i_p0_stirs, .ref a_p0_need, .ref a_p0_kind, .ref a_p0_first, .ref a_p0_second, .ref a_p0_after])), (a_p0_need, .inl (G 1, 7, .inl v_p0_need)), (a_p0_after, .inl (G 1, 35, .inl v_p0_after)), (a_p1, .inr (6, [.int i_p1_seats, .int i_p1_stirs, .ref a_p1_need, .ref a_p1_kind, .ref a_p1_first, .ref a_p1_second, .ref a_p1_after])), (a_p1_need, .inl (G 1, 7, .inl v_p1_need)), (a_p1_after, .inl (G 1, 35, .inl v_p1_after))] s.heap.size = A at hD ⊢
  have hA : ∀ q : Nat, s.heap.size ≤ q → A q := fun q h => by rw [← hAe]; exact Or.inr h
  clear hAe hD0
  have hS : va_S A s.heap s.heap [] := va_S.rf
  have hl := lv_entry ([.ref a_p0, .ref a_p1]) (n := 2) (Nat.le_of_ble_eq_true rfl)
  rw [lg_entry_eq]
  generalize (lg_sl ([.ref a_p0, .ref a_p1]) ++ List.replicate (2 - (lg_sl ([.ref a_p0, .ref a_p1])).length) Slot.unset).toArray = ls at hl ⊢
  have hl : lv_has ls 2 [(0, .ref a_p0), (1, .ref a_p1)] := hl
  refine W_nameQ (fun Q hQ => ?_)
  obtain ⟨H, hH⟩ : ∃ H, H = s.heap := ⟨_, rfl⟩
  replace hS : va_S A s.heap H [] := by rw [hH]; exact hS
  replace hP : va_P D vwCl [(a_p0, .inr (6, [.int i_p0_seats, .int i_p0_stirs, .ref a_p0_need, .ref a_p0_kind, .ref a_p0_first, .ref a_p0_second, .ref a_p0_after])), (a_p0_need, .inl (G 1, 7, .inl v_p0_need)), (a_p0_after, .inl (G 1, 35, .inl v_p0_after)), (a_p1, .inr (6, [.int i_p1_seats, .int i_p1_stirs, .ref a_p1_need, .ref a_p1_kind, .ref a_p1_first, .ref a_p1_second, .ref a_p1_after])), (a_p1_need, .inl (G 1, 7, .inl v_p1_need)), (a_p1_after, .inl (G 1, 35, .inl v_p1_after))] H := by rw [hH]; exact hP
  rw [← hH]
  clear hH
  unfold f_X6_copy at hf
  refine lv_aload_n hx hb dX6_copy_0 rfl (lv_at hl 0 rfl) ?_
  refine lv_aload_n hx hb dX6_copy_1 rfl (lv_at hl 1 rfl) ?_
  refine va_get (D := D) (ci := 6) (v := .int i_p1_seats) (C := RX6) (T := TX6) (N := 7) hx hb hts inX6_copy_X6 hown hK hP 3 rfl rfl 0 (by decide) (hts _ mwX6_copy_1) (fun _ h9 => h9) rfl dX6_copy_2 ?_
  refine lv_topi (fun z1 ez => ?_)
  replace hf := bnd_s hf ez
  clear ez
  refine va_put (D := D) (ci := 6) (v := .int z1) (ty := .int) (C := RX6) (T := TX6) (N := 7) hx hb hts inX6_copy_X6 tyX6 tyX6_ok nmX6 hown hK hP hD hS 0 rfl rfl 0 (by decide) (hts _ mwX6_copy_1) (fun _ h9 => h9) rfl (by decide +kernel) rfl rfl (Nat.le_of_ble_eq_true rfl) dX6_copy_5 (fun H locs hP hD hS => ?_)
  have hP : va_P D vwCl [(a_p0, .inr (6, [.int z1, .int i_p0_stirs, .ref a_p0_need, .ref a_p0_kind, .ref a_p0_first, .ref a_p0_second, .ref a_p0_after])), (a_p0_need, .inl (G 1, 7, .inl v_p0_need)), (a_p0_after, .inl (G 1, 35, .inl v_p0_after)), (a_p1, .inr (6, [.int i_p1_seats, .int i_p1_stirs, .ref a_p1_need, .ref a_p1_kind, .ref a_p1_first, .ref a_p1_second, .ref a_p1_after])), (a_p1_need, .inl (G 1, 7, .inl v_p1_need)), (a_p1_after, .inl (G 1, 35, .inl v_p1_after))] H := hP
  have hD : va_D A [(a_p0, .inr (6, [.int z1, .int i_p0_stirs, .ref a_p0_need, .ref a_p0_kind, .ref a_p0_first, .ref a_p0_second, .ref a_p0_after])), (a_p0_need, .inl (G 1, 7, .inl v_p0_need)), (a_p0_after, .inl (G 1, 35, .inl v_p0_after)), (a_p1, .inr (6, [.int i_p1_seats, .int i_p1_stirs, .ref a_p1_need, .ref a_p1_kind, .ref a_p1_first, .ref a_p1_second, .ref a_p1_after])), (a_p1_need, .inl (G 1, 7, .inl v_p1_need)), (a_p1_after, .inl (G 1, 35, .inl v_p1_after))] := hD
  refine lv_aload_n hx hb dX6_copy_8 rfl (lv_at hl 0 rfl) ?_
  refine lv_aload_n hx hb dX6_copy_9 rfl (lv_at hl 1 rfl) ?_
  refine va_get (D := D) (ci := 6) (v := .int i_p1_stirs) (C := RX6) (T := TX6) (N := 7) hx hb hts inX6_copy_X6 hown hK hP 3 rfl rfl 1 (by decide) (hts _ mwX6_copy_2) (fun _ h9 => h9) rfl dX6_copy_10 ?_
  refine lv_topi (fun z2 ez => ?_)
  replace hf := bnd_s hf ez
  clear ez
  refine va_put (D := D) (ci := 6) (v := .int z2) (ty := .int) (C := RX6) (T := TX6) (N := 7) hx hb hts inX6_copy_X6 tyX6 tyX6_ok nmX6 hown hK hP hD hS 0 rfl rfl 1 (by decide) (hts _ mwX6_copy_2) (fun _ h9 => h9) rfl (by decide +kernel) rfl rfl (Nat.le_of_ble_eq_true rfl) dX6_copy_13 (fun H locs hP hD hS => ?_)
  have hP : va_P D vwCl [(a_p0, .inr (6, [.int z1, .int z2, .ref a_p0_need, .ref a_p0_kind, .ref a_p0_first, .ref a_p0_second, .ref a_p0_after])), (a_p0_need, .inl (G 1, 7, .inl v_p0_need)), (a_p0_after, .inl (G 1, 35, .inl v_p0_after)), (a_p1, .inr (6, [.int i_p1_seats, .int i_p1_stirs, .ref a_p1_need, .ref a_p1_kind, .ref a_p1_first, .ref a_p1_second, .ref a_p1_after])), (a_p1_need, .inl (G 1, 7, .inl v_p1_need)), (a_p1_after, .inl (G 1, 35, .inl v_p1_after))] H := hP
  have hD : va_D A [(a_p0, .inr (6, [.int z1, .int z2, .ref a_p0_need, .ref a_p0_kind, .ref a_p0_first, .ref a_p0_second, .ref a_p0_after])), (a_p0_need, .inl (G 1, 7, .inl v_p0_need)), (a_p0_after, .inl (G 1, 35, .inl v_p0_after)), (a_p1, .inr (6, [.int i_p1_seats, .int i_p1_stirs, .ref a_p1_need, .ref a_p1_kind, .ref a_p1_first, .ref a_p1_second, .ref a_p1_after])), (a_p1_need, .inl (G 1, 7, .inl v_p1_need)), (a_p1_after, .inl (G 1, 35, .inl v_p1_after))] := hD
  refine lv_aload_n hx hb dX6_copy_16 rfl (lv_at hl 1 rfl) ?_
  refine va_get (D := D) (ci := 6) (v := .ref a_p1_need) (C := RX6) (T := TX6) (N := 7) hx hb hts inX6_copy_X6 hown hK hP 3 rfl rfl 2 (by decide) (hts _ mwX6_copy_3) (fun _ h9 => h9) rfl dX6_copy_17 ?_
  refine lv_iconst (v := (0 : Int32)) hx hb dX6_copy_20 (by decide) ?_
  refine lv_aload_n hx hb dX6_copy_21 rfl (lv_at hl 0 rfl) ?_
  refine va_get (D := D) (ci := 6) (v := .ref a_p0_need) (C := RX6) (T := TX6) (N := 7) hx hb hts inX6_copy_X6 hown hK hP 0 rfl rfl 2 (by decide) (hts _ mwX6_copy_3) (fun _ h9 => h9) rfl dX6_copy_22 ?_
  refine lv_iconst (v := (0 : Int32)) hx hb dX6_copy_25 (by decide) ?_
  refine lv_bipush (v := (7 : Int32)) hx hb dX6_copy_26 (by decide) ?_
  have hc := cpB_s (ck_c hf)
  replace hf := ck_r hf
  have hc2 := cpB_s (ck_c hf)
  replace hf := ck_r hf
  refine va_copyi hx hb (by rw [hml]; exact hl.1.symm) hown (hts _ mwX6_copy_4) (hts _ mwX6_copy_5) (hts _ mwX6_copy_6) (hts _ mwX6_copy_7) hK hP hD hS 4 1 1 1 rfl rfl rfl rfl rfl hc.1 hc2.1 hc.2.1 hc.2.2 hc2.2.2 (fun _ _ => rfl) (Nat.le_of_ble_eq_true rfl) (Nat.le_of_ble_eq_true rfl) dX6_copy_28 (fun H locs hP hD hS => ?_)
  obtain ⟨w3, ez⟩ : ∃ y : (Nat → Int32), y = (va_cpy v_p1_need v_p0_need ((0 : Int32)).toNatClampNeg ((0 : Int32)).toNatClampNeg ((7 : Int32)).toNatClampNeg) := ⟨_, rfl⟩
  have hP : va_P D vwCl [(a_p0, .inr (6, [.int z1, .int z2, .ref a_p0_need, .ref a_p0_kind, .ref a_p0_first, .ref a_p0_second, .ref a_p0_after])), (a_p0_need, .inl (G 1, 7, .inl w3)), (a_p0_after, .inl (G 1, 35, .inl v_p0_after)), (a_p1, .inr (6, [.int i_p1_seats, .int i_p1_stirs, .ref a_p1_need, .ref a_p1_kind, .ref a_p1_first, .ref a_p1_second, .ref a_p1_after])), (a_p1_need, .inl (G 1, 7, .inl v_p1_need)), (a_p1_after, .inl (G 1, 35, .inl v_p1_after))] H := by rw [ez]; exact hP
  have hD : va_D A [(a_p0, .inr (6, [.int z1, .int z2, .ref a_p0_need, .ref a_p0_kind, .ref a_p0_first, .ref a_p0_second, .ref a_p0_after])), (a_p0_need, .inl (G 1, 7, .inl w3)), (a_p0_after, .inl (G 1, 35, .inl v_p0_after)), (a_p1, .inr (6, [.int i_p1_seats, .int i_p1_stirs, .ref a_p1_need, .ref a_p1_kind, .ref a_p1_first, .ref a_p1_second, .ref a_p1_after])), (a_p1_need, .inl (G 1, 7, .inl v_p1_need)), (a_p1_after, .inl (G 1, 35, .inl v_p1_after))] := by rw [ez]; exact hD
  replace hf := bnd_s hf ez
  clear ez hc hc2
  refine lv_aload_n hx hb dX6_copy_31 rfl (lv_at hl 1 rfl) ?_
  refine va_get (D := D) (ci := 6) (v := .ref a_p1_after) (C := RX6) (T := TX6) (N := 7) hx hb hts inX6_copy_X6 hown hK hP 3 rfl rfl 6 (by decide) (hts _ mwX6_copy_8) (fun _ h9 => h9) rfl dX6_copy_32 ?_
  refine lv_iconst (v := (0 : Int32)) hx hb dX6_copy_35 (by decide) ?_
  refine lv_aload_n hx hb dX6_copy_36 rfl (lv_at hl 0 rfl) ?_
  refine va_get (D := D) (ci := 6) (v := .ref a_p0_after) (C := RX6) (T := TX6) (N := 7) hx hb hts inX6_copy_X6 hown hK hP 0 rfl rfl 6 (by decide) (hts _ mwX6_copy_8) (fun _ h9 => h9) rfl dX6_copy_37 ?_
  refine lv_iconst (v := (0 : Int32)) hx hb dX6_copy_40 (by decide) ?_
  refine lv_bipush (v := (35 : Int32)) hx hb dX6_copy_41 (by decide) ?_
  have hc := cpB_s (ck_c hf)
  replace hf := ck_r hf
  have hc2 := cpB_s (ck_c hf)
  replace hf := ck_r hf
  refine va_copyi hx hb (by rw [hml]; exact hl.1.symm) hown (hts _ mwX6_copy_4) (hts _ mwX6_copy_5) (hts _ mwX6_copy_6) (hts _ mwX6_copy_7) hK hP hD hS 5 2 1 1 rfl rfl rfl rfl rfl hc.1 hc2.1 hc.2.1 hc.2.2 hc2.2.2 (fun _ _ => rfl) (Nat.le_of_ble_eq_true rfl) (Nat.le_of_ble_eq_true rfl) dX6_copy_43 (fun H locs hP hD hS => ?_)
  obtain ⟨w4, ez⟩ : ∃ y : (Nat → Int32), y = (va_cpy v_p1_after v_p0_after ((0 : Int32)).toNatClampNeg ((0 : Int32)).toNatClampNeg ((35 : Int32)).toNatClampNeg) := ⟨_, rfl⟩
  have hP : va_P D vwCl [(a_p0, .inr (6, [.int z1, .int z2, .ref a_p0_need, .ref a_p0_kind, .ref a_p0_first, .ref a_p0_second, .ref a_p0_after])), (a_p0_need, .inl (G 1, 7, .inl w3)), (a_p0_after, .inl (G 1, 35, .inl w4)), (a_p1, .inr (6, [.int i_p1_seats, .int i_p1_stirs, .ref a_p1_need, .ref a_p1_kind, .ref a_p1_first, .ref a_p1_second, .ref a_p1_after])), (a_p1_need, .inl (G 1, 7, .inl v_p1_need)), (a_p1_after, .inl (G 1, 35, .inl v_p1_after))] H := by rw [ez]; exact hP
  have hD : va_D A [(a_p0, .inr (6, [.int z1, .int z2, .ref a_p0_need, .ref a_p0_kind, .ref a_p0_first, .ref a_p0_second, .ref a_p0_after])), (a_p0_need, .inl (G 1, 7, .inl w3)), (a_p0_after, .inl (G 1, 35, .inl w4)), (a_p1, .inr (6, [.int i_p1_seats, .int i_p1_stirs, .ref a_p1_need, .ref a_p1_kind, .ref a_p1_first, .ref a_p1_second, .ref a_p1_after])), (a_p1_need, .inl (G 1, 7, .inl v_p1_need)), (a_p1_after, .inl (G 1, 35, .inl v_p1_after))] := by rw [ez]; exact hD
  replace hf := bnd_s hf ez
  clear ez hc hc2
  obtain ⟨rfl, rfl, rfl, rfl⟩ := ou4 hf
  rw [hQ]
  exact W.vret hx hb hr (fun t ht hW => ⟨⟨(), rfl, trivial, by rw [ht]; exact hP, va_K.moved hW.alike hK, hD⟩, hS.F ht⟩) hS.2.2 dX6_copy_46

noncomputable def f_X6_hasSeat (i_p0_seats : Int32) (x1 : Int32) : Option (Int32) := (if x1 < 0 then (some (0 : Int32)) else (if i_p0_seats ≤ x1 then (some (0 : Int32)) else (some (1 : Int32))))
abbrev rm_X6_hasSeat : Room := { frames := 0, cells := 0, slots := 0, locals := 0 }
theorem inX6_hasSeat_X6 : ∀ w ∈ wsX60, w ∈ wsX6_hasSeat := by decide +kernel
theorem mwX6_hasSeat_1 : Cond.fieldLink RX6 9 "LadleKings$Rules" "seats" "I" ∈ wsX6_hasSeat := by decide +kernel
set_option maxHeartbeats 8000000 in
set_option maxRecDepth 100000 in
theorem c_X6_hasSeat (l : Launch) (D : va_G) (G : Nat → ClassId) (sz : Nat) (a_p0 : Nat) (a_p0_need : Nat) (a_p0_kind : Nat) (a_p0_first : Nat) (a_p0_second : Nat) (a_p0_after : Nat) (i_p0_seats : Int32) (i_p0_stirs : Int32) (x1 : Int32) (r : Int32) (hf : f_X6_hasSeat i_p0_seats x1 = some r) : Met l yX6_hasSeat wsX6_hasSeat rm_X6_hasSeat (pcG D G [.ref a_p0, .int x1] sz [(a_p0, .inr (6, [.int i_p0_seats, .int i_p0_stirs, .ref a_p0_need, .ref a_p0_kind, .ref a_p0_first, .ref a_p0_second, .ref a_p0_after]))]) (qcI D G r [(a_p0, .inr (6, [.int i_p0_seats, .int i_p0_stirs, .ref a_p0_need, .ref a_p0_kind, .ref a_p0_first, .ref a_p0_second, .ref a_p0_after]))] (va_A [(a_p0, .inr (6, [.int i_p0_seats, .int i_p0_stirs, .ref a_p0_need, .ref a_p0_kind, .ref a_p0_first, .ref a_p0_second, .ref a_p0_after]))] sz)) 0 0 (va_A [(a_p0, .inr (6, [.int i_p0_seats, .int i_p0_stirs, .ref a_p0_need, .ref a_p0_kind, .ref a_p0_first, .ref a_p0_second, .ref a_p0_after]))] sz) := by
  refine Met.ofW (cc := cX6_hasSeat) (maxL := 2) (ret := (some .boolean)) (by decide) rfl ?_
  intro p e s m args below meth c s₁ B hml hv
  obtain ⟨rfl, hsz, hP, hK, hD0⟩ := hv
  have hx := B.exec
  have hb := B.bytes
  have hr := B.returns
  have hts := atoms_spec (ws := wsX6_hasSeat) B.pre
  have hown : s.vm.findClass RX6 = some m.cls := findClass_of_methodNamed B.named
  have hlocks := B.notSynchronized
  subst hsz
  have hD := hD0.self (sz := s.heap.size)
  generalize hAe : va_A [(a_p0, .inr (6, [.int i_p0_seats, .int i_p0_stirs, .ref a_p0_need, .ref a_p0_kind, .ref a_p0_first, .ref a_p0_second, .ref a_p0_after]))] s.heap.size = A at hD ⊢
  have hA : ∀ q : Nat, s.heap.size ≤ q → A q := fun q h => by rw [← hAe]; exact Or.inr h
  clear hAe hD0
  have hS : va_S A s.heap s.heap [] := va_S.rf
  have hl := lv_entry ([.ref a_p0, .int x1]) (n := 2) (Nat.le_of_ble_eq_true rfl)
  rw [lg_entry_eq]
  generalize (lg_sl ([.ref a_p0, .int x1]) ++ List.replicate (2 - (lg_sl ([.ref a_p0, .int x1])).length) Slot.unset).toArray = ls at hl ⊢
  have hl : lv_has ls 2 [(0, .ref a_p0), (1, .int x1)] := hl
  refine W_nameQ (fun Q hQ => ?_)
  obtain ⟨H, hH⟩ : ∃ H, H = s.heap := ⟨_, rfl⟩
  replace hS : va_S A s.heap H [] := by rw [hH]; exact hS
  replace hP : va_P D vwCl [(a_p0, .inr (6, [.int i_p0_seats, .int i_p0_stirs, .ref a_p0_need, .ref a_p0_kind, .ref a_p0_first, .ref a_p0_second, .ref a_p0_after]))] H := by rw [hH]; exact hP
  rw [← hH]
  clear hH
  unfold f_X6_hasSeat at hf
  refine lv_iload_n hx hb dX6_hasSeat_0 rfl (lv_at hl 1 rfl) ?_
  refine lv_if_lt (tgt := 16) hx hb dX6_hasSeat_1 (by decide) (fun cc => ?_) (fun cc => ?_)
  ·
    replace hf := ite_t cc hf
    clear cc
    refine lv_iconst (v := (0 : Int32)) hx hb dX6_hasSeat_16 (by decide) ?_
    obtain rfl := ou1 hf
    rw [hQ]
    exact W.zret hx hb hr rfl (fun t ht hW => ⟨⟨_, (), rfl, rfl, by rw [ht]; exact hP, va_K.moved hW.alike hK, hD⟩, hS.F ht⟩) hS.2.2 dX6_hasSeat_17
  ·
    replace hf := ite_f cc hf
    clear cc
    refine lv_iload_n hx hb dX6_hasSeat_4 rfl (lv_at hl 1 rfl) ?_
    refine lv_aload_n hx hb dX6_hasSeat_5 rfl (lv_at hl 0 rfl) ?_
    refine va_get (D := D) (ci := 6) (v := .int i_p0_seats) (C := RX6) (T := TX6) (N := 7) hx hb hts inX6_hasSeat_X6 hown hK hP 0 rfl rfl 0 (by decide) (hts _ mwX6_hasSeat_1) (fun _ h9 => h9) rfl dX6_hasSeat_6 ?_
    refine lv_icmp_ge (tgt := 16) hx hb dX6_hasSeat_9 (by decide) (fun cc => ?_) (fun cc => ?_)
    ·
      replace hf := ite_t cc hf
      clear cc
      refine lv_iconst (v := (0 : Int32)) hx hb dX6_hasSeat_16 (by decide) ?_
      obtain rfl := ou1 hf
      rw [hQ]
      exact W.zret hx hb hr rfl (fun t ht hW => ⟨⟨_, (), rfl, rfl, by rw [ht]; exact hP, va_K.moved hW.alike hK, hD⟩, hS.F ht⟩) hS.2.2 dX6_hasSeat_17
    ·
      replace hf := ite_f cc hf
      clear cc
      refine lv_iconst (v := (1 : Int32)) hx hb dX6_hasSeat_12 (by decide) ?_
      refine lv_goto (tgt := 17) hx hb dX6_hasSeat_13 (by decide) ?_
      obtain rfl := ou1 hf
      rw [hQ]
      exact W.zret hx hb hr rfl (fun t ht hW => ⟨⟨_, (), rfl, rfl, by rw [ht]; exact hP, va_K.moved hW.alike hK, hD⟩, hS.F ht⟩) hS.2.2 dX6_hasSeat_17

noncomputable def f_X6_hasStir (i_p0_stirs : Int32) (x1 : Int32) : Option (Int32) := (if x1 < 0 then (some (0 : Int32)) else (if i_p0_stirs ≤ x1 then (some (0 : Int32)) else (some (1 : Int32))))
abbrev rm_X6_hasStir : Room := { frames := 0, cells := 0, slots := 0, locals := 0 }
theorem inX6_hasStir_X6 : ∀ w ∈ wsX60, w ∈ wsX6_hasStir := by decide +kernel
theorem mwX6_hasStir_1 : Cond.fieldLink RX6 15 "LadleKings$Rules" "stirs" "I" ∈ wsX6_hasStir := by decide +kernel
set_option maxHeartbeats 8000000 in
set_option maxRecDepth 100000 in
theorem c_X6_hasStir (l : Launch) (D : va_G) (G : Nat → ClassId) (sz : Nat) (a_p0 : Nat) (a_p0_need : Nat) (a_p0_kind : Nat) (a_p0_first : Nat) (a_p0_second : Nat) (a_p0_after : Nat) (i_p0_seats : Int32) (i_p0_stirs : Int32) (x1 : Int32) (r : Int32) (hf : f_X6_hasStir i_p0_stirs x1 = some r) : Met l yX6_hasStir wsX6_hasStir rm_X6_hasStir (pcG D G [.ref a_p0, .int x1] sz [(a_p0, .inr (6, [.int i_p0_seats, .int i_p0_stirs, .ref a_p0_need, .ref a_p0_kind, .ref a_p0_first, .ref a_p0_second, .ref a_p0_after]))]) (qcI D G r [(a_p0, .inr (6, [.int i_p0_seats, .int i_p0_stirs, .ref a_p0_need, .ref a_p0_kind, .ref a_p0_first, .ref a_p0_second, .ref a_p0_after]))] (va_A [(a_p0, .inr (6, [.int i_p0_seats, .int i_p0_stirs, .ref a_p0_need, .ref a_p0_kind, .ref a_p0_first, .ref a_p0_second, .ref a_p0_after]))] sz)) 0 0 (va_A [(a_p0, .inr (6, [.int i_p0_seats, .int i_p0_stirs, .ref a_p0_need, .ref a_p0_kind, .ref a_p0_first, .ref a_p0_second, .ref a_p0_after]))] sz) := by
  refine Met.ofW (cc := cX6_hasStir) (maxL := 2) (ret := (some .boolean)) (by decide) rfl ?_
  intro p e s m args below meth c s₁ B hml hv
  obtain ⟨rfl, hsz, hP, hK, hD0⟩ := hv
  have hx := B.exec
  have hb := B.bytes
  have hr := B.returns
  have hts := atoms_spec (ws := wsX6_hasStir) B.pre
  have hown : s.vm.findClass RX6 = some m.cls := findClass_of_methodNamed B.named
  have hlocks := B.notSynchronized
  subst hsz
  have hD := hD0.self (sz := s.heap.size)
  generalize hAe : va_A [(a_p0, .inr (6, [.int i_p0_seats, .int i_p0_stirs, .ref a_p0_need, .ref a_p0_kind, .ref a_p0_first, .ref a_p0_second, .ref a_p0_after]))] s.heap.size = A at hD ⊢
  have hA : ∀ q : Nat, s.heap.size ≤ q → A q := fun q h => by rw [← hAe]; exact Or.inr h
  clear hAe hD0
  have hS : va_S A s.heap s.heap [] := va_S.rf
  have hl := lv_entry ([.ref a_p0, .int x1]) (n := 2) (Nat.le_of_ble_eq_true rfl)
  rw [lg_entry_eq]
  generalize (lg_sl ([.ref a_p0, .int x1]) ++ List.replicate (2 - (lg_sl ([.ref a_p0, .int x1])).length) Slot.unset).toArray = ls at hl ⊢
  have hl : lv_has ls 2 [(0, .ref a_p0), (1, .int x1)] := hl
  refine W_nameQ (fun Q hQ => ?_)
  obtain ⟨H, hH⟩ : ∃ H, H = s.heap := ⟨_, rfl⟩
  replace hS : va_S A s.heap H [] := by rw [hH]; exact hS
  replace hP : va_P D vwCl [(a_p0, .inr (6, [.int i_p0_seats, .int i_p0_stirs, .ref a_p0_need, .ref a_p0_kind, .ref a_p0_first, .ref a_p0_second, .ref a_p0_after]))] H := by rw [hH]; exact hP
  rw [← hH]
  clear hH
  unfold f_X6_hasStir at hf
  refine lv_iload_n hx hb dX6_hasStir_0 rfl (lv_at hl 1 rfl) ?_
  refine lv_if_lt (tgt := 16) hx hb dX6_hasStir_1 (by decide) (fun cc => ?_) (fun cc => ?_)
  ·
    replace hf := ite_t cc hf
    clear cc
    refine lv_iconst (v := (0 : Int32)) hx hb dX6_hasStir_16 (by decide) ?_
    obtain rfl := ou1 hf
    rw [hQ]
    exact W.zret hx hb hr rfl (fun t ht hW => ⟨⟨_, (), rfl, rfl, by rw [ht]; exact hP, va_K.moved hW.alike hK, hD⟩, hS.F ht⟩) hS.2.2 dX6_hasStir_17
  ·
    replace hf := ite_f cc hf
    clear cc
    refine lv_iload_n hx hb dX6_hasStir_4 rfl (lv_at hl 1 rfl) ?_
    refine lv_aload_n hx hb dX6_hasStir_5 rfl (lv_at hl 0 rfl) ?_
    refine va_get (D := D) (ci := 6) (v := .int i_p0_stirs) (C := RX6) (T := TX6) (N := 7) hx hb hts inX6_hasStir_X6 hown hK hP 0 rfl rfl 1 (by decide) (hts _ mwX6_hasStir_1) (fun _ h9 => h9) rfl dX6_hasStir_6 ?_
    refine lv_icmp_ge (tgt := 16) hx hb dX6_hasStir_9 (by decide) (fun cc => ?_) (fun cc => ?_)
    ·
      replace hf := ite_t cc hf
      clear cc
      refine lv_iconst (v := (0 : Int32)) hx hb dX6_hasStir_16 (by decide) ?_
      obtain rfl := ou1 hf
      rw [hQ]
      exact W.zret hx hb hr rfl (fun t ht hW => ⟨⟨_, (), rfl, rfl, by rw [ht]; exact hP, va_K.moved hW.alike hK, hD⟩, hS.F ht⟩) hS.2.2 dX6_hasStir_17
    ·
      replace hf := ite_f cc hf
      clear cc
      refine lv_iconst (v := (1 : Int32)) hx hb dX6_hasStir_12 (by decide) ?_
      refine lv_goto (tgt := 17) hx hb dX6_hasStir_13 (by decide) ?_
      obtain rfl := ou1 hf
      rw [hQ]
      exact W.zret hx hb hr rfl (fun t ht hW => ⟨⟨_, (), rfl, rfl, by rw [ht]; exact hP, va_K.moved hW.alike hK, hD⟩, hS.F ht⟩) hS.2.2 dX6_hasStir_17

noncomputable def B_X6_workOutStirs_12 (i_p0_seats : Int32) (z2 : Int32) (again2 : Int32 → Option (Unit)) (again12 : Int32 → Option (Unit)) (z5 : Int32) : Option (Unit) := (if i_p0_seats ≤ z5 then (bnd (z2 + (1 : Int32)) (fun (z7 : Int32) => (again2 z7))) else none)
noncomputable def B_X6_workOutStirs_2 (i_p0_stirs : Int32) (i_p0_seats : Int32) (again2 : Int32 → Option (Unit)) (z2 : Int32) : Option (Unit) := (if i_p0_stirs ≤ z2 then (some ()) else (bnd (0 : Int32) (fun (z4 : Int32) => (lq1 (B_X6_workOutStirs_12 i_p0_seats z2 again2) 1000 z4))))
noncomputable def f_X6_workOutStirs (i_p0_seats : Int32) (i_p0_stirs : Int32) : Option (Unit) := (bnd (0 : Int32) (fun (z1 : Int32) => (lq1 (B_X6_workOutStirs_2 i_p0_stirs i_p0_seats) 1000 z1)))
abbrev rm_X6_workOutStirs : Room := { frames := 0, cells := 0, slots := 0, locals := 0 }
theorem inX6_workOutStirs_X6 : ∀ w ∈ wsX60, w ∈ wsX6_workOutStirs := by decide +kernel
theorem mwX6_workOutStirs_1 : Cond.fieldLink RX6 15 "LadleKings$Rules" "stirs" "I" ∈ wsX6_workOutStirs := by decide +kernel
theorem mwX6_workOutStirs_2 : Cond.fieldLink RX6 9 "LadleKings$Rules" "seats" "I" ∈ wsX6_workOutStirs := by decide +kernel
theorem mwX6_workOutStirs_3 : Cond.fieldLink RX6 31 "LadleKings$Rules" "after" "[I" ∈ wsX6_workOutStirs := by decide +kernel
set_option maxHeartbeats 8000000 in
set_option maxRecDepth 100000 in
theorem c_X6_workOutStirs (l : Launch) (D : va_G) (G : Nat → ClassId) (sz : Nat) (a_p0 : Nat) (a_p0_need : Nat) (a_p0_kind : Nat) (a_p0_first : Nat) (a_p0_second : Nat) (a_p0_after : Nat) (i_p0_seats : Int32) (i_p0_stirs : Int32)  (hf : f_X6_workOutStirs i_p0_seats i_p0_stirs = some ()) : Met l yX6_workOutStirs wsX6_workOutStirs rm_X6_workOutStirs (pcG D G [.ref a_p0] sz [(a_p0, .inr (6, [.int i_p0_seats, .int i_p0_stirs, .ref a_p0_need, .ref a_p0_kind, .ref a_p0_first, .ref a_p0_second, .ref a_p0_after]))]) (qcV D G [(a_p0, .inr (6, [.int i_p0_seats, .int i_p0_stirs, .ref a_p0_need, .ref a_p0_kind, .ref a_p0_first, .ref a_p0_second, .ref a_p0_after]))] (va_A [(a_p0, .inr (6, [.int i_p0_seats, .int i_p0_stirs, .ref a_p0_need, .ref a_p0_kind, .ref a_p0_first, .ref a_p0_second, .ref a_p0_after]))] sz)) 0 0 (va_A [(a_p0, .inr (6, [.int i_p0_seats, .int i_p0_stirs, .ref a_p0_need, .ref a_p0_kind, .ref a_p0_first, .ref a_p0_second, .ref a_p0_after]))] sz) := by
  refine Met.ofW (cc := cX6_workOutStirs) (maxL := 3) (ret := none) (by decide) rfl ?_
  intro p e s m args below meth c s₁ B hml hv
  obtain ⟨rfl, hsz, hP, hK, hD0⟩ := hv
  have hx := B.exec
  have hb := B.bytes
  have hr := B.returns
  have hts := atoms_spec (ws := wsX6_workOutStirs) B.pre
  have hown : s.vm.findClass RX6 = some m.cls := findClass_of_methodNamed B.named
  have hlocks := B.notSynchronized
  subst hsz
  have hD := hD0.self (sz := s.heap.size)
  generalize hAe : va_A [(a_p0, .inr (6, [.int i_p0_seats, .int i_p0_stirs, .ref a_p0_need, .ref a_p0_kind, .ref a_p0_first, .ref a_p0_second, .ref a_p0_after]))] s.heap.size = A at hD ⊢
  have hA : ∀ q : Nat, s.heap.size ≤ q → A q := fun q h => by rw [← hAe]; exact Or.inr h
  clear hAe hD0
  have hS : va_S A s.heap s.heap [] := va_S.rf
  have hl := lv_entry ([.ref a_p0]) (n := 3) (Nat.le_of_ble_eq_true rfl)
  rw [lg_entry_eq]
  generalize (lg_sl ([.ref a_p0]) ++ List.replicate (3 - (lg_sl ([.ref a_p0])).length) Slot.unset).toArray = ls at hl ⊢
  have hl : lv_has ls 3 [(0, .ref a_p0)] := hl
  refine W_nameQ (fun Q hQ => ?_)
  obtain ⟨H, hH⟩ : ∃ H, H = s.heap := ⟨_, rfl⟩
  replace hS : va_S A s.heap H [] := by rw [hH]; exact hS
  replace hP : va_P D vwCl [(a_p0, .inr (6, [.int i_p0_seats, .int i_p0_stirs, .ref a_p0_need, .ref a_p0_kind, .ref a_p0_first, .ref a_p0_second, .ref a_p0_after]))] H := by rw [hH]; exact hP
  rw [← hH]
  clear hH
  unfold f_X6_workOutStirs at hf
  refine lv_iconst (v := (0 : Int32)) hx hb dX6_workOutStirs_0 (by decide) ?_
  refine lv_topi (fun z1 ez => ?_)
  replace hf := bnd_s hf ez
  clear ez
  refine lv_istore_n (lv' := [(1, .int z1), (0, .ref a_p0)]) hx hb dX6_workOutStirs_1 rfl hl (by decide) rfl (fun ls hl => ?_)
  have hq := lq1_i hf
  clear hf
  obtain ⟨B3, eB3, NB3, hf⟩ := hq
  have hB3 : ∀ (n : Nat) (z2 : Int32) (ls : Array Slot) (H : Heap) (locs : List Loc), lv_has ls 3 [(1, .int z2), (0, .ref a_p0)] → va_P D vwCl [(a_p0, .inr (6, [.int i_p0_seats, .int i_p0_stirs, .ref a_p0_need, .ref a_p0_kind, .ref a_p0_first, .ref a_p0_second, .ref a_p0_after]))] H → va_D A [(a_p0, .inr (6, [.int i_p0_seats, .int i_p0_stirs, .ref a_p0_need, .ref a_p0_kind, .ref a_p0_first, .ref a_p0_second, .ref a_p0_after]))] → va_S A s.heap H locs → lq1 B3 n z2 = some () → W p l e rm_X6_workOutStirs s m ([.ref a_p0] : List Value).toArray below meth c H locs 0 0 Q (F0 m 2 ls []) := by
    clear hf hl hP hD hS
    intro n
    induction n with
    | zero =>
      intro z2 ls H locs hl hP hD hS hf
      exact (lq1_0 hf).elim
    | succ n ih2 =>
      intro z2 ls H locs hl hP hD hS hf
      replace hf := lq1_s eB3 hf
      unfold B_X6_workOutStirs_2 at hf
      refine lv_iload_n hx hb dX6_workOutStirs_2 rfl (lv_at hl 0 rfl) ?_
      refine lv_aload_n hx hb dX6_workOutStirs_3 rfl (lv_at hl 1 rfl) ?_
      refine va_get (D := D) (ci := 6) (v := .int i_p0_stirs) (C := RX6) (T := TX6) (N := 7) hx hb hts inX6_workOutStirs_X6 hown hK hP 0 rfl rfl 1 (by decide) (hts _ mwX6_workOutStirs_1) (fun _ h9 => h9) rfl dX6_workOutStirs_4 ?_
      refine lv_icmp_ge (tgt := 49) hx hb dX6_workOutStirs_7 (by decide) (fun cc => ?_) (fun cc => ?_)
      ·
        replace hf := ite_t cc hf
        clear cc
        rw [hQ]
        exact W.vret hx hb hr (fun t ht hW => ⟨⟨(), rfl, trivial, by rw [ht]; exact hP, va_K.moved hW.alike hK, hD⟩, hS.F ht⟩) hS.2.2 dX6_workOutStirs_49
      ·
        replace hf := ite_f cc hf
        clear cc
        refine lv_iconst (v := (0 : Int32)) hx hb dX6_workOutStirs_10 (by decide) ?_
        refine lv_topi (fun z4 ez => ?_)
        replace hf := bnd_s hf ez
        clear ez
        refine lv_istore_n (lv' := [(2, .int z4), (1, .int z2), (0, .ref a_p0)]) hx hb dX6_workOutStirs_11 rfl hl (by decide) rfl (fun ls hl => ?_)
        have hq := lq1_i hf
        clear hf
        obtain ⟨B6, eB6, NB6, hf⟩ := hq
        have hB6 : ∀ (n : Nat) (z5 : Int32) (ls : Array Slot) (H : Heap) (locs : List Loc), lv_has ls 3 [(2, .int z5), (1, .int z2), (0, .ref a_p0)] → va_P D vwCl [(a_p0, .inr (6, [.int i_p0_seats, .int i_p0_stirs, .ref a_p0_need, .ref a_p0_kind, .ref a_p0_first, .ref a_p0_second, .ref a_p0_after]))] H → va_D A [(a_p0, .inr (6, [.int i_p0_seats, .int i_p0_stirs, .ref a_p0_need, .ref a_p0_kind, .ref a_p0_first, .ref a_p0_second, .ref a_p0_after]))] → va_S A s.heap H locs → lq1 B6 n z5 = some () → W p l e rm_X6_workOutStirs s m ([.ref a_p0] : List Value).toArray below meth c H locs 0 0 Q (F0 m 12 ls []) := by
          clear hf hl hP hD hS
          intro n
          induction n with
          | zero =>
            intro z5 ls H locs hl hP hD hS hf
            exact (lq1_0 hf).elim
          | succ n ih12 =>
            intro z5 ls H locs hl hP hD hS hf
            replace hf := lq1_s eB6 hf
            unfold B_X6_workOutStirs_12 at hf
            refine lv_iload_n hx hb dX6_workOutStirs_12 rfl (lv_at hl 0 rfl) ?_
            refine lv_aload_n hx hb dX6_workOutStirs_13 rfl (lv_at hl 2 rfl) ?_
            refine va_get (D := D) (ci := 6) (v := .int i_p0_seats) (C := RX6) (T := TX6) (N := 7) hx hb hts inX6_workOutStirs_X6 hown hK hP 0 rfl rfl 0 (by decide) (hts _ mwX6_workOutStirs_2) (fun _ h9 => h9) rfl dX6_workOutStirs_14 ?_
            refine lv_icmp_ge (tgt := 43) hx hb dX6_workOutStirs_17 (by decide) (fun cc => ?_) (fun cc => ?_)
            ·
              replace hf := ite_t cc hf
              clear cc
              obtain ⟨z7, ez⟩ : ∃ y : Int32, y = (z2 + (1 : Int32)) := ⟨_, rfl⟩
              replace hf := bnd_s hf ez
              refine lv_iinc (v := z7) (lv' := [(1, .int z7), (2, .int z5), (0, .ref a_p0)]) hx hb dX6_workOutStirs_43 hl (k := 1) rfl (by rw [ez]; rfl) (by decide) rfl (fun ls hl => ?_)
              clear ez
              refine lv_goto (tgt := 2) hx hb dX6_workOutStirs_46 (by decide) ?_
              exact ih2 _ _ _ _ (lv_sub hl [0, 2] rfl) hP hD hS hf
            ·
              replace hf := ite_f cc hf
              clear cc
              refine lv_aload_n hx hb dX6_workOutStirs_20 rfl (lv_at hl 2 rfl) ?_
              refine va_get (D := D) (ci := 6) (v := .ref a_p0_after) (C := RX6) (T := TX6) (N := 7) hx hb hts inX6_workOutStirs_X6 hown hK hP 0 rfl rfl 6 (by decide) (hts _ mwX6_workOutStirs_3) (fun _ h9 => h9) rfl dX6_workOutStirs_21 ?_
              refine lv_iload_n hx hb dX6_workOutStirs_24 rfl (lv_at hl 1 rfl) ?_
              refine lv_bipush (v := (7 : Int32)) hx hb dX6_workOutStirs_25 (by decide) ?_
              refine lv_imul hx hb dX6_workOutStirs_27 ?_
              refine lv_iload_n hx hb dX6_workOutStirs_28 rfl (lv_at hl 0 rfl) ?_
              refine lv_iadd hx hb dX6_workOutStirs_29 ?_
              refine lv_aload_n hx hb dX6_workOutStirs_30 rfl (lv_at hl 2 rfl) ?_
              refine lv_iload_n hx hb dX6_workOutStirs_31 rfl (lv_at hl 1 rfl) ?_
              refine lv_iload_n hx hb dX6_workOutStirs_32 rfl (lv_at hl 0 rfl) ?_
              cases hf
        exact hB6 _ _ _ _ _ (lv_sub hl [0, 1, 2] rfl) hP hD hS hf
  exact hB3 _ _ _ _ _ (lv_sub hl [0, 1] rfl) hP hD hS hf

noncomputable def f_X7_isNothing (i_p0_lane : Int32) : Option (Int32) := (if i_p0_lane = (-4 : Int32) then (some (1 : Int32)) else (some (0 : Int32)))
abbrev rm_X7_isNothing : Room := { frames := 0, cells := 0, slots := 0, locals := 0 }
theorem inX7_isNothing_X7 : ∀ w ∈ wsX70, w ∈ wsX7_isNothing := by decide +kernel
theorem mwX7_isNothing_1 : Cond.fieldLink RX7 9 "LadleKings$Sheet" "lane" "I" ∈ wsX7_isNothing := by decide +kernel
set_option maxHeartbeats 8000000 in
set_option maxRecDepth 100000 in
theorem c_X7_isNothing (l : Launch) (D : va_G) (G : Nat → ClassId) (sz : Nat) (a_p0 : Nat) (a_p0_cells : Nat) (i_p0_lane : Int32) (i_p0_size : Int32) (r : Int32) (hf : f_X7_isNothing i_p0_lane = some r) : Met l yX7_isNothing wsX7_isNothing rm_X7_isNothing (pcG D G [.ref a_p0] sz [(a_p0, .inr (7, [.int i_p0_lane, .int i_p0_size, .ref a_p0_cells]))]) (qcI D G r [(a_p0, .inr (7, [.int i_p0_lane, .int i_p0_size, .ref a_p0_cells]))] (va_A [(a_p0, .inr (7, [.int i_p0_lane, .int i_p0_size, .ref a_p0_cells]))] sz)) 0 0 (va_A [(a_p0, .inr (7, [.int i_p0_lane, .int i_p0_size, .ref a_p0_cells]))] sz) := by
  refine Met.ofW (cc := cX7_isNothing) (maxL := 1) (ret := (some .boolean)) (by decide) rfl ?_
  intro p e s m args below meth c s₁ B hml hv
  obtain ⟨rfl, hsz, hP, hK, hD0⟩ := hv
  have hx := B.exec
  have hb := B.bytes
  have hr := B.returns
  have hts := atoms_spec (ws := wsX7_isNothing) B.pre
  have hown : s.vm.findClass RX7 = some m.cls := findClass_of_methodNamed B.named
  have hlocks := B.notSynchronized
  subst hsz
  have hD := hD0.self (sz := s.heap.size)
  generalize hAe : va_A [(a_p0, .inr (7, [.int i_p0_lane, .int i_p0_size, .ref a_p0_cells]))] s.heap.size = A at hD ⊢
  have hA : ∀ q : Nat, s.heap.size ≤ q → A q := fun q h => by rw [← hAe]; exact Or.inr h
  clear hAe hD0
  have hS : va_S A s.heap s.heap [] := va_S.rf
  have hl := lv_entry ([.ref a_p0]) (n := 1) (Nat.le_of_ble_eq_true rfl)
  rw [lg_entry_eq]
  generalize (lg_sl ([.ref a_p0]) ++ List.replicate (1 - (lg_sl ([.ref a_p0])).length) Slot.unset).toArray = ls at hl ⊢
  have hl : lv_has ls 1 [(0, .ref a_p0)] := hl
  refine W_nameQ (fun Q hQ => ?_)
  obtain ⟨H, hH⟩ : ∃ H, H = s.heap := ⟨_, rfl⟩
  replace hS : va_S A s.heap H [] := by rw [hH]; exact hS
  replace hP : va_P D vwCl [(a_p0, .inr (7, [.int i_p0_lane, .int i_p0_size, .ref a_p0_cells]))] H := by rw [hH]; exact hP
  rw [← hH]
  clear hH
  unfold f_X7_isNothing at hf
  refine lv_aload_n hx hb dX7_isNothing_0 rfl (lv_at hl 0 rfl) ?_
  refine va_get (D := D) (ci := 7) (v := .int i_p0_lane) (C := RX7) (T := TX7) (N := 3) hx hb hts inX7_isNothing_X7 hown hK hP 0 rfl rfl 0 (by decide) (hts _ mwX7_isNothing_1) (fun _ h9 => h9) rfl dX7_isNothing_1 ?_
  refine lv_bipush (v := (-4 : Int32)) hx hb dX7_isNothing_4 (by decide) ?_
  refine lv_icmp_ne (tgt := 13) hx hb dX7_isNothing_6 (by decide) (fun cc => ?_) (fun cc => ?_)
  ·
    replace hf := ite_f cc hf
    clear cc
    refine lv_iconst (v := (0 : Int32)) hx hb dX7_isNothing_13 (by decide) ?_
    obtain rfl := ou1 hf
    rw [hQ]
    exact W.zret hx hb hr rfl (fun t ht hW => ⟨⟨_, (), rfl, rfl, by rw [ht]; exact hP, va_K.moved hW.alike hK, hD⟩, hS.F ht⟩) hS.2.2 dX7_isNothing_14
  ·
    replace hf := ite_t cc hf
    clear cc
    refine lv_iconst (v := (1 : Int32)) hx hb dX7_isNothing_9 (by decide) ?_
    refine lv_goto (tgt := 14) hx hb dX7_isNothing_10 (by decide) ?_
    obtain rfl := ou1 hf
    rw [hQ]
    exact W.zret hx hb hr rfl (fun t ht hW => ⟨⟨_, (), rfl, rfl, by rw [ht]; exact hP, va_K.moved hW.alike hK, hD⟩, hS.F ht⟩) hS.2.2 dX7_isNothing_14

noncomputable def f_X7_renew (v_p0_cells : (Nat → Int32)) (x1 : Int32) (x2 : Int32) : Option (Int32 × Int32 × (Nat → Int32)) := (bnd x1 (fun (z1 : Int32) => (bnd x2 (fun (z2 : Int32) => (bd1 (f_J7_fill_53178 40 v_p0_cells (0 : Int32)) (fun (w3 : (Nat → Int32)) => (some (z1, z2, w3))))))))
abbrev rm_X7_renew : Room := { frames := 1, cells := 0, slots := 0, locals := 23 }
theorem inX7_renew_X7 : ∀ w ∈ wsX70, w ∈ wsX7_renew := by decide +kernel
theorem mwX7_renew_1 : Cond.fieldLink RX7 9 "LadleKings$Sheet" "lane" "I" ∈ wsX7_renew := by decide +kernel
theorem mwX7_renew_2 : Cond.fieldLink RX7 15 "LadleKings$Sheet" "size" "I" ∈ wsX7_renew := by decide +kernel
theorem mwX7_renew_3 : Cond.fieldLink RX7 18 "LadleKings$Sheet" "cells" "[I" ∈ wsX7_renew := by decide +kernel
set_option maxHeartbeats 8000000 in
set_option maxRecDepth 100000 in
theorem c_X7_renew (l : Launch) (D : va_G) (G : Nat → ClassId) (sz : Nat) (a_p0 : Nat) (a_p0_cells : Nat) (i_p0_lane : Int32) (i_p0_size : Int32) (v_p0_cells : (Nat → Int32)) (x1 : Int32) (x2 : Int32) (o_i_p0_lane : Int32) (o_i_p0_size : Int32) (o_v_p0_cells : (Nat → Int32)) (hf : f_X7_renew v_p0_cells x1 x2 = some (o_i_p0_lane, o_i_p0_size, o_v_p0_cells)) : Met l yX7_renew wsX7_renew rm_X7_renew (pcG D G [.ref a_p0, .int x1, .int x2] sz [(a_p0, .inr (7, [.int i_p0_lane, .int i_p0_size, .ref a_p0_cells])), (a_p0_cells, .inl (G 1, 40, .inl v_p0_cells))]) (qcV D G [(a_p0, .inr (7, [.int o_i_p0_lane, .int o_i_p0_size, .ref a_p0_cells])), (a_p0_cells, .inl (G 1, 40, .inl o_v_p0_cells))] (va_A [(a_p0, .inr (7, [.int i_p0_lane, .int i_p0_size, .ref a_p0_cells])), (a_p0_cells, .inl (G 1, 40, .inl v_p0_cells))] sz)) 0 0 (va_A [(a_p0, .inr (7, [.int i_p0_lane, .int i_p0_size, .ref a_p0_cells])), (a_p0_cells, .inl (G 1, 40, .inl v_p0_cells))] sz) := by
  refine Met.ofW (cc := cX7_renew) (maxL := 3) (ret := none) (by decide) rfl ?_
  intro p e s m args below meth c s₁ B hml hv
  obtain ⟨rfl, hsz, hP, hK, hD0⟩ := hv
  have hx := B.exec
  have hb := B.bytes
  have hr := B.returns
  have hts := atoms_spec (ws := wsX7_renew) B.pre
  have hown : s.vm.findClass RX7 = some m.cls := findClass_of_methodNamed B.named
  have hlocks := B.notSynchronized
  subst hsz
  have hD := hD0.self (sz := s.heap.size)
  generalize hAe : va_A [(a_p0, .inr (7, [.int i_p0_lane, .int i_p0_size, .ref a_p0_cells])), (a_p0_cells, .inl (G 1, 40, .inl v_p0_cells))] s.heap.size = A at hD ⊢
  have hA : ∀ q : Nat, s.heap.size ≤ q → A q := fun q h => by rw [← hAe]; exact Or.inr h
  clear hAe hD0
  have hS : va_S A s.heap s.heap [] := va_S.rf
  have hl := lv_entry ([.ref a_p0, .int x1, .int x2]) (n := 3) (Nat.le_of_ble_eq_true rfl)
  rw [lg_entry_eq]
  generalize (lg_sl ([.ref a_p0, .int x1, .int x2]) ++ List.replicate (3 - (lg_sl ([.ref a_p0, .int x1, .int x2])).length) Slot.unset).toArray = ls at hl ⊢
  have hl : lv_has ls 3 [(0, .ref a_p0), (1, .int x1), (2, .int x2)] := hl
  refine W_nameQ (fun Q hQ => ?_)
  obtain ⟨H, hH⟩ : ∃ H, H = s.heap := ⟨_, rfl⟩
  replace hS : va_S A s.heap H [] := by rw [hH]; exact hS
  replace hP : va_P D vwCl [(a_p0, .inr (7, [.int i_p0_lane, .int i_p0_size, .ref a_p0_cells])), (a_p0_cells, .inl (G 1, 40, .inl v_p0_cells))] H := by rw [hH]; exact hP
  rw [← hH]
  clear hH
  unfold f_X7_renew at hf
  refine lv_aload_n hx hb dX7_renew_0 rfl (lv_at hl 0 rfl) ?_
  refine lv_iload_n hx hb dX7_renew_1 rfl (lv_at hl 1 rfl) ?_
  refine lv_topi (fun z1 ez => ?_)
  replace hf := bnd_s hf ez
  clear ez
  refine va_put (D := D) (ci := 7) (v := .int z1) (ty := .int) (C := RX7) (T := TX7) (N := 3) hx hb hts inX7_renew_X7 tyX7 tyX7_ok nmX7 hown hK hP hD hS 0 rfl rfl 0 (by decide) (hts _ mwX7_renew_1) (fun _ h9 => h9) rfl (by decide +kernel) rfl rfl (Nat.le_of_ble_eq_true rfl) dX7_renew_2 (fun H locs hP hD hS => ?_)
  have hP : va_P D vwCl [(a_p0, .inr (7, [.int z1, .int i_p0_size, .ref a_p0_cells])), (a_p0_cells, .inl (G 1, 40, .inl v_p0_cells))] H := hP
  have hD : va_D A [(a_p0, .inr (7, [.int z1, .int i_p0_size, .ref a_p0_cells])), (a_p0_cells, .inl (G 1, 40, .inl v_p0_cells))] := hD
  refine lv_aload_n hx hb dX7_renew_5 rfl (lv_at hl 0 rfl) ?_
  refine lv_iload_n hx hb dX7_renew_6 rfl (lv_at hl 2 rfl) ?_
  refine lv_topi (fun z2 ez => ?_)
  replace hf := bnd_s hf ez
  clear ez
  refine va_put (D := D) (ci := 7) (v := .int z2) (ty := .int) (C := RX7) (T := TX7) (N := 3) hx hb hts inX7_renew_X7 tyX7 tyX7_ok nmX7 hown hK hP hD hS 0 rfl rfl 1 (by decide) (hts _ mwX7_renew_2) (fun _ h9 => h9) rfl (by decide +kernel) rfl rfl (Nat.le_of_ble_eq_true rfl) dX7_renew_7 (fun H locs hP hD hS => ?_)
  have hP : va_P D vwCl [(a_p0, .inr (7, [.int z1, .int z2, .ref a_p0_cells])), (a_p0_cells, .inl (G 1, 40, .inl v_p0_cells))] H := hP
  have hD : va_D A [(a_p0, .inr (7, [.int z1, .int z2, .ref a_p0_cells])), (a_p0_cells, .inl (G 1, 40, .inl v_p0_cells))] := hD
  refine lv_aload_n hx hb dX7_renew_10 rfl (lv_at hl 0 rfl) ?_
  refine va_get (D := D) (ci := 7) (v := .ref a_p0_cells) (C := RX7) (T := TX7) (N := 3) hx hb hts inX7_renew_X7 hown hK hP 0 rfl rfl 2 (by decide) (hts _ mwX7_renew_3) (fun _ h9 => h9) rfl dX7_renew_11 ?_
  refine lv_iconst (v := (0 : Int32)) hx hb dX7_renew_14 (by decide) ?_
  have hq := bd1_s hf
  clear hf
  obtain ⟨w3, hcall, hf⟩ := hq
  refine gcV (ws' := [(a_p0, .inr (7, [.int z1, .int z2, .ref a_p0_cells])), (a_p0_cells, .inl (G 1, 40, .inl w3))]) (va_runS (As := [.ref a_p0_cells, .int (0 : Int32)]) (rest := []) ⟨hx, hb, hml, hown, hts⟩ (c_J7_fill_53178 (l := l) (D := D) (G := G) (sz := H.size) (a_p0 := a_p0_cells) (n_p0 := 40) (v_p0 := v_p0_cells) (x1 := (0 : Int32)) (o_v_p0 := w3) (hf := hcall)) (va_cwS 2 hts gX7_renew_J7_fill_53178 rfl rfl rfl (by decide +kernel) ⟨Nat.le_of_ble_eq_true rfl, Nat.le_of_ble_eq_true rfl⟩) (preG_S (hP.sub [1] rfl) (hD.sub [1] rfl rfl) hK) rfl rfl hl.1 rfl (lv_room (Nat.le_of_ble_eq_true rfl)) dX7_renew_15 ⟨Nat.le_of_ble_eq_true rfl, Nat.le_of_ble_eq_true rfl⟩) hP hD hS hA [1] [0] [0, 1] rfl rfl rfl (by decide) rfl rfl rfl (fun H locs hP hD hS => ?_)
  clear hcall
  obtain ⟨rfl, rfl, rfl⟩ := ou3 hf
  rw [hQ]
  exact W.vret hx hb hr (fun t ht hW => ⟨⟨(), rfl, trivial, by rw [ht]; exact hP, va_K.moved hW.alike hK, hD⟩, hS.F ht⟩) hS.2.2 dX7_renew_18

noncomputable def f_X7_faultAt (i_p0_lane : Int32) (i_p0_size : Int32) (x1 : Int32) (x2 : Int32) : Option (Int32) := (bd1 (f_X7_isNothing i_p0_lane) (fun (z1 : Int32) => (if z1 = 0 then (if x1 = i_p0_lane then (if x2 < 0 then (some (2 : Int32)) else (if x2 < i_p0_size then (some (0 : Int32)) else (some (2 : Int32)))) else (some (3 : Int32))) else (some (1 : Int32)))))
abbrev rm_X7_faultAt : Room := { frames := 1, cells := 0, slots := 0, locals := 20 }
theorem inX7_faultAt_X7 : ∀ w ∈ wsX70, w ∈ wsX7_faultAt := by decide +kernel
theorem mwX7_faultAt_1 : Cond.fieldLink RX7 9 "LadleKings$Sheet" "lane" "I" ∈ wsX7_faultAt := by decide +kernel
theorem mwX7_faultAt_2 : Cond.fieldLink RX7 15 "LadleKings$Sheet" "size" "I" ∈ wsX7_faultAt := by decide +kernel
set_option maxHeartbeats 8000000 in
set_option maxRecDepth 100000 in
theorem c_X7_faultAt (l : Launch) (D : va_G) (G : Nat → ClassId) (sz : Nat) (a_p0 : Nat) (a_p0_cells : Nat) (i_p0_lane : Int32) (i_p0_size : Int32) (x1 : Int32) (x2 : Int32) (r : Int32) (hf : f_X7_faultAt i_p0_lane i_p0_size x1 x2 = some r) : Met l yX7_faultAt wsX7_faultAt rm_X7_faultAt (pcG D G [.ref a_p0, .int x1, .int x2] sz [(a_p0, .inr (7, [.int i_p0_lane, .int i_p0_size, .ref a_p0_cells]))]) (qcI D G r [(a_p0, .inr (7, [.int i_p0_lane, .int i_p0_size, .ref a_p0_cells]))] (va_A [(a_p0, .inr (7, [.int i_p0_lane, .int i_p0_size, .ref a_p0_cells]))] sz)) 0 0 (va_A [(a_p0, .inr (7, [.int i_p0_lane, .int i_p0_size, .ref a_p0_cells]))] sz) := by
  refine Met.ofW (cc := cX7_faultAt) (maxL := 3) (ret := (some .int)) (by decide) rfl ?_
  intro p e s m args below meth c s₁ B hml hv
  obtain ⟨rfl, hsz, hP, hK, hD0⟩ := hv
  have hx := B.exec
  have hb := B.bytes
  have hr := B.returns
  have hts := atoms_spec (ws := wsX7_faultAt) B.pre
  have hown : s.vm.findClass RX7 = some m.cls := findClass_of_methodNamed B.named
  have hlocks := B.notSynchronized
  subst hsz
  have hD := hD0.self (sz := s.heap.size)
  generalize hAe : va_A [(a_p0, .inr (7, [.int i_p0_lane, .int i_p0_size, .ref a_p0_cells]))] s.heap.size = A at hD ⊢
  have hA : ∀ q : Nat, s.heap.size ≤ q → A q := fun q h => by rw [← hAe]; exact Or.inr h
  clear hAe hD0
  have hS : va_S A s.heap s.heap [] := va_S.rf
  have hl := lv_entry ([.ref a_p0, .int x1, .int x2]) (n := 3) (Nat.le_of_ble_eq_true rfl)
  rw [lg_entry_eq]
  generalize (lg_sl ([.ref a_p0, .int x1, .int x2]) ++ List.replicate (3 - (lg_sl ([.ref a_p0, .int x1, .int x2])).length) Slot.unset).toArray = ls at hl ⊢
  have hl : lv_has ls 3 [(0, .ref a_p0), (1, .int x1), (2, .int x2)] := hl
  refine W_nameQ (fun Q hQ => ?_)
  obtain ⟨H, hH⟩ : ∃ H, H = s.heap := ⟨_, rfl⟩
  replace hS : va_S A s.heap H [] := by rw [hH]; exact hS
  replace hP : va_P D vwCl [(a_p0, .inr (7, [.int i_p0_lane, .int i_p0_size, .ref a_p0_cells]))] H := by rw [hH]; exact hP
  rw [← hH]
  clear hH
  unfold f_X7_faultAt at hf
  refine lv_aload_n hx hb dX7_faultAt_0 rfl (lv_at hl 0 rfl) ?_
  have hq := bd1_s hf
  clear hf
  obtain ⟨z1, hcall, hf⟩ := hq
  refine gcI (ws' := [(a_p0, .inr (7, [.int i_p0_lane, .int i_p0_size, .ref a_p0_cells]))]) (va_runV (As := []) (rest := []) ⟨hx, hb, hml, hown, hts⟩ (c_X7_isNothing (l := l) (D := D) (G := G) (sz := H.size) (a_p0 := a_p0) (a_p0_cells := a_p0_cells) (i_p0_lane := i_p0_lane) (i_p0_size := i_p0_size) (r := z1) (hf := hcall)) (cwV 0 hts gX7_faultAt_X7_isNothing rfl rfl rfl (by decide +kernel) ⟨Nat.le_of_ble_eq_true rfl, Nat.le_of_ble_eq_true rfl⟩) (preG_V (ci := 7) (hP.sub [0] rfl) (hD.sub [0] rfl rfl) hK rfl rfl) rfl rfl hl.1 rfl (lv_room (Nat.le_of_ble_eq_true rfl)) dX7_faultAt_1 ⟨Nat.le_of_ble_eq_true rfl, Nat.le_of_ble_eq_true rfl⟩) hP hD hS hA [0] [] [0] rfl rfl rfl (by decide) rfl rfl rfl (fun H locs hP hD hS => ?_)
  clear hcall
  refine lv_if_eq (tgt := 9) hx hb dX7_faultAt_4 (by decide) (fun cc => ?_) (fun cc => ?_)
  ·
    replace hf := ite_t cc hf
    clear cc
    refine lv_iload_n hx hb dX7_faultAt_9 rfl (lv_at hl 1 rfl) ?_
    refine lv_aload_n hx hb dX7_faultAt_10 rfl (lv_at hl 0 rfl) ?_
    refine va_get (D := D) (ci := 7) (v := .int i_p0_lane) (C := RX7) (T := TX7) (N := 3) hx hb hts inX7_faultAt_X7 hown hK hP 0 rfl rfl 0 (by decide) (hts _ mwX7_faultAt_1) (fun _ h9 => h9) rfl dX7_faultAt_11 ?_
    refine lv_icmp_eq (tgt := 19) hx hb dX7_faultAt_14 (by decide) (fun cc => ?_) (fun cc => ?_)
    ·
      replace hf := ite_t cc hf
      clear cc
      refine lv_iload_n hx hb dX7_faultAt_19 rfl (lv_at hl 2 rfl) ?_
      refine lv_if_lt (tgt := 31) hx hb dX7_faultAt_20 (by decide) (fun cc => ?_) (fun cc => ?_)
      ·
        replace hf := ite_t cc hf
        clear cc
        refine lv_iconst (v := (2 : Int32)) hx hb dX7_faultAt_31 (by decide) ?_
        refine lv_goto (tgt := 36) hx hb dX7_faultAt_32 (by decide) ?_
        obtain rfl := ou1 hf
        rw [hQ]
        exact W.iret hx hb hr (fun t ht hW => ⟨⟨_, (), rfl, rfl, by rw [ht]; exact hP, va_K.moved hW.alike hK, hD⟩, hS.F ht⟩) hS.2.2 dX7_faultAt_36
      ·
        replace hf := ite_f cc hf
        clear cc
        refine lv_iload_n hx hb dX7_faultAt_23 rfl (lv_at hl 2 rfl) ?_
        refine lv_aload_n hx hb dX7_faultAt_24 rfl (lv_at hl 0 rfl) ?_
        refine va_get (D := D) (ci := 7) (v := .int i_p0_size) (C := RX7) (T := TX7) (N := 3) hx hb hts inX7_faultAt_X7 hown hK hP 0 rfl rfl 1 (by decide) (hts _ mwX7_faultAt_2) (fun _ h9 => h9) rfl dX7_faultAt_25 ?_
        refine lv_icmp_lt (tgt := 35) hx hb dX7_faultAt_28 (by decide) (fun cc => ?_) (fun cc => ?_)
        ·
          replace hf := ite_t cc hf
          clear cc
          refine lv_iconst (v := (0 : Int32)) hx hb dX7_faultAt_35 (by decide) ?_
          obtain rfl := ou1 hf
          rw [hQ]
          exact W.iret hx hb hr (fun t ht hW => ⟨⟨_, (), rfl, rfl, by rw [ht]; exact hP, va_K.moved hW.alike hK, hD⟩, hS.F ht⟩) hS.2.2 dX7_faultAt_36
        ·
          replace hf := ite_f cc hf
          clear cc
          refine lv_iconst (v := (2 : Int32)) hx hb dX7_faultAt_31 (by decide) ?_
          refine lv_goto (tgt := 36) hx hb dX7_faultAt_32 (by decide) ?_
          obtain rfl := ou1 hf
          rw [hQ]
          exact W.iret hx hb hr (fun t ht hW => ⟨⟨_, (), rfl, rfl, by rw [ht]; exact hP, va_K.moved hW.alike hK, hD⟩, hS.F ht⟩) hS.2.2 dX7_faultAt_36
    ·
      replace hf := ite_f cc hf
      clear cc
      refine lv_iconst (v := (3 : Int32)) hx hb dX7_faultAt_17 (by decide) ?_
      obtain rfl := ou1 hf
      rw [hQ]
      exact W.iret hx hb hr (fun t ht hW => ⟨⟨_, (), rfl, rfl, by rw [ht]; exact hP, va_K.moved hW.alike hK, hD⟩, hS.F ht⟩) hS.2.2 dX7_faultAt_18
  ·
    replace hf := ite_f cc hf
    clear cc
    refine lv_iconst (v := (1 : Int32)) hx hb dX7_faultAt_7 (by decide) ?_
    obtain rfl := ou1 hf
    rw [hQ]
    exact W.iret hx hb hr (fun t ht hW => ⟨⟨_, (), rfl, rfl, by rw [ht]; exact hP, va_K.moved hW.alike hK, hD⟩, hS.F ht⟩) hS.2.2 dX7_faultAt_8

noncomputable def f_X8_reset (v_p0_pieces : (Nat → Int32)) (v_p0_friends : (Nat → Int32)) (v_p0_spoons : (Nat → Int32)) (v_p0_eaten : (Nat → Int32)) : Option (Int32 × Int32 × Int32 × Int32 × (Nat → Int32) × (Nat → Int32) × (Nat → Int32) × (Nat → Int32)) := (bd1 (f_J7_fill_53178 7 v_p0_pieces (0 : Int32)) (fun (w1 : (Nat → Int32)) => (bd1 (f_J7_fill_53178 7 v_p0_friends (0 : Int32)) (fun (w2 : (Nat → Int32)) => (bd1 (f_J7_fill_53178 7 v_p0_spoons (1 : Int32)) (fun (w3 : (Nat → Int32)) => (bd1 (f_J7_fill_53178 7 v_p0_eaten (0 : Int32)) (fun (w4 : (Nat → Int32)) => (bnd (0 : Int32) (fun (z5 : Int32) => (bnd (0 : Int32) (fun (z6 : Int32) => (bnd (0 : Int32) (fun (z7 : Int32) => (bnd (0 : Int32) (fun (z8 : Int32) => (some (z5, z6, z7, z8, w1, w2, w3, w4))))))))))))))))))
abbrev rm_X8_reset : Room := { frames := 1, cells := 0, slots := 0, locals := 23 }
theorem inX8_reset_X8 : ∀ w ∈ wsX80, w ∈ wsX8_reset := by decide +kernel
theorem mwX8_reset_1 : Cond.fieldLink RX8 9 "LadleKings$State" "pieces" "[I" ∈ wsX8_reset := by decide +kernel
theorem mwX8_reset_2 : Cond.fieldLink RX8 15 "LadleKings$State" "friends" "[I" ∈ wsX8_reset := by decide +kernel
theorem mwX8_reset_3 : Cond.fieldLink RX8 18 "LadleKings$State" "spoons" "[I" ∈ wsX8_reset := by decide +kernel
theorem mwX8_reset_4 : Cond.fieldLink RX8 21 "LadleKings$State" "eaten" "[I" ∈ wsX8_reset := by decide +kernel
theorem mwX8_reset_5 : Cond.fieldLink RX8 27 "LadleKings$State" "seenDays" "I" ∈ wsX8_reset := by decide +kernel
theorem mwX8_reset_6 : Cond.fieldLink RX8 31 "LadleKings$State" "bone" "I" ∈ wsX8_reset := by decide +kernel
theorem mwX8_reset_7 : Cond.fieldLink RX8 34 "LadleKings$State" "king" "I" ∈ wsX8_reset := by decide +kernel
theorem mwX8_reset_8 : Cond.fieldLink RX8 37 "LadleKings$State" "days" "I" ∈ wsX8_reset := by decide +kernel
set_option maxHeartbeats 8000000 in
set_option maxRecDepth 100000 in
theorem c_X8_reset (l : Launch) (D : va_G) (G : Nat → ClassId) (sz : Nat) (a_p0 : Nat) (a_p0_pieces : Nat) (a_p0_friends : Nat) (a_p0_spoons : Nat) (a_p0_eaten : Nat) (a_p0_seen : Nat) (i_p0_seenDays : Int32) (i_p0_bone : Int32) (i_p0_king : Int32) (i_p0_days : Int32) (v_p0_pieces : (Nat → Int32)) (v_p0_friends : (Nat → Int32)) (v_p0_spoons : (Nat → Int32)) (v_p0_eaten : (Nat → Int32)) (o_i_p0_seenDays : Int32) (o_i_p0_bone : Int32) (o_i_p0_king : Int32) (o_i_p0_days : Int32) (o_v_p0_pieces : (Nat → Int32)) (o_v_p0_friends : (Nat → Int32)) (o_v_p0_spoons : (Nat → Int32)) (o_v_p0_eaten : (Nat → Int32)) (hf : f_X8_reset v_p0_pieces v_p0_friends v_p0_spoons v_p0_eaten = some (o_i_p0_seenDays, o_i_p0_bone, o_i_p0_king, o_i_p0_days, o_v_p0_pieces, o_v_p0_friends, o_v_p0_spoons, o_v_p0_eaten)) : Met l yX8_reset wsX8_reset rm_X8_reset (pcG D G [.ref a_p0] sz [(a_p0, .inr (8, [.ref a_p0_pieces, .ref a_p0_friends, .ref a_p0_spoons, .ref a_p0_eaten, .ref a_p0_seen, .int i_p0_seenDays, .int i_p0_bone, .int i_p0_king, .int i_p0_days])), (a_p0_pieces, .inl (G 1, 7, .inl v_p0_pieces)), (a_p0_friends, .inl (G 1, 7, .inl v_p0_friends)), (a_p0_spoons, .inl (G 1, 7, .inl v_p0_spoons)), (a_p0_eaten, .inl (G 1, 7, .inl v_p0_eaten))]) (qcV D G [(a_p0, .inr (8, [.ref a_p0_pieces, .ref a_p0_friends, .ref a_p0_spoons, .ref a_p0_eaten, .ref a_p0_seen, .int o_i_p0_seenDays, .int o_i_p0_bone, .int o_i_p0_king, .int o_i_p0_days])), (a_p0_pieces, .inl (G 1, 7, .inl o_v_p0_pieces)), (a_p0_friends, .inl (G 1, 7, .inl o_v_p0_friends)), (a_p0_spoons, .inl (G 1, 7, .inl o_v_p0_spoons)), (a_p0_eaten, .inl (G 1, 7, .inl o_v_p0_eaten))] (va_A [(a_p0, .inr (8, [.ref a_p0_pieces, .ref a_p0_friends, .ref a_p0_spoons, .ref a_p0_eaten, .ref a_p0_seen, .int i_p0_seenDays, .int i_p0_bone, .int i_p0_king, .int i_p0_days])), (a_p0_pieces, .inl (G 1, 7, .inl v_p0_pieces)), (a_p0_friends, .inl (G 1, 7, .inl v_p0_friends)), (a_p0_spoons, .inl (G 1, 7, .inl v_p0_spoons)), (a_p0_eaten, .inl (G 1, 7, .inl v_p0_eaten))] sz)) 0 0 (va_A [(a_p0, .inr (8, [.ref a_p0_pieces, .ref a_p0_friends, .ref a_p0_spoons, .ref a_p0_eaten, .ref a_p0_seen, .int i_p0_seenDays, .int i_p0_bone, .int i_p0_king, .int i_p0_days])), (a_p0_pieces, .inl (G 1, 7, .inl v_p0_pieces)), (a_p0_friends, .inl (G 1, 7, .inl v_p0_friends)), (a_p0_spoons, .inl (G 1, 7, .inl v_p0_spoons)), (a_p0_eaten, .inl (G 1, 7, .inl v_p0_eaten))] sz) := by
  refine Met.ofW (cc := cX8_reset) (maxL := 1) (ret := none) (by decide) rfl ?_
  intro p e s m args below meth c s₁ B hml hv
  obtain ⟨rfl, hsz, hP, hK, hD0⟩ := hv
  have hx := B.exec
  have hb := B.bytes
  have hr := B.returns
  have hts := atoms_spec (ws := wsX8_reset) B.pre
  have hown : s.vm.findClass RX8 = some m.cls := findClass_of_methodNamed B.named
  have hlocks := B.notSynchronized
  subst hsz
  have hD := hD0.self (sz := s.heap.size)
  generalize hAe : va_A [(a_p0, .inr (8, [.ref a_p0_pieces, .ref a_p0_friends, .ref a_p0_spoons, .ref a_p0_eaten, .ref a_p0_seen, .int i_p0_seenDays, .int i_p0_bone, .int i_p0_king, .int i_p0_days])), (a_p0_pieces, .inl (G 1, 7, .inl v_p0_pieces)), (a_p0_friends, .inl (G 1, 7, .inl v_p0_friends)), (a_p0_spoons, .inl (G 1, 7, .inl v_p0_spoons)), (a_p0_eaten, .inl (G 1, 7, .inl v_p0_eaten))] s.heap.size = A at hD ⊢
  have hA : ∀ q : Nat, s.heap.size ≤ q → A q := fun q h => by rw [← hAe]; exact Or.inr h
  clear hAe hD0
  have hS : va_S A s.heap s.heap [] := va_S.rf
  have hl := lv_entry ([.ref a_p0]) (n := 1) (Nat.le_of_ble_eq_true rfl)
  rw [lg_entry_eq]
  generalize (lg_sl ([.ref a_p0]) ++ List.replicate (1 - (lg_sl ([.ref a_p0])).length) Slot.unset).toArray = ls at hl ⊢
  have hl : lv_has ls 1 [(0, .ref a_p0)] := hl
  refine W_nameQ (fun Q hQ => ?_)
  obtain ⟨H, hH⟩ : ∃ H, H = s.heap := ⟨_, rfl⟩
  replace hS : va_S A s.heap H [] := by rw [hH]; exact hS
  replace hP : va_P D vwCl [(a_p0, .inr (8, [.ref a_p0_pieces, .ref a_p0_friends, .ref a_p0_spoons, .ref a_p0_eaten, .ref a_p0_seen, .int i_p0_seenDays, .int i_p0_bone, .int i_p0_king, .int i_p0_days])), (a_p0_pieces, .inl (G 1, 7, .inl v_p0_pieces)), (a_p0_friends, .inl (G 1, 7, .inl v_p0_friends)), (a_p0_spoons, .inl (G 1, 7, .inl v_p0_spoons)), (a_p0_eaten, .inl (G 1, 7, .inl v_p0_eaten))] H := by rw [hH]; exact hP
  rw [← hH]
  clear hH
  unfold f_X8_reset at hf
  refine lv_aload_n hx hb dX8_reset_0 rfl (lv_at hl 0 rfl) ?_
  refine va_get (D := D) (ci := 8) (v := .ref a_p0_pieces) (C := RX8) (T := TX8) (N := 9) hx hb hts inX8_reset_X8 hown hK hP 0 rfl rfl 0 (by decide) (hts _ mwX8_reset_1) (fun _ h9 => h9) rfl dX8_reset_1 ?_
  refine lv_iconst (v := (0 : Int32)) hx hb dX8_reset_4 (by decide) ?_
  have hq := bd1_s hf
  clear hf
  obtain ⟨w1, hcall, hf⟩ := hq
  refine gcV (ws' := [(a_p0, .inr (8, [.ref a_p0_pieces, .ref a_p0_friends, .ref a_p0_spoons, .ref a_p0_eaten, .ref a_p0_seen, .int i_p0_seenDays, .int i_p0_bone, .int i_p0_king, .int i_p0_days])), (a_p0_pieces, .inl (G 1, 7, .inl w1)), (a_p0_friends, .inl (G 1, 7, .inl v_p0_friends)), (a_p0_spoons, .inl (G 1, 7, .inl v_p0_spoons)), (a_p0_eaten, .inl (G 1, 7, .inl v_p0_eaten))]) (va_runS (As := [.ref a_p0_pieces, .int (0 : Int32)]) (rest := []) ⟨hx, hb, hml, hown, hts⟩ (c_J7_fill_53178 (l := l) (D := D) (G := G) (sz := H.size) (a_p0 := a_p0_pieces) (n_p0 := 7) (v_p0 := v_p0_pieces) (x1 := (0 : Int32)) (o_v_p0 := w1) (hf := hcall)) (va_cwS 2 hts gX8_reset_J7_fill_53178 rfl rfl rfl (by decide +kernel) ⟨Nat.le_of_ble_eq_true rfl, Nat.le_of_ble_eq_true rfl⟩) (preG_S (hP.sub [1] rfl) (hD.sub [1] rfl rfl) hK) rfl rfl hl.1 rfl (lv_room (Nat.le_of_ble_eq_true rfl)) dX8_reset_5 ⟨Nat.le_of_ble_eq_true rfl, Nat.le_of_ble_eq_true rfl⟩) hP hD hS hA [1] [0, 2, 3, 4] [0, 4, 1, 2, 3] rfl rfl rfl (by decide) rfl rfl rfl (fun H locs hP hD hS => ?_)
  clear hcall
  refine lv_aload_n hx hb dX8_reset_8 rfl (lv_at hl 0 rfl) ?_
  refine va_get (D := D) (ci := 8) (v := .ref a_p0_friends) (C := RX8) (T := TX8) (N := 9) hx hb hts inX8_reset_X8 hown hK hP 0 rfl rfl 1 (by decide) (hts _ mwX8_reset_2) (fun _ h9 => h9) rfl dX8_reset_9 ?_
  refine lv_iconst (v := (0 : Int32)) hx hb dX8_reset_12 (by decide) ?_
  have hq := bd1_s hf
  clear hf
  obtain ⟨w2, hcall, hf⟩ := hq
  refine gcV (ws' := [(a_p0, .inr (8, [.ref a_p0_pieces, .ref a_p0_friends, .ref a_p0_spoons, .ref a_p0_eaten, .ref a_p0_seen, .int i_p0_seenDays, .int i_p0_bone, .int i_p0_king, .int i_p0_days])), (a_p0_pieces, .inl (G 1, 7, .inl w1)), (a_p0_friends, .inl (G 1, 7, .inl w2)), (a_p0_spoons, .inl (G 1, 7, .inl v_p0_spoons)), (a_p0_eaten, .inl (G 1, 7, .inl v_p0_eaten))]) (va_runS (As := [.ref a_p0_friends, .int (0 : Int32)]) (rest := []) ⟨hx, hb, hml, hown, hts⟩ (c_J7_fill_53178 (l := l) (D := D) (G := G) (sz := H.size) (a_p0 := a_p0_friends) (n_p0 := 7) (v_p0 := v_p0_friends) (x1 := (0 : Int32)) (o_v_p0 := w2) (hf := hcall)) (va_cwS 2 hts gX8_reset_J7_fill_53178 rfl rfl rfl (by decide +kernel) ⟨Nat.le_of_ble_eq_true rfl, Nat.le_of_ble_eq_true rfl⟩) (preG_S (hP.sub [2] rfl) (hD.sub [2] rfl rfl) hK) rfl rfl hl.1 rfl (lv_room (Nat.le_of_ble_eq_true rfl)) dX8_reset_13 ⟨Nat.le_of_ble_eq_true rfl, Nat.le_of_ble_eq_true rfl⟩) hP hD hS hA [2] [0, 1, 3, 4] [0, 1, 4, 2, 3] rfl rfl rfl (by decide) rfl rfl rfl (fun H locs hP hD hS => ?_)
  clear hcall
  refine lv_aload_n hx hb dX8_reset_16 rfl (lv_at hl 0 rfl) ?_
  refine va_get (D := D) (ci := 8) (v := .ref a_p0_spoons) (C := RX8) (T := TX8) (N := 9) hx hb hts inX8_reset_X8 hown hK hP 0 rfl rfl 2 (by decide) (hts _ mwX8_reset_3) (fun _ h9 => h9) rfl dX8_reset_17 ?_
  refine lv_iconst (v := (1 : Int32)) hx hb dX8_reset_20 (by decide) ?_
  have hq := bd1_s hf
  clear hf
  obtain ⟨w3, hcall, hf⟩ := hq
  refine gcV (ws' := [(a_p0, .inr (8, [.ref a_p0_pieces, .ref a_p0_friends, .ref a_p0_spoons, .ref a_p0_eaten, .ref a_p0_seen, .int i_p0_seenDays, .int i_p0_bone, .int i_p0_king, .int i_p0_days])), (a_p0_pieces, .inl (G 1, 7, .inl w1)), (a_p0_friends, .inl (G 1, 7, .inl w2)), (a_p0_spoons, .inl (G 1, 7, .inl w3)), (a_p0_eaten, .inl (G 1, 7, .inl v_p0_eaten))]) (va_runS (As := [.ref a_p0_spoons, .int (1 : Int32)]) (rest := []) ⟨hx, hb, hml, hown, hts⟩ (c_J7_fill_53178 (l := l) (D := D) (G := G) (sz := H.size) (a_p0 := a_p0_spoons) (n_p0 := 7) (v_p0 := v_p0_spoons) (x1 := (1 : Int32)) (o_v_p0 := w3) (hf := hcall)) (va_cwS 2 hts gX8_reset_J7_fill_53178 rfl rfl rfl (by decide +kernel) ⟨Nat.le_of_ble_eq_true rfl, Nat.le_of_ble_eq_true rfl⟩) (preG_S (hP.sub [3] rfl) (hD.sub [3] rfl rfl) hK) rfl rfl hl.1 rfl (lv_room (Nat.le_of_ble_eq_true rfl)) dX8_reset_21 ⟨Nat.le_of_ble_eq_true rfl, Nat.le_of_ble_eq_true rfl⟩) hP hD hS hA [3] [0, 1, 2, 4] [0, 1, 2, 4, 3] rfl rfl rfl (by decide) rfl rfl rfl (fun H locs hP hD hS => ?_)
  clear hcall
  refine lv_aload_n hx hb dX8_reset_24 rfl (lv_at hl 0 rfl) ?_
  refine va_get (D := D) (ci := 8) (v := .ref a_p0_eaten) (C := RX8) (T := TX8) (N := 9) hx hb hts inX8_reset_X8 hown hK hP 0 rfl rfl 3 (by decide) (hts _ mwX8_reset_4) (fun _ h9 => h9) rfl dX8_reset_25 ?_
  refine lv_iconst (v := (0 : Int32)) hx hb dX8_reset_28 (by decide) ?_
  have hq := bd1_s hf
  clear hf
  obtain ⟨w4, hcall, hf⟩ := hq
  refine gcV (ws' := [(a_p0, .inr (8, [.ref a_p0_pieces, .ref a_p0_friends, .ref a_p0_spoons, .ref a_p0_eaten, .ref a_p0_seen, .int i_p0_seenDays, .int i_p0_bone, .int i_p0_king, .int i_p0_days])), (a_p0_pieces, .inl (G 1, 7, .inl w1)), (a_p0_friends, .inl (G 1, 7, .inl w2)), (a_p0_spoons, .inl (G 1, 7, .inl w3)), (a_p0_eaten, .inl (G 1, 7, .inl w4))]) (va_runS (As := [.ref a_p0_eaten, .int (0 : Int32)]) (rest := []) ⟨hx, hb, hml, hown, hts⟩ (c_J7_fill_53178 (l := l) (D := D) (G := G) (sz := H.size) (a_p0 := a_p0_eaten) (n_p0 := 7) (v_p0 := v_p0_eaten) (x1 := (0 : Int32)) (o_v_p0 := w4) (hf := hcall)) (va_cwS 2 hts gX8_reset_J7_fill_53178 rfl rfl rfl (by decide +kernel) ⟨Nat.le_of_ble_eq_true rfl, Nat.le_of_ble_eq_true rfl⟩) (preG_S (hP.sub [4] rfl) (hD.sub [4] rfl rfl) hK) rfl rfl hl.1 rfl (lv_room (Nat.le_of_ble_eq_true rfl)) dX8_reset_29 ⟨Nat.le_of_ble_eq_true rfl, Nat.le_of_ble_eq_true rfl⟩) hP hD hS hA [4] [0, 1, 2, 3] [0, 1, 2, 3, 4] rfl rfl rfl (by decide) rfl rfl rfl (fun H locs hP hD hS => ?_)
  clear hcall
  refine lv_aload_n hx hb dX8_reset_32 rfl (lv_at hl 0 rfl) ?_
  refine lv_iconst (v := (0 : Int32)) hx hb dX8_reset_33 (by decide) ?_
  refine lv_topi (fun z5 ez => ?_)
  replace hf := bnd_s hf ez
  clear ez
  refine va_put (D := D) (ci := 8) (v := .int z5) (ty := .int) (C := RX8) (T := TX8) (N := 9) hx hb hts inX8_reset_X8 tyX8 tyX8_ok nmX8 hown hK hP hD hS 0 rfl rfl 5 (by decide) (hts _ mwX8_reset_5) (fun _ h9 => h9) rfl (by decide +kernel) rfl rfl (Nat.le_of_ble_eq_true rfl) dX8_reset_34 (fun H locs hP hD hS => ?_)
  have hP : va_P D vwCl [(a_p0, .inr (8, [.ref a_p0_pieces, .ref a_p0_friends, .ref a_p0_spoons, .ref a_p0_eaten, .ref a_p0_seen, .int z5, .int i_p0_bone, .int i_p0_king, .int i_p0_days])), (a_p0_pieces, .inl (G 1, 7, .inl w1)), (a_p0_friends, .inl (G 1, 7, .inl w2)), (a_p0_spoons, .inl (G 1, 7, .inl w3)), (a_p0_eaten, .inl (G 1, 7, .inl w4))] H := hP
  have hD : va_D A [(a_p0, .inr (8, [.ref a_p0_pieces, .ref a_p0_friends, .ref a_p0_spoons, .ref a_p0_eaten, .ref a_p0_seen, .int z5, .int i_p0_bone, .int i_p0_king, .int i_p0_days])), (a_p0_pieces, .inl (G 1, 7, .inl w1)), (a_p0_friends, .inl (G 1, 7, .inl w2)), (a_p0_spoons, .inl (G 1, 7, .inl w3)), (a_p0_eaten, .inl (G 1, 7, .inl w4))] := hD
  refine lv_aload_n hx hb dX8_reset_37 rfl (lv_at hl 0 rfl) ?_
  refine lv_iconst (v := (0 : Int32)) hx hb dX8_reset_38 (by decide) ?_
  refine lv_topi (fun z6 ez => ?_)
  replace hf := bnd_s hf ez
  clear ez
  refine va_put (D := D) (ci := 8) (v := .int z6) (ty := .int) (C := RX8) (T := TX8) (N := 9) hx hb hts inX8_reset_X8 tyX8 tyX8_ok nmX8 hown hK hP hD hS 0 rfl rfl 6 (by decide) (hts _ mwX8_reset_6) (fun _ h9 => h9) rfl (by decide +kernel) rfl rfl (Nat.le_of_ble_eq_true rfl) dX8_reset_39 (fun H locs hP hD hS => ?_)
  have hP : va_P D vwCl [(a_p0, .inr (8, [.ref a_p0_pieces, .ref a_p0_friends, .ref a_p0_spoons, .ref a_p0_eaten, .ref a_p0_seen, .int z5, .int z6, .int i_p0_king, .int i_p0_days])), (a_p0_pieces, .inl (G 1, 7, .inl w1)), (a_p0_friends, .inl (G 1, 7, .inl w2)), (a_p0_spoons, .inl (G 1, 7, .inl w3)), (a_p0_eaten, .inl (G 1, 7, .inl w4))] H := hP
  have hD : va_D A [(a_p0, .inr (8, [.ref a_p0_pieces, .ref a_p0_friends, .ref a_p0_spoons, .ref a_p0_eaten, .ref a_p0_seen, .int z5, .int z6, .int i_p0_king, .int i_p0_days])), (a_p0_pieces, .inl (G 1, 7, .inl w1)), (a_p0_friends, .inl (G 1, 7, .inl w2)), (a_p0_spoons, .inl (G 1, 7, .inl w3)), (a_p0_eaten, .inl (G 1, 7, .inl w4))] := hD
  refine lv_aload_n hx hb dX8_reset_42 rfl (lv_at hl 0 rfl) ?_
  refine lv_iconst (v := (0 : Int32)) hx hb dX8_reset_43 (by decide) ?_
  refine lv_topi (fun z7 ez => ?_)
  replace hf := bnd_s hf ez
  clear ez
  refine va_put (D := D) (ci := 8) (v := .int z7) (ty := .int) (C := RX8) (T := TX8) (N := 9) hx hb hts inX8_reset_X8 tyX8 tyX8_ok nmX8 hown hK hP hD hS 0 rfl rfl 7 (by decide) (hts _ mwX8_reset_7) (fun _ h9 => h9) rfl (by decide +kernel) rfl rfl (Nat.le_of_ble_eq_true rfl) dX8_reset_44 (fun H locs hP hD hS => ?_)
  have hP : va_P D vwCl [(a_p0, .inr (8, [.ref a_p0_pieces, .ref a_p0_friends, .ref a_p0_spoons, .ref a_p0_eaten, .ref a_p0_seen, .int z5, .int z6, .int z7, .int i_p0_days])), (a_p0_pieces, .inl (G 1, 7, .inl w1)), (a_p0_friends, .inl (G 1, 7, .inl w2)), (a_p0_spoons, .inl (G 1, 7, .inl w3)), (a_p0_eaten, .inl (G 1, 7, .inl w4))] H := hP
  have hD : va_D A [(a_p0, .inr (8, [.ref a_p0_pieces, .ref a_p0_friends, .ref a_p0_spoons, .ref a_p0_eaten, .ref a_p0_seen, .int z5, .int z6, .int z7, .int i_p0_days])), (a_p0_pieces, .inl (G 1, 7, .inl w1)), (a_p0_friends, .inl (G 1, 7, .inl w2)), (a_p0_spoons, .inl (G 1, 7, .inl w3)), (a_p0_eaten, .inl (G 1, 7, .inl w4))] := hD
  refine lv_aload_n hx hb dX8_reset_47 rfl (lv_at hl 0 rfl) ?_
  refine lv_iconst (v := (0 : Int32)) hx hb dX8_reset_48 (by decide) ?_
  refine lv_topi (fun z8 ez => ?_)
  replace hf := bnd_s hf ez
  clear ez
  refine va_put (D := D) (ci := 8) (v := .int z8) (ty := .int) (C := RX8) (T := TX8) (N := 9) hx hb hts inX8_reset_X8 tyX8 tyX8_ok nmX8 hown hK hP hD hS 0 rfl rfl 8 (by decide) (hts _ mwX8_reset_8) (fun _ h9 => h9) rfl (by decide +kernel) rfl rfl (Nat.le_of_ble_eq_true rfl) dX8_reset_49 (fun H locs hP hD hS => ?_)
  have hP : va_P D vwCl [(a_p0, .inr (8, [.ref a_p0_pieces, .ref a_p0_friends, .ref a_p0_spoons, .ref a_p0_eaten, .ref a_p0_seen, .int z5, .int z6, .int z7, .int z8])), (a_p0_pieces, .inl (G 1, 7, .inl w1)), (a_p0_friends, .inl (G 1, 7, .inl w2)), (a_p0_spoons, .inl (G 1, 7, .inl w3)), (a_p0_eaten, .inl (G 1, 7, .inl w4))] H := hP
  have hD : va_D A [(a_p0, .inr (8, [.ref a_p0_pieces, .ref a_p0_friends, .ref a_p0_spoons, .ref a_p0_eaten, .ref a_p0_seen, .int z5, .int z6, .int z7, .int z8])), (a_p0_pieces, .inl (G 1, 7, .inl w1)), (a_p0_friends, .inl (G 1, 7, .inl w2)), (a_p0_spoons, .inl (G 1, 7, .inl w3)), (a_p0_eaten, .inl (G 1, 7, .inl w4))] := hD
  obtain ⟨rfl, rfl, rfl, rfl, rfl, rfl, rfl, rfl⟩ := ou8 hf
  rw [hQ]
  exact W.vret hx hb hr (fun t ht hW => ⟨⟨(), rfl, trivial, by rw [ht]; exact hP, va_K.moved hW.alike hK, hD⟩, hS.F ht⟩) hS.2.2 dX8_reset_52

noncomputable def f_X8_copy (v_p0_pieces : (Nat → Int32)) (v_p0_friends : (Nat → Int32)) (v_p0_spoons : (Nat → Int32)) (v_p0_eaten : (Nat → Int32)) (v_p0_seen : (Nat → Int32)) (i_p1_seenDays : Int32) (i_p1_bone : Int32) (i_p1_king : Int32) (i_p1_days : Int32) (v_p1_pieces : (Nat → Int32)) (v_p1_friends : (Nat → Int32)) (v_p1_spoons : (Nat → Int32)) (v_p1_eaten : (Nat → Int32)) (v_p1_seen : (Nat → Int32)) : Option (Int32 × Int32 × Int32 × Int32 × (Nat → Int32) × (Nat → Int32) × (Nat → Int32) × (Nat → Int32) × (Nat → Int32)) := (ck (cpB (0 : Int32) (7 : Int32) 7) (ck (cpB (0 : Int32) (7 : Int32) 7) (bnd (va_cpy v_p1_pieces v_p0_pieces ((0 : Int32)).toNatClampNeg ((0 : Int32)).toNatClampNeg ((7 : Int32)).toNatClampNeg) (fun (w1 : (Nat → Int32)) => (ck (cpB (0 : Int32) (7 : Int32) 7) (ck (cpB (0 : Int32) (7 : Int32) 7) (bnd (va_cpy v_p1_friends v_p0_friends ((0 : Int32)).toNatClampNeg ((0 : Int32)).toNatClampNeg ((7 : Int32)).toNatClampNeg) (fun (w2 : (Nat → Int32)) => (ck (cpB (0 : Int32) (7 : Int32) 7) (ck (cpB (0 : Int32) (7 : Int32) 7) (bnd (va_cpy v_p1_spoons v_p0_spoons ((0 : Int32)).toNatClampNeg ((0 : Int32)).toNatClampNeg ((7 : Int32)).toNatClampNeg) (fun (w3 : (Nat → Int32)) => (ck (cpB (0 : Int32) (7 : Int32) 7) (ck (cpB (0 : Int32) (7 : Int32) 7) (bnd (va_cpy v_p1_eaten v_p0_eaten ((0 : Int32)).toNatClampNeg ((0 : Int32)).toNatClampNeg ((7 : Int32)).toNatClampNeg) (fun (w4 : (Nat → Int32)) => (ck (cpB (0 : Int32) (6 : Int32) 6) (ck (cpB (0 : Int32) (6 : Int32) 6) (bnd (va_cpy v_p1_seen v_p0_seen ((0 : Int32)).toNatClampNeg ((0 : Int32)).toNatClampNeg ((6 : Int32)).toNatClampNeg) (fun (w5 : (Nat → Int32)) => (bnd i_p1_seenDays (fun (z6 : Int32) => (bnd i_p1_bone (fun (z7 : Int32) => (bnd i_p1_king (fun (z8 : Int32) => (bnd i_p1_days (fun (z9 : Int32) => (some (z6, z7, z8, z9, w1, w2, w3, w4, w5))))))))))))))))))))))))))))))
abbrev rm_X8_copy : Room := { frames := 1, cells := 0, slots := 0, locals := 60 }
theorem inX8_copy_X8 : ∀ w ∈ wsX80, w ∈ wsX8_copy := by decide +kernel
theorem mwX8_copy_1 : Cond.fieldLink RX8 9 "LadleKings$State" "pieces" "[I" ∈ wsX8_copy := by decide +kernel
theorem mwX8_copy_2 : Cond.methodLink RX8 46 arraycopyName ∈ wsX8_copy := by decide +kernel
theorem mwX8_copy_3 : Cond.native arraycopyName ∈ wsX8_copy := by decide +kernel
theorem mwX8_copy_4 : Cond.static arraycopyName ∈ wsX8_copy := by decide +kernel
theorem mwX8_copy_5 : Cond.initialized "java/lang/System" ∈ wsX8_copy := by decide +kernel
theorem mwX8_copy_6 : Cond.fieldLink RX8 15 "LadleKings$State" "friends" "[I" ∈ wsX8_copy := by decide +kernel
theorem mwX8_copy_7 : Cond.fieldLink RX8 18 "LadleKings$State" "spoons" "[I" ∈ wsX8_copy := by decide +kernel
theorem mwX8_copy_8 : Cond.fieldLink RX8 21 "LadleKings$State" "eaten" "[I" ∈ wsX8_copy := by decide +kernel
theorem mwX8_copy_9 : Cond.fieldLink RX8 24 "LadleKings$State" "seen" "[I" ∈ wsX8_copy := by decide +kernel
theorem mwX8_copy_10 : Cond.fieldLink RX8 27 "LadleKings$State" "seenDays" "I" ∈ wsX8_copy := by decide +kernel
theorem mwX8_copy_11 : Cond.fieldLink RX8 31 "LadleKings$State" "bone" "I" ∈ wsX8_copy := by decide +kernel
theorem mwX8_copy_12 : Cond.fieldLink RX8 34 "LadleKings$State" "king" "I" ∈ wsX8_copy := by decide +kernel
theorem mwX8_copy_13 : Cond.fieldLink RX8 37 "LadleKings$State" "days" "I" ∈ wsX8_copy := by decide +kernel
set_option maxHeartbeats 8000000 in
set_option maxRecDepth 100000 in
theorem c_X8_copy (l : Launch) (D : va_G) (G : Nat → ClassId) (sz : Nat) (a_p0 : Nat) (a_p0_pieces : Nat) (a_p0_friends : Nat) (a_p0_spoons : Nat) (a_p0_eaten : Nat) (a_p0_seen : Nat) (a_p1 : Nat) (a_p1_pieces : Nat) (a_p1_friends : Nat) (a_p1_spoons : Nat) (a_p1_eaten : Nat) (a_p1_seen : Nat) (i_p0_seenDays : Int32) (i_p0_bone : Int32) (i_p0_king : Int32) (i_p0_days : Int32) (v_p0_pieces : (Nat → Int32)) (v_p0_friends : (Nat → Int32)) (v_p0_spoons : (Nat → Int32)) (v_p0_eaten : (Nat → Int32)) (v_p0_seen : (Nat → Int32)) (i_p1_seenDays : Int32) (i_p1_bone : Int32) (i_p1_king : Int32) (i_p1_days : Int32) (v_p1_pieces : (Nat → Int32)) (v_p1_friends : (Nat → Int32)) (v_p1_spoons : (Nat → Int32)) (v_p1_eaten : (Nat → Int32)) (v_p1_seen : (Nat → Int32)) (o_i_p0_seenDays : Int32) (o_i_p0_bone : Int32) (o_i_p0_king : Int32) (o_i_p0_days : Int32) (o_v_p0_pieces : (Nat → Int32)) (o_v_p0_friends : (Nat → Int32)) (o_v_p0_spoons : (Nat → Int32)) (o_v_p0_eaten : (Nat → Int32)) (o_v_p0_seen : (Nat → Int32)) (hf : f_X8_copy v_p0_pieces v_p0_friends v_p0_spoons v_p0_eaten v_p0_seen i_p1_seenDays i_p1_bone i_p1_king i_p1_days v_p1_pieces v_p1_friends v_p1_spoons v_p1_eaten v_p1_seen = some (o_i_p0_seenDays, o_i_p0_bone, o_i_p0_king, o_i_p0_days, o_v_p0_pieces, o_v_p0_friends, o_v_p0_spoons, o_v_p0_eaten, o_v_p0_seen)) : Met l yX8_copy wsX8_copy rm_X8_copy (pcG D G [.ref a_p0, .ref a_p1] sz [(a_p0, .inr (8, [.ref a_p0_pieces, .ref a_p0_friends, .ref a_p0_spoons, .ref a_p0_eaten, .ref a_p0_seen, .int i_p0_seenDays, .int i_p0_bone, .int i_p0_king, .int i_p0_days])), (a_p0_pieces, .inl (G 1, 7, .inl v_p0_pieces)), (a_p0_friends, .inl (G 1, 7, .inl v_p0_friends)), (a_p0_spoons, .inl (G 1, 7, .inl v_p0_spoons)), (a_p0_eaten, .inl (G 1, 7, .inl v_p0_eaten)), (a_p0_seen, .inl (G 1, 6, .inl v_p0_seen)), (a_p1, .inr (8, [.ref a_p1_pieces, .ref a_p1_friends, .ref a_p1_spoons, .ref a_p1_eaten, .ref a_p1_seen, .int i_p1_seenDays, .int i_p1_bone, .int i_p1_king, .int i_p1_days])), (a_p1_pieces, .inl (G 1, 7, .inl v_p1_pieces)), (a_p1_friends, .inl (G 1, 7, .inl v_p1_friends)), (a_p1_spoons, .inl (G 1, 7, .inl v_p1_spoons)), (a_p1_eaten, .inl (G 1, 7, .inl v_p1_eaten)), (a_p1_seen, .inl (G 1, 6, .inl v_p1_seen))]) (qcV D G [(a_p0, .inr (8, [.ref a_p0_pieces, .ref a_p0_friends, .ref a_p0_spoons, .ref a_p0_eaten, .ref a_p0_seen, .int o_i_p0_seenDays, .int o_i_p0_bone, .int o_i_p0_king, .int o_i_p0_days])), (a_p0_pieces, .inl (G 1, 7, .inl o_v_p0_pieces)), (a_p0_friends, .inl (G 1, 7, .inl o_v_p0_friends)), (a_p0_spoons, .inl (G 1, 7, .inl o_v_p0_spoons)), (a_p0_eaten, .inl (G 1, 7, .inl o_v_p0_eaten)), (a_p0_seen, .inl (G 1, 6, .inl o_v_p0_seen)), (a_p1, .inr (8, [.ref a_p1_pieces, .ref a_p1_friends, .ref a_p1_spoons, .ref a_p1_eaten, .ref a_p1_seen, .int i_p1_seenDays, .int i_p1_bone, .int i_p1_king, .int i_p1_days])), (a_p1_pieces, .inl (G 1, 7, .inl v_p1_pieces)), (a_p1_friends, .inl (G 1, 7, .inl v_p1_friends)), (a_p1_spoons, .inl (G 1, 7, .inl v_p1_spoons)), (a_p1_eaten, .inl (G 1, 7, .inl v_p1_eaten)), (a_p1_seen, .inl (G 1, 6, .inl v_p1_seen))] (va_A [(a_p0, .inr (8, [.ref a_p0_pieces, .ref a_p0_friends, .ref a_p0_spoons, .ref a_p0_eaten, .ref a_p0_seen, .int i_p0_seenDays, .int i_p0_bone, .int i_p0_king, .int i_p0_days])), (a_p0_pieces, .inl (G 1, 7, .inl v_p0_pieces)), (a_p0_friends, .inl (G 1, 7, .inl v_p0_friends)), (a_p0_spoons, .inl (G 1, 7, .inl v_p0_spoons)), (a_p0_eaten, .inl (G 1, 7, .inl v_p0_eaten)), (a_p0_seen, .inl (G 1, 6, .inl v_p0_seen)), (a_p1, .inr (8, [.ref a_p1_pieces, .ref a_p1_friends, .ref a_p1_spoons, .ref a_p1_eaten, .ref a_p1_seen, .int i_p1_seenDays, .int i_p1_bone, .int i_p1_king, .int i_p1_days])), (a_p1_pieces, .inl (G 1, 7, .inl v_p1_pieces)), (a_p1_friends, .inl (G 1, 7, .inl v_p1_friends)), (a_p1_spoons, .inl (G 1, 7, .inl v_p1_spoons)), (a_p1_eaten, .inl (G 1, 7, .inl v_p1_eaten)), (a_p1_seen, .inl (G 1, 6, .inl v_p1_seen))] sz)) 0 0 (va_A [(a_p0, .inr (8, [.ref a_p0_pieces, .ref a_p0_friends, .ref a_p0_spoons, .ref a_p0_eaten, .ref a_p0_seen, .int i_p0_seenDays, .int i_p0_bone, .int i_p0_king, .int i_p0_days])), (a_p0_pieces, .inl (G 1, 7, .inl v_p0_pieces)), (a_p0_friends, .inl (G 1, 7, .inl v_p0_friends)), (a_p0_spoons, .inl (G 1, 7, .inl v_p0_spoons)), (a_p0_eaten, .inl (G 1, 7, .inl v_p0_eaten)), (a_p0_seen, .inl (G 1, 6, .inl v_p0_seen)), (a_p1, .inr (8, [.ref a_p1_pieces, .ref a_p1_friends, .ref a_p1_spoons, .ref a_p1_eaten, .ref a_p1_seen, .int i_p1_seenDays, .int i_p1_bone, .int i_p1_king, .int i_p1_days])), (a_p1_pieces, .inl (G 1, 7, .inl v_p1_pieces)), (a_p1_friends, .inl (G 1, 7, .inl v_p1_friends)), (a_p1_spoons, .inl (G 1, 7, .inl v_p1_spoons)), (a_p1_eaten, .inl (G 1, 7, .inl v_p1_eaten)), (a_p1_seen, .inl (G 1, 6, .inl v_p1_seen))] sz) := by
  refine Met.ofW (cc := cX8_copy) (maxL := 2) (ret := none) (by decide) rfl ?_
  intro p e s m args below meth c s₁ B hml hv
  obtain ⟨rfl, hsz, hP, hK, hD0⟩ := hv
  have hx := B.exec
  have hb := B.bytes
  have hr := B.returns
  have hts := atoms_spec (ws := wsX8_copy) B.pre
  have hown : s.vm.findClass RX8 = some m.cls := findClass_of_methodNamed B.named
  have hlocks := B.notSynchronized
  subst hsz
  have hD := hD0.self (sz := s.heap.size)
  generalize hAe : va_A [(a_p0, .inr (8, [.ref a_p0_pieces, .ref a_p0_friends, .ref a_p0_spoons, .ref a_p0_eaten, .ref a_p0_seen, .int i_p0_seenDays, .int i_p0_bone, .int i_p0_king, .int i_p0_days])), (a_p0_pieces, .inl (G 1, 7, .inl v_p0_pieces)), (a_p0_friends, .inl (G 1, 7, .inl v_p0_friends)), (a_p0_spoons, .inl (G 1, 7, .inl v_p0_spoons)), (a_p0_eaten, .inl (G 1, 7, .inl v_p0_eaten)), (a_p0_seen, .inl (G 1, 6, .inl v_p0_seen)), (a_p1, .inr (8, [.ref a_p1_pieces, .ref a_p1_friends, .ref a_p1_spoons, .ref a_p1_eaten, .ref a_p1_seen, .int i_p1_seenDays, .int i_p1_bone, .int i_p1_king, .int i_p1_days])), (a_p1_pieces, .inl (G 1, 7, .inl v_p1_pieces)), (a_p1_friends, .inl (G 1, 7, .inl v_p1_friends)), (a_p1_spoons, .inl (G 1, 7, .inl v_p1_spoons)), (a_p1_eaten, .inl (G 1, 7, .inl v_p1_eaten)), (a_p1_seen, .inl (G 1, 6, .inl v_p1_seen))] s.heap.size = A at hD ⊢
  have hA : ∀ q : Nat, s.heap.size ≤ q → A q := fun q h => by rw [← hAe]; exact Or.inr h
  clear hAe hD0
  have hS : va_S A s.heap s.heap [] := va_S.rf
  have hl := lv_entry ([.ref a_p0, .ref a_p1]) (n := 2) (Nat.le_of_ble_eq_true rfl)
  rw [lg_entry_eq]
  generalize (lg_sl ([.ref a_p0, .ref a_p1]) ++ List.replicate (2 - (lg_sl ([.ref a_p0, .ref a_p1])).length) Slot.unset).toArray = ls at hl ⊢
  have hl : lv_has ls 2 [(0, .ref a_p0), (1, .ref a_p1)] := hl
  refine W_nameQ (fun Q hQ => ?_)
  obtain ⟨H, hH⟩ : ∃ H, H = s.heap := ⟨_, rfl⟩
  replace hS : va_S A s.heap H [] := by rw [hH]; exact hS
  replace hP : va_P D vwCl [(a_p0, .inr (8, [.ref a_p0_pieces, .ref a_p0_friends, .ref a_p0_spoons, .ref a_p0_eaten, .ref a_p0_seen, .int i_p0_seenDays, .int i_p0_bone, .int i_p0_king, .int i_p0_days])), (a_p0_pieces, .inl (G 1, 7, .inl v_p0_pieces)), (a_p0_friends, .inl (G 1, 7, .inl v_p0_friends)), (a_p0_spoons, .inl (G 1, 7, .inl v_p0_spoons)), (a_p0_eaten, .inl (G 1, 7, .inl v_p0_eaten)), (a_p0_seen, .inl (G 1, 6, .inl v_p0_seen)), (a_p1, .inr (8, [.ref a_p1_pieces, .ref a_p1_friends, .ref a_p1_spoons, .ref a_p1_eaten, .ref a_p1_seen, .int i_p1_seenDays, .int i_p1_bone, .int i_p1_king, .int i_p1_days])), (a_p1_pieces, .inl (G 1, 7, .inl v_p1_pieces)), (a_p1_friends, .inl (G 1, 7, .inl v_p1_friends)), (a_p1_spoons, .inl (G 1, 7, .inl v_p1_spoons)), (a_p1_eaten, .inl (G 1, 7, .inl v_p1_eaten)), (a_p1_seen, .inl (G 1, 6, .inl v_p1_seen))] H := by rw [hH]; exact hP
  rw [← hH]
  clear hH
  unfold f_X8_copy at hf
  refine lv_aload_n hx hb dX8_copy_0 rfl (lv_at hl 1 rfl) ?_
  refine va_get (D := D) (ci := 8) (v := .ref a_p1_pieces) (C := RX8) (T := TX8) (N := 9) hx hb hts inX8_copy_X8 hown hK hP 6 rfl rfl 0 (by decide) (hts _ mwX8_copy_1) (fun _ h9 => h9) rfl dX8_copy_1 ?_
  refine lv_iconst (v := (0 : Int32)) hx hb dX8_copy_4 (by decide) ?_
  refine lv_aload_n hx hb dX8_copy_5 rfl (lv_at hl 0 rfl) ?_
  refine va_get (D := D) (ci := 8) (v := .ref a_p0_pieces) (C := RX8) (T := TX8) (N := 9) hx hb hts inX8_copy_X8 hown hK hP 0 rfl rfl 0 (by decide) (hts _ mwX8_copy_1) (fun _ h9 => h9) rfl dX8_copy_6 ?_
  refine lv_iconst (v := (0 : Int32)) hx hb dX8_copy_9 (by decide) ?_
  refine lv_bipush (v := (7 : Int32)) hx hb dX8_copy_10 (by decide) ?_
  have hc := cpB_s (ck_c hf)
  replace hf := ck_r hf
  have hc2 := cpB_s (ck_c hf)
  replace hf := ck_r hf
  refine va_copyi hx hb (by rw [hml]; exact hl.1.symm) hown (hts _ mwX8_copy_2) (hts _ mwX8_copy_3) (hts _ mwX8_copy_4) (hts _ mwX8_copy_5) hK hP hD hS 7 1 1 1 rfl rfl rfl rfl rfl hc.1 hc2.1 hc.2.1 hc.2.2 hc2.2.2 (fun _ _ => rfl) (Nat.le_of_ble_eq_true rfl) (Nat.le_of_ble_eq_true rfl) dX8_copy_12 (fun H locs hP hD hS => ?_)
  obtain ⟨w1, ez⟩ : ∃ y : (Nat → Int32), y = (va_cpy v_p1_pieces v_p0_pieces ((0 : Int32)).toNatClampNeg ((0 : Int32)).toNatClampNeg ((7 : Int32)).toNatClampNeg) := ⟨_, rfl⟩
  have hP : va_P D vwCl [(a_p0, .inr (8, [.ref a_p0_pieces, .ref a_p0_friends, .ref a_p0_spoons, .ref a_p0_eaten, .ref a_p0_seen, .int i_p0_seenDays, .int i_p0_bone, .int i_p0_king, .int i_p0_days])), (a_p0_pieces, .inl (G 1, 7, .inl w1)), (a_p0_friends, .inl (G 1, 7, .inl v_p0_friends)), (a_p0_spoons, .inl (G 1, 7, .inl v_p0_spoons)), (a_p0_eaten, .inl (G 1, 7, .inl v_p0_eaten)), (a_p0_seen, .inl (G 1, 6, .inl v_p0_seen)), (a_p1, .inr (8, [.ref a_p1_pieces, .ref a_p1_friends, .ref a_p1_spoons, .ref a_p1_eaten, .ref a_p1_seen, .int i_p1_seenDays, .int i_p1_bone, .int i_p1_king, .int i_p1_days])), (a_p1_pieces, .inl (G 1, 7, .inl v_p1_pieces)), (a_p1_friends, .inl (G 1, 7, .inl v_p1_friends)), (a_p1_spoons, .inl (G 1, 7, .inl v_p1_spoons)), (a_p1_eaten, .inl (G 1, 7, .inl v_p1_eaten)), (a_p1_seen, .inl (G 1, 6, .inl v_p1_seen))] H := by rw [ez]; exact hP
  have hD : va_D A [(a_p0, .inr (8, [.ref a_p0_pieces, .ref a_p0_friends, .ref a_p0_spoons, .ref a_p0_eaten, .ref a_p0_seen, .int i_p0_seenDays, .int i_p0_bone, .int i_p0_king, .int i_p0_days])), (a_p0_pieces, .inl (G 1, 7, .inl w1)), (a_p0_friends, .inl (G 1, 7, .inl v_p0_friends)), (a_p0_spoons, .inl (G 1, 7, .inl v_p0_spoons)), (a_p0_eaten, .inl (G 1, 7, .inl v_p0_eaten)), (a_p0_seen, .inl (G 1, 6, .inl v_p0_seen)), (a_p1, .inr (8, [.ref a_p1_pieces, .ref a_p1_friends, .ref a_p1_spoons, .ref a_p1_eaten, .ref a_p1_seen, .int i_p1_seenDays, .int i_p1_bone, .int i_p1_king, .int i_p1_days])), (a_p1_pieces, .inl (G 1, 7, .inl v_p1_pieces)), (a_p1_friends, .inl (G 1, 7, .inl v_p1_friends)), (a_p1_spoons, .inl (G 1, 7, .inl v_p1_spoons)), (a_p1_eaten, .inl (G 1, 7, .inl v_p1_eaten)), (a_p1_seen, .inl (G 1, 6, .inl v_p1_seen))] := by rw [ez]; exact hD
  replace hf := bnd_s hf ez
  clear ez hc hc2
  refine lv_aload_n hx hb dX8_copy_15 rfl (lv_at hl 1 rfl) ?_
  refine va_get (D := D) (ci := 8) (v := .ref a_p1_friends) (C := RX8) (T := TX8) (N := 9) hx hb hts inX8_copy_X8 hown hK hP 6 rfl rfl 1 (by decide) (hts _ mwX8_copy_6) (fun _ h9 => h9) rfl dX8_copy_16 ?_
  refine lv_iconst (v := (0 : Int32)) hx hb dX8_copy_19 (by decide) ?_
  refine lv_aload_n hx hb dX8_copy_20 rfl (lv_at hl 0 rfl) ?_
  refine va_get (D := D) (ci := 8) (v := .ref a_p0_friends) (C := RX8) (T := TX8) (N := 9) hx hb hts inX8_copy_X8 hown hK hP 0 rfl rfl 1 (by decide) (hts _ mwX8_copy_6) (fun _ h9 => h9) rfl dX8_copy_21 ?_
  refine lv_iconst (v := (0 : Int32)) hx hb dX8_copy_24 (by decide) ?_
  refine lv_bipush (v := (7 : Int32)) hx hb dX8_copy_25 (by decide) ?_
  have hc := cpB_s (ck_c hf)
  replace hf := ck_r hf
  have hc2 := cpB_s (ck_c hf)
  replace hf := ck_r hf
  refine va_copyi hx hb (by rw [hml]; exact hl.1.symm) hown (hts _ mwX8_copy_2) (hts _ mwX8_copy_3) (hts _ mwX8_copy_4) (hts _ mwX8_copy_5) hK hP hD hS 8 2 1 1 rfl rfl rfl rfl rfl hc.1 hc2.1 hc.2.1 hc.2.2 hc2.2.2 (fun _ _ => rfl) (Nat.le_of_ble_eq_true rfl) (Nat.le_of_ble_eq_true rfl) dX8_copy_27 (fun H locs hP hD hS => ?_)
  obtain ⟨w2, ez⟩ : ∃ y : (Nat → Int32), y = (va_cpy v_p1_friends v_p0_friends ((0 : Int32)).toNatClampNeg ((0 : Int32)).toNatClampNeg ((7 : Int32)).toNatClampNeg) := ⟨_, rfl⟩
  have hP : va_P D vwCl [(a_p0, .inr (8, [.ref a_p0_pieces, .ref a_p0_friends, .ref a_p0_spoons, .ref a_p0_eaten, .ref a_p0_seen, .int i_p0_seenDays, .int i_p0_bone, .int i_p0_king, .int i_p0_days])), (a_p0_pieces, .inl (G 1, 7, .inl w1)), (a_p0_friends, .inl (G 1, 7, .inl w2)), (a_p0_spoons, .inl (G 1, 7, .inl v_p0_spoons)), (a_p0_eaten, .inl (G 1, 7, .inl v_p0_eaten)), (a_p0_seen, .inl (G 1, 6, .inl v_p0_seen)), (a_p1, .inr (8, [.ref a_p1_pieces, .ref a_p1_friends, .ref a_p1_spoons, .ref a_p1_eaten, .ref a_p1_seen, .int i_p1_seenDays, .int i_p1_bone, .int i_p1_king, .int i_p1_days])), (a_p1_pieces, .inl (G 1, 7, .inl v_p1_pieces)), (a_p1_friends, .inl (G 1, 7, .inl v_p1_friends)), (a_p1_spoons, .inl (G 1, 7, .inl v_p1_spoons)), (a_p1_eaten, .inl (G 1, 7, .inl v_p1_eaten)), (a_p1_seen, .inl (G 1, 6, .inl v_p1_seen))] H := by rw [ez]; exact hP
  have hD : va_D A [(a_p0, .inr (8, [.ref a_p0_pieces, .ref a_p0_friends, .ref a_p0_spoons, .ref a_p0_eaten, .ref a_p0_seen, .int i_p0_seenDays, .int i_p0_bone, .int i_p0_king, .int i_p0_days])), (a_p0_pieces, .inl (G 1, 7, .inl w1)), (a_p0_friends, .inl (G 1, 7, .inl w2)), (a_p0_spoons, .inl (G 1, 7, .inl v_p0_spoons)), (a_p0_eaten, .inl (G 1, 7, .inl v_p0_eaten)), (a_p0_seen, .inl (G 1, 6, .inl v_p0_seen)), (a_p1, .inr (8, [.ref a_p1_pieces, .ref a_p1_friends, .ref a_p1_spoons, .ref a_p1_eaten, .ref a_p1_seen, .int i_p1_seenDays, .int i_p1_bone, .int i_p1_king, .int i_p1_days])), (a_p1_pieces, .inl (G 1, 7, .inl v_p1_pieces)), (a_p1_friends, .inl (G 1, 7, .inl v_p1_friends)), (a_p1_spoons, .inl (G 1, 7, .inl v_p1_spoons)), (a_p1_eaten, .inl (G 1, 7, .inl v_p1_eaten)), (a_p1_seen, .inl (G 1, 6, .inl v_p1_seen))] := by rw [ez]; exact hD
  replace hf := bnd_s hf ez
  clear ez hc hc2
  refine lv_aload_n hx hb dX8_copy_30 rfl (lv_at hl 1 rfl) ?_
  refine va_get (D := D) (ci := 8) (v := .ref a_p1_spoons) (C := RX8) (T := TX8) (N := 9) hx hb hts inX8_copy_X8 hown hK hP 6 rfl rfl 2 (by decide) (hts _ mwX8_copy_7) (fun _ h9 => h9) rfl dX8_copy_31 ?_
  refine lv_iconst (v := (0 : Int32)) hx hb dX8_copy_34 (by decide) ?_
  refine lv_aload_n hx hb dX8_copy_35 rfl (lv_at hl 0 rfl) ?_
  refine va_get (D := D) (ci := 8) (v := .ref a_p0_spoons) (C := RX8) (T := TX8) (N := 9) hx hb hts inX8_copy_X8 hown hK hP 0 rfl rfl 2 (by decide) (hts _ mwX8_copy_7) (fun _ h9 => h9) rfl dX8_copy_36 ?_
  refine lv_iconst (v := (0 : Int32)) hx hb dX8_copy_39 (by decide) ?_
  refine lv_bipush (v := (7 : Int32)) hx hb dX8_copy_40 (by decide) ?_
  have hc := cpB_s (ck_c hf)
  replace hf := ck_r hf
  have hc2 := cpB_s (ck_c hf)
  replace hf := ck_r hf
  refine va_copyi hx hb (by rw [hml]; exact hl.1.symm) hown (hts _ mwX8_copy_2) (hts _ mwX8_copy_3) (hts _ mwX8_copy_4) (hts _ mwX8_copy_5) hK hP hD hS 9 3 1 1 rfl rfl rfl rfl rfl hc.1 hc2.1 hc.2.1 hc.2.2 hc2.2.2 (fun _ _ => rfl) (Nat.le_of_ble_eq_true rfl) (Nat.le_of_ble_eq_true rfl) dX8_copy_42 (fun H locs hP hD hS => ?_)
  obtain ⟨w3, ez⟩ : ∃ y : (Nat → Int32), y = (va_cpy v_p1_spoons v_p0_spoons ((0 : Int32)).toNatClampNeg ((0 : Int32)).toNatClampNeg ((7 : Int32)).toNatClampNeg) := ⟨_, rfl⟩
  have hP : va_P D vwCl [(a_p0, .inr (8, [.ref a_p0_pieces, .ref a_p0_friends, .ref a_p0_spoons, .ref a_p0_eaten, .ref a_p0_seen, .int i_p0_seenDays, .int i_p0_bone, .int i_p0_king, .int i_p0_days])), (a_p0_pieces, .inl (G 1, 7, .inl w1)), (a_p0_friends, .inl (G 1, 7, .inl w2)), (a_p0_spoons, .inl (G 1, 7, .inl w3)), (a_p0_eaten, .inl (G 1, 7, .inl v_p0_eaten)), (a_p0_seen, .inl (G 1, 6, .inl v_p0_seen)), (a_p1, .inr (8, [.ref a_p1_pieces, .ref a_p1_friends, .ref a_p1_spoons, .ref a_p1_eaten, .ref a_p1_seen, .int i_p1_seenDays, .int i_p1_bone, .int i_p1_king, .int i_p1_days])), (a_p1_pieces, .inl (G 1, 7, .inl v_p1_pieces)), (a_p1_friends, .inl (G 1, 7, .inl v_p1_friends)), (a_p1_spoons, .inl (G 1, 7, .inl v_p1_spoons)), (a_p1_eaten, .inl (G 1, 7, .inl v_p1_eaten)), (a_p1_seen, .inl (G 1, 6, .inl v_p1_seen))] H := by rw [ez]; exact hP
  have hD : va_D A [(a_p0, .inr (8, [.ref a_p0_pieces, .ref a_p0_friends, .ref a_p0_spoons, .ref a_p0_eaten, .ref a_p0_seen, .int i_p0_seenDays, .int i_p0_bone, .int i_p0_king, .int i_p0_days])), (a_p0_pieces, .inl (G 1, 7, .inl w1)), (a_p0_friends, .inl (G 1, 7, .inl w2)), (a_p0_spoons, .inl (G 1, 7, .inl w3)), (a_p0_eaten, .inl (G 1, 7, .inl v_p0_eaten)), (a_p0_seen, .inl (G 1, 6, .inl v_p0_seen)), (a_p1, .inr (8, [.ref a_p1_pieces, .ref a_p1_friends, .ref a_p1_spoons, .ref a_p1_eaten, .ref a_p1_seen, .int i_p1_seenDays, .int i_p1_bone, .int i_p1_king, .int i_p1_days])), (a_p1_pieces, .inl (G 1, 7, .inl v_p1_pieces)), (a_p1_friends, .inl (G 1, 7, .inl v_p1_friends)), (a_p1_spoons, .inl (G 1, 7, .inl v_p1_spoons)), (a_p1_eaten, .inl (G 1, 7, .inl v_p1_eaten)), (a_p1_seen, .inl (G 1, 6, .inl v_p1_seen))] := by rw [ez]; exact hD
  replace hf := bnd_s hf ez
  clear ez hc hc2
  refine lv_aload_n hx hb dX8_copy_45 rfl (lv_at hl 1 rfl) ?_
  refine va_get (D := D) (ci := 8) (v := .ref a_p1_eaten) (C := RX8) (T := TX8) (N := 9) hx hb hts inX8_copy_X8 hown hK hP 6 rfl rfl 3 (by decide) (hts _ mwX8_copy_8) (fun _ h9 => h9) rfl dX8_copy_46 ?_
  refine lv_iconst (v := (0 : Int32)) hx hb dX8_copy_49 (by decide) ?_
  refine lv_aload_n hx hb dX8_copy_50 rfl (lv_at hl 0 rfl) ?_
  refine va_get (D := D) (ci := 8) (v := .ref a_p0_eaten) (C := RX8) (T := TX8) (N := 9) hx hb hts inX8_copy_X8 hown hK hP 0 rfl rfl 3 (by decide) (hts _ mwX8_copy_8) (fun _ h9 => h9) rfl dX8_copy_51 ?_
  refine lv_iconst (v := (0 : Int32)) hx hb dX8_copy_54 (by decide) ?_
  refine lv_bipush (v := (7 : Int32)) hx hb dX8_copy_55 (by decide) ?_
  have hc := cpB_s (ck_c hf)
  replace hf := ck_r hf
  have hc2 := cpB_s (ck_c hf)
  replace hf := ck_r hf
  refine va_copyi hx hb (by rw [hml]; exact hl.1.symm) hown (hts _ mwX8_copy_2) (hts _ mwX8_copy_3) (hts _ mwX8_copy_4) (hts _ mwX8_copy_5) hK hP hD hS 10 4 1 1 rfl rfl rfl rfl rfl hc.1 hc2.1 hc.2.1 hc.2.2 hc2.2.2 (fun _ _ => rfl) (Nat.le_of_ble_eq_true rfl) (Nat.le_of_ble_eq_true rfl) dX8_copy_57 (fun H locs hP hD hS => ?_)
  obtain ⟨w4, ez⟩ : ∃ y : (Nat → Int32), y = (va_cpy v_p1_eaten v_p0_eaten ((0 : Int32)).toNatClampNeg ((0 : Int32)).toNatClampNeg ((7 : Int32)).toNatClampNeg) := ⟨_, rfl⟩
  have hP : va_P D vwCl [(a_p0, .inr (8, [.ref a_p0_pieces, .ref a_p0_friends, .ref a_p0_spoons, .ref a_p0_eaten, .ref a_p0_seen, .int i_p0_seenDays, .int i_p0_bone, .int i_p0_king, .int i_p0_days])), (a_p0_pieces, .inl (G 1, 7, .inl w1)), (a_p0_friends, .inl (G 1, 7, .inl w2)), (a_p0_spoons, .inl (G 1, 7, .inl w3)), (a_p0_eaten, .inl (G 1, 7, .inl w4)), (a_p0_seen, .inl (G 1, 6, .inl v_p0_seen)), (a_p1, .inr (8, [.ref a_p1_pieces, .ref a_p1_friends, .ref a_p1_spoons, .ref a_p1_eaten, .ref a_p1_seen, .int i_p1_seenDays, .int i_p1_bone, .int i_p1_king, .int i_p1_days])), (a_p1_pieces, .inl (G 1, 7, .inl v_p1_pieces)), (a_p1_friends, .inl (G 1, 7, .inl v_p1_friends)), (a_p1_spoons, .inl (G 1, 7, .inl v_p1_spoons)), (a_p1_eaten, .inl (G 1, 7, .inl v_p1_eaten)), (a_p1_seen, .inl (G 1, 6, .inl v_p1_seen))] H := by rw [ez]; exact hP
  have hD : va_D A [(a_p0, .inr (8, [.ref a_p0_pieces, .ref a_p0_friends, .ref a_p0_spoons, .ref a_p0_eaten, .ref a_p0_seen, .int i_p0_seenDays, .int i_p0_bone, .int i_p0_king, .int i_p0_days])), (a_p0_pieces, .inl (G 1, 7, .inl w1)), (a_p0_friends, .inl (G 1, 7, .inl w2)), (a_p0_spoons, .inl (G 1, 7, .inl w3)), (a_p0_eaten, .inl (G 1, 7, .inl w4)), (a_p0_seen, .inl (G 1, 6, .inl v_p0_seen)), (a_p1, .inr (8, [.ref a_p1_pieces, .ref a_p1_friends, .ref a_p1_spoons, .ref a_p1_eaten, .ref a_p1_seen, .int i_p1_seenDays, .int i_p1_bone, .int i_p1_king, .int i_p1_days])), (a_p1_pieces, .inl (G 1, 7, .inl v_p1_pieces)), (a_p1_friends, .inl (G 1, 7, .inl v_p1_friends)), (a_p1_spoons, .inl (G 1, 7, .inl v_p1_spoons)), (a_p1_eaten, .inl (G 1, 7, .inl v_p1_eaten)), (a_p1_seen, .inl (G 1, 6, .inl v_p1_seen))] := by rw [ez]; exact hD
  replace hf := bnd_s hf ez
  clear ez hc hc2
  refine lv_aload_n hx hb dX8_copy_60 rfl (lv_at hl 1 rfl) ?_
  refine va_get (D := D) (ci := 8) (v := .ref a_p1_seen) (C := RX8) (T := TX8) (N := 9) hx hb hts inX8_copy_X8 hown hK hP 6 rfl rfl 4 (by decide) (hts _ mwX8_copy_9) (fun _ h9 => h9) rfl dX8_copy_61 ?_
  refine lv_iconst (v := (0 : Int32)) hx hb dX8_copy_64 (by decide) ?_
  refine lv_aload_n hx hb dX8_copy_65 rfl (lv_at hl 0 rfl) ?_
  refine va_get (D := D) (ci := 8) (v := .ref a_p0_seen) (C := RX8) (T := TX8) (N := 9) hx hb hts inX8_copy_X8 hown hK hP 0 rfl rfl 4 (by decide) (hts _ mwX8_copy_9) (fun _ h9 => h9) rfl dX8_copy_66 ?_
  refine lv_iconst (v := (0 : Int32)) hx hb dX8_copy_69 (by decide) ?_
  refine lv_bipush (v := (6 : Int32)) hx hb dX8_copy_70 (by decide) ?_
  have hc := cpB_s (ck_c hf)
  replace hf := ck_r hf
  have hc2 := cpB_s (ck_c hf)
  replace hf := ck_r hf
  refine va_copyi hx hb (by rw [hml]; exact hl.1.symm) hown (hts _ mwX8_copy_2) (hts _ mwX8_copy_3) (hts _ mwX8_copy_4) (hts _ mwX8_copy_5) hK hP hD hS 11 5 1 1 rfl rfl rfl rfl rfl hc.1 hc2.1 hc.2.1 hc.2.2 hc2.2.2 (fun _ _ => rfl) (Nat.le_of_ble_eq_true rfl) (Nat.le_of_ble_eq_true rfl) dX8_copy_72 (fun H locs hP hD hS => ?_)
  obtain ⟨w5, ez⟩ : ∃ y : (Nat → Int32), y = (va_cpy v_p1_seen v_p0_seen ((0 : Int32)).toNatClampNeg ((0 : Int32)).toNatClampNeg ((6 : Int32)).toNatClampNeg) := ⟨_, rfl⟩
  have hP : va_P D vwCl [(a_p0, .inr (8, [.ref a_p0_pieces, .ref a_p0_friends, .ref a_p0_spoons, .ref a_p0_eaten, .ref a_p0_seen, .int i_p0_seenDays, .int i_p0_bone, .int i_p0_king, .int i_p0_days])), (a_p0_pieces, .inl (G 1, 7, .inl w1)), (a_p0_friends, .inl (G 1, 7, .inl w2)), (a_p0_spoons, .inl (G 1, 7, .inl w3)), (a_p0_eaten, .inl (G 1, 7, .inl w4)), (a_p0_seen, .inl (G 1, 6, .inl w5)), (a_p1, .inr (8, [.ref a_p1_pieces, .ref a_p1_friends, .ref a_p1_spoons, .ref a_p1_eaten, .ref a_p1_seen, .int i_p1_seenDays, .int i_p1_bone, .int i_p1_king, .int i_p1_days])), (a_p1_pieces, .inl (G 1, 7, .inl v_p1_pieces)), (a_p1_friends, .inl (G 1, 7, .inl v_p1_friends)), (a_p1_spoons, .inl (G 1, 7, .inl v_p1_spoons)), (a_p1_eaten, .inl (G 1, 7, .inl v_p1_eaten)), (a_p1_seen, .inl (G 1, 6, .inl v_p1_seen))] H := by rw [ez]; exact hP
  have hD : va_D A [(a_p0, .inr (8, [.ref a_p0_pieces, .ref a_p0_friends, .ref a_p0_spoons, .ref a_p0_eaten, .ref a_p0_seen, .int i_p0_seenDays, .int i_p0_bone, .int i_p0_king, .int i_p0_days])), (a_p0_pieces, .inl (G 1, 7, .inl w1)), (a_p0_friends, .inl (G 1, 7, .inl w2)), (a_p0_spoons, .inl (G 1, 7, .inl w3)), (a_p0_eaten, .inl (G 1, 7, .inl w4)), (a_p0_seen, .inl (G 1, 6, .inl w5)), (a_p1, .inr (8, [.ref a_p1_pieces, .ref a_p1_friends, .ref a_p1_spoons, .ref a_p1_eaten, .ref a_p1_seen, .int i_p1_seenDays, .int i_p1_bone, .int i_p1_king, .int i_p1_days])), (a_p1_pieces, .inl (G 1, 7, .inl v_p1_pieces)), (a_p1_friends, .inl (G 1, 7, .inl v_p1_friends)), (a_p1_spoons, .inl (G 1, 7, .inl v_p1_spoons)), (a_p1_eaten, .inl (G 1, 7, .inl v_p1_eaten)), (a_p1_seen, .inl (G 1, 6, .inl v_p1_seen))] := by rw [ez]; exact hD
  replace hf := bnd_s hf ez
  clear ez hc hc2
  refine lv_aload_n hx hb dX8_copy_75 rfl (lv_at hl 0 rfl) ?_
  refine lv_aload_n hx hb dX8_copy_76 rfl (lv_at hl 1 rfl) ?_
  refine va_get (D := D) (ci := 8) (v := .int i_p1_seenDays) (C := RX8) (T := TX8) (N := 9) hx hb hts inX8_copy_X8 hown hK hP 6 rfl rfl 5 (by decide) (hts _ mwX8_copy_10) (fun _ h9 => h9) rfl dX8_copy_77 ?_
  refine lv_topi (fun z6 ez => ?_)
  replace hf := bnd_s hf ez
  clear ez
  refine va_put (D := D) (ci := 8) (v := .int z6) (ty := .int) (C := RX8) (T := TX8) (N := 9) hx hb hts inX8_copy_X8 tyX8 tyX8_ok nmX8 hown hK hP hD hS 0 rfl rfl 5 (by decide) (hts _ mwX8_copy_10) (fun _ h9 => h9) rfl (by decide +kernel) rfl rfl (Nat.le_of_ble_eq_true rfl) dX8_copy_80 (fun H locs hP hD hS => ?_)
  have hP : va_P D vwCl [(a_p0, .inr (8, [.ref a_p0_pieces, .ref a_p0_friends, .ref a_p0_spoons, .ref a_p0_eaten, .ref a_p0_seen, .int z6, .int i_p0_bone, .int i_p0_king, .int i_p0_days])), (a_p0_pieces, .inl (G 1, 7, .inl w1)), (a_p0_friends, .inl (G 1, 7, .inl w2)), (a_p0_spoons, .inl (G 1, 7, .inl w3)), (a_p0_eaten, .inl (G 1, 7, .inl w4)), (a_p0_seen, .inl (G 1, 6, .inl w5)), (a_p1, .inr (8, [.ref a_p1_pieces, .ref a_p1_friends, .ref a_p1_spoons, .ref a_p1_eaten, .ref a_p1_seen, .int i_p1_seenDays, .int i_p1_bone, .int i_p1_king, .int i_p1_days])), (a_p1_pieces, .inl (G 1, 7, .inl v_p1_pieces)), (a_p1_friends, .inl (G 1, 7, .inl v_p1_friends)), (a_p1_spoons, .inl (G 1, 7, .inl v_p1_spoons)), (a_p1_eaten, .inl (G 1, 7, .inl v_p1_eaten)), (a_p1_seen, .inl (G 1, 6, .inl v_p1_seen))] H := hP
  have hD : va_D A [(a_p0, .inr (8, [.ref a_p0_pieces, .ref a_p0_friends, .ref a_p0_spoons, .ref a_p0_eaten, .ref a_p0_seen, .int z6, .int i_p0_bone, .int i_p0_king, .int i_p0_days])), (a_p0_pieces, .inl (G 1, 7, .inl w1)), (a_p0_friends, .inl (G 1, 7, .inl w2)), (a_p0_spoons, .inl (G 1, 7, .inl w3)), (a_p0_eaten, .inl (G 1, 7, .inl w4)), (a_p0_seen, .inl (G 1, 6, .inl w5)), (a_p1, .inr (8, [.ref a_p1_pieces, .ref a_p1_friends, .ref a_p1_spoons, .ref a_p1_eaten, .ref a_p1_seen, .int i_p1_seenDays, .int i_p1_bone, .int i_p1_king, .int i_p1_days])), (a_p1_pieces, .inl (G 1, 7, .inl v_p1_pieces)), (a_p1_friends, .inl (G 1, 7, .inl v_p1_friends)), (a_p1_spoons, .inl (G 1, 7, .inl v_p1_spoons)), (a_p1_eaten, .inl (G 1, 7, .inl v_p1_eaten)), (a_p1_seen, .inl (G 1, 6, .inl v_p1_seen))] := hD
  refine lv_aload_n hx hb dX8_copy_83 rfl (lv_at hl 0 rfl) ?_
  refine lv_aload_n hx hb dX8_copy_84 rfl (lv_at hl 1 rfl) ?_
  refine va_get (D := D) (ci := 8) (v := .int i_p1_bone) (C := RX8) (T := TX8) (N := 9) hx hb hts inX8_copy_X8 hown hK hP 6 rfl rfl 6 (by decide) (hts _ mwX8_copy_11) (fun _ h9 => h9) rfl dX8_copy_85 ?_
  refine lv_topi (fun z7 ez => ?_)
  replace hf := bnd_s hf ez
  clear ez
  refine va_put (D := D) (ci := 8) (v := .int z7) (ty := .int) (C := RX8) (T := TX8) (N := 9) hx hb hts inX8_copy_X8 tyX8 tyX8_ok nmX8 hown hK hP hD hS 0 rfl rfl 6 (by decide) (hts _ mwX8_copy_11) (fun _ h9 => h9) rfl (by decide +kernel) rfl rfl (Nat.le_of_ble_eq_true rfl) dX8_copy_88 (fun H locs hP hD hS => ?_)
  have hP : va_P D vwCl [(a_p0, .inr (8, [.ref a_p0_pieces, .ref a_p0_friends, .ref a_p0_spoons, .ref a_p0_eaten, .ref a_p0_seen, .int z6, .int z7, .int i_p0_king, .int i_p0_days])), (a_p0_pieces, .inl (G 1, 7, .inl w1)), (a_p0_friends, .inl (G 1, 7, .inl w2)), (a_p0_spoons, .inl (G 1, 7, .inl w3)), (a_p0_eaten, .inl (G 1, 7, .inl w4)), (a_p0_seen, .inl (G 1, 6, .inl w5)), (a_p1, .inr (8, [.ref a_p1_pieces, .ref a_p1_friends, .ref a_p1_spoons, .ref a_p1_eaten, .ref a_p1_seen, .int i_p1_seenDays, .int i_p1_bone, .int i_p1_king, .int i_p1_days])), (a_p1_pieces, .inl (G 1, 7, .inl v_p1_pieces)), (a_p1_friends, .inl (G 1, 7, .inl v_p1_friends)), (a_p1_spoons, .inl (G 1, 7, .inl v_p1_spoons)), (a_p1_eaten, .inl (G 1, 7, .inl v_p1_eaten)), (a_p1_seen, .inl (G 1, 6, .inl v_p1_seen))] H := hP
  have hD : va_D A [(a_p0, .inr (8, [.ref a_p0_pieces, .ref a_p0_friends, .ref a_p0_spoons, .ref a_p0_eaten, .ref a_p0_seen, .int z6, .int z7, .int i_p0_king, .int i_p0_days])), (a_p0_pieces, .inl (G 1, 7, .inl w1)), (a_p0_friends, .inl (G 1, 7, .inl w2)), (a_p0_spoons, .inl (G 1, 7, .inl w3)), (a_p0_eaten, .inl (G 1, 7, .inl w4)), (a_p0_seen, .inl (G 1, 6, .inl w5)), (a_p1, .inr (8, [.ref a_p1_pieces, .ref a_p1_friends, .ref a_p1_spoons, .ref a_p1_eaten, .ref a_p1_seen, .int i_p1_seenDays, .int i_p1_bone, .int i_p1_king, .int i_p1_days])), (a_p1_pieces, .inl (G 1, 7, .inl v_p1_pieces)), (a_p1_friends, .inl (G 1, 7, .inl v_p1_friends)), (a_p1_spoons, .inl (G 1, 7, .inl v_p1_spoons)), (a_p1_eaten, .inl (G 1, 7, .inl v_p1_eaten)), (a_p1_seen, .inl (G 1, 6, .inl v_p1_seen))] := hD
  refine lv_aload_n hx hb dX8_copy_91 rfl (lv_at hl 0 rfl) ?_
  refine lv_aload_n hx hb dX8_copy_92 rfl (lv_at hl 1 rfl) ?_
  refine va_get (D := D) (ci := 8) (v := .int i_p1_king) (C := RX8) (T := TX8) (N := 9) hx hb hts inX8_copy_X8 hown hK hP 6 rfl rfl 7 (by decide) (hts _ mwX8_copy_12) (fun _ h9 => h9) rfl dX8_copy_93 ?_
  refine lv_topi (fun z8 ez => ?_)
  replace hf := bnd_s hf ez
  clear ez
  refine va_put (D := D) (ci := 8) (v := .int z8) (ty := .int) (C := RX8) (T := TX8) (N := 9) hx hb hts inX8_copy_X8 tyX8 tyX8_ok nmX8 hown hK hP hD hS 0 rfl rfl 7 (by decide) (hts _ mwX8_copy_12) (fun _ h9 => h9) rfl (by decide +kernel) rfl rfl (Nat.le_of_ble_eq_true rfl) dX8_copy_96 (fun H locs hP hD hS => ?_)
  have hP : va_P D vwCl [(a_p0, .inr (8, [.ref a_p0_pieces, .ref a_p0_friends, .ref a_p0_spoons, .ref a_p0_eaten, .ref a_p0_seen, .int z6, .int z7, .int z8, .int i_p0_days])), (a_p0_pieces, .inl (G 1, 7, .inl w1)), (a_p0_friends, .inl (G 1, 7, .inl w2)), (a_p0_spoons, .inl (G 1, 7, .inl w3)), (a_p0_eaten, .inl (G 1, 7, .inl w4)), (a_p0_seen, .inl (G 1, 6, .inl w5)), (a_p1, .inr (8, [.ref a_p1_pieces, .ref a_p1_friends, .ref a_p1_spoons, .ref a_p1_eaten, .ref a_p1_seen, .int i_p1_seenDays, .int i_p1_bone, .int i_p1_king, .int i_p1_days])), (a_p1_pieces, .inl (G 1, 7, .inl v_p1_pieces)), (a_p1_friends, .inl (G 1, 7, .inl v_p1_friends)), (a_p1_spoons, .inl (G 1, 7, .inl v_p1_spoons)), (a_p1_eaten, .inl (G 1, 7, .inl v_p1_eaten)), (a_p1_seen, .inl (G 1, 6, .inl v_p1_seen))] H := hP
  have hD : va_D A [(a_p0, .inr (8, [.ref a_p0_pieces, .ref a_p0_friends, .ref a_p0_spoons, .ref a_p0_eaten, .ref a_p0_seen, .int z6, .int z7, .int z8, .int i_p0_days])), (a_p0_pieces, .inl (G 1, 7, .inl w1)), (a_p0_friends, .inl (G 1, 7, .inl w2)), (a_p0_spoons, .inl (G 1, 7, .inl w3)), (a_p0_eaten, .inl (G 1, 7, .inl w4)), (a_p0_seen, .inl (G 1, 6, .inl w5)), (a_p1, .inr (8, [.ref a_p1_pieces, .ref a_p1_friends, .ref a_p1_spoons, .ref a_p1_eaten, .ref a_p1_seen, .int i_p1_seenDays, .int i_p1_bone, .int i_p1_king, .int i_p1_days])), (a_p1_pieces, .inl (G 1, 7, .inl v_p1_pieces)), (a_p1_friends, .inl (G 1, 7, .inl v_p1_friends)), (a_p1_spoons, .inl (G 1, 7, .inl v_p1_spoons)), (a_p1_eaten, .inl (G 1, 7, .inl v_p1_eaten)), (a_p1_seen, .inl (G 1, 6, .inl v_p1_seen))] := hD
  refine lv_aload_n hx hb dX8_copy_99 rfl (lv_at hl 0 rfl) ?_
  refine lv_aload_n hx hb dX8_copy_100 rfl (lv_at hl 1 rfl) ?_
  refine va_get (D := D) (ci := 8) (v := .int i_p1_days) (C := RX8) (T := TX8) (N := 9) hx hb hts inX8_copy_X8 hown hK hP 6 rfl rfl 8 (by decide) (hts _ mwX8_copy_13) (fun _ h9 => h9) rfl dX8_copy_101 ?_
  refine lv_topi (fun z9 ez => ?_)
  replace hf := bnd_s hf ez
  clear ez
  refine va_put (D := D) (ci := 8) (v := .int z9) (ty := .int) (C := RX8) (T := TX8) (N := 9) hx hb hts inX8_copy_X8 tyX8 tyX8_ok nmX8 hown hK hP hD hS 0 rfl rfl 8 (by decide) (hts _ mwX8_copy_13) (fun _ h9 => h9) rfl (by decide +kernel) rfl rfl (Nat.le_of_ble_eq_true rfl) dX8_copy_104 (fun H locs hP hD hS => ?_)
  have hP : va_P D vwCl [(a_p0, .inr (8, [.ref a_p0_pieces, .ref a_p0_friends, .ref a_p0_spoons, .ref a_p0_eaten, .ref a_p0_seen, .int z6, .int z7, .int z8, .int z9])), (a_p0_pieces, .inl (G 1, 7, .inl w1)), (a_p0_friends, .inl (G 1, 7, .inl w2)), (a_p0_spoons, .inl (G 1, 7, .inl w3)), (a_p0_eaten, .inl (G 1, 7, .inl w4)), (a_p0_seen, .inl (G 1, 6, .inl w5)), (a_p1, .inr (8, [.ref a_p1_pieces, .ref a_p1_friends, .ref a_p1_spoons, .ref a_p1_eaten, .ref a_p1_seen, .int i_p1_seenDays, .int i_p1_bone, .int i_p1_king, .int i_p1_days])), (a_p1_pieces, .inl (G 1, 7, .inl v_p1_pieces)), (a_p1_friends, .inl (G 1, 7, .inl v_p1_friends)), (a_p1_spoons, .inl (G 1, 7, .inl v_p1_spoons)), (a_p1_eaten, .inl (G 1, 7, .inl v_p1_eaten)), (a_p1_seen, .inl (G 1, 6, .inl v_p1_seen))] H := hP
  have hD : va_D A [(a_p0, .inr (8, [.ref a_p0_pieces, .ref a_p0_friends, .ref a_p0_spoons, .ref a_p0_eaten, .ref a_p0_seen, .int z6, .int z7, .int z8, .int z9])), (a_p0_pieces, .inl (G 1, 7, .inl w1)), (a_p0_friends, .inl (G 1, 7, .inl w2)), (a_p0_spoons, .inl (G 1, 7, .inl w3)), (a_p0_eaten, .inl (G 1, 7, .inl w4)), (a_p0_seen, .inl (G 1, 6, .inl w5)), (a_p1, .inr (8, [.ref a_p1_pieces, .ref a_p1_friends, .ref a_p1_spoons, .ref a_p1_eaten, .ref a_p1_seen, .int i_p1_seenDays, .int i_p1_bone, .int i_p1_king, .int i_p1_days])), (a_p1_pieces, .inl (G 1, 7, .inl v_p1_pieces)), (a_p1_friends, .inl (G 1, 7, .inl v_p1_friends)), (a_p1_spoons, .inl (G 1, 7, .inl v_p1_spoons)), (a_p1_eaten, .inl (G 1, 7, .inl v_p1_eaten)), (a_p1_seen, .inl (G 1, 6, .inl v_p1_seen))] := hD
  obtain ⟨rfl, rfl, rfl, rfl, rfl, rfl, rfl, rfl, rfl⟩ := ou9 hf
  rw [hQ]
  exact W.vret hx hb hr (fun t ht hW => ⟨⟨(), rfl, trivial, by rw [ht]; exact hP, va_K.moved hW.alike hK, hD⟩, hS.F ht⟩) hS.2.2 dX8_copy_107

noncomputable def f_X8_setFriend (v_p0_friends : (Nat → Int32)) (x1 : Int32) (x2 : Int32) (x3 : Int32) : Option ((Nat → Int32)) := (if x3 = 0 then (ck (ixB x1 7) (ck (ixB x1 7) (bnd (upd v_p0_friends (x1).toNatClampNeg ((v_p0_friends (x1).toNatClampNeg) &&& (((1 : Int32) <<< (x2 &&& 31)) ^^^ (-1 : Int32)))) (fun (w1 : (Nat → Int32)) => (some w1))))) else (ck (ixB x1 7) (ck (ixB x1 7) (bnd (upd v_p0_friends (x1).toNatClampNeg ((v_p0_friends (x1).toNatClampNeg) ||| ((1 : Int32) <<< (x2 &&& 31)))) (fun (w2 : (Nat → Int32)) => (some w2))))))
abbrev rm_X8_setFriend : Room := { frames := 0, cells := 0, slots := 0, locals := 0 }
theorem inX8_setFriend_X8 : ∀ w ∈ wsX80, w ∈ wsX8_setFriend := by decide +kernel
theorem mwX8_setFriend_1 : Cond.fieldLink RX8 15 "LadleKings$State" "friends" "[I" ∈ wsX8_setFriend := by decide +kernel
set_option maxHeartbeats 8000000 in
set_option maxRecDepth 100000 in
theorem c_X8_setFriend (l : Launch) (D : va_G) (G : Nat → ClassId) (sz : Nat) (a_p0 : Nat) (a_p0_pieces : Nat) (a_p0_friends : Nat) (a_p0_spoons : Nat) (a_p0_eaten : Nat) (a_p0_seen : Nat) (i_p0_seenDays : Int32) (i_p0_bone : Int32) (i_p0_king : Int32) (i_p0_days : Int32) (v_p0_friends : (Nat → Int32)) (x1 : Int32) (x2 : Int32) (x3 : Int32) (o_v_p0_friends : (Nat → Int32)) (hf : f_X8_setFriend v_p0_friends x1 x2 x3 = some o_v_p0_friends) : Met l yX8_setFriend wsX8_setFriend rm_X8_setFriend (pcG D G [.ref a_p0, .int x1, .int x2, .int x3] sz [(a_p0, .inr (8, [.ref a_p0_pieces, .ref a_p0_friends, .ref a_p0_spoons, .ref a_p0_eaten, .ref a_p0_seen, .int i_p0_seenDays, .int i_p0_bone, .int i_p0_king, .int i_p0_days])), (a_p0_friends, .inl (G 1, 7, .inl v_p0_friends))]) (qcV D G [(a_p0, .inr (8, [.ref a_p0_pieces, .ref a_p0_friends, .ref a_p0_spoons, .ref a_p0_eaten, .ref a_p0_seen, .int i_p0_seenDays, .int i_p0_bone, .int i_p0_king, .int i_p0_days])), (a_p0_friends, .inl (G 1, 7, .inl o_v_p0_friends))] (va_A [(a_p0, .inr (8, [.ref a_p0_pieces, .ref a_p0_friends, .ref a_p0_spoons, .ref a_p0_eaten, .ref a_p0_seen, .int i_p0_seenDays, .int i_p0_bone, .int i_p0_king, .int i_p0_days])), (a_p0_friends, .inl (G 1, 7, .inl v_p0_friends))] sz)) 0 0 (va_A [(a_p0, .inr (8, [.ref a_p0_pieces, .ref a_p0_friends, .ref a_p0_spoons, .ref a_p0_eaten, .ref a_p0_seen, .int i_p0_seenDays, .int i_p0_bone, .int i_p0_king, .int i_p0_days])), (a_p0_friends, .inl (G 1, 7, .inl v_p0_friends))] sz) := by
  refine Met.ofW (cc := cX8_setFriend) (maxL := 4) (ret := none) (by decide) rfl ?_
  intro p e s m args below meth c s₁ B hml hv
  obtain ⟨rfl, hsz, hP, hK, hD0⟩ := hv
  have hx := B.exec
  have hb := B.bytes
  have hr := B.returns
  have hts := atoms_spec (ws := wsX8_setFriend) B.pre
  have hown : s.vm.findClass RX8 = some m.cls := findClass_of_methodNamed B.named
  have hlocks := B.notSynchronized
  subst hsz
  have hD := hD0.self (sz := s.heap.size)
  generalize hAe : va_A [(a_p0, .inr (8, [.ref a_p0_pieces, .ref a_p0_friends, .ref a_p0_spoons, .ref a_p0_eaten, .ref a_p0_seen, .int i_p0_seenDays, .int i_p0_bone, .int i_p0_king, .int i_p0_days])), (a_p0_friends, .inl (G 1, 7, .inl v_p0_friends))] s.heap.size = A at hD ⊢
  have hA : ∀ q : Nat, s.heap.size ≤ q → A q := fun q h => by rw [← hAe]; exact Or.inr h
  clear hAe hD0
  have hS : va_S A s.heap s.heap [] := va_S.rf
  have hl := lv_entry ([.ref a_p0, .int x1, .int x2, .int x3]) (n := 4) (Nat.le_of_ble_eq_true rfl)
  rw [lg_entry_eq]
  generalize (lg_sl ([.ref a_p0, .int x1, .int x2, .int x3]) ++ List.replicate (4 - (lg_sl ([.ref a_p0, .int x1, .int x2, .int x3])).length) Slot.unset).toArray = ls at hl ⊢
  have hl : lv_has ls 4 [(0, .ref a_p0), (1, .int x1), (2, .int x2), (3, .int x3)] := hl
  refine W_nameQ (fun Q hQ => ?_)
  obtain ⟨H, hH⟩ : ∃ H, H = s.heap := ⟨_, rfl⟩
  replace hS : va_S A s.heap H [] := by rw [hH]; exact hS
  replace hP : va_P D vwCl [(a_p0, .inr (8, [.ref a_p0_pieces, .ref a_p0_friends, .ref a_p0_spoons, .ref a_p0_eaten, .ref a_p0_seen, .int i_p0_seenDays, .int i_p0_bone, .int i_p0_king, .int i_p0_days])), (a_p0_friends, .inl (G 1, 7, .inl v_p0_friends))] H := by rw [hH]; exact hP
  rw [← hH]
  clear hH
  unfold f_X8_setFriend at hf
  refine lv_iload_n hx hb dX8_setFriend_0 rfl (lv_at hl 3 rfl) ?_
  refine lv_if_eq (tgt := 19) hx hb dX8_setFriend_1 (by decide) (fun cc => ?_) (fun cc => ?_)
  ·
    replace hf := ite_t cc hf
    clear cc
    refine lv_aload_n hx hb dX8_setFriend_19 rfl (lv_at hl 0 rfl) ?_
    refine va_get (D := D) (ci := 8) (v := .ref a_p0_friends) (C := RX8) (T := TX8) (N := 9) hx hb hts inX8_setFriend_X8 hown hK hP 0 rfl rfl 1 (by decide) (hts _ mwX8_setFriend_1) (fun _ h9 => h9) rfl dX8_setFriend_20 ?_
    refine lv_iload_n hx hb dX8_setFriend_23 rfl (lv_at hl 1 rfl) ?_
    refine lv_dup2_11 hx hb dX8_setFriend_24 rfl rfl ?_
    have hc := ck_c hf
    replace hf := ck_r hf
    refine va_iald hx hb hK hP 1 1 rfl rfl (ixB_in hc) dX8_setFriend_25 ?_
    clear hc
    refine lv_iconst (v := (1 : Int32)) hx hb dX8_setFriend_26 (by decide) ?_
    refine lv_iload_n hx hb dX8_setFriend_27 rfl (lv_at hl 2 rfl) ?_
    refine lv_ishl hx hb dX8_setFriend_28 ?_
    refine lv_iconst (v := (-1 : Int32)) hx hb dX8_setFriend_29 (by decide) ?_
    refine lv_ixor hx hb dX8_setFriend_30 ?_
    refine lv_iand hx hb dX8_setFriend_31 ?_
    have hc := ck_c hf
    replace hf := ck_r hf
    refine gs_iast (wf := fun w1 => [(a_p0, .inr (8, [.ref a_p0_pieces, .ref a_p0_friends, .ref a_p0_spoons, .ref a_p0_eaten, .ref a_p0_seen, .int i_p0_seenDays, .int i_p0_bone, .int i_p0_king, .int i_p0_days])), (a_p0_friends, .inl (G 1, 7, .inl w1))]) hx hb hK hP hD hS 1 1 rfl rfl (ixB_in hc) dX8_setFriend_32 (fun _ => rfl) (fun w1 ez H locs hP hD hS => ?_)
    replace hf := bnd_s hf ez
    clear ez hc
    obtain rfl := ou1 hf
    rw [hQ]
    exact W.vret hx hb hr (fun t ht hW => ⟨⟨(), rfl, trivial, by rw [ht]; exact hP, va_K.moved hW.alike hK, hD⟩, hS.F ht⟩) hS.2.2 dX8_setFriend_33
  ·
    replace hf := ite_f cc hf
    clear cc
    refine lv_aload_n hx hb dX8_setFriend_4 rfl (lv_at hl 0 rfl) ?_
    refine va_get (D := D) (ci := 8) (v := .ref a_p0_friends) (C := RX8) (T := TX8) (N := 9) hx hb hts inX8_setFriend_X8 hown hK hP 0 rfl rfl 1 (by decide) (hts _ mwX8_setFriend_1) (fun _ h9 => h9) rfl dX8_setFriend_5 ?_
    refine lv_iload_n hx hb dX8_setFriend_8 rfl (lv_at hl 1 rfl) ?_
    refine lv_dup2_11 hx hb dX8_setFriend_9 rfl rfl ?_
    have hc := ck_c hf
    replace hf := ck_r hf
    refine va_iald hx hb hK hP 1 1 rfl rfl (ixB_in hc) dX8_setFriend_10 ?_
    clear hc
    refine lv_iconst (v := (1 : Int32)) hx hb dX8_setFriend_11 (by decide) ?_
    refine lv_iload_n hx hb dX8_setFriend_12 rfl (lv_at hl 2 rfl) ?_
    refine lv_ishl hx hb dX8_setFriend_13 ?_
    refine lv_ior hx hb dX8_setFriend_14 ?_
    have hc := ck_c hf
    replace hf := ck_r hf
    refine gs_iast (wf := fun w2 => [(a_p0, .inr (8, [.ref a_p0_pieces, .ref a_p0_friends, .ref a_p0_spoons, .ref a_p0_eaten, .ref a_p0_seen, .int i_p0_seenDays, .int i_p0_bone, .int i_p0_king, .int i_p0_days])), (a_p0_friends, .inl (G 1, 7, .inl w2))]) hx hb hK hP hD hS 1 1 rfl rfl (ixB_in hc) dX8_setFriend_15 (fun _ => rfl) (fun w2 ez H locs hP hD hS => ?_)
    replace hf := bnd_s hf ez
    clear ez hc
    refine lv_goto (tgt := 33) hx hb dX8_setFriend_16 (by decide) ?_
    obtain rfl := ou1 hf
    rw [hQ]
    exact W.vret hx hb hr (fun t ht hW => ⟨⟨(), rfl, trivial, by rw [ht]; exact hP, va_K.moved hW.alike hK, hD⟩, hS.F ht⟩) hS.2.2 dX8_setFriend_33

noncomputable def B_X9_append_18 (x1 : Int64) (again18 : Int32 → Int32 → (Nat → Int32) → Option (Int32 × Int32 × (Nat → Int32))) (z2 : Int32) (z3 : Int32) (w4 : (Nat → Int32)) : Option (Int32 × Int32 × (Nat → Int32)) := (if z2 < 0 then (some ((1 : Int32), z3, w4)) else (ck (ixB z3 320) (bnd (upd w4 (z3).toNatClampNeg (vp_nar .byte (((x1 >>> (z2.toInt64 &&& 63))).toInt32).toInt8.toInt32)) (fun (w6 : (Nat → Int32)) => (bnd (z3 + (1 : Int32)) (fun (z7 : Int32) => (bnd (z2 + (-8 : Int32)) (fun (z8 : Int32) => (again18 z8 z7 w6)))))))))
noncomputable def f_X9_append (i_p0_length : Int32) (v_p0_bytes : (Nat → Int32)) (x1 : Int64) : Option (Int32 × Int32 × (Nat → Int32)) := (if (i_p0_length + (8 : Int32)) ≤ (320 : Int32) then (bnd (56 : Int32) (fun (z1 : Int32) => (lq3 (B_X9_append_18 x1) 1000 z1 i_p0_length v_p0_bytes))) else (some ((0 : Int32), i_p0_length, v_p0_bytes)))
abbrev rm_X9_append : Room := { frames := 0, cells := 0, slots := 0, locals := 0 }
theorem inX9_append_X9 : ∀ w ∈ wsX90, w ∈ wsX9_append := by decide +kernel
theorem mwX9_append_1 : Cond.fieldLink RX9 15 "LadleKings$Tape" "length" "I" ∈ wsX9_append := by decide +kernel
theorem mwX9_append_2 : Cond.fieldLink RX9 9 "LadleKings$Tape" "bytes" "[B" ∈ wsX9_append := by decide +kernel
set_option maxHeartbeats 8000000 in
set_option maxRecDepth 100000 in
theorem c_X9_append (l : Launch) (D : va_G) (G : Nat → ClassId) (sz : Nat) (a_p0 : Nat) (a_p0_bytes : Nat) (i_p0_length : Int32) (i_p0_at : Int32) (i_p0_token : Int32) (i_p0_start : Int32) (i_p0_value : Int32) (v_p0_bytes : (Nat → Int32)) (x1 : Int64) (r : Int32) (o_i_p0_length : Int32) (o_v_p0_bytes : (Nat → Int32)) (hf : f_X9_append i_p0_length v_p0_bytes x1 = some (r, o_i_p0_length, o_v_p0_bytes)) : Met l yX9_append wsX9_append rm_X9_append (pcG D G [.ref a_p0, .long x1] sz [(a_p0, .inr (9, [.ref a_p0_bytes, .int i_p0_length, .int i_p0_at, .int i_p0_token, .int i_p0_start, .int i_p0_value])), (a_p0_bytes, .inl (G 0, 320, .inl v_p0_bytes))]) (qcI D G r [(a_p0, .inr (9, [.ref a_p0_bytes, .int o_i_p0_length, .int i_p0_at, .int i_p0_token, .int i_p0_start, .int i_p0_value])), (a_p0_bytes, .inl (G 0, 320, .inl o_v_p0_bytes))] (va_A [(a_p0, .inr (9, [.ref a_p0_bytes, .int i_p0_length, .int i_p0_at, .int i_p0_token, .int i_p0_start, .int i_p0_value])), (a_p0_bytes, .inl (G 0, 320, .inl v_p0_bytes))] sz)) 0 0 (va_A [(a_p0, .inr (9, [.ref a_p0_bytes, .int i_p0_length, .int i_p0_at, .int i_p0_token, .int i_p0_start, .int i_p0_value])), (a_p0_bytes, .inl (G 0, 320, .inl v_p0_bytes))] sz) := by
  refine Met.ofW (cc := cX9_append) (maxL := 4) (ret := (some .boolean)) (by decide) rfl ?_
  intro p e s m args below meth c s₁ B hml hv
  obtain ⟨rfl, hsz, hP, hK, hD0⟩ := hv
  have hx := B.exec
  have hb := B.bytes
  have hr := B.returns
  have hts := atoms_spec (ws := wsX9_append) B.pre
  have hown : s.vm.findClass RX9 = some m.cls := findClass_of_methodNamed B.named
  have hlocks := B.notSynchronized
  subst hsz
  have hD := hD0.self (sz := s.heap.size)
  generalize hAe : va_A [(a_p0, .inr (9, [.ref a_p0_bytes, .int i_p0_length, .int i_p0_at, .int i_p0_token, .int i_p0_start, .int i_p0_value])), (a_p0_bytes, .inl (G 0, 320, .inl v_p0_bytes))] s.heap.size = A at hD ⊢
  have hA : ∀ q : Nat, s.heap.size ≤ q → A q := fun q h => by rw [← hAe]; exact Or.inr h
  clear hAe hD0
  have hS : va_S A s.heap s.heap [] := va_S.rf
  have hl := lv_entry ([.ref a_p0, .long x1]) (n := 4) (Nat.le_of_ble_eq_true rfl)
  rw [lg_entry_eq]
  generalize (lg_sl ([.ref a_p0, .long x1]) ++ List.replicate (4 - (lg_sl ([.ref a_p0, .long x1])).length) Slot.unset).toArray = ls at hl ⊢
  have hl : lv_has ls 4 [(0, .ref a_p0), (1, .long x1)] := hl
  refine W_nameQ (fun Q hQ => ?_)
  obtain ⟨H, hH⟩ : ∃ H, H = s.heap := ⟨_, rfl⟩
  replace hS : va_S A s.heap H [] := by rw [hH]; exact hS
  replace hP : va_P D vwCl [(a_p0, .inr (9, [.ref a_p0_bytes, .int i_p0_length, .int i_p0_at, .int i_p0_token, .int i_p0_start, .int i_p0_value])), (a_p0_bytes, .inl (G 0, 320, .inl v_p0_bytes))] H := by rw [hH]; exact hP
  rw [← hH]
  clear hH
  unfold f_X9_append at hf
  refine lv_aload_n hx hb dX9_append_0 rfl (lv_at hl 0 rfl) ?_
  refine va_get (D := D) (ci := 9) (v := .int i_p0_length) (C := RX9) (T := TX9) (N := 6) hx hb hts inX9_append_X9 hown hK hP 0 rfl rfl 1 (by decide) (hts _ mwX9_append_1) (fun _ h9 => h9) rfl dX9_append_1 ?_
  refine lv_bipush (v := (8 : Int32)) hx hb dX9_append_4 (by decide) ?_
  refine lv_iadd hx hb dX9_append_6 ?_
  refine lv_sipush (v := (320 : Int32)) hx hb dX9_append_7 (by decide) ?_
  refine lv_icmp_le (tgt := 15) hx hb dX9_append_10 (by decide) (fun cc => ?_) (fun cc => ?_)
  ·
    replace hf := ite_t cc hf
    clear cc
    refine lv_bipush (v := (56 : Int32)) hx hb dX9_append_15 (by decide) ?_
    refine lv_topi (fun z1 ez => ?_)
    replace hf := bnd_s hf ez
    clear ez
    refine lv_istore_n (lv' := [(3, .int z1), (0, .ref a_p0), (1, .long x1)]) hx hb dX9_append_17 rfl hl (by decide) rfl (fun ls hl => ?_)
    have hq := lq3_i hf
    clear hf
    obtain ⟨B5, eB5, NB5, hf⟩ := hq
    have hB5 : ∀ (n : Nat) (z2 : Int32) (z3 : Int32) (w4 : (Nat → Int32)) (ls : Array Slot) (H : Heap) (locs : List Loc), lv_has ls 4 [(3, .int z2), (0, .ref a_p0), (1, .long x1)] → va_P D vwCl [(a_p0, .inr (9, [.ref a_p0_bytes, .int z3, .int i_p0_at, .int i_p0_token, .int i_p0_start, .int i_p0_value])), (a_p0_bytes, .inl (G 0, 320, .inl w4))] H → va_D A [(a_p0, .inr (9, [.ref a_p0_bytes, .int z3, .int i_p0_at, .int i_p0_token, .int i_p0_start, .int i_p0_value])), (a_p0_bytes, .inl (G 0, 320, .inl w4))] → va_S A s.heap H locs → lq3 B5 n z2 z3 w4 = some (r, o_i_p0_length, o_v_p0_bytes) → W p l e rm_X9_append s m ([.ref a_p0, .long x1] : List Value).toArray below meth c H locs 0 0 Q (F0 m 18 ls []) := by
      clear hf hl hP hD hS
      intro n
      induction n with
      | zero =>
        intro z2 z3 w4 ls H locs hl hP hD hS hf
        exact (lq3_0 hf).elim
      | succ n ih18 =>
        intro z2 z3 w4 ls H locs hl hP hD hS hf
        replace hf := lq3_s eB5 hf
        unfold B_X9_append_18 at hf
        refine lv_iload_n hx hb dX9_append_18 rfl (lv_at hl 0 rfl) ?_
        refine lv_if_lt (tgt := 52) hx hb dX9_append_19 (by decide) (fun cc => ?_) (fun cc => ?_)
        ·
          replace hf := ite_t cc hf
          clear cc
          refine lv_iconst (v := (1 : Int32)) hx hb dX9_append_52 (by decide) ?_
          obtain ⟨rfl, rfl, rfl⟩ := ou3 hf
          rw [hQ]
          exact W.zret hx hb hr rfl (fun t ht hW => ⟨⟨_, (), rfl, rfl, by rw [ht]; exact hP, va_K.moved hW.alike hK, hD⟩, hS.F ht⟩) hS.2.2 dX9_append_53
        ·
          replace hf := ite_f cc hf
          clear cc
          refine lv_aload_n hx hb dX9_append_22 rfl (lv_at hl 1 rfl) ?_
          refine va_get (D := D) (ci := 9) (v := .ref a_p0_bytes) (C := RX9) (T := TX9) (N := 6) hx hb hts inX9_append_X9 hown hK hP 0 rfl rfl 0 (by decide) (hts _ mwX9_append_2) (fun _ h9 => h9) rfl dX9_append_23 ?_
          refine lv_aload_n hx hb dX9_append_26 rfl (lv_at hl 1 rfl) ?_
          refine va_get (D := D) (ci := 9) (v := .int z3) (C := RX9) (T := TX9) (N := 6) hx hb hts inX9_append_X9 hown hK hP 0 rfl rfl 1 (by decide) (hts _ mwX9_append_1) (fun _ h9 => h9) rfl dX9_append_27 ?_
          refine lv_lload_n hx hb dX9_append_30 rfl (lv_at hl 2 rfl) ?_
          refine lv_iload_n hx hb dX9_append_31 rfl (lv_at hl 0 rfl) ?_
          refine lv_lshr hx hb dX9_append_32 rfl ?_
          refine lv_l2i hx hb dX9_append_33 rfl ?_
          refine lv_i2b hx hb dX9_append_34 rfl ?_
          have hc := ck_c hf
          replace hf := ck_r hf
          refine gs_bast (wf := fun w6 => [(a_p0, .inr (9, [.ref a_p0_bytes, .int z3, .int i_p0_at, .int i_p0_token, .int i_p0_start, .int i_p0_value])), (a_p0_bytes, .inl (G 0, 320, .inl w6))]) hx hb hK hP hD hS 1 0 rfl rfl (ixB_in hc) dX9_append_35 (fun _ => rfl) (fun w6 ez H locs hP hD hS => ?_)
          replace hf := bnd_s hf ez
          clear ez hc
          refine lv_aload_n hx hb dX9_append_36 rfl (lv_at hl 1 rfl) ?_
          refine lv_dup hx hb dX9_append_37 rfl ?_
          refine va_get (D := D) (ci := 9) (v := .int z3) (C := RX9) (T := TX9) (N := 6) hx hb hts inX9_append_X9 hown hK hP 0 rfl rfl 1 (by decide) (hts _ mwX9_append_1) (fun _ h9 => h9) rfl dX9_append_38 ?_
          refine lv_iconst (v := (1 : Int32)) hx hb dX9_append_41 (by decide) ?_
          refine lv_iadd hx hb dX9_append_42 ?_
          refine lv_topi (fun z7 ez => ?_)
          replace hf := bnd_s hf ez
          clear ez
          refine va_put (D := D) (ci := 9) (v := .int z7) (ty := .int) (C := RX9) (T := TX9) (N := 6) hx hb hts inX9_append_X9 tyX9 tyX9_ok nmX9 hown hK hP hD hS 0 rfl rfl 1 (by decide) (hts _ mwX9_append_1) (fun _ h9 => h9) rfl (by decide +kernel) rfl rfl (Nat.le_of_ble_eq_true rfl) dX9_append_43 (fun H locs hP hD hS => ?_)
          have hP : va_P D vwCl [(a_p0, .inr (9, [.ref a_p0_bytes, .int z7, .int i_p0_at, .int i_p0_token, .int i_p0_start, .int i_p0_value])), (a_p0_bytes, .inl (G 0, 320, .inl w6))] H := hP
          have hD : va_D A [(a_p0, .inr (9, [.ref a_p0_bytes, .int z7, .int i_p0_at, .int i_p0_token, .int i_p0_start, .int i_p0_value])), (a_p0_bytes, .inl (G 0, 320, .inl w6))] := hD
          obtain ⟨z8, ez⟩ : ∃ y : Int32, y = (z2 + (-8 : Int32)) := ⟨_, rfl⟩
          replace hf := bnd_s hf ez
          refine lv_iinc (v := z8) (lv' := [(3, .int z8), (0, .ref a_p0), (1, .long x1)]) hx hb dX9_append_46 hl (k := 0) rfl (by rw [ez]; rfl) (by decide) rfl (fun ls hl => ?_)
          clear ez
          refine lv_goto (tgt := 18) hx hb dX9_append_49 (by decide) ?_
          exact ih18 _ _ _ _ _ _ (lv_sub hl [0, 1, 2] rfl) hP hD hS hf
    exact hB5 _ _ _ _ _ _ _ (lv_sub hl [0, 1, 2] rfl) hP hD hS hf
  ·
    replace hf := ite_f cc hf
    clear cc
    refine lv_iconst (v := (0 : Int32)) hx hb dX9_append_13 (by decide) ?_
    obtain ⟨rfl, rfl, rfl⟩ := ou3 hf
    rw [hQ]
    exact W.zret hx hb hr rfl (fun t ht hW => ⟨⟨_, (), rfl, rfl, by rw [ht]; exact hP, va_K.moved hW.alike hK, hD⟩, hS.F ht⟩) hS.2.2 dX9_append_14

noncomputable def f_X9_rewind  : Option (Int32) := (bnd (0 : Int32) (fun (z1 : Int32) => (some z1)))
abbrev rm_X9_rewind : Room := { frames := 0, cells := 0, slots := 0, locals := 0 }
theorem inX9_rewind_X9 : ∀ w ∈ wsX90, w ∈ wsX9_rewind := by decide +kernel
theorem mwX9_rewind_1 : Cond.fieldLink RX9 19 "LadleKings$Tape" "at" "I" ∈ wsX9_rewind := by decide +kernel
set_option maxHeartbeats 8000000 in
set_option maxRecDepth 100000 in
theorem c_X9_rewind (l : Launch) (D : va_G) (G : Nat → ClassId) (sz : Nat) (a_p0 : Nat) (a_p0_bytes : Nat) (i_p0_length : Int32) (i_p0_at : Int32) (i_p0_token : Int32) (i_p0_start : Int32) (i_p0_value : Int32) (o_i_p0_at : Int32) (hf : f_X9_rewind  = some o_i_p0_at) : Met l yX9_rewind wsX9_rewind rm_X9_rewind (pcG D G [.ref a_p0] sz [(a_p0, .inr (9, [.ref a_p0_bytes, .int i_p0_length, .int i_p0_at, .int i_p0_token, .int i_p0_start, .int i_p0_value]))]) (qcV D G [(a_p0, .inr (9, [.ref a_p0_bytes, .int i_p0_length, .int o_i_p0_at, .int i_p0_token, .int i_p0_start, .int i_p0_value]))] (va_A [(a_p0, .inr (9, [.ref a_p0_bytes, .int i_p0_length, .int i_p0_at, .int i_p0_token, .int i_p0_start, .int i_p0_value]))] sz)) 0 0 (va_A [(a_p0, .inr (9, [.ref a_p0_bytes, .int i_p0_length, .int i_p0_at, .int i_p0_token, .int i_p0_start, .int i_p0_value]))] sz) := by
  refine Met.ofW (cc := cX9_rewind) (maxL := 1) (ret := none) (by decide) rfl ?_
  intro p e s m args below meth c s₁ B hml hv
  obtain ⟨rfl, hsz, hP, hK, hD0⟩ := hv
  have hx := B.exec
  have hb := B.bytes
  have hr := B.returns
  have hts := atoms_spec (ws := wsX9_rewind) B.pre
  have hown : s.vm.findClass RX9 = some m.cls := findClass_of_methodNamed B.named
  have hlocks := B.notSynchronized
  subst hsz
  have hD := hD0.self (sz := s.heap.size)
  generalize hAe : va_A [(a_p0, .inr (9, [.ref a_p0_bytes, .int i_p0_length, .int i_p0_at, .int i_p0_token, .int i_p0_start, .int i_p0_value]))] s.heap.size = A at hD ⊢
  have hA : ∀ q : Nat, s.heap.size ≤ q → A q := fun q h => by rw [← hAe]; exact Or.inr h
  clear hAe hD0
  have hS : va_S A s.heap s.heap [] := va_S.rf
  have hl := lv_entry ([.ref a_p0]) (n := 1) (Nat.le_of_ble_eq_true rfl)
  rw [lg_entry_eq]
  generalize (lg_sl ([.ref a_p0]) ++ List.replicate (1 - (lg_sl ([.ref a_p0])).length) Slot.unset).toArray = ls at hl ⊢
  have hl : lv_has ls 1 [(0, .ref a_p0)] := hl
  refine W_nameQ (fun Q hQ => ?_)
  obtain ⟨H, hH⟩ : ∃ H, H = s.heap := ⟨_, rfl⟩
  replace hS : va_S A s.heap H [] := by rw [hH]; exact hS
  replace hP : va_P D vwCl [(a_p0, .inr (9, [.ref a_p0_bytes, .int i_p0_length, .int i_p0_at, .int i_p0_token, .int i_p0_start, .int i_p0_value]))] H := by rw [hH]; exact hP
  rw [← hH]
  clear hH
  unfold f_X9_rewind at hf
  refine lv_aload_n hx hb dX9_rewind_0 rfl (lv_at hl 0 rfl) ?_
  refine lv_iconst (v := (0 : Int32)) hx hb dX9_rewind_1 (by decide) ?_
  refine lv_topi (fun z1 ez => ?_)
  replace hf := bnd_s hf ez
  clear ez
  refine va_put (D := D) (ci := 9) (v := .int z1) (ty := .int) (C := RX9) (T := TX9) (N := 6) hx hb hts inX9_rewind_X9 tyX9 tyX9_ok nmX9 hown hK hP hD hS 0 rfl rfl 2 (by decide) (hts _ mwX9_rewind_1) (fun _ h9 => h9) rfl (by decide +kernel) rfl rfl (Nat.le_of_ble_eq_true rfl) dX9_rewind_2 (fun H locs hP hD hS => ?_)
  have hP : va_P D vwCl [(a_p0, .inr (9, [.ref a_p0_bytes, .int i_p0_length, .int z1, .int i_p0_token, .int i_p0_start, .int i_p0_value]))] H := hP
  have hD : va_D A [(a_p0, .inr (9, [.ref a_p0_bytes, .int i_p0_length, .int z1, .int i_p0_token, .int i_p0_start, .int i_p0_value]))] := hD
  obtain rfl := ou1 hf
  rw [hQ]
  exact W.vret hx hb hr (fun t ht hW => ⟨⟨(), rfl, trivial, by rw [ht]; exact hP, va_K.moved hW.alike hK, hD⟩, hS.F ht⟩) hS.2.2 dX9_rewind_5

noncomputable def B_X9_readToken_0 (i_p0_length : Int32) (J2 : Int32 → Option (Int32 × Int32 × Int32)) (v_p0_bytes : (Nat → Int32)) (again0 : Int32 → Option (Int32 × Int32 × Int32)) (z5 : Int32) : Option (Int32 × Int32 × Int32) := (if i_p0_length ≤ z5 then (J2 z5) else (ck (ixB z5 320) (if (v_p0_bytes (z5).toNatClampNeg) = (32 : Int32) then (bnd (z5 + (1 : Int32)) (fun (z7 : Int32) => (again0 z7))) else (J2 z5))))
noncomputable def f_X9_readToken (i_p0_length : Int32) (i_p0_at : Int32) (v_p0_bytes : (Nat → Int32)) : Option (Int32 × Int32 × Int32) := (jn (fun (z1 : Int32) => (bnd z1 (fun (z3 : Int32) => (if z1 < i_p0_length then (ck (ixB z1 320) none) else (bnd (0 : Int32) (fun (z4 : Int32) => (some (z1, z4, z3)))))))) (fun (J2 : Int32 → Option (Int32 × Int32 × Int32)) => (lq1 (B_X9_readToken_0 i_p0_length J2 v_p0_bytes) 1000 i_p0_at)))
abbrev rm_X9_readToken : Room := { frames := 0, cells := 0, slots := 0, locals := 0 }
theorem inX9_readToken_X9 : ∀ w ∈ wsX90, w ∈ wsX9_readToken := by decide +kernel
theorem mwX9_readToken_1 : Cond.fieldLink RX9 19 "LadleKings$Tape" "at" "I" ∈ wsX9_readToken := by decide +kernel
theorem mwX9_readToken_2 : Cond.fieldLink RX9 25 "LadleKings$Tape" "start" "I" ∈ wsX9_readToken := by decide +kernel
theorem mwX9_readToken_3 : Cond.fieldLink RX9 15 "LadleKings$Tape" "length" "I" ∈ wsX9_readToken := by decide +kernel
theorem mwX9_readToken_4 : Cond.fieldLink RX9 9 "LadleKings$Tape" "bytes" "[B" ∈ wsX9_readToken := by decide +kernel
theorem mwX9_readToken_5 : Cond.fieldLink RX9 22 "LadleKings$Tape" "token" "I" ∈ wsX9_readToken := by decide +kernel
set_option maxHeartbeats 8000000 in
set_option maxRecDepth 100000 in
theorem c_X9_readToken (l : Launch) (D : va_G) (G : Nat → ClassId) (sz : Nat) (a_p0 : Nat) (a_p0_bytes : Nat) (i_p0_length : Int32) (i_p0_at : Int32) (i_p0_token : Int32) (i_p0_start : Int32) (i_p0_value : Int32) (v_p0_bytes : (Nat → Int32)) (o_i_p0_at : Int32) (o_i_p0_token : Int32) (o_i_p0_start : Int32) (hf : f_X9_readToken i_p0_length i_p0_at v_p0_bytes = some (o_i_p0_at, o_i_p0_token, o_i_p0_start)) : Met l yX9_readToken wsX9_readToken rm_X9_readToken (pcG D G [.ref a_p0] sz [(a_p0, .inr (9, [.ref a_p0_bytes, .int i_p0_length, .int i_p0_at, .int i_p0_token, .int i_p0_start, .int i_p0_value])), (a_p0_bytes, .inl (G 0, 320, .inl v_p0_bytes))]) (qcV D G [(a_p0, .inr (9, [.ref a_p0_bytes, .int i_p0_length, .int o_i_p0_at, .int o_i_p0_token, .int o_i_p0_start, .int i_p0_value])), (a_p0_bytes, .inl (G 0, 320, .inl v_p0_bytes))] (va_A [(a_p0, .inr (9, [.ref a_p0_bytes, .int i_p0_length, .int i_p0_at, .int i_p0_token, .int i_p0_start, .int i_p0_value])), (a_p0_bytes, .inl (G 0, 320, .inl v_p0_bytes))] sz)) 0 0 (va_A [(a_p0, .inr (9, [.ref a_p0_bytes, .int i_p0_length, .int i_p0_at, .int i_p0_token, .int i_p0_start, .int i_p0_value])), (a_p0_bytes, .inl (G 0, 320, .inl v_p0_bytes))] sz) := by
  refine Met.ofW (cc := cX9_readToken) (maxL := 1) (ret := none) (by decide) rfl ?_
  intro p e s m args below meth c s₁ B hml hv
  obtain ⟨rfl, hsz, hP, hK, hD0⟩ := hv
  have hx := B.exec
  have hb := B.bytes
  have hr := B.returns
  have hts := atoms_spec (ws := wsX9_readToken) B.pre
  have hown : s.vm.findClass RX9 = some m.cls := findClass_of_methodNamed B.named
  have hlocks := B.notSynchronized
  subst hsz
  have hD := hD0.self (sz := s.heap.size)
  generalize hAe : va_A [(a_p0, .inr (9, [.ref a_p0_bytes, .int i_p0_length, .int i_p0_at, .int i_p0_token, .int i_p0_start, .int i_p0_value])), (a_p0_bytes, .inl (G 0, 320, .inl v_p0_bytes))] s.heap.size = A at hD ⊢
  have hA : ∀ q : Nat, s.heap.size ≤ q → A q := fun q h => by rw [← hAe]; exact Or.inr h
  clear hAe hD0
  have hS : va_S A s.heap s.heap [] := va_S.rf
  have hl := lv_entry ([.ref a_p0]) (n := 1) (Nat.le_of_ble_eq_true rfl)
  rw [lg_entry_eq]
  generalize (lg_sl ([.ref a_p0]) ++ List.replicate (1 - (lg_sl ([.ref a_p0])).length) Slot.unset).toArray = ls at hl ⊢
  have hl : lv_has ls 1 [(0, .ref a_p0)] := hl
  refine W_nameQ (fun Q hQ => ?_)
  obtain ⟨H, hH⟩ : ∃ H, H = s.heap := ⟨_, rfl⟩
  replace hS : va_S A s.heap H [] := by rw [hH]; exact hS
  replace hP : va_P D vwCl [(a_p0, .inr (9, [.ref a_p0_bytes, .int i_p0_length, .int i_p0_at, .int i_p0_token, .int i_p0_start, .int i_p0_value])), (a_p0_bytes, .inl (G 0, 320, .inl v_p0_bytes))] H := by rw [hH]; exact hP
  rw [← hH]
  clear hH
  unfold f_X9_readToken at hf
  have hq := jn_i hf
  clear hf
  obtain ⟨J2, eJ2, hf⟩ := hq
  have hJ2 : ∀ (z1 : Int32) (ls : Array Slot) (H : Heap) (locs : List Loc), lv_has ls 1 [(0, .ref a_p0)] → va_P D vwCl [(a_p0, .inr (9, [.ref a_p0_bytes, .int i_p0_length, .int z1, .int i_p0_token, .int i_p0_start, .int i_p0_value])), (a_p0_bytes, .inl (G 0, 320, .inl v_p0_bytes))] H → va_D A [(a_p0, .inr (9, [.ref a_p0_bytes, .int i_p0_length, .int z1, .int i_p0_token, .int i_p0_start, .int i_p0_value])), (a_p0_bytes, .inl (G 0, 320, .inl v_p0_bytes))] → va_S A s.heap H locs → J2 z1 = some (o_i_p0_at, o_i_p0_token, o_i_p0_start) → W p l e rm_X9_readToken s m ([.ref a_p0] : List Value).toArray below meth c H locs 0 0 Q (F0 m 38 ls []) := by
    clear hf hl hP hD hS
    intro z1 ls H locs hl hP hD hS hf
    replace hf := jn1_s eJ2 hf
    refine lv_aload_n hx hb dX9_readToken_38 rfl (lv_at hl 0 rfl) ?_
    refine lv_aload_n hx hb dX9_readToken_39 rfl (lv_at hl 0 rfl) ?_
    refine va_get (D := D) (ci := 9) (v := .int z1) (C := RX9) (T := TX9) (N := 6) hx hb hts inX9_readToken_X9 hown hK hP 0 rfl rfl 2 (by decide) (hts _ mwX9_readToken_1) (fun _ h9 => h9) rfl dX9_readToken_40 ?_
    refine lv_topi (fun z3 ez => ?_)
    replace hf := bnd_s hf ez
    clear ez
    refine va_put (D := D) (ci := 9) (v := .int z3) (ty := .int) (C := RX9) (T := TX9) (N := 6) hx hb hts inX9_readToken_X9 tyX9 tyX9_ok nmX9 hown hK hP hD hS 0 rfl rfl 4 (by decide) (hts _ mwX9_readToken_2) (fun _ h9 => h9) rfl (by decide +kernel) rfl rfl (Nat.le_of_ble_eq_true rfl) dX9_readToken_43 (fun H locs hP hD hS => ?_)
    have hP : va_P D vwCl [(a_p0, .inr (9, [.ref a_p0_bytes, .int i_p0_length, .int z1, .int i_p0_token, .int z3, .int i_p0_value])), (a_p0_bytes, .inl (G 0, 320, .inl v_p0_bytes))] H := hP
    have hD : va_D A [(a_p0, .inr (9, [.ref a_p0_bytes, .int i_p0_length, .int z1, .int i_p0_token, .int z3, .int i_p0_value])), (a_p0_bytes, .inl (G 0, 320, .inl v_p0_bytes))] := hD
    refine lv_aload_n hx hb dX9_readToken_46 rfl (lv_at hl 0 rfl) ?_
    refine va_get (D := D) (ci := 9) (v := .int z1) (C := RX9) (T := TX9) (N := 6) hx hb hts inX9_readToken_X9 hown hK hP 0 rfl rfl 2 (by decide) (hts _ mwX9_readToken_1) (fun _ h9 => h9) rfl dX9_readToken_47 ?_
    refine lv_aload_n hx hb dX9_readToken_50 rfl (lv_at hl 0 rfl) ?_
    refine va_get (D := D) (ci := 9) (v := .int i_p0_length) (C := RX9) (T := TX9) (N := 6) hx hb hts inX9_readToken_X9 hown hK hP 0 rfl rfl 1 (by decide) (hts _ mwX9_readToken_3) (fun _ h9 => h9) rfl dX9_readToken_51 ?_
    refine lv_icmp_lt (tgt := 65) hx hb dX9_readToken_54 (by decide) (fun cc => ?_) (fun cc => ?_)
    ·
      replace hf := ite_t cc hf
      clear cc
      refine lv_aload_n hx hb dX9_readToken_65 rfl (lv_at hl 0 rfl) ?_
      refine va_get (D := D) (ci := 9) (v := .ref a_p0_bytes) (C := RX9) (T := TX9) (N := 6) hx hb hts inX9_readToken_X9 hown hK hP 0 rfl rfl 0 (by decide) (hts _ mwX9_readToken_4) (fun _ h9 => h9) rfl dX9_readToken_66 ?_
      refine lv_aload_n hx hb dX9_readToken_69 rfl (lv_at hl 0 rfl) ?_
      refine va_get (D := D) (ci := 9) (v := .int z1) (C := RX9) (T := TX9) (N := 6) hx hb hts inX9_readToken_X9 hown hK hP 0 rfl rfl 2 (by decide) (hts _ mwX9_readToken_1) (fun _ h9 => h9) rfl dX9_readToken_70 ?_
      have hc := ck_c hf
      replace hf := ck_r hf
      refine va_bald hx hb hK hP 1 0 rfl rfl (ixB_in hc) dX9_readToken_73 ?_
      clear hc
      cases hf
    ·
      replace hf := ite_f cc hf
      clear cc
      refine lv_aload_n hx hb dX9_readToken_57 rfl (lv_at hl 0 rfl) ?_
      refine lv_iconst (v := (0 : Int32)) hx hb dX9_readToken_58 (by decide) ?_
      refine lv_topi (fun z4 ez => ?_)
      replace hf := bnd_s hf ez
      clear ez
      refine va_put (D := D) (ci := 9) (v := .int z4) (ty := .int) (C := RX9) (T := TX9) (N := 6) hx hb hts inX9_readToken_X9 tyX9 tyX9_ok nmX9 hown hK hP hD hS 0 rfl rfl 3 (by decide) (hts _ mwX9_readToken_5) (fun _ h9 => h9) rfl (by decide +kernel) rfl rfl (Nat.le_of_ble_eq_true rfl) dX9_readToken_59 (fun H locs hP hD hS => ?_)
      have hP : va_P D vwCl [(a_p0, .inr (9, [.ref a_p0_bytes, .int i_p0_length, .int z1, .int z4, .int z3, .int i_p0_value])), (a_p0_bytes, .inl (G 0, 320, .inl v_p0_bytes))] H := hP
      have hD : va_D A [(a_p0, .inr (9, [.ref a_p0_bytes, .int i_p0_length, .int z1, .int z4, .int z3, .int i_p0_value])), (a_p0_bytes, .inl (G 0, 320, .inl v_p0_bytes))] := hD
      refine lv_goto (tgt := 146) hx hb dX9_readToken_62 (by decide) ?_
      obtain ⟨rfl, rfl, rfl⟩ := ou3 hf
      rw [hQ]
      exact W.vret hx hb hr (fun t ht hW => ⟨⟨(), rfl, trivial, by rw [ht]; exact hP, va_K.moved hW.alike hK, hD⟩, hS.F ht⟩) hS.2.2 dX9_readToken_146
  have hq := lq1_i hf
  clear hf
  obtain ⟨B6, eB6, NB6, hf⟩ := hq
  have hB6 : ∀ (n : Nat) (z5 : Int32) (ls : Array Slot) (H : Heap) (locs : List Loc), lv_has ls 1 [(0, .ref a_p0)] → va_P D vwCl [(a_p0, .inr (9, [.ref a_p0_bytes, .int i_p0_length, .int z5, .int i_p0_token, .int i_p0_start, .int i_p0_value])), (a_p0_bytes, .inl (G 0, 320, .inl v_p0_bytes))] H → va_D A [(a_p0, .inr (9, [.ref a_p0_bytes, .int i_p0_length, .int z5, .int i_p0_token, .int i_p0_start, .int i_p0_value])), (a_p0_bytes, .inl (G 0, 320, .inl v_p0_bytes))] → va_S A s.heap H locs → lq1 B6 n z5 = some (o_i_p0_at, o_i_p0_token, o_i_p0_start) → W p l e rm_X9_readToken s m ([.ref a_p0] : List Value).toArray below meth c H locs 0 0 Q (F0 m 0 ls []) := by
    clear hf hl hP hD hS
    intro n
    induction n with
    | zero =>
      intro z5 ls H locs hl hP hD hS hf
      exact (lq1_0 hf).elim
    | succ n ih0 =>
      intro z5 ls H locs hl hP hD hS hf
      replace hf := lq1_s eB6 hf
      unfold B_X9_readToken_0 at hf
      refine lv_aload_n hx hb dX9_readToken_0 rfl (lv_at hl 0 rfl) ?_
      refine va_get (D := D) (ci := 9) (v := .int z5) (C := RX9) (T := TX9) (N := 6) hx hb hts inX9_readToken_X9 hown hK hP 0 rfl rfl 2 (by decide) (hts _ mwX9_readToken_1) (fun _ h9 => h9) rfl dX9_readToken_1 ?_
      refine lv_aload_n hx hb dX9_readToken_4 rfl (lv_at hl 0 rfl) ?_
      refine va_get (D := D) (ci := 9) (v := .int i_p0_length) (C := RX9) (T := TX9) (N := 6) hx hb hts inX9_readToken_X9 hown hK hP 0 rfl rfl 1 (by decide) (hts _ mwX9_readToken_3) (fun _ h9 => h9) rfl dX9_readToken_5 ?_
      refine lv_icmp_ge (tgt := 38) hx hb dX9_readToken_8 (by decide) (fun cc => ?_) (fun cc => ?_)
      ·
        replace hf := ite_t cc hf
        clear cc
        exact hJ2 _ _ _ _ (lv_sub hl [0] rfl) hP hD hS hf
      ·
        replace hf := ite_f cc hf
        clear cc
        refine lv_aload_n hx hb dX9_readToken_11 rfl (lv_at hl 0 rfl) ?_
        refine va_get (D := D) (ci := 9) (v := .ref a_p0_bytes) (C := RX9) (T := TX9) (N := 6) hx hb hts inX9_readToken_X9 hown hK hP 0 rfl rfl 0 (by decide) (hts _ mwX9_readToken_4) (fun _ h9 => h9) rfl dX9_readToken_12 ?_
        refine lv_aload_n hx hb dX9_readToken_15 rfl (lv_at hl 0 rfl) ?_
        refine va_get (D := D) (ci := 9) (v := .int z5) (C := RX9) (T := TX9) (N := 6) hx hb hts inX9_readToken_X9 hown hK hP 0 rfl rfl 2 (by decide) (hts _ mwX9_readToken_1) (fun _ h9 => h9) rfl dX9_readToken_16 ?_
        have hc := ck_c hf
        replace hf := ck_r hf
        refine va_bald hx hb hK hP 1 0 rfl rfl (ixB_in hc) dX9_readToken_19 ?_
        clear hc
        refine lv_bipush (v := (32 : Int32)) hx hb dX9_readToken_20 (by decide) ?_
        refine lv_icmp_ne (tgt := 38) hx hb dX9_readToken_22 (by decide) (fun cc => ?_) (fun cc => ?_)
        ·
          replace hf := ite_f cc hf
          clear cc
          exact hJ2 _ _ _ _ (lv_sub hl [0] rfl) hP hD hS hf
        ·
          replace hf := ite_t cc hf
          clear cc
          refine lv_aload_n hx hb dX9_readToken_25 rfl (lv_at hl 0 rfl) ?_
          refine lv_dup hx hb dX9_readToken_26 rfl ?_
          refine va_get (D := D) (ci := 9) (v := .int z5) (C := RX9) (T := TX9) (N := 6) hx hb hts inX9_readToken_X9 hown hK hP 0 rfl rfl 2 (by decide) (hts _ mwX9_readToken_1) (fun _ h9 => h9) rfl dX9_readToken_27 ?_
          refine lv_iconst (v := (1 : Int32)) hx hb dX9_readToken_30 (by decide) ?_
          refine lv_iadd hx hb dX9_readToken_31 ?_
          refine lv_topi (fun z7 ez => ?_)
          replace hf := bnd_s hf ez
          clear ez
          refine va_put (D := D) (ci := 9) (v := .int z7) (ty := .int) (C := RX9) (T := TX9) (N := 6) hx hb hts inX9_readToken_X9 tyX9 tyX9_ok nmX9 hown hK hP hD hS 0 rfl rfl 2 (by decide) (hts _ mwX9_readToken_1) (fun _ h9 => h9) rfl (by decide +kernel) rfl rfl (Nat.le_of_ble_eq_true rfl) dX9_readToken_32 (fun H locs hP hD hS => ?_)
          have hP : va_P D vwCl [(a_p0, .inr (9, [.ref a_p0_bytes, .int i_p0_length, .int z7, .int i_p0_token, .int i_p0_start, .int i_p0_value])), (a_p0_bytes, .inl (G 0, 320, .inl v_p0_bytes))] H := hP
          have hD : va_D A [(a_p0, .inr (9, [.ref a_p0_bytes, .int i_p0_length, .int z7, .int i_p0_token, .int i_p0_start, .int i_p0_value])), (a_p0_bytes, .inl (G 0, 320, .inl v_p0_bytes))] := hD
          refine lv_goto (tgt := 0) hx hb dX9_readToken_35 (by decide) ?_
          exact ih0 _ _ _ _ (lv_sub hl [0] rfl) hP hD hS hf
  exact hB6 _ _ _ _ _ (lv_sub hl [0] rfl) hP hD hS hf
