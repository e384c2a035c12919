noncomputable def B_X6_inRing_4 (i_p0_seats : Int32) (again4 : Int32 → Int32 → Option (Int32)) (z3 : Int32) (z4 : Int32) : Option (Int32) := (if (7 : Int32) ≤ z3 then (some z4) else (if z4 < i_p0_seats then (some z4) else (bnd (z4 - i_p0_seats) (fun (z6 : Int32) => (bnd (z3 + (1 : Int32)) (fun (z7 : Int32) => (again4 z7 z6)))))))
noncomputable def f_X6_inRing (i_p0_seats : Int32) (x1 : Int32) : Option (Int32) := (bnd x1 (fun (z1 : Int32) => (bnd (0 : Int32) (fun (z2 : Int32) => (lq2 (B_X6_inRing_4 i_p0_seats) 1000 z2 z1)))))
abbrev rm_X6_inRing : Room := { frames := 0, cells := 0, slots := 0, locals := 0 }
theorem inX6_inRing_X6 : ∀ w ∈ wsX60, w ∈ wsX6_inRing := by decide +kernel
theorem mwX6_inRing_1 : Cond.fieldLink RX6 9 "LadleKings$Rules" "seats" "I" ∈ wsX6_inRing := by decide +kernel
set_option maxHeartbeats 8000000 in
set_option maxRecDepth 100000 in
theorem c_X6_inRing (l : Launch) (D : va_G) (G : Nat → ClassId) (sz : Nat) (a_p0 : Nat) (a_p0_need : Nat) (a_p0_kind : Nat) (a_p0_first : Nat) (a_p0_second : Nat) (a_p0_after : Nat) (i_p0_seats : Int32) (i_p0_stirs : Int32) (x1 : Int32) (r : Int32) (hf : f_X6_inRing i_p0_seats x1 = some r) : Met l yX6_inRing wsX6_inRing rm_X6_inRing (pcG D G [.ref a_p0, .int x1] sz [(a_p0, .inr (6, [.int i_p0_seats, .int i_p0_stirs, .ref a_p0_need, .ref a_p0_kind, .ref a_p0_first, .ref a_p0_second, .ref a_p0_after]))]) (qcI D G r [(a_p0, .inr (6, [.int i_p0_seats, .int i_p0_stirs, .ref a_p0_need, .ref a_p0_kind, .ref a_p0_first, .ref a_p0_second, .ref a_p0_after]))] (va_A [(a_p0, .inr (6, [.int i_p0_seats, .int i_p0_stirs, .ref a_p0_need, .ref a_p0_kind, .ref a_p0_first, .ref a_p0_second, .ref a_p0_after]))] sz)) 0 0 (va_A [(a_p0, .inr (6, [.int i_p0_seats, .int i_p0_stirs, .ref a_p0_need, .ref a_p0_kind, .ref a_p0_first, .ref a_p0_second, .ref a_p0_after]))] sz) := by
  refine Met.ofW (cc := cX6_inRing) (maxL := 4) (ret := (some .int)) (by decide) rfl ?_
  intro p e s m args below meth c s₁ B hml hv
  obtain ⟨rfl, hsz, hP, hK, hD0⟩ := hv
  have hx := B.exec
  have hb := B.bytes
  have hr := B.returns
  have hts := atoms_spec (ws := wsX6_inRing) B.pre
  have hown : s.vm.findClass RX6 = some m.cls := findClass_of_methodNamed B.named
  have hlocks := B.notSynchronized
  subst hsz
  have hD := hD0.self (sz := s.heap.size)
  generalize hAe : va_A [(a_p0, .inr (6, [.int i_p0_seats, .int i_p0_stirs, .ref a_p0_need, .ref a_p0_kind, .ref a_p0_first, .ref a_p0_second, .ref a_p0_after]))] s.heap.size = A at hD ⊢
  have hA : ∀ q : Nat, s.heap.size ≤ q → A q := fun q h => by rw [← hAe]; exact Or.inr h
  clear hAe hD0
  have hS : va_S A s.heap s.heap [] := va_S.rf
  have hl := lv_entry ([.ref a_p0, .int x1]) (n := 4) (Nat.le_of_ble_eq_true rfl)
  rw [lg_entry_eq]
  generalize (lg_sl ([.ref a_p0, .int x1]) ++ List.replicate (4 - (lg_sl ([.ref a_p0, .int x1])).length) Slot.unset).toArray = ls at hl ⊢
  have hl : lv_has ls 4 [(0, .ref a_p0), (1, .int x1)] := hl
  refine W_nameQ (fun Q hQ => ?_)
  unfold f_X6_inRing at hf
  refine lv_iload_n hx hb dX6_inRing_0 rfl (lv_at hl 1 rfl) ?_
  refine lv_topi (fun z1 ez => ?_)
  replace hf := bnd_s hf ez
  clear ez
  refine lv_istore_n (lv' := [(2, .int z1), (0, .ref a_p0), (1, .int x1)]) hx hb dX6_inRing_1 rfl hl (by decide) rfl (fun ls hl => ?_)
  refine lv_iconst (v := (0 : Int32)) hx hb dX6_inRing_2 (by decide) ?_
  refine lv_topi (fun z2 ez => ?_)
  replace hf := bnd_s hf ez
  clear ez
  refine lv_istore_n (lv' := [(3, .int z2), (2, .int z1), (0, .ref a_p0), (1, .int x1)]) hx hb dX6_inRing_3 rfl hl (by decide) rfl (fun ls hl => ?_)
  have hq := lq2_i hf
  clear hf
  obtain ⟨B5, eB5, NB5, hf⟩ := hq
  have hB5 : ∀ (n : Nat) (z3 : Int32) (z4 : Int32) (ls : Array Slot) (H : Heap) (locs : List Loc), lv_has ls 4 [(3, .int z3), (2, .int z4), (0, .ref a_p0)] → va_P D vwCl [(a_p0, .inr (6, [.int i_p0_seats, .int i_p0_stirs, .ref a_p0_need, .ref a_p0_kind, .ref a_p0_first, .ref a_p0_second, .ref a_p0_after]))] H → va_D A [(a_p0, .inr (6, [.int i_p0_seats, .int i_p0_stirs, .ref a_p0_need, .ref a_p0_kind, .ref a_p0_first, .ref a_p0_second, .ref a_p0_after]))] → va_S A s.heap H locs → lq2 B5 n z3 z4 = some r → W p l e rm_X6_inRing s m args below meth c H locs 0 0 Q (F0 m 4 ls []) := by
    clear hf hl hP hD hS
    intro n
    induction n with
    | zero =>
      intro z3 z4 ls H locs hl hP hD hS hf
      exact (lq2_0 hf).elim
    | succ n ih4 =>
      intro z3 z4 ls H locs hl hP hD hS hf
      replace hf := lq2_s eB5 hf
      unfold B_X6_inRing_4 at hf
      refine lv_iload_n hx hb dX6_inRing_4 rfl (lv_at hl 0 rfl) ?_
      refine lv_bipush (v := (7 : Int32)) hx hb dX6_inRing_5 (by decide) ?_
      refine lv_icmp_ge (tgt := 31) hx hb dX6_inRing_7 (by decide) (fun cc => ?_) (fun cc => ?_)
      ·
        replace hf := ite_t cc hf
        clear cc
        refine lv_iload_n hx hb dX6_inRing_31 rfl (lv_at hl 1 rfl) ?_
        obtain rfl := ou1 hf
        rw [hQ]
        exact W.iret hx hb hr (fun t ht hW => ⟨⟨_, (), rfl, rfl, by rw [ht]; exact hP, va_K.moved hW.alike hK, hD⟩, hS.F ht⟩) hS.2.2 dX6_inRing_32
      ·
        replace hf := ite_f cc hf
        clear cc
        refine lv_iload_n hx hb dX6_inRing_10 rfl (lv_at hl 1 rfl) ?_
        refine lv_aload_n hx hb dX6_inRing_11 rfl (lv_at hl 2 rfl) ?_
        refine va_get (D := D) (ci := 6) (v := .int i_p0_seats) (C := RX6) (T := TX6) (N := 7) hx hb hts inX6_inRing_X6 hown hK hP 0 rfl rfl 0 (by decide) (hts _ mwX6_inRing_1) (fun _ h9 => h9) rfl dX6_inRing_12 ?_
        refine lv_icmp_lt (tgt := 31) hx hb dX6_inRing_15 (by decide) (fun cc => ?_) (fun cc => ?_)
        ·
          replace hf := ite_t cc hf
          clear cc
          refine lv_iload_n hx hb dX6_inRing_31 rfl (lv_at hl 1 rfl) ?_
          obtain rfl := ou1 hf
          rw [hQ]
          exact W.iret hx hb hr (fun t ht hW => ⟨⟨_, (), rfl, rfl, by rw [ht]; exact hP, va_K.moved hW.alike hK, hD⟩, hS.F ht⟩) hS.2.2 dX6_inRing_32
        ·
          replace hf := ite_f cc hf
          clear cc
          refine lv_iload_n hx hb dX6_inRing_18 rfl (lv_at hl 1 rfl) ?_
          refine lv_aload_n hx hb dX6_inRing_19 rfl (lv_at hl 2 rfl) ?_
          refine va_get (D := D) (ci := 6) (v := .int i_p0_seats) (C := RX6) (T := TX6) (N := 7) hx hb hts inX6_inRing_X6 hown hK hP 0 rfl rfl 0 (by decide) (hts _ mwX6_inRing_1) (fun _ h9 => h9) rfl dX6_inRing_20 ?_
          refine lv_isub hx hb dX6_inRing_23 ?_
          refine lv_topi (fun z6 ez => ?_)
          replace hf := bnd_s hf ez
          clear ez
          refine lv_istore_n (lv' := [(2, .int z6), (3, .int z3), (0, .ref a_p0)]) hx hb dX6_inRing_24 rfl hl (by decide) rfl (fun ls hl => ?_)
          obtain ⟨z7, ez⟩ : ∃ y : Int32, y = (z3 + (1 : Int32)) := ⟨_, rfl⟩
          replace hf := bnd_s hf ez
          refine lv_iinc (v := z7) (lv' := [(3, .int z7), (2, .int z6), (0, .ref a_p0)]) hx hb dX6_inRing_25 hl (k := 1) rfl (by rw [ez]; rfl) (by decide) rfl (fun ls hl => ?_)
          clear ez
          refine lv_goto (tgt := 4) hx hb dX6_inRing_28 (by decide) ?_
          exact ih4 _ _ ls H locs (lv_sub hl [0, 1, 2] rfl) hP hD hS hf
  exact hB5 _ _ _ ls H locs (lv_sub hl [0, 1, 2] rfl) hP hD hS hf

noncomputable def f_X8_isFriend (v_p0_friends : (Nat → Int32)) (x1 : Int32) (x2 : Int32) : Option (Int32) := (ck (ixB x1 7) (if (((v_p0_friends (x1).toNatClampNeg) >>> (x2 &&& 31)) &&& (1 : Int32)) = 0 then (some (0 : Int32)) else (some (1 : Int32))))
abbrev rm_X8_isFriend : Room := { frames := 0, cells := 0, slots := 0, locals := 0 }
theorem inX8_isFriend_X8 : ∀ w ∈ wsX80, w ∈ wsX8_isFriend := by decide +kernel
theorem mwX8_isFriend_1 : Cond.fieldLink RX8 15 "LadleKings$State" "friends" "[I" ∈ wsX8_isFriend := by decide +kernel
set_option maxHeartbeats 8000000 in
set_option maxRecDepth 100000 in
theorem c_X8_isFriend (l : Launch) (D : va_G) (G : Nat → ClassId) (sz : Nat) (a_p0 : Nat) (a_p0_pieces : Nat) (a_p0_friends : Nat) (a_p0_spoons : Nat) (a_p0_eaten : Nat) (a_p0_seen : Nat) (i_p0_seenDays : Int32) (i_p0_bone : Int32) (i_p0_king : Int32) (i_p0_days : Int32) (v_p0_friends : (Nat → Int32)) (x1 : Int32) (x2 : Int32) (r : Int32) (hf : f_X8_isFriend v_p0_friends x1 x2 = some r) : Met l yX8_isFriend wsX8_isFriend rm_X8_isFriend (pcG D G [.ref a_p0, .int x1, .int x2] sz [(a_p0, .inr (8, [.ref a_p0_pieces, .ref a_p0_friends, .ref a_p0_spoons, .ref a_p0_eaten, .ref a_p0_seen, .int i_p0_seenDays, .int i_p0_bone, .int i_p0_king, .int i_p0_days])), (a_p0_friends, .inl (G 1, 7, .inl v_p0_friends))]) (qcI D G r [(a_p0, .inr (8, [.ref a_p0_pieces, .ref a_p0_friends, .ref a_p0_spoons, .ref a_p0_eaten, .ref a_p0_seen, .int i_p0_seenDays, .int i_p0_bone, .int i_p0_king, .int i_p0_days])), (a_p0_friends, .inl (G 1, 7, .inl v_p0_friends))] (va_A [(a_p0, .inr (8, [.ref a_p0_pieces, .ref a_p0_friends, .ref a_p0_spoons, .ref a_p0_eaten, .ref a_p0_seen, .int i_p0_seenDays, .int i_p0_bone, .int i_p0_king, .int i_p0_days])), (a_p0_friends, .inl (G 1, 7, .inl v_p0_friends))] sz)) 0 0 (va_A [(a_p0, .inr (8, [.ref a_p0_pieces, .ref a_p0_friends, .ref a_p0_spoons, .ref a_p0_eaten, .ref a_p0_seen, .int i_p0_seenDays, .int i_p0_bone, .int i_p0_king, .int i_p0_days])), (a_p0_friends, .inl (G 1, 7, .inl v_p0_friends))] sz) := by
  refine Met.ofW (cc := cX8_isFriend) (maxL := 3) (ret := (some .boolean)) (by decide) rfl ?_
  intro p e s m args below meth c s₁ B hml hv
  obtain ⟨rfl, hsz, hP, hK, hD0⟩ := hv
  have hx := B.exec
  have hb := B.bytes
  have hr := B.returns
  have hts := atoms_spec (ws := wsX8_isFriend) B.pre
  have hown : s.vm.findClass RX8 = some m.cls := findClass_of_methodNamed B.named
  have hlocks := B.notSynchronized
  subst hsz
  have hD := hD0.self (sz := s.heap.size)
  generalize hAe : va_A [(a_p0, .inr (8, [.ref a_p0_pieces, .ref a_p0_friends, .ref a_p0_spoons, .ref a_p0_eaten, .ref a_p0_seen, .int i_p0_seenDays, .int i_p0_bone, .int i_p0_king, .int i_p0_days])), (a_p0_friends, .inl (G 1, 7, .inl v_p0_friends))] s.heap.size = A at hD ⊢
  have hA : ∀ q : Nat, s.heap.size ≤ q → A q := fun q h => by rw [← hAe]; exact Or.inr h
  clear hAe hD0
  have hS : va_S A s.heap s.heap [] := va_S.rf
  have hl := lv_entry ([.ref a_p0, .int x1, .int x2]) (n := 3) (Nat.le_of_ble_eq_true rfl)
  rw [lg_entry_eq]
  generalize (lg_sl ([.ref a_p0, .int x1, .int x2]) ++ List.replicate (3 - (lg_sl ([.ref a_p0, .int x1, .int x2])).length) Slot.unset).toArray = ls at hl ⊢
  have hl : lv_has ls 3 [(0, .ref a_p0), (1, .int x1), (2, .int x2)] := hl
  refine W_nameQ (fun Q hQ => ?_)
  unfold f_X8_isFriend at hf
  refine lv_aload_n hx hb dX8_isFriend_0 rfl (lv_at hl 0 rfl) ?_
  refine va_get (D := D) (ci := 8) (v := .ref a_p0_friends) (C := RX8) (T := TX8) (N := 9) hx hb hts inX8_isFriend_X8 hown hK hP 0 rfl rfl 1 (by decide) (hts _ mwX8_isFriend_1) (fun _ h9 => h9) rfl dX8_isFriend_1 ?_
  refine lv_iload_n hx hb dX8_isFriend_4 rfl (lv_at hl 1 rfl) ?_
  have hc := ck_c hf
  replace hf := ck_r hf
  refine va_iald hx hb hK hP 1 1 rfl rfl (ixB_in hc) dX8_isFriend_5 ?_
  clear hc
  refine lv_iload_n hx hb dX8_isFriend_6 rfl (lv_at hl 2 rfl) ?_
  refine lv_ishr hx hb dX8_isFriend_7 ?_
  refine lv_iconst (v := (1 : Int32)) hx hb dX8_isFriend_8 (by decide) ?_
  refine lv_iand hx hb dX8_isFriend_9 ?_
  refine lv_if_eq (tgt := 17) hx hb dX8_isFriend_10 (by decide) (fun cc => ?_) (fun cc => ?_)
  ·
    replace hf := ite_t cc hf
    clear cc
    refine lv_iconst (v := (0 : Int32)) hx hb dX8_isFriend_17 (by decide) ?_
    obtain rfl := ou1 hf
    rw [hQ]
    exact W.zret hx hb hr rfl (fun t ht hW => ⟨⟨_, (), rfl, rfl, by rw [ht]; exact hP, va_K.moved hW.alike hK, hD⟩, hS.F ht⟩) hS.2.2 dX8_isFriend_18
  ·
    replace hf := ite_f cc hf
    clear cc
    refine lv_iconst (v := (1 : Int32)) hx hb dX8_isFriend_13 (by decide) ?_
    refine lv_goto (tgt := 18) hx hb dX8_isFriend_14 (by decide) ?_
    obtain rfl := ou1 hf
    rw [hQ]
    exact W.zret hx hb hr rfl (fun t ht hW => ⟨⟨_, (), rfl, rfl, by rw [ht]; exact hP, va_K.moved hW.alike hK, hD⟩, hS.F ht⟩) hS.2.2 dX8_isFriend_18

noncomputable def B_X2_serve_15 (i_p0_rules_seats : Int32) (x1 : Int32) (v_p0_state_friends : (Nat → Int32)) (again15 : Int32 → Int32 → Int32 → (Nat → Int32) → (Nat → Int32) → Option ((Nat → Int32) × (Nat → Int32))) (z4 : Int32) (z5 : Int32) (z6 : Int32) (w7 : (Nat → Int32)) (w8 : (Nat → Int32)) : Option ((Nat → Int32) × (Nat → Int32)) := (if i_p0_rules_seats ≤ z4 then (some (w7, w8)) else (bd1 (f_X6_inRing i_p0_rules_seats (x1 + z4)) (fun (z10 : Int32) => (bnd z10 (fun (z11 : Int32) => (jn (fun (z12 : Int32) (z13 : Int32) (z14 : Int32) => (ck (ixB ((x1 * (7 : Int32)) + z11) 49) (bnd (upd w7 (((x1 * (7 : Int32)) + z11)).toNatClampNeg z14) (fun (w16 : (Nat → Int32)) => (ck (ixB ((x1 * (7 : Int32)) + z14) 49) (bnd (upd w8 (((x1 * (7 : Int32)) + z14)).toNatClampNeg z11) (fun (w17 : (Nat → Int32)) => (bnd (z4 + (1 : Int32)) (fun (z18 : Int32) => (again15 z18 z13 z12 w16 w17)))))))))) (fun (J15 : Int32 → Int32 → Int32 → Option ((Nat → Int32) × (Nat → Int32))) => (jn (bnd z5 (fun (z20 : Int32) => (bnd (z5 + (-1 : Int32)) (fun (z21 : Int32) => (J15 z6 z21 z20))))) (fun (J19 : Option ((Nat → Int32) × (Nat → Int32))) => (if z11 = x1 then (J19) else (bd1 (f_X8_isFriend v_p0_state_friends x1 z11) (fun (z22 : Int32) => (if z22 = 0 then (bnd z6 (fun (z23 : Int32) => (bnd (z6 + (1 : Int32)) (fun (z24 : Int32) => (J15 z24 z5 z23))))) else (J19))))))))))))))
noncomputable def f_X2_serve (i_p0_rules_seats : Int32) (v_p0_state_friends : (Nat → Int32)) (v_p0_places : (Nat → Int32)) (v_p0_holders : (Nat → Int32)) (x1 : Int32) : Option ((Nat → Int32) × (Nat → Int32)) := (bnd (0 : Int32) (fun (z1 : Int32) => (bnd (i_p0_rules_seats - (1 : Int32)) (fun (z2 : Int32) => (bnd (0 : Int32) (fun (z3 : Int32) => (lq5 (B_X2_serve_15 i_p0_rules_seats x1 v_p0_state_friends) 1000 z3 z2 z1 v_p0_places v_p0_holders)))))))
abbrev rm_X2_serve : Room := { frames := 1, cells := 0, slots := 0, locals := 23 }
theorem inX2_serve_X2 : ∀ w ∈ wsX20, w ∈ wsX2_serve := by decide +kernel
theorem mwX2_serve_1 : Cond.fieldLink RX2 21 "LadleKings$Kitchen" "rules" "LLadleKings$Rules;" ∈ wsX2_serve := by decide +kernel
theorem inX2_serve_X6 : ∀ w ∈ wsX60, w ∈ wsX2_serve := by decide +kernel
theorem mwX2_serve_3 : Cond.fieldLink RX2 29 "LadleKings$Rules" "seats" "I" ∈ wsX2_serve := by decide +kernel
theorem mwX2_serve_4 : Cond.fieldLink RX2 9 "LadleKings$Kitchen" "places" "[I" ∈ wsX2_serve := by decide +kernel
theorem mwX2_serve_5 : Cond.fieldLink RX2 15 "LadleKings$Kitchen" "holders" "[I" ∈ wsX2_serve := by decide +kernel
theorem mwX2_serve_6 : Cond.fieldLink RX2 25 "LadleKings$Kitchen" "state" "LLadleKings$State;" ∈ wsX2_serve := by decide +kernel
set_option maxHeartbeats 8000000 in
set_option maxRecDepth 100000 in
theorem c_X2_serve (l : Launch) (D : va_G) (G : Nat → ClassId) (sz : Nat) (a_p0 : Nat) (a_p0_rules : Nat) (a_p0_state : Nat) (a_p0_places : Nat) (a_p0_holders : Nat) (a_p0_stirred : Nat) (a_p0_rules_need : Nat) (a_p0_rules_kind : Nat) (a_p0_rules_first : Nat) (a_p0_rules_second : Nat) (a_p0_rules_after : Nat) (a_p0_state_pieces : Nat) (a_p0_state_friends : Nat) (a_p0_state_spoons : Nat) (a_p0_state_eaten : Nat) (a_p0_state_seen : Nat) (i_p0_rules_seats : Int32) (i_p0_rules_stirs : Int32) (i_p0_state_seenDays : Int32) (i_p0_state_bone : Int32) (i_p0_state_king : Int32) (i_p0_state_days : Int32) (v_p0_state_friends : (Nat → Int32)) (v_p0_places : (Nat → Int32)) (v_p0_holders : (Nat → Int32)) (x1 : Int32) (o_v_p0_places : (Nat → Int32)) (o_v_p0_holders : (Nat → Int32)) (hf : f_X2_serve i_p0_rules_seats v_p0_state_friends v_p0_places v_p0_holders x1 = some (o_v_p0_places, o_v_p0_holders)) : Met l yX2_serve wsX2_serve rm_X2_serve (pcG D G [.ref a_p0, .int x1] sz [(a_p0, .inr (2, [.ref a_p0_rules, .ref a_p0_state, .ref a_p0_places, .ref a_p0_holders, .ref a_p0_stirred])), (a_p0_rules, .inr (6, [.int i_p0_rules_seats, .int i_p0_rules_stirs, .ref a_p0_rules_need, .ref a_p0_rules_kind, .ref a_p0_rules_first, .ref a_p0_rules_second, .ref a_p0_rules_after])), (a_p0_state, .inr (8, [.ref a_p0_state_pieces, .ref a_p0_state_friends, .ref a_p0_state_spoons, .ref a_p0_state_eaten, .ref a_p0_state_seen, .int i_p0_state_seenDays, .int i_p0_state_bone, .int i_p0_state_king, .int i_p0_state_days])), (a_p0_state_friends, .inl (G 1, 7, .inl v_p0_state_friends)), (a_p0_places, .inl (G 1, 49, .inl v_p0_places)), (a_p0_holders, .inl (G 1, 49, .inl v_p0_holders))]) (qcV D G [(a_p0, .inr (2, [.ref a_p0_rules, .ref a_p0_state, .ref a_p0_places, .ref a_p0_holders, .ref a_p0_stirred])), (a_p0_rules, .inr (6, [.int i_p0_rules_seats, .int i_p0_rules_stirs, .ref a_p0_rules_need, .ref a_p0_rules_kind, .ref a_p0_rules_first, .ref a_p0_rules_second, .ref a_p0_rules_after])), (a_p0_state, .inr (8, [.ref a_p0_state_pieces, .ref a_p0_state_friends, .ref a_p0_state_spoons, .ref a_p0_state_eaten, .ref a_p0_state_seen, .int i_p0_state_seenDays, .int i_p0_state_bone, .int i_p0_state_king, .int i_p0_state_days])), (a_p0_state_friends, .inl (G 1, 7, .inl v_p0_state_friends)), (a_p0_places, .inl (G 1, 49, .inl o_v_p0_places)), (a_p0_holders, .inl (G 1, 49, .inl o_v_p0_holders))] (va_A [(a_p0, .inr (2, [.ref a_p0_rules, .ref a_p0_state, .ref a_p0_places, .ref a_p0_holders, .ref a_p0_stirred])), (a_p0_rules, .inr (6, [.int i_p0_rules_seats, .int i_p0_rules_stirs, .ref a_p0_rules_need, .ref a_p0_rules_kind, .ref a_p0_rules_first, .ref a_p0_rules_second, .ref a_p0_rules_after])), (a_p0_state, .inr (8, [.ref a_p0_state_pieces, .ref a_p0_state_friends, .ref a_p0_state_spoons, .ref a_p0_state_eaten, .ref a_p0_state_seen, .int i_p0_state_seenDays, .int i_p0_state_bone, .int i_p0_state_king, .int i_p0_state_days])), (a_p0_state_friends, .inl (G 1, 7, .inl v_p0_state_friends)), (a_p0_places, .inl (G 1, 49, .inl v_p0_places)), (a_p0_holders, .inl (G 1, 49, .inl v_p0_holders))] sz)) 0 0 (va_A [(a_p0, .inr (2, [.ref a_p0_rules, .ref a_p0_state, .ref a_p0_places, .ref a_p0_holders, .ref a_p0_stirred])), (a_p0_rules, .inr (6, [.int i_p0_rules_seats, .int i_p0_rules_stirs, .ref a_p0_rules_need, .ref a_p0_rules_kind, .ref a_p0_rules_first, .ref a_p0_rules_second, .ref a_p0_rules_after])), (a_p0_state, .inr (8, [.ref a_p0_state_pieces, .ref a_p0_state_friends, .ref a_p0_state_spoons, .ref a_p0_state_eaten, .ref a_p0_state_seen, .int i_p0_state_seenDays, .int i_p0_state_bone, .int i_p0_state_king, .int i_p0_state_days])), (a_p0_state_friends, .inl (G 1, 7, .inl v_p0_state_friends)), (a_p0_places, .inl (G 1, 49, .inl v_p0_places)), (a_p0_holders, .inl (G 1, 49, .inl v_p0_holders))] sz) := by
  refine Met.ofW (cc := cX2_serve) (maxL := 7) (ret := none) (by decide) rfl ?_
  intro p e s m args below meth c s₁ B hml hv
  obtain ⟨rfl, hsz, hP, hK, hD0⟩ := hv
  have hx := B.exec
  have hb := B.bytes
  have hr := B.returns
  have hts := atoms_spec (ws := wsX2_serve) B.pre
  have hown : s.vm.findClass RX2 = some m.cls := findClass_of_methodNamed B.named
  have hlocks := B.notSynchronized
  subst hsz
  have hD := hD0.self (sz := s.heap.size)
  generalize hAe : va_A [(a_p0, .inr (2, [.ref a_p0_rules, .ref a_p0_state, .ref a_p0_places, .ref a_p0_holders, .ref a_p0_stirred])), (a_p0_rules, .inr (6, [.int i_p0_rules_seats, .int i_p0_rules_stirs, .ref a_p0_rules_need, .ref a_p0_rules_kind, .ref a_p0_rules_first, .ref a_p0_rules_second, .ref a_p0_rules_after])), (a_p0_state, .inr (8, [.ref a_p0_state_pieces, .ref a_p0_state_friends, .ref a_p0_state_spoons, .ref a_p0_state_eaten, .ref a_p0_state_seen, .int i_p0_state_seenDays, .int i_p0_state_bone, .int i_p0_state_king, .int i_p0_state_days])), (a_p0_state_friends, .inl (G 1, 7, .inl v_p0_state_friends)), (a_p0_places, .inl (G 1, 49, .inl v_p0_places)), (a_p0_holders, .inl (G 1, 49, .inl v_p0_holders))] s.heap.size = A at hD ⊢
  have hA : ∀ q : Nat, s.heap.size ≤ q → A q := fun q h => by rw [← hAe]; exact Or.inr h
  clear hAe hD0
  have hS : va_S A s.heap s.heap [] := va_S.rf
  have hl := lv_entry ([.ref a_p0, .int x1]) (n := 7) (Nat.le_of_ble_eq_true rfl)
  rw [lg_entry_eq]
  generalize (lg_sl ([.ref a_p0, .int x1]) ++ List.replicate (7 - (lg_sl ([.ref a_p0, .int x1])).length) Slot.unset).toArray = ls at hl ⊢
  have hl : lv_has ls 7 [(0, .ref a_p0), (1, .int x1)] := hl
  refine W_nameQ (fun Q hQ => ?_)
  unfold f_X2_serve at hf
  refine lv_iconst (v := (0 : Int32)) hx hb dX2_serve_0 (by decide) ?_
  refine lv_topi (fun z1 ez => ?_)
  replace hf := bnd_s hf ez
  clear ez
  refine lv_istore_n (lv' := [(2, .int z1), (0, .ref a_p0), (1, .int x1)]) hx hb dX2_serve_1 rfl hl (by decide) rfl (fun ls hl => ?_)
  refine lv_aload_n hx hb dX2_serve_2 rfl (lv_at hl 1 rfl) ?_
  refine va_get (D := D) (ci := 2) (v := .ref a_p0_rules) (C := RX2) (T := TX2) (N := 5) hx hb hts inX2_serve_X2 hown hK hP 0 rfl rfl 0 (by decide) (hts _ mwX2_serve_1) (fun _ h9 => h9) rfl dX2_serve_3 ?_
  refine va_get (D := D) (ci := 6) (v := .int i_p0_rules_seats) (C := RX6) (T := TX6) (N := 7) hx hb hts inX2_serve_X6 hown hK hP 1 rfl rfl 0 (by decide) (hts _ mwX2_serve_3) (fun _ h9 => h9) rfl dX2_serve_6 ?_
  refine lv_iconst (v := (1 : Int32)) hx hb dX2_serve_9 (by decide) ?_
  refine lv_isub hx hb dX2_serve_10 ?_
  refine lv_topi (fun z2 ez => ?_)
  replace hf := bnd_s hf ez
  clear ez
  refine lv_istore_n (lv' := [(3, .int z2), (2, .int z1), (0, .ref a_p0), (1, .int x1)]) hx hb dX2_serve_11 rfl hl (by decide) rfl (fun ls hl => ?_)
  refine lv_iconst (v := (0 : Int32)) hx hb dX2_serve_12 (by decide) ?_
  refine lv_topi (fun z3 ez => ?_)
  replace hf := bnd_s hf ez
  clear ez
  refine lv_istore (lv' := [(4, .int z3), (3, .int z2), (2, .int z1), (0, .ref a_p0), (1, .int x1)]) hx hb dX2_serve_13 hl (by decide) rfl (fun ls hl => ?_)
  have hq := lq5_i hf
  clear hf
  obtain ⟨B9, eB9, NB9, hf⟩ := hq
  have hB9 : ∀ (n : Nat) (z4 : Int32) (z5 : Int32) (z6 : Int32) (w7 : (Nat → Int32)) (w8 : (Nat → Int32)) (ls : Array Slot) (H : Heap) (locs : List Loc), lv_has ls 7 [(4, .int z4), (3, .int z5), (2, .int z6), (0, .ref a_p0), (1, .int x1)] → va_P D vwCl [(a_p0, .inr (2, [.ref a_p0_rules, .ref a_p0_state, .ref a_p0_places, .ref a_p0_holders, .ref a_p0_stirred])), (a_p0_rules, .inr (6, [.int i_p0_rules_seats, .int i_p0_rules_stirs, .ref a_p0_rules_need, .ref a_p0_rules_kind, .ref a_p0_rules_first, .ref a_p0_rules_second, .ref a_p0_rules_after])), (a_p0_state, .inr (8, [.ref a_p0_state_pieces, .ref a_p0_state_friends, .ref a_p0_state_spoons, .ref a_p0_state_eaten, .ref a_p0_state_seen, .int i_p0_state_seenDays, .int i_p0_state_bone, .int i_p0_state_king, .int i_p0_state_days])), (a_p0_state_friends, .inl (G 1, 7, .inl v_p0_state_friends)), (a_p0_places, .inl (G 1, 49, .inl w7)), (a_p0_holders, .inl (G 1, 49, .inl w8))] H → va_D A [(a_p0, .inr (2, [.ref a_p0_rules, .ref a_p0_state, .ref a_p0_places, .ref a_p0_holders, .ref a_p0_stirred])), (a_p0_rules, .inr (6, [.int i_p0_rules_seats, .int i_p0_rules_stirs, .ref a_p0_rules_need, .ref a_p0_rules_kind, .ref a_p0_rules_first, .ref a_p0_rules_second, .ref a_p0_rules_after])), (a_p0_state, .inr (8, [.ref a_p0_state_pieces, .ref a_p0_state_friends, .ref a_p0_state_spoons, .ref a_p0_state_eaten, .ref a_p0_state_seen, .int i_p0_state_seenDays, .int i_p0_state_bone, .int i_p0_state_king, .int i_p0_state_days])), (a_p0_state_friends, .inl (G 1, 7, .inl v_p0_state_friends)), (a_p0_places, .inl (G 1, 49, .inl w7)), (a_p0_holders, .inl (G 1, 49, .inl w8))] → va_S A s.heap H locs → lq5 B9 n z4 z5 z6 w7 w8 = some (o_v_p0_places, o_v_p0_holders) → W p l e rm_X2_serve s m args below meth c H locs 0 0 Q (F0 m 15 ls []) := by
    clear hf hl hP hD hS
    intro n
    induction n with
    | zero =>
      intro z4 z5 z6 w7 w8 ls H locs hl hP hD hS hf
      exact (lq5_0 hf).elim
    | succ n ih15 =>
      intro z4 z5 z6 w7 w8 ls H locs hl hP hD hS hf
      replace hf := lq5_s eB9 hf
      unfold B_X2_serve_15 at hf
      refine lv_iload hx hb dX2_serve_15 (lv_at hl 0 rfl) ?_
      refine lv_aload_n hx hb dX2_serve_17 rfl (lv_at hl 3 rfl) ?_
      refine va_get (D := D) (ci := 2) (v := .ref a_p0_rules) (C := RX2) (T := TX2) (N := 5) hx hb hts inX2_serve_X2 hown hK hP 0 rfl rfl 0 (by decide) (hts _ mwX2_serve_1) (fun _ h9 => h9) rfl dX2_serve_18 ?_
      refine va_get (D := D) (ci := 6) (v := .int i_p0_rules_seats) (C := RX6) (T := TX6) (N := 7) hx hb hts inX2_serve_X6 hown hK hP 1 rfl rfl 0 (by decide) (hts _ mwX2_serve_3) (fun _ h9 => h9) rfl dX2_serve_21 ?_
      refine lv_icmp_ge (tgt := 108) hx hb dX2_serve_24 (by decide) (fun cc => ?_) (fun cc => ?_)
      ·
        replace hf := ite_t cc hf
        clear cc
        obtain ⟨rfl, rfl⟩ := ou2 hf
        rw [hQ]
        exact W.vret hx hb hr (fun t ht hW => ⟨⟨(), rfl, trivial, by rw [ht]; exact hP, va_K.moved hW.alike hK, hD⟩, hS.F ht⟩) hS.2.2 dX2_serve_108
      ·
        replace hf := ite_f cc hf
        clear cc
        refine lv_aload_n hx hb dX2_serve_27 rfl (lv_at hl 3 rfl) ?_
        refine va_get (D := D) (ci := 2) (v := .ref a_p0_rules) (C := RX2) (T := TX2) (N := 5) hx hb hts inX2_serve_X2 hown hK hP 0 rfl rfl 0 (by decide) (hts _ mwX2_serve_1) (fun _ h9 => h9) rfl dX2_serve_28 ?_
        refine lv_iload_n hx hb dX2_serve_31 rfl (lv_at hl 4 rfl) ?_
        refine lv_iload hx hb dX2_serve_32 (lv_at hl 0 rfl) ?_
        refine lv_iadd hx hb dX2_serve_34 ?_
        have hq := bd1_s hf
        clear hf
        obtain ⟨z10, hcall, hf⟩ := hq
        refine gcI (ws' := [(a_p0, .inr (2, [.ref a_p0_rules, .ref a_p0_state, .ref a_p0_places, .ref a_p0_holders, .ref a_p0_stirred])), (a_p0_rules, .inr (6, [.int i_p0_rules_seats, .int i_p0_rules_stirs, .ref a_p0_rules_need, .ref a_p0_rules_kind, .ref a_p0_rules_first, .ref a_p0_rules_second, .ref a_p0_rules_after])), (a_p0_state, .inr (8, [.ref a_p0_state_pieces, .ref a_p0_state_friends, .ref a_p0_state_spoons, .ref a_p0_state_eaten, .ref a_p0_state_seen, .int i_p0_state_seenDays, .int i_p0_state_bone, .int i_p0_state_king, .int i_p0_state_days])), (a_p0_state_friends, .inl (G 1, 7, .inl v_p0_state_friends)), (a_p0_places, .inl (G 1, 49, .inl w7)), (a_p0_holders, .inl (G 1, 49, .inl w8))]) (va_runV (As := [.int (x1 + z4)]) (rest := []) ⟨hx, hb, hml, hown, hts⟩ (c_X6_inRing (l := l) (D := D) (G := G) (sz := H.size) (a_p0 := a_p0_rules) (a_p0_need := a_p0_rules_need) (a_p0_kind := a_p0_rules_kind) (a_p0_first := a_p0_rules_first) (a_p0_second := a_p0_rules_second) (a_p0_after := a_p0_rules_after) (i_p0_seats := i_p0_rules_seats) (i_p0_stirs := i_p0_rules_stirs) (x1 := (x1 + z4)) (r := z10) (hf := hcall)) (cwV 1 hts gX2_serve_X6_inRing rfl rfl rfl (by decide +kernel) ⟨Nat.le_of_ble_eq_true rfl, Nat.le_of_ble_eq_true rfl⟩) (preG_V (ci := 6) (hP.sub [1] rfl) (hD.sub [1] rfl rfl) hK rfl rfl) rfl rfl hl.1 rfl (lv_room (Nat.le_of_ble_eq_true rfl)) dX2_serve_35 ⟨Nat.le_of_ble_eq_true rfl, Nat.le_of_ble_eq_true rfl⟩) hP hD hS hA [1] [0, 2, 3, 4, 5] [0, 5, 1, 2, 3, 4] rfl rfl rfl (by decide) rfl rfl rfl (fun H locs hP hD hS => ?_)
        clear hcall
        refine lv_topi (fun z11 ez => ?_)
        replace hf := bnd_s hf ez
        clear ez
        refine lv_istore (lv' := [(5, .int z11), (4, .int z4), (3, .int z5), (2, .int z6), (0, .ref a_p0), (1, .int x1)]) hx hb dX2_serve_38 hl (by decide) rfl (fun ls hl => ?_)
        refine lv_iload hx hb dX2_serve_40 (lv_at hl 0 rfl) ?_
        refine lv_iload_n hx hb dX2_serve_42 rfl (lv_at hl 5 rfl) ?_
        have hq := jn_i hf
        clear hf
        obtain ⟨J15, eJ15, hf⟩ := hq
        have hJ15 : ∀ (z12 : Int32) (z13 : Int32) (z14 : Int32) (ls : Array Slot) (H : Heap) (locs : List Loc), lv_has ls 7 [(5, .int z11), (4, .int z4), (3, .int z13), (2, .int z12), (0, .ref a_p0), (1, .int x1), (6, .int z14)] → va_P D vwCl [(a_p0, .inr (2, [.ref a_p0_rules, .ref a_p0_state, .ref a_p0_places, .ref a_p0_holders, .ref a_p0_stirred])), (a_p0_rules, .inr (6, [.int i_p0_rules_seats, .int i_p0_rules_stirs, .ref a_p0_rules_need, .ref a_p0_rules_kind, .ref a_p0_rules_first, .ref a_p0_rules_second, .ref a_p0_rules_after])), (a_p0_state, .inr (8, [.ref a_p0_state_pieces, .ref a_p0_state_friends, .ref a_p0_state_spoons, .ref a_p0_state_eaten, .ref a_p0_state_seen, .int i_p0_state_seenDays, .int i_p0_state_bone, .int i_p0_state_king, .int i_p0_state_days])), (a_p0_state_friends, .inl (G 1, 7, .inl v_p0_state_friends)), (a_p0_places, .inl (G 1, 49, .inl w7)), (a_p0_holders, .inl (G 1, 49, .inl w8))] H → va_D A [(a_p0, .inr (2, [.ref a_p0_rules, .ref a_p0_state, .ref a_p0_places, .ref a_p0_holders, .ref a_p0_stirred])), (a_p0_rules, .inr (6, [.int i_p0_rules_seats, .int i_p0_rules_stirs, .ref a_p0_rules_need, .ref a_p0_rules_kind, .ref a_p0_rules_first, .ref a_p0_rules_second, .ref a_p0_rules_after])), (a_p0_state, .inr (8, [.ref a_p0_state_pieces, .ref a_p0_state_friends, .ref a_p0_state_spoons, .ref a_p0_state_eaten, .ref a_p0_state_seen, .int i_p0_state_seenDays, .int i_p0_state_bone, .int i_p0_state_king, .int i_p0_state_days])), (a_p0_state_friends, .inl (G 1, 7, .inl v_p0_state_friends)), (a_p0_places, .inl (G 1, 49, .inl w7)), (a_p0_holders, .inl (G 1, 49, .inl w8))] → va_S A s.heap H locs → J15 z12 z13 z14 = some (o_v_p0_places, o_v_p0_holders) → W p l e rm_X2_serve s m args below meth c H locs 0 0 Q (F0 m 74 ls []) := by
          clear hf hl hP hD hS
          intro z12 z13 z14 ls H locs hl hP hD hS hf
          replace hf := jn3_s eJ15 hf
          refine lv_aload_n hx hb dX2_serve_74 rfl (lv_at hl 4 rfl) ?_
          refine va_get (D := D) (ci := 2) (v := .ref a_p0_places) (C := RX2) (T := TX2) (N := 5) hx hb hts inX2_serve_X2 hown hK hP 0 rfl rfl 2 (by decide) (hts _ mwX2_serve_4) (fun _ h9 => h9) rfl dX2_serve_75 ?_
          refine lv_iload_n hx hb dX2_serve_78 rfl (lv_at hl 5 rfl) ?_
          refine lv_bipush (v := (7 : Int32)) hx hb dX2_serve_79 (by decide) ?_
          refine lv_imul hx hb dX2_serve_81 ?_
          refine lv_iload hx hb dX2_serve_82 (lv_at hl 0 rfl) ?_
          refine lv_iadd hx hb dX2_serve_84 ?_
          refine lv_iload hx hb dX2_serve_85 (lv_at hl 6 rfl) ?_
          have hc := ck_c hf
          replace hf := ck_r hf
          refine gs_iast (wf := fun w16 => [(a_p0, .inr (2, [.ref a_p0_rules, .ref a_p0_state, .ref a_p0_places, .ref a_p0_holders, .ref a_p0_stirred])), (a_p0_rules, .inr (6, [.int i_p0_rules_seats, .int i_p0_rules_stirs, .ref a_p0_rules_need, .ref a_p0_rules_kind, .ref a_p0_rules_first, .ref a_p0_rules_second, .ref a_p0_rules_after])), (a_p0_state, .inr (8, [.ref a_p0_state_pieces, .ref a_p0_state_friends, .ref a_p0_state_spoons, .ref a_p0_state_eaten, .ref a_p0_state_seen, .int i_p0_state_seenDays, .int i_p0_state_bone, .int i_p0_state_king, .int i_p0_state_days])), (a_p0_state_friends, .inl (G 1, 7, .inl v_p0_state_friends)), (a_p0_places, .inl (G 1, 49, .inl w16)), (a_p0_holders, .inl (G 1, 49, .inl w8))]) hx hb hK hP hD hS 4 1 rfl rfl (ixB_in hc) dX2_serve_87 (fun _ => rfl) (fun w16 ez H locs hP hD hS => ?_)
          replace hf := bnd_s hf ez
          clear ez hc
          refine lv_aload_n hx hb dX2_serve_88 rfl (lv_at hl 4 rfl) ?_
          refine va_get (D := D) (ci := 2) (v := .ref a_p0_holders) (C := RX2) (T := TX2) (N := 5) hx hb hts inX2_serve_X2 hown hK hP 0 rfl rfl 3 (by decide) (hts _ mwX2_serve_5) (fun _ h9 => h9) rfl dX2_serve_89 ?_
          refine lv_iload_n hx hb dX2_serve_92 rfl (lv_at hl 5 rfl) ?_
          refine lv_bipush (v := (7 : Int32)) hx hb dX2_serve_93 (by decide) ?_
          refine lv_imul hx hb dX2_serve_95 ?_
          refine lv_iload hx hb dX2_serve_96 (lv_at hl 6 rfl) ?_
          refine lv_iadd hx hb dX2_serve_98 ?_
          refine lv_iload hx hb dX2_serve_99 (lv_at hl 0 rfl) ?_
          have hc := ck_c hf
          replace hf := ck_r hf
          refine gs_iast (wf := fun w17 => [(a_p0, .inr (2, [.ref a_p0_rules, .ref a_p0_state, .ref a_p0_places, .ref a_p0_holders, .ref a_p0_stirred])), (a_p0_rules, .inr (6, [.int i_p0_rules_seats, .int i_p0_rules_stirs, .ref a_p0_rules_need, .ref a_p0_rules_kind, .ref a_p0_rules_first, .ref a_p0_rules_second, .ref a_p0_rules_after])), (a_p0_state, .inr (8, [.ref a_p0_state_pieces, .ref a_p0_state_friends, .ref a_p0_state_spoons, .ref a_p0_state_eaten, .ref a_p0_state_seen, .int i_p0_state_seenDays, .int i_p0_state_bone, .int i_p0_state_king, .int i_p0_state_days])), (a_p0_state_friends, .inl (G 1, 7, .inl v_p0_state_friends)), (a_p0_places, .inl (G 1, 49, .inl w16)), (a_p0_holders, .inl (G 1, 49, .inl w17))]) hx hb hK hP hD hS 5 1 rfl rfl (ixB_in hc) dX2_serve_101 (fun _ => rfl) (fun w17 ez H locs hP hD hS => ?_)
          replace hf := bnd_s hf ez
          clear ez hc
          obtain ⟨z18, ez⟩ : ∃ y : Int32, y = (z4 + (1 : Int32)) := ⟨_, rfl⟩
          replace hf := bnd_s hf ez
          refine lv_iinc (v := z18) (lv' := [(4, .int z18), (5, .int z11), (3, .int z13), (2, .int z12), (0, .ref a_p0), (1, .int x1), (6, .int z14)]) hx hb dX2_serve_102 hl (k := 1) rfl (by rw [ez]; rfl) (by decide) rfl (fun ls hl => ?_)
          clear ez
          refine lv_goto (tgt := 15) hx hb dX2_serve_105 (by decide) ?_
          exact ih15 _ _ _ _ _ ls H locs (lv_sub hl [0, 2, 3, 4, 5] rfl) hP hD hS hf
        have hq := jn_i hf
        clear hf
        obtain ⟨J19, eJ19, hf⟩ := hq
        have hJ19 : ∀  (ls : Array Slot) (H : Heap) (locs : List Loc), lv_has ls 7 [(5, .int z11), (4, .int z4), (3, .int z5), (2, .int z6), (0, .ref a_p0), (1, .int x1)] → va_P D vwCl [(a_p0, .inr (2, [.ref a_p0_rules, .ref a_p0_state, .ref a_p0_places, .ref a_p0_holders, .ref a_p0_stirred])), (a_p0_rules, .inr (6, [.int i_p0_rules_seats, .int i_p0_rules_stirs, .ref a_p0_rules_need, .ref a_p0_rules_kind, .ref a_p0_rules_first, .ref a_p0_rules_second, .ref a_p0_rules_after])), (a_p0_state, .inr (8, [.ref a_p0_state_pieces, .ref a_p0_state_friends, .ref a_p0_state_spoons, .ref a_p0_state_eaten, .ref a_p0_state_seen, .int i_p0_state_seenDays, .int i_p0_state_bone, .int i_p0_state_king, .int i_p0_state_days])), (a_p0_state_friends, .inl (G 1, 7, .inl v_p0_state_friends)), (a_p0_places, .inl (G 1, 49, .inl w7)), (a_p0_holders, .inl (G 1, 49, .inl w8))] H → va_D A [(a_p0, .inr (2, [.ref a_p0_rules, .ref a_p0_state, .ref a_p0_places, .ref a_p0_holders, .ref a_p0_stirred])), (a_p0_rules, .inr (6, [.int i_p0_rules_seats, .int i_p0_rules_stirs, .ref a_p0_rules_need, .ref a_p0_rules_kind, .ref a_p0_rules_first, .ref a_p0_rules_second, .ref a_p0_rules_after])), (a_p0_state, .inr (8, [.ref a_p0_state_pieces, .ref a_p0_state_friends, .ref a_p0_state_spoons, .ref a_p0_state_eaten, .ref a_p0_state_seen, .int i_p0_state_seenDays, .int i_p0_state_bone, .int i_p0_state_king, .int i_p0_state_days])), (a_p0_state_friends, .inl (G 1, 7, .inl v_p0_state_friends)), (a_p0_places, .inl (G 1, 49, .inl w7)), (a_p0_holders, .inl (G 1, 49, .inl w8))] → va_S A s.heap H locs → J19  = some (o_v_p0_places, o_v_p0_holders) → W p l e rm_X2_serve s m args below meth c H locs 0 0 Q (F0 m 59 ls []) := by
          clear hf hl hP hD hS
          intro  ls H locs hl hP hD hS hf
          replace hf := jn0_s eJ19 hf
          refine lv_iload_n hx hb dX2_serve_59 rfl (lv_at hl 2 rfl) ?_
          refine lv_topi (fun z20 ez => ?_)
          replace hf := bnd_s hf ez
          clear ez
          refine lv_istore (lv' := [(6, .int z20), (5, .int z11), (4, .int z4), (3, .int z5), (2, .int z6), (0, .ref a_p0), (1, .int x1)]) hx hb dX2_serve_60 hl (by decide) rfl (fun ls hl => ?_)
          obtain ⟨z21, ez⟩ : ∃ y : Int32, y = (z5 + (-1 : Int32)) := ⟨_, rfl⟩
          replace hf := bnd_s hf ez
          refine lv_iinc (v := z21) (lv' := [(3, .int z21), (6, .int z20), (5, .int z11), (4, .int z4), (2, .int z6), (0, .ref a_p0), (1, .int x1)]) hx hb dX2_serve_62 hl (k := 3) rfl (by rw [ez]; rfl) (by decide) rfl (fun ls hl => ?_)
          clear ez
          refine lv_goto (tgt := 74) hx hb dX2_serve_65 (by decide) ?_
          exact hJ15 _ _ _ ls H locs (lv_sub hl [2, 3, 0, 4, 5, 6, 1] rfl) hP hD hS hf
        refine lv_icmp_eq (tgt := 59) hx hb dX2_serve_43 (by decide) (fun cc => ?_) (fun cc => ?_)
        ·
          replace hf := ite_t cc hf
          clear cc
          exact hJ19  ls H locs (lv_sub hl [0, 1, 2, 3, 4, 5] rfl) hP hD hS hf
        ·
          replace hf := ite_f cc hf
          clear cc
          refine lv_aload_n hx hb dX2_serve_46 rfl (lv_at hl 4 rfl) ?_
          refine va_get (D := D) (ci := 2) (v := .ref a_p0_state) (C := RX2) (T := TX2) (N := 5) hx hb hts inX2_serve_X2 hown hK hP 0 rfl rfl 1 (by decide) (hts _ mwX2_serve_6) (fun _ h9 => h9) rfl dX2_serve_47 ?_
          refine lv_iload_n hx hb dX2_serve_50 rfl (lv_at hl 5 rfl) ?_
          refine lv_iload hx hb dX2_serve_51 (lv_at hl 0 rfl) ?_
          have hq := bd1_s hf
          clear hf
          obtain ⟨z22, hcall, hf⟩ := hq
          refine gcI (ws' := [(a_p0, .inr (2, [.ref a_p0_rules, .ref a_p0_state, .ref a_p0_places, .ref a_p0_holders, .ref a_p0_stirred])), (a_p0_rules, .inr (6, [.int i_p0_rules_seats, .int i_p0_rules_stirs, .ref a_p0_rules_need, .ref a_p0_rules_kind, .ref a_p0_rules_first, .ref a_p0_rules_second, .ref a_p0_rules_after])), (a_p0_state, .inr (8, [.ref a_p0_state_pieces, .ref a_p0_state_friends, .ref a_p0_state_spoons, .ref a_p0_state_eaten, .ref a_p0_state_seen, .int i_p0_state_seenDays, .int i_p0_state_bone, .int i_p0_state_king, .int i_p0_state_days])), (a_p0_state_friends, .inl (G 1, 7, .inl v_p0_state_friends)), (a_p0_places, .inl (G 1, 49, .inl w7)), (a_p0_holders, .inl (G 1, 49, .inl w8))]) (va_runV (As := [.int x1, .int z11]) (rest := []) ⟨hx, hb, hml, hown, hts⟩ (c_X8_isFriend (l := l) (D := D) (G := G) (sz := H.size) (a_p0 := a_p0_state) (a_p0_pieces := a_p0_state_pieces) (a_p0_friends := a_p0_state_friends) (a_p0_spoons := a_p0_state_spoons) (a_p0_eaten := a_p0_state_eaten) (a_p0_seen := a_p0_state_seen) (i_p0_seenDays := i_p0_state_seenDays) (i_p0_bone := i_p0_state_bone) (i_p0_king := i_p0_state_king) (i_p0_days := i_p0_state_days) (v_p0_friends := v_p0_state_friends) (x1 := x1) (x2 := z11) (r := z22) (hf := hcall)) (cwV 2 hts gX2_serve_X8_isFriend rfl rfl rfl (by decide +kernel) ⟨Nat.le_of_ble_eq_true rfl, Nat.le_of_ble_eq_true rfl⟩) (preG_V (ci := 8) (hP.sub [2, 3] rfl) (hD.sub [2, 3] rfl rfl) hK rfl rfl) rfl rfl hl.1 rfl (lv_room (Nat.le_of_ble_eq_true rfl)) dX2_serve_53 ⟨Nat.le_of_ble_eq_true rfl, Nat.le_of_ble_eq_true rfl⟩) hP hD hS hA [2, 3] [0, 1, 4, 5] [0, 1, 4, 5, 2, 3] rfl rfl rfl (by decide) rfl rfl rfl (fun H locs hP hD hS => ?_)
          clear hcall
          refine lv_if_eq (tgt := 68) hx hb dX2_serve_56 (by decide) (fun cc => ?_) (fun cc => ?_)
          ·
            replace hf := ite_t cc hf
            clear cc
            refine lv_iload_n hx hb dX2_serve_68 rfl (lv_at hl 3 rfl) ?_
            refine lv_topi (fun z23 ez => ?_)
            replace hf := bnd_s hf ez
            clear ez
            refine lv_istore (lv' := [(6, .int z23), (5, .int z11), (4, .int z4), (3, .int z5), (2, .int z6), (0, .ref a_p0), (1, .int x1)]) hx hb dX2_serve_69 hl (by decide) rfl (fun ls hl => ?_)
            obtain ⟨z24, ez⟩ : ∃ y : Int32, y = (z6 + (1 : Int32)) := ⟨_, rfl⟩
            replace hf := bnd_s hf ez
            refine lv_iinc (v := z24) (lv' := [(2, .int z24), (6, .int z23), (5, .int z11), (4, .int z4), (3, .int z5), (0, .ref a_p0), (1, .int x1)]) hx hb dX2_serve_71 hl (k := 4) rfl (by rw [ez]; rfl) (by decide) rfl (fun ls hl => ?_)
            clear ez
            exact hJ15 _ _ _ ls H locs (lv_sub hl [2, 3, 4, 0, 5, 6, 1] rfl) hP hD hS hf
          ·
            replace hf := ite_f cc hf
            clear cc
            exact hJ19  ls H locs (lv_sub hl [0, 1, 2, 3, 4, 5] rfl) hP hD hS hf
  exact hB9 _ _ _ _ _ _ ls H locs (lv_sub hl [0, 1, 2, 3, 4] rfl) hP hD hS hf

noncomputable def f_X6_hasSeat (i_p0_seats : Int32) (x1 : Int32) : Option (Int32) := (if x1 < 0 then (some (0 : Int32)) else (if i_p0_seats ≤ x1 then (some (0 : Int32)) else (some (1 : Int32))))
abbrev rm_X6_hasSeat : Room := { frames := 0, cells := 0, slots := 0, locals := 0 }
theorem inX6_hasSeat_X6 : ∀ w ∈ wsX60, w ∈ wsX6_hasSeat := by decide +kernel
theorem mwX6_hasSeat_1 : Cond.fieldLink RX6 9 "LadleKings$Rules" "seats" "I" ∈ wsX6_hasSeat := by decide +kernel
set_option maxHeartbeats 8000000 in
set_option maxRecDepth 100000 in
theorem c_X6_hasSeat (l : Launch) (D : va_G) (G : Nat → ClassId) (sz : Nat) (a_p0 : Nat) (a_p0_need : Nat) (a_p0_kind : Nat) (a_p0_first : Nat) (a_p0_second : Nat) (a_p0_after : Nat) (i_p0_seats : Int32) (i_p0_stirs : Int32) (x1 : Int32) (r : Int32) (hf : f_X6_hasSeat i_p0_seats x1 = some r) : Met l yX6_hasSeat wsX6_hasSeat rm_X6_hasSeat (pcG D G [.ref a_p0, .int x1] sz [(a_p0, .inr (6, [.int i_p0_seats, .int i_p0_stirs, .ref a_p0_need, .ref a_p0_kind, .ref a_p0_first, .ref a_p0_second, .ref a_p0_after]))]) (qcI D G r [(a_p0, .inr (6, [.int i_p0_seats, .int i_p0_stirs, .ref a_p0_need, .ref a_p0_kind, .ref a_p0_first, .ref a_p0_second, .ref a_p0_after]))] (va_A [(a_p0, .inr (6, [.int i_p0_seats, .int i_p0_stirs, .ref a_p0_need, .ref a_p0_kind, .ref a_p0_first, .ref a_p0_second, .ref a_p0_after]))] sz)) 0 0 (va_A [(a_p0, .inr (6, [.int i_p0_seats, .int i_p0_stirs, .ref a_p0_need, .ref a_p0_kind, .ref a_p0_first, .ref a_p0_second, .ref a_p0_after]))] sz) := by
  refine Met.ofW (cc := cX6_hasSeat) (maxL := 2) (ret := (some .boolean)) (by decide) rfl ?_
  intro p e s m args below meth c s₁ B hml hv
  obtain ⟨rfl, hsz, hP, hK, hD0⟩ := hv
  have hx := B.exec
  have hb := B.bytes
  have hr := B.returns
  have hts := atoms_spec (ws := wsX6_hasSeat) B.pre
  have hown : s.vm.findClass RX6 = some m.cls := findClass_of_methodNamed B.named
  have hlocks := B.notSynchronized
  subst hsz
  have hD := hD0.self (sz := s.heap.size)
  generalize hAe : va_A [(a_p0, .inr (6, [.int i_p0_seats, .int i_p0_stirs, .ref a_p0_need, .ref a_p0_kind, .ref a_p0_first, .ref a_p0_second, .ref a_p0_after]))] s.heap.size = A at hD ⊢
  have hA : ∀ q : Nat, s.heap.size ≤ q → A q := fun q h => by rw [← hAe]; exact Or.inr h
  clear hAe hD0
  have hS : va_S A s.heap s.heap [] := va_S.rf
  have hl := lv_entry ([.ref a_p0, .int x1]) (n := 2) (Nat.le_of_ble_eq_true rfl)
  rw [lg_entry_eq]
  generalize (lg_sl ([.ref a_p0, .int x1]) ++ List.replicate (2 - (lg_sl ([.ref a_p0, .int x1])).length) Slot.unset).toArray = ls at hl ⊢
  have hl : lv_has ls 2 [(0, .ref a_p0), (1, .int x1)] := hl
  refine W_nameQ (fun Q hQ => ?_)
  unfold f_X6_hasSeat at hf
  refine lv_iload_n hx hb dX6_hasSeat_0 rfl (lv_at hl 1 rfl) ?_
  refine lv_if_lt (tgt := 16) hx hb dX6_hasSeat_1 (by decide) (fun cc => ?_) (fun cc => ?_)
  ·
    replace hf := ite_t cc hf
    clear cc
    refine lv_iconst (v := (0 : Int32)) hx hb dX6_hasSeat_16 (by decide) ?_
    obtain rfl := ou1 hf
    rw [hQ]
    exact W.zret hx hb hr rfl (fun t ht hW => ⟨⟨_, (), rfl, rfl, by rw [ht]; exact hP, va_K.moved hW.alike hK, hD⟩, hS.F ht⟩) hS.2.2 dX6_hasSeat_17
  ·
    replace hf := ite_f cc hf
    clear cc
    refine lv_iload_n hx hb dX6_hasSeat_4 rfl (lv_at hl 1 rfl) ?_
    refine lv_aload_n hx hb dX6_hasSeat_5 rfl (lv_at hl 0 rfl) ?_
    refine va_get (D := D) (ci := 6) (v := .int i_p0_seats) (C := RX6) (T := TX6) (N := 7) hx hb hts inX6_hasSeat_X6 hown hK hP 0 rfl rfl 0 (by decide) (hts _ mwX6_hasSeat_1) (fun _ h9 => h9) rfl dX6_hasSeat_6 ?_
    refine lv_icmp_ge (tgt := 16) hx hb dX6_hasSeat_9 (by decide) (fun cc => ?_) (fun cc => ?_)
    ·
      replace hf := ite_t cc hf
      clear cc
      refine lv_iconst (v := (0 : Int32)) hx hb dX6_hasSeat_16 (by decide) ?_
      obtain rfl := ou1 hf
      rw [hQ]
      exact W.zret hx hb hr rfl (fun t ht hW => ⟨⟨_, (), rfl, rfl, by rw [ht]; exact hP, va_K.moved hW.alike hK, hD⟩, hS.F ht⟩) hS.2.2 dX6_hasSeat_17
    ·
      replace hf := ite_f cc hf
      clear cc
      refine lv_iconst (v := (1 : Int32)) hx hb dX6_hasSeat_12 (by decide) ?_
      refine lv_goto (tgt := 17) hx hb dX6_hasSeat_13 (by decide) ?_
      obtain rfl := ou1 hf
      rw [hQ]
      exact W.zret hx hb hr rfl (fun t ht hW => ⟨⟨_, (), rfl, rfl, by rw [ht]; exact hP, va_K.moved hW.alike hK, hD⟩, hS.F ht⟩) hS.2.2 dX6_hasSeat_17

noncomputable def f_X11_end (i_p0_tape_length : Int32) (x1 : Int32) : Option (Int32 × Int32) := (if x1 < 0 then (some ((-1 : Int32), i_p0_tape_length)) else (if x1 ≤ i_p0_tape_length then (bnd i_p0_tape_length (fun (z1 : Int32) => (bnd x1 (fun (z2 : Int32) => (some (z1, z2)))))) else (some ((-1 : Int32), i_p0_tape_length))))
abbrev rm_X11_end : Room := { frames := 0, cells := 0, slots := 0, locals := 0 }
theorem inX11_end_X11 : ∀ w ∈ wsX110, w ∈ wsX11_end := by decide +kernel
theorem mwX11_end_1 : Cond.fieldLink RX11 26 "LadleKings" "tape" "LLadleKings$Tape;" ∈ wsX11_end := by decide +kernel
theorem inX11_end_X9 : ∀ w ∈ wsX90, w ∈ wsX11_end := by decide +kernel
theorem mwX11_end_3 : Cond.fieldLink RX11 111 "LadleKings$Tape" "length" "I" ∈ wsX11_end := by decide +kernel
set_option maxHeartbeats 8000000 in
set_option maxRecDepth 100000 in
theorem c_X11_end (l : Launch) (D : va_G) (G : Nat → ClassId) (sz : Nat) (a_p0 : Nat) (a_p0_rules : Nat) (a_p0_state : Nat) (a_p0_tape : Nat) (a_p0_reader : Nat) (a_p0_kitchen : Nat) (a_p0_luck : Nat) (a_p0_plans : Nat) (a_p0_coups : Nat) (a_p0_past : Nat) (a_p0_fairDays : Nat) (a_p0_images : Nat) (a_p0_imageHeld : Nat) (a_p0_sheets : Nat) (a_p0_tape_bytes : Nat) (i_p0_latestFault : Int32) (i_p0_latestTear : Int32) (i_p0_tape_length : Int32) (i_p0_tape_at : Int32) (i_p0_tape_token : Int32) (i_p0_tape_start : Int32) (i_p0_tape_value : Int32) (x1 : Int32) (r : Int32) (o_i_p0_tape_length : Int32) (hf : f_X11_end i_p0_tape_length x1 = some (r, o_i_p0_tape_length)) : Met l yX11_end wsX11_end rm_X11_end (pcG D G [.ref a_p0, .int x1] sz [(a_p0, .inr (11, [.ref a_p0_rules, .ref a_p0_state, .ref a_p0_tape, .ref a_p0_reader, .ref a_p0_kitchen, .ref a_p0_luck, .ref a_p0_plans, .ref a_p0_coups, .ref a_p0_past, .ref a_p0_fairDays, .ref a_p0_images, .ref a_p0_imageHeld, .ref a_p0_sheets, .int i_p0_latestFault, .int i_p0_latestTear])), (a_p0_tape, .inr (9, [.ref a_p0_tape_bytes, .int i_p0_tape_length, .int i_p0_tape_at, .int i_p0_tape_token, .int i_p0_tape_start, .int i_p0_tape_value]))]) (qcI D G r [(a_p0, .inr (11, [.ref a_p0_rules, .ref a_p0_state, .ref a_p0_tape, .ref a_p0_reader, .ref a_p0_kitchen, .ref a_p0_luck, .ref a_p0_plans, .ref a_p0_coups, .ref a_p0_past, .ref a_p0_fairDays, .ref a_p0_images, .ref a_p0_imageHeld, .ref a_p0_sheets, .int i_p0_latestFault, .int i_p0_latestTear])), (a_p0_tape, .inr (9, [.ref a_p0_tape_bytes, .int o_i_p0_tape_length, .int i_p0_tape_at, .int i_p0_tape_token, .int i_p0_tape_start, .int i_p0_tape_value]))] (va_A [(a_p0, .inr (11, [.ref a_p0_rules, .ref a_p0_state, .ref a_p0_tape, .ref a_p0_reader, .ref a_p0_kitchen, .ref a_p0_luck, .ref a_p0_plans, .ref a_p0_coups, .ref a_p0_past, .ref a_p0_fairDays, .ref a_p0_images, .ref a_p0_imageHeld, .ref a_p0_sheets, .int i_p0_latestFault, .int i_p0_latestTear])), (a_p0_tape, .inr (9, [.ref a_p0_tape_bytes, .int i_p0_tape_length, .int i_p0_tape_at, .int i_p0_tape_token, .int i_p0_tape_start, .int i_p0_tape_value]))] sz)) 0 0 (va_A [(a_p0, .inr (11, [.ref a_p0_rules, .ref a_p0_state, .ref a_p0_tape, .ref a_p0_reader, .ref a_p0_kitchen, .ref a_p0_luck, .ref a_p0_plans, .ref a_p0_coups, .ref a_p0_past, .ref a_p0_fairDays, .ref a_p0_images, .ref a_p0_imageHeld, .ref a_p0_sheets, .int i_p0_latestFault, .int i_p0_latestTear])), (a_p0_tape, .inr (9, [.ref a_p0_tape_bytes, .int i_p0_tape_length, .int i_p0_tape_at, .int i_p0_tape_token, .int i_p0_tape_start, .int i_p0_tape_value]))] sz) := by
  refine Met.ofW (cc := cX11_end) (maxL := 3) (ret := (some .int)) (by decide) rfl ?_
  intro p e s m args below meth c s₁ B hml hv
  obtain ⟨rfl, hsz, hP, hK, hD0⟩ := hv
  have hx := B.exec
  have hb := B.bytes
  have hr := B.returns
  have hts := atoms_spec (ws := wsX11_end) B.pre
  have hown : s.vm.findClass RX11 = some m.cls := findClass_of_methodNamed B.named
  have hlocks := B.notSynchronized
  subst hsz
  have hD := hD0.self (sz := s.heap.size)
  generalize hAe : va_A [(a_p0, .inr (11, [.ref a_p0_rules, .ref a_p0_state, .ref a_p0_tape, .ref a_p0_reader, .ref a_p0_kitchen, .ref a_p0_luck, .ref a_p0_plans, .ref a_p0_coups, .ref a_p0_past, .ref a_p0_fairDays, .ref a_p0_images, .ref a_p0_imageHeld, .ref a_p0_sheets, .int i_p0_latestFault, .int i_p0_latestTear])), (a_p0_tape, .inr (9, [.ref a_p0_tape_bytes, .int i_p0_tape_length, .int i_p0_tape_at, .int i_p0_tape_token, .int i_p0_tape_start, .int i_p0_tape_value]))] s.heap.size = A at hD ⊢
  have hA : ∀ q : Nat, s.heap.size ≤ q → A q := fun q h => by rw [← hAe]; exact Or.inr h
  clear hAe hD0
  have hS : va_S A s.heap s.heap [] := va_S.rf
  have hl := lv_entry ([.ref a_p0, .int x1]) (n := 3) (Nat.le_of_ble_eq_true rfl)
  rw [lg_entry_eq]
  generalize (lg_sl ([.ref a_p0, .int x1]) ++ List.replicate (3 - (lg_sl ([.ref a_p0, .int x1])).length) Slot.unset).toArray = ls at hl ⊢
  have hl : lv_has ls 3 [(0, .ref a_p0), (1, .int x1)] := hl
  refine W_nameQ (fun Q hQ => ?_)
  unfold f_X11_end at hf
  refine lv_iload_n hx hb dX11_end_0 rfl (lv_at hl 1 rfl) ?_
  refine lv_if_lt (tgt := 15) hx hb dX11_end_1 (by decide) (fun cc => ?_) (fun cc => ?_)
  ·
    replace hf := ite_t cc hf
    clear cc
    refine lv_iconst (v := (-1 : Int32)) hx hb dX11_end_15 (by decide) ?_
    obtain ⟨rfl, rfl⟩ := ou2 hf
    rw [hQ]
    exact W.iret hx hb hr (fun t ht hW => ⟨⟨_, (), rfl, rfl, by rw [ht]; exact hP, va_K.moved hW.alike hK, hD⟩, hS.F ht⟩) hS.2.2 dX11_end_16
  ·
    replace hf := ite_f cc hf
    clear cc
    refine lv_iload_n hx hb dX11_end_4 rfl (lv_at hl 1 rfl) ?_
    refine lv_aload_n hx hb dX11_end_5 rfl (lv_at hl 0 rfl) ?_
    refine va_get (D := D) (ci := 11) (v := .ref a_p0_tape) (C := RX11) (T := TX11) (N := 15) hx hb hts inX11_end_X11 hown hK hP 0 rfl rfl 2 (by decide) (hts _ mwX11_end_1) (fun _ h9 => h9) rfl dX11_end_6 ?_
    refine va_get (D := D) (ci := 9) (v := .int i_p0_tape_length) (C := RX9) (T := TX9) (N := 6) hx hb hts inX11_end_X9 hown hK hP 1 rfl rfl 1 (by decide) (hts _ mwX11_end_3) (fun _ h9 => h9) rfl dX11_end_9 ?_
    refine lv_icmp_le (tgt := 17) hx hb dX11_end_12 (by decide) (fun cc => ?_) (fun cc => ?_)
    ·
      replace hf := ite_t cc hf
      clear cc
      refine lv_aload_n hx hb dX11_end_17 rfl (lv_at hl 0 rfl) ?_
      refine va_get (D := D) (ci := 11) (v := .ref a_p0_tape) (C := RX11) (T := TX11) (N := 15) hx hb hts inX11_end_X11 hown hK hP 0 rfl rfl 2 (by decide) (hts _ mwX11_end_1) (fun _ h9 => h9) rfl dX11_end_18 ?_
      refine va_get (D := D) (ci := 9) (v := .int i_p0_tape_length) (C := RX9) (T := TX9) (N := 6) hx hb hts inX11_end_X9 hown hK hP 1 rfl rfl 1 (by decide) (hts _ mwX11_end_3) (fun _ h9 => h9) rfl dX11_end_21 ?_
      refine lv_topi (fun z1 ez => ?_)
      replace hf := bnd_s hf ez
      clear ez
      refine lv_istore_n (lv' := [(2, .int z1), (0, .ref a_p0), (1, .int x1)]) hx hb dX11_end_24 rfl hl (by decide) rfl (fun ls hl => ?_)
      refine lv_aload_n hx hb dX11_end_25 rfl (lv_at hl 1 rfl) ?_
      refine va_get (D := D) (ci := 11) (v := .ref a_p0_tape) (C := RX11) (T := TX11) (N := 15) hx hb hts inX11_end_X11 hown hK hP 0 rfl rfl 2 (by decide) (hts _ mwX11_end_1) (fun _ h9 => h9) rfl dX11_end_26 ?_
      refine lv_iload_n hx hb dX11_end_29 rfl (lv_at hl 2 rfl) ?_
      refine lv_topi (fun z2 ez => ?_)
      replace hf := bnd_s hf ez
      clear ez
      refine va_put (D := D) (ci := 9) (v := .int z2) (ty := .int) (C := RX9) (T := TX9) (N := 6) hx hb hts inX11_end_X9 tyX9 tyX9_ok nmX9 hown hK hP hD hS 1 rfl rfl 1 (by decide) (hts _ mwX11_end_3) (fun _ h9 => h9) rfl (by decide +kernel) rfl rfl (Nat.le_of_ble_eq_true rfl) dX11_end_30 (fun H locs hP hD hS => ?_)
      have hP : va_P D vwCl [(a_p0, .inr (11, [.ref a_p0_rules, .ref a_p0_state, .ref a_p0_tape, .ref a_p0_reader, .ref a_p0_kitchen, .ref a_p0_luck, .ref a_p0_plans, .ref a_p0_coups, .ref a_p0_past, .ref a_p0_fairDays, .ref a_p0_images, .ref a_p0_imageHeld, .ref a_p0_sheets, .int i_p0_latestFault, .int i_p0_latestTear])), (a_p0_tape, .inr (9, [.ref a_p0_tape_bytes, .int z2, .int i_p0_tape_at, .int i_p0_tape_token, .int i_p0_tape_start, .int i_p0_tape_value]))] H := hP
      have hD : va_D A [(a_p0, .inr (11, [.ref a_p0_rules, .ref a_p0_state, .ref a_p0_tape, .ref a_p0_reader, .ref a_p0_kitchen, .ref a_p0_luck, .ref a_p0_plans, .ref a_p0_coups, .ref a_p0_past, .ref a_p0_fairDays, .ref a_p0_images, .ref a_p0_imageHeld, .ref a_p0_sheets, .int i_p0_latestFault, .int i_p0_latestTear])), (a_p0_tape, .inr (9, [.ref a_p0_tape_bytes, .int z2, .int i_p0_tape_at, .int i_p0_tape_token, .int i_p0_tape_start, .int i_p0_tape_value]))] := hD
      refine lv_iload_n hx hb dX11_end_33 rfl (lv_at hl 0 rfl) ?_
      obtain ⟨rfl, rfl⟩ := ou2 hf
      rw [hQ]
      exact W.iret hx hb hr (fun t ht hW => ⟨⟨_, (), rfl, rfl, by rw [ht]; exact hP, va_K.moved hW.alike hK, hD⟩, hS.F ht⟩) hS.2.2 dX11_end_34
    ·
      replace hf := ite_f cc hf
      clear cc
      refine lv_iconst (v := (-1 : Int32)) hx hb dX11_end_15 (by decide) ?_
      obtain ⟨rfl, rfl⟩ := ou2 hf
      rw [hQ]
      exact W.iret hx hb hr (fun t ht hW => ⟨⟨_, (), rfl, rfl, by rw [ht]; exact hP, va_K.moved hW.alike hK, hD⟩, hS.F ht⟩) hS.2.2 dX11_end_16

noncomputable def f_X11_pot (i_p0_rules_seats : Int32) (v_p0_state_pieces : (Nat → Int32)) (x1 : Int32) : Option (Int32) := (bd1 (f_X6_hasSeat i_p0_rules_seats x1) (fun (z1 : Int32) => (if z1 = 0 then (some (-1 : Int32)) else (ck (ixB x1 7) (some (v_p0_state_pieces (x1).toNatClampNeg))))))
abbrev rm_X11_pot : Room := { frames := 1, cells := 0, slots := 0, locals := 21 }
theorem inX11_pot_X11 : ∀ w ∈ wsX110, w ∈ wsX11_pot := by decide +kernel
theorem mwX11_pot_1 : Cond.fieldLink RX11 10 "LadleKings" "rules" "LLadleKings$Rules;" ∈ wsX11_pot := by decide +kernel
theorem mwX11_pot_2 : Cond.fieldLink RX11 19 "LadleKings" "state" "LLadleKings$State;" ∈ wsX11_pot := by decide +kernel
theorem inX11_pot_X8 : ∀ w ∈ wsX80, w ∈ wsX11_pot := by decide +kernel
theorem mwX11_pot_4 : Cond.fieldLink RX11 149 "LadleKings$State" "pieces" "[I" ∈ wsX11_pot := by decide +kernel
set_option maxHeartbeats 8000000 in
set_option maxRecDepth 100000 in
theorem c_X11_pot (l : Launch) (D : va_G) (G : Nat → ClassId) (sz : Nat) (a_p0 : Nat) (a_p0_rules : Nat) (a_p0_state : Nat) (a_p0_tape : Nat) (a_p0_reader : Nat) (a_p0_kitchen : Nat) (a_p0_luck : Nat) (a_p0_plans : Nat) (a_p0_coups : Nat) (a_p0_past : Nat) (a_p0_fairDays : Nat) (a_p0_images : Nat) (a_p0_imageHeld : Nat) (a_p0_sheets : Nat) (a_p0_rules_need : Nat) (a_p0_rules_kind : Nat) (a_p0_rules_first : Nat) (a_p0_rules_second : Nat) (a_p0_rules_after : Nat) (a_p0_state_pieces : Nat) (a_p0_state_friends : Nat) (a_p0_state_spoons : Nat) (a_p0_state_eaten : Nat) (a_p0_state_seen : Nat) (i_p0_latestFault : Int32) (i_p0_latestTear : Int32) (i_p0_rules_seats : Int32) (i_p0_rules_stirs : Int32) (i_p0_state_seenDays : Int32) (i_p0_state_bone : Int32) (i_p0_state_king : Int32) (i_p0_state_days : Int32) (v_p0_state_pieces : (Nat → Int32)) (x1 : Int32) (r : Int32) (hf : f_X11_pot i_p0_rules_seats v_p0_state_pieces x1 = some r) : Met l yX11_pot wsX11_pot rm_X11_pot (pcG D G [.ref a_p0, .int x1] sz [(a_p0, .inr (11, [.ref a_p0_rules, .ref a_p0_state, .ref a_p0_tape, .ref a_p0_reader, .ref a_p0_kitchen, .ref a_p0_luck, .ref a_p0_plans, .ref a_p0_coups, .ref a_p0_past, .ref a_p0_fairDays, .ref a_p0_images, .ref a_p0_imageHeld, .ref a_p0_sheets, .int i_p0_latestFault, .int i_p0_latestTear])), (a_p0_rules, .inr (6, [.int i_p0_rules_seats, .int i_p0_rules_stirs, .ref a_p0_rules_need, .ref a_p0_rules_kind, .ref a_p0_rules_first, .ref a_p0_rules_second, .ref a_p0_rules_after])), (a_p0_state, .inr (8, [.ref a_p0_state_pieces, .ref a_p0_state_friends, .ref a_p0_state_spoons, .ref a_p0_state_eaten, .ref a_p0_state_seen, .int i_p0_state_seenDays, .int i_p0_state_bone, .int i_p0_state_king, .int i_p0_state_days])), (a_p0_state_pieces, .inl (G 1, 7, .inl v_p0_state_pieces))]) (qcI D G r [(a_p0, .inr (11, [.ref a_p0_rules, .ref a_p0_state, .ref a_p0_tape, .ref a_p0_reader, .ref a_p0_kitchen, .ref a_p0_luck, .ref a_p0_plans, .ref a_p0_coups, .ref a_p0_past, .ref a_p0_fairDays, .ref a_p0_images, .ref a_p0_imageHeld, .ref a_p0_sheets, .int i_p0_latestFault, .int i_p0_latestTear])), (a_p0_rules, .inr (6, [.int i_p0_rules_seats, .int i_p0_rules_stirs, .ref a_p0_rules_need, .ref a_p0_rules_kind, .ref a_p0_rules_first, .ref a_p0_rules_second, .ref a_p0_rules_after])), (a_p0_state, .inr (8, [.ref a_p0_state_pieces, .ref a_p0_state_friends, .ref a_p0_state_spoons, .ref a_p0_state_eaten, .ref a_p0_state_seen, .int i_p0_state_seenDays, .int i_p0_state_bone, .int i_p0_state_king, .int i_p0_state_days])), (a_p0_state_pieces, .inl (G 1, 7, .inl v_p0_state_pieces))] (va_A [(a_p0, .inr (11, [.ref a_p0_rules, .ref a_p0_state, .ref a_p0_tape, .ref a_p0_reader, .ref a_p0_kitchen, .ref a_p0_luck, .ref a_p0_plans, .ref a_p0_coups, .ref a_p0_past, .ref a_p0_fairDays, .ref a_p0_images, .ref a_p0_imageHeld, .ref a_p0_sheets, .int i_p0_latestFault, .int i_p0_latestTear])), (a_p0_rules, .inr (6, [.int i_p0_rules_seats, .int i_p0_rules_stirs, .ref a_p0_rules_need, .ref a_p0_rules_kind, .ref a_p0_rules_first, .ref a_p0_rules_second, .ref a_p0_rules_after])), (a_p0_state, .inr (8, [.ref a_p0_state_pieces, .ref a_p0_state_friends, .ref a_p0_state_spoons, .ref a_p0_state_eaten, .ref a_p0_state_seen, .int i_p0_state_seenDays, .int i_p0_state_bone, .int i_p0_state_king, .int i_p0_state_days])), (a_p0_state_pieces, .inl (G 1, 7, .inl v_p0_state_pieces))] sz)) 0 0 (va_A [(a_p0, .inr (11, [.ref a_p0_rules, .ref a_p0_state, .ref a_p0_tape, .ref a_p0_reader, .ref a_p0_kitchen, .ref a_p0_luck, .ref a_p0_plans, .ref a_p0_coups, .ref a_p0_past, .ref a_p0_fairDays, .ref a_p0_images, .ref a_p0_imageHeld, .ref a_p0_sheets, .int i_p0_latestFault, .int i_p0_latestTear])), (a_p0_rules, .inr (6, [.int i_p0_rules_seats, .int i_p0_rules_stirs, .ref a_p0_rules_need, .ref a_p0_rules_kind, .ref a_p0_rules_first, .ref a_p0_rules_second, .ref a_p0_rules_after])), (a_p0_state, .inr (8, [.ref a_p0_state_pieces, .ref a_p0_state_friends, .ref a_p0_state_spoons, .ref a_p0_state_eaten, .ref a_p0_state_seen, .int i_p0_state_seenDays, .int i_p0_state_bone, .int i_p0_state_king, .int i_p0_state_days])), (a_p0_state_pieces, .inl (G 1, 7, .inl v_p0_state_pieces))] sz) := by
  refine Met.ofW (cc := cX11_pot) (maxL := 2) (ret := (some .int)) (by decide) rfl ?_
  intro p e s m args below meth c s₁ B hml hv
  obtain ⟨rfl, hsz, hP, hK, hD0⟩ := hv
  have hx := B.exec
  have hb := B.bytes
  have hr := B.returns
  have hts := atoms_spec (ws := wsX11_pot) B.pre
  have hown : s.vm.findClass RX11 = some m.cls := findClass_of_methodNamed B.named
  have hlocks := B.notSynchronized
  subst hsz
  have hD := hD0.self (sz := s.heap.size)
  generalize hAe : va_A [(a_p0, .inr (11, [.ref a_p0_rules, .ref a_p0_state, .ref a_p0_tape, .ref a_p0_reader, .ref a_p0_kitchen, .ref a_p0_luck, .ref a_p0_plans, .ref a_p0_coups, .ref a_p0_past, .ref a_p0_fairDays, .ref a_p0_images, .ref a_p0_imageHeld, .ref a_p0_sheets, .int i_p0_latestFault, .int i_p0_latestTear])), (a_p0_rules, .inr (6, [.int i_p0_rules_seats, .int i_p0_rules_stirs, .ref a_p0_rules_need, .ref a_p0_rules_kind, .ref a_p0_rules_first, .ref a_p0_rules_second, .ref a_p0_rules_after])), (a_p0_state, .inr (8, [.ref a_p0_state_pieces, .ref a_p0_state_friends, .ref a_p0_state_spoons, .ref a_p0_state_eaten, .ref a_p0_state_seen, .int i_p0_state_seenDays, .int i_p0_state_bone, .int i_p0_state_king, .int i_p0_state_days])), (a_p0_state_pieces, .inl (G 1, 7, .inl v_p0_state_pieces))] s.heap.size = A at hD ⊢
  have hA : ∀ q : Nat, s.heap.size ≤ q → A q := fun q h => by rw [← hAe]; exact Or.inr h
  clear hAe hD0
  have hS : va_S A s.heap s.heap [] := va_S.rf
  have hl := lv_entry ([.ref a_p0, .int x1]) (n := 2) (Nat.le_of_ble_eq_true rfl)
  rw [lg_entry_eq]
  generalize (lg_sl ([.ref a_p0, .int x1]) ++ List.replicate (2 - (lg_sl ([.ref a_p0, .int x1])).length) Slot.unset).toArray = ls at hl ⊢
  have hl : lv_has ls 2 [(0, .ref a_p0), (1, .int x1)] := hl
  refine W_nameQ (fun Q hQ => ?_)
  unfold f_X11_pot at hf
  refine lv_aload_n hx hb dX11_pot_0 rfl (lv_at hl 0 rfl) ?_
  refine va_get (D := D) (ci := 11) (v := .ref a_p0_rules) (C := RX11) (T := TX11) (N := 15) hx hb hts inX11_pot_X11 hown hK hP 0 rfl rfl 0 (by decide) (hts _ mwX11_pot_1) (fun _ h9 => h9) rfl dX11_pot_1 ?_
  refine lv_iload_n hx hb dX11_pot_4 rfl (lv_at hl 1 rfl) ?_
  have hq := bd1_s hf
  clear hf
  obtain ⟨z1, hcall, hf⟩ := hq
  refine gcI (ws' := [(a_p0, .inr (11, [.ref a_p0_rules, .ref a_p0_state, .ref a_p0_tape, .ref a_p0_reader, .ref a_p0_kitchen, .ref a_p0_luck, .ref a_p0_plans, .ref a_p0_coups, .ref a_p0_past, .ref a_p0_fairDays, .ref a_p0_images, .ref a_p0_imageHeld, .ref a_p0_sheets, .int i_p0_latestFault, .int i_p0_latestTear])), (a_p0_rules, .inr (6, [.int i_p0_rules_seats, .int i_p0_rules_stirs, .ref a_p0_rules_need, .ref a_p0_rules_kind, .ref a_p0_rules_first, .ref a_p0_rules_second, .ref a_p0_rules_after])), (a_p0_state, .inr (8, [.ref a_p0_state_pieces, .ref a_p0_state_friends, .ref a_p0_state_spoons, .ref a_p0_state_eaten, .ref a_p0_state_seen, .int i_p0_state_seenDays, .int i_p0_state_bone, .int i_p0_state_king, .int i_p0_state_days])), (a_p0_state_pieces, .inl (G 1, 7, .inl v_p0_state_pieces))]) (va_runV (As := [.int x1]) (rest := []) ⟨hx, hb, hml, hown, hts⟩ (c_X6_hasSeat (l := l) (D := D) (G := G) (sz := H.size) (a_p0 := a_p0_rules) (a_p0_need := a_p0_rules_need) (a_p0_kind := a_p0_rules_kind) (a_p0_first := a_p0_rules_first) (a_p0_second := a_p0_rules_second) (a_p0_after := a_p0_rules_after) (i_p0_seats := i_p0_rules_seats) (i_p0_stirs := i_p0_rules_stirs) (x1 := x1) (r := z1) (hf := hcall)) (cwV 1 hts gX11_pot_X6_hasSeat rfl rfl rfl (by decide +kernel) ⟨Nat.le_of_ble_eq_true rfl, Nat.le_of_ble_eq_true rfl⟩) (preG_V (ci := 6) (hP.sub [1] rfl) (hD.sub [1] rfl rfl) hK rfl rfl) rfl rfl hl.1 rfl (lv_room (Nat.le_of_ble_eq_true rfl)) dX11_pot_5 ⟨Nat.le_of_ble_eq_true rfl, Nat.le_of_ble_eq_true rfl⟩) hP hD hS hA [1] [0, 2, 3] [0, 3, 1, 2] rfl rfl rfl (by decide) rfl rfl rfl (fun H locs hP hD hS => ?_)
  clear hcall
  refine lv_if_eq (tgt := 23) hx hb dX11_pot_8 (by decide) (fun cc => ?_) (fun cc => ?_)
  ·
    replace hf := ite_t cc hf
    clear cc
    refine lv_iconst (v := (-1 : Int32)) hx hb dX11_pot_23 (by decide) ?_
    obtain rfl := ou1 hf
    rw [hQ]
    exact W.iret hx hb hr (fun t ht hW => ⟨⟨_, (), rfl, rfl, by rw [ht]; exact hP, va_K.moved hW.alike hK, hD⟩, hS.F ht⟩) hS.2.2 dX11_pot_24
  ·
    replace hf := ite_f cc hf
    clear cc
    refine lv_aload_n hx hb dX11_pot_11 rfl (lv_at hl 0 rfl) ?_
    refine va_get (D := D) (ci := 11) (v := .ref a_p0_state) (C := RX11) (T := TX11) (N := 15) hx hb hts inX11_pot_X11 hown hK hP 0 rfl rfl 1 (by decide) (hts _ mwX11_pot_2) (fun _ h9 => h9) rfl dX11_pot_12 ?_
    refine va_get (D := D) (ci := 8) (v := .ref a_p0_state_pieces) (C := RX8) (T := TX8) (N := 9) hx hb hts inX11_pot_X8 hown hK hP 2 rfl rfl 0 (by decide) (hts _ mwX11_pot_4) (fun _ h9 => h9) rfl dX11_pot_15 ?_
    refine lv_iload_n hx hb dX11_pot_18 rfl (lv_at hl 1 rfl) ?_
    have hc := ck_c hf
    replace hf := ck_r hf
    refine va_iald hx hb hK hP 3 1 rfl rfl (ixB_in hc) dX11_pot_19 ?_
    clear hc
    refine lv_goto (tgt := 24) hx hb dX11_pot_20 (by decide) ?_
    obtain rfl := ou1 hf
    rw [hQ]
    exact W.iret hx hb hr (fun t ht hW => ⟨⟨_, (), rfl, rfl, by rw [ht]; exact hP, va_K.moved hW.alike hK, hD⟩, hS.F ht⟩) hS.2.2 dX11_pot_24

noncomputable def f_X12_in (x0 : Int64) (x2 : Int64) (x4 : Int64) : Option (Int32) := (if (lg_cmp x0 x2) < 0 then (some (0 : Int32)) else (if 0 < (lg_cmp x0 x4) then (some (0 : Int32)) else (some (1 : Int32))))
abbrev rm_X12_in : Room := { frames := 0, cells := 0, slots := 0, locals := 0 }
set_option maxHeartbeats 8000000 in
set_option maxRecDepth 100000 in
theorem c_X12_in (l : Launch) (D : va_G) (G : Nat → ClassId) (sz : Nat) (x0 : Int64) (x2 : Int64) (x4 : Int64) (r : Int32) (hf : f_X12_in x0 x2 x4 = some r) : Met l yX12_in wsX12_in rm_X12_in (pcG D G [.long x0, .long x2, .long x4] sz []) (qcI D G r [] (va_A [] sz)) 0 0 (va_A [] sz) := by
  refine Met.ofW (cc := cX12_in) (maxL := 6) (ret := (some .boolean)) (by decide) rfl ?_
  intro p e s m args below meth c s₁ B hml hv
  obtain ⟨rfl, hsz, hP, hK, hD0⟩ := hv
  have hx := B.exec
  have hb := B.bytes
  have hr := B.returns
  have hts := atoms_spec (ws := wsX12_in) B.pre
  have hown : s.vm.findClass RX12 = some m.cls := findClass_of_methodNamed B.named
  have hlocks := B.notSynchronized
  subst hsz
  have hD := hD0.self (sz := s.heap.size)
  generalize hAe : va_A [] s.heap.size = A at hD ⊢
  have hA : ∀ q : Nat, s.heap.size ≤ q → A q := fun q h => by rw [← hAe]; exact Or.inr h
  clear hAe hD0
  have hS : va_S A s.heap s.heap [] := va_S.rf
  have hl := lv_entry ([.long x0, .long x2, .long x4]) (n := 6) (Nat.le_of_ble_eq_true rfl)
  rw [lg_entry_eq]
  generalize (lg_sl ([.long x0, .long x2, .long x4]) ++ List.replicate (6 - (lg_sl ([.long x0, .long x2, .long x4])).length) Slot.unset).toArray = ls at hl ⊢
  have hl : lv_has ls 6 [(0, .long x0), (2, .long x2), (4, .long x4)] := hl
  refine W_nameQ (fun Q hQ => ?_)
  unfold f_X12_in at hf
  refine lv_lload_n hx hb dX12_in_0 rfl (lv_at hl 0 rfl) ?_
  refine lv_lload_n hx hb dX12_in_1 rfl (lv_at hl 1 rfl) ?_
  refine W.lcmp hx hb dX12_in_2 ?_
  refine lv_if_lt (tgt := 17) hx hb dX12_in_3 (by decide) (fun cc => ?_) (fun cc => ?_)
  ·
    replace hf := ite_t cc hf
    clear cc
    refine lv_iconst (v := (0 : Int32)) hx hb dX12_in_17 (by decide) ?_
    obtain rfl := ou1 hf
    rw [hQ]
    exact W.zret hx hb hr rfl (fun t ht hW => ⟨⟨_, (), rfl, rfl, by rw [ht]; exact hP, va_K.moved hW.alike hK, hD⟩, hS.F ht⟩) hS.2.2 dX12_in_18
  ·
    replace hf := ite_f cc hf
    clear cc
    refine lv_lload_n hx hb dX12_in_6 rfl (lv_at hl 0 rfl) ?_
    refine lv_lload hx hb dX12_in_7 (lv_at hl 2 rfl) ?_
    refine W.lcmp hx hb dX12_in_9 ?_
    refine lv_if_gt (tgt := 17) hx hb dX12_in_10 (by decide) (fun cc => ?_) (fun cc => ?_)
    ·
      replace hf := ite_t cc hf
      clear cc
      refine lv_iconst (v := (0 : Int32)) hx hb dX12_in_17 (by decide) ?_
      obtain rfl := ou1 hf
      rw [hQ]
      exact W.zret hx hb hr rfl (fun t ht hW => ⟨⟨_, (), rfl, rfl, by rw [ht]; exact hP, va_K.moved hW.alike hK, hD⟩, hS.F ht⟩) hS.2.2 dX12_in_18
    ·
      replace hf := ite_f cc hf
      clear cc
      refine lv_iconst (v := (1 : Int32)) hx hb dX12_in_13 (by decide) ?_
      refine lv_goto (tgt := 18) hx hb dX12_in_14 (by decide) ?_
      obtain rfl := ou1 hf
      rw [hQ]
      exact W.zret hx hb hr rfl (fun t ht hW => ⟨⟨_, (), rfl, rfl, by rw [ht]; exact hP, va_K.moved hW.alike hK, hD⟩, hS.F ht⟩) hS.2.2 dX12_in_18

noncomputable def f_X12_end (i_p0_taped : Int32) (x1 : Int32) : Option (Int32 × Int32) := (bd1 (f_X12_in (x1).toInt64 (0 : Int64) (i_p0_taped).toInt64) (fun (z1 : Int32) => (if z1 = 0 then (some ((-1 : Int32), i_p0_taped)) else (bnd i_p0_taped (fun (z2 : Int32) => (bnd x1 (fun (z3 : Int32) => (some (z2, z3)))))))))
abbrev rm_X12_end : Room := { frames := 1, cells := 0, slots := 0, locals := 25 }
theorem inX12_end_X12 : ∀ w ∈ wsX120, w ∈ wsX12_end := by decide +kernel
theorem mwX12_end_1 : Cond.fieldLink RX12 110 "LadleKingsModel" "taped" "I" ∈ wsX12_end := by decide +kernel
set_option maxHeartbeats 8000000 in
set_option maxRecDepth 100000 in
theorem c_X12_end (l : Launch) (D : va_G) (G : Nat → ClassId) (sz : Nat) (a_p0 : Nat) (a_p0_st : Nat) (a_p0_isKept : Nat) (a_p0_brings : Nat) (a_p0_need : Nat) (a_p0_draft : Nat) (a_p0_dStir : Nat) (a_p0_dNeed : Nat) (a_p0_tape : Nat) (a_p0_places : Nat) (a_p0_stirred : Nat) (a_p0_ways : Nat) (a_p0_waysThen : Nat) (a_p0_stays : Nat) (a_p0_fewest : Nat) (a_p0_bowls : Nat) (a_p0_has : Nat) (a_p0_goesOn : Nat) (a_p0_isThere : Nat) (a_p0_isThereThen : Nat) (a_p0_bestRow : Nat) (a_p0_lanes : Nat) (a_p0_sizes : Nat) (a_p0_cells : Nat) (i_p0_seats : Int32) (i_p0_stirs : Int32) (i_p0_dSeats : Int32) (i_p0_dStirs : Int32) (i_p0_told : Int32) (i_p0_highest : Int32) (i_p0_taped : Int32) (i_p0_pos : Int32) (i_p0_from : Int32) (i_p0_sort : Int32) (i_p0_value : Int32) (i_p0_fault : Int32) (i_p0_wrongAt : Int32) (i_p0_torn : Int32) (x1 : Int32) (r : Int32) (o_i_p0_taped : Int32) (hf : f_X12_end i_p0_taped x1 = some (r, o_i_p0_taped)) : Met l yX12_end wsX12_end rm_X12_end (pcG D G [.ref a_p0, .int x1] sz [(a_p0, .inr (12, [.ref a_p0_st, .ref a_p0_isKept, .int i_p0_seats, .int i_p0_stirs, .ref a_p0_brings, .ref a_p0_need, .ref a_p0_draft, .int i_p0_dSeats, .int i_p0_dStirs, .ref a_p0_dStir, .ref a_p0_dNeed, .int i_p0_told, .int i_p0_highest, .ref a_p0_tape, .int i_p0_taped, .int i_p0_pos, .int i_p0_from, .int i_p0_sort, .int i_p0_value, .int i_p0_fault, .int i_p0_wrongAt, .ref a_p0_places, .ref a_p0_stirred, .ref a_p0_ways, .ref a_p0_waysThen, .ref a_p0_stays, .ref a_p0_fewest, .ref a_p0_bowls, .ref a_p0_has, .ref a_p0_goesOn, .ref a_p0_isThere, .ref a_p0_isThereThen, .ref a_p0_bestRow, .ref a_p0_lanes, .ref a_p0_sizes, .ref a_p0_cells, .int i_p0_torn]))]) (qcI D G r [(a_p0, .inr (12, [.ref a_p0_st, .ref a_p0_isKept, .int i_p0_seats, .int i_p0_stirs, .ref a_p0_brings, .ref a_p0_need, .ref a_p0_draft, .int i_p0_dSeats, .int i_p0_dStirs, .ref a_p0_dStir, .ref a_p0_dNeed, .int i_p0_told, .int i_p0_highest, .ref a_p0_tape, .int o_i_p0_taped, .int i_p0_pos, .int i_p0_from, .int i_p0_sort, .int i_p0_value, .int i_p0_fault, .int i_p0_wrongAt, .ref a_p0_places, .ref a_p0_stirred, .ref a_p0_ways, .ref a_p0_waysThen, .ref a_p0_stays, .ref a_p0_fewest, .ref a_p0_bowls, .ref a_p0_has, .ref a_p0_goesOn, .ref a_p0_isThere, .ref a_p0_isThereThen, .ref a_p0_bestRow, .ref a_p0_lanes, .ref a_p0_sizes, .ref a_p0_cells, .int i_p0_torn]))] (va_A [(a_p0, .inr (12, [.ref a_p0_st, .ref a_p0_isKept, .int i_p0_seats, .int i_p0_stirs, .ref a_p0_brings, .ref a_p0_need, .ref a_p0_draft, .int i_p0_dSeats, .int i_p0_dStirs, .ref a_p0_dStir, .ref a_p0_dNeed, .int i_p0_told, .int i_p0_highest, .ref a_p0_tape, .int i_p0_taped, .int i_p0_pos, .int i_p0_from, .int i_p0_sort, .int i_p0_value, .int i_p0_fault, .int i_p0_wrongAt, .ref a_p0_places, .ref a_p0_stirred, .ref a_p0_ways, .ref a_p0_waysThen, .ref a_p0_stays, .ref a_p0_fewest, .ref a_p0_bowls, .ref a_p0_has, .ref a_p0_goesOn, .ref a_p0_isThere, .ref a_p0_isThereThen, .ref a_p0_bestRow, .ref a_p0_lanes, .ref a_p0_sizes, .ref a_p0_cells, .int i_p0_torn]))] sz)) 0 0 (va_A [(a_p0, .inr (12, [.ref a_p0_st, .ref a_p0_isKept, .int i_p0_seats, .int i_p0_stirs, .ref a_p0_brings, .ref a_p0_need, .ref a_p0_draft, .int i_p0_dSeats, .int i_p0_dStirs, .ref a_p0_dStir, .ref a_p0_dNeed, .int i_p0_told, .int i_p0_highest, .ref a_p0_tape, .int i_p0_taped, .int i_p0_pos, .int i_p0_from, .int i_p0_sort, .int i_p0_value, .int i_p0_fault, .int i_p0_wrongAt, .ref a_p0_places, .ref a_p0_stirred, .ref a_p0_ways, .ref a_p0_waysThen, .ref a_p0_stays, .ref a_p0_fewest, .ref a_p0_bowls, .ref a_p0_has, .ref a_p0_goesOn, .ref a_p0_isThere, .ref a_p0_isThereThen, .ref a_p0_bestRow, .ref a_p0_lanes, .ref a_p0_sizes, .ref a_p0_cells, .int i_p0_torn]))] sz) := by
  refine Met.ofW (cc := cX12_end) (maxL := 3) (ret := (some .int)) (by decide) rfl ?_
  intro p e s m args below meth c s₁ B hml hv
  obtain ⟨rfl, hsz, hP, hK, hD0⟩ := hv
  have hx := B.exec
  have hb := B.bytes
  have hr := B.returns
  have hts := atoms_spec (ws := wsX12_end) B.pre
  have hown : s.vm.findClass RX12 = some m.cls := findClass_of_methodNamed B.named
  have hlocks := B.notSynchronized
  subst hsz
  have hD := hD0.self (sz := s.heap.size)
  generalize hAe : va_A [(a_p0, .inr (12, [.ref a_p0_st, .ref a_p0_isKept, .int i_p0_seats, .int i_p0_stirs, .ref a_p0_brings, .ref a_p0_need, .ref a_p0_draft, .int i_p0_dSeats, .int i_p0_dStirs, .ref a_p0_dStir, .ref a_p0_dNeed, .int i_p0_told, .int i_p0_highest, .ref a_p0_tape, .int i_p0_taped, .int i_p0_pos, .int i_p0_from, .int i_p0_sort, .int i_p0_value, .int i_p0_fault, .int i_p0_wrongAt, .ref a_p0_places, .ref a_p0_stirred, .ref a_p0_ways, .ref a_p0_waysThen, .ref a_p0_stays, .ref a_p0_fewest, .ref a_p0_bowls, .ref a_p0_has, .ref a_p0_goesOn, .ref a_p0_isThere, .ref a_p0_isThereThen, .ref a_p0_bestRow, .ref a_p0_lanes, .ref a_p0_sizes, .ref a_p0_cells, .int i_p0_torn]))] s.heap.size = A at hD ⊢
  have hA : ∀ q : Nat, s.heap.size ≤ q → A q := fun q h => by rw [← hAe]; exact Or.inr h
  clear hAe hD0
  have hS : va_S A s.heap s.heap [] := va_S.rf
  have hl := lv_entry ([.ref a_p0, .int x1]) (n := 3) (Nat.le_of_ble_eq_true rfl)
  rw [lg_entry_eq]
  generalize (lg_sl ([.ref a_p0, .int x1]) ++ List.replicate (3 - (lg_sl ([.ref a_p0, .int x1])).length) Slot.unset).toArray = ls at hl ⊢
  have hl : lv_has ls 3 [(0, .ref a_p0), (1, .int x1)] := hl
  refine W_nameQ (fun Q hQ => ?_)
  unfold f_X12_end at hf
  refine lv_iload_n hx hb dX12_end_0 rfl (lv_at hl 1 rfl) ?_
  refine lv_i2l hx hb dX12_end_1 rfl ?_
  refine lv_lconst (v := (0 : Int64)) hx hb dX12_end_2 (by decide) ?_
  refine lv_aload_n hx hb dX12_end_3 rfl (lv_at hl 0 rfl) ?_
  refine va_get (D := D) (ci := 12) (v := .int i_p0_taped) (C := RX12) (T := TX12) (N := 37) hx hb hts inX12_end_X12 hown hK hP 0 rfl rfl 14 (by decide) (hts _ mwX12_end_1) (fun _ h9 => h9) rfl dX12_end_4 ?_
  refine lv_i2l hx hb dX12_end_7 rfl ?_
  have hq := bd1_s hf
  clear hf
  obtain ⟨z1, hcall, hf⟩ := hq
  refine gcI (ws' := [(a_p0, .inr (12, [.ref a_p0_st, .ref a_p0_isKept, .int i_p0_seats, .int i_p0_stirs, .ref a_p0_brings, .ref a_p0_need, .ref a_p0_draft, .int i_p0_dSeats, .int i_p0_dStirs, .ref a_p0_dStir, .ref a_p0_dNeed, .int i_p0_told, .int i_p0_highest, .ref a_p0_tape, .int i_p0_taped, .int i_p0_pos, .int i_p0_from, .int i_p0_sort, .int i_p0_value, .int i_p0_fault, .int i_p0_wrongAt, .ref a_p0_places, .ref a_p0_stirred, .ref a_p0_ways, .ref a_p0_waysThen, .ref a_p0_stays, .ref a_p0_fewest, .ref a_p0_bowls, .ref a_p0_has, .ref a_p0_goesOn, .ref a_p0_isThere, .ref a_p0_isThereThen, .ref a_p0_bestRow, .ref a_p0_lanes, .ref a_p0_sizes, .ref a_p0_cells, .int i_p0_torn]))]) (va_runS (As := [.long (x1).toInt64, .long (0 : Int64), .long (i_p0_taped).toInt64]) (rest := []) ⟨hx, hb, hml, hown, hts⟩ (c_X12_in (l := l) (D := D) (G := G) (sz := H.size) (x0 := (x1).toInt64) (x2 := (0 : Int64)) (x4 := (i_p0_taped).toInt64) (r := z1) (hf := hcall)) (va_cwS 3 hts gX12_end_X12_in rfl rfl rfl (by decide +kernel) ⟨Nat.le_of_ble_eq_true rfl, Nat.le_of_ble_eq_true rfl⟩) (preG_S (hP.sub [] rfl) (hD.sub [] rfl rfl) hK) rfl rfl hl.1 rfl (lv_room (Nat.le_of_ble_eq_true rfl)) dX12_end_8 ⟨Nat.le_of_ble_eq_true rfl, Nat.le_of_ble_eq_true rfl⟩) hP hD hS hA [] [0] [0] rfl rfl rfl (by decide) rfl rfl rfl (fun H locs hP hD hS => ?_)
  clear hcall
  refine lv_if_ne (tgt := 16) hx hb dX12_end_11 (by decide) (fun cc => ?_) (fun cc => ?_)
  ·
    replace hf := ite_f cc hf
    clear cc
    refine lv_aload_n hx hb dX12_end_16 rfl (lv_at hl 0 rfl) ?_
    refine va_get (D := D) (ci := 12) (v := .int i_p0_taped) (C := RX12) (T := TX12) (N := 37) hx hb hts inX12_end_X12 hown hK hP 0 rfl rfl 14 (by decide) (hts _ mwX12_end_1) (fun _ h9 => h9) rfl dX12_end_17 ?_
    refine lv_topi (fun z2 ez => ?_)
    replace hf := bnd_s hf ez
    clear ez
    refine lv_istore_n (lv' := [(2, .int z2), (0, .ref a_p0), (1, .int x1)]) hx hb dX12_end_20 rfl hl (by decide) rfl (fun ls hl => ?_)
    refine lv_aload_n hx hb dX12_end_21 rfl (lv_at hl 1 rfl) ?_
    refine lv_iload_n hx hb dX12_end_22 rfl (lv_at hl 2 rfl) ?_
    refine lv_topi (fun z3 ez => ?_)
    replace hf := bnd_s hf ez
    clear ez
    refine va_put (D := D) (ci := 12) (v := .int z3) (ty := .int) (C := RX12) (T := TX12) (N := 37) hx hb hts inX12_end_X12 tyX12 tyX12_ok nmX12 hown hK hP hD hS 0 rfl rfl 14 (by decide) (hts _ mwX12_end_1) (fun _ h9 => h9) rfl (by decide +kernel) rfl rfl (Nat.le_of_ble_eq_true rfl) dX12_end_23 (fun H locs hP hD hS => ?_)
    have hP : va_P D vwCl [(a_p0, .inr (12, [.ref a_p0_st, .ref a_p0_isKept, .int i_p0_seats, .int i_p0_stirs, .ref a_p0_brings, .ref a_p0_need, .ref a_p0_draft, .int i_p0_dSeats, .int i_p0_dStirs, .ref a_p0_dStir, .ref a_p0_dNeed, .int i_p0_told, .int i_p0_highest, .ref a_p0_tape, .int z3, .int i_p0_pos, .int i_p0_from, .int i_p0_sort, .int i_p0_value, .int i_p0_fault, .int i_p0_wrongAt, .ref a_p0_places, .ref a_p0_stirred, .ref a_p0_ways, .ref a_p0_waysThen, .ref a_p0_stays, .ref a_p0_fewest, .ref a_p0_bowls, .ref a_p0_has, .ref a_p0_goesOn, .ref a_p0_isThere, .ref a_p0_isThereThen, .ref a_p0_bestRow, .ref a_p0_lanes, .ref a_p0_sizes, .ref a_p0_cells, .int i_p0_torn]))] H := hP
    have hD : va_D A [(a_p0, .inr (12, [.ref a_p0_st, .ref a_p0_isKept, .int i_p0_seats, .int i_p0_stirs, .ref a_p0_brings, .ref a_p0_need, .ref a_p0_draft, .int i_p0_dSeats, .int i_p0_dStirs, .ref a_p0_dStir, .ref a_p0_dNeed, .int i_p0_told, .int i_p0_highest, .ref a_p0_tape, .int z3, .int i_p0_pos, .int i_p0_from, .int i_p0_sort, .int i_p0_value, .int i_p0_fault, .int i_p0_wrongAt, .ref a_p0_places, .ref a_p0_stirred, .ref a_p0_ways, .ref a_p0_waysThen, .ref a_p0_stays, .ref a_p0_fewest, .ref a_p0_bowls, .ref a_p0_has, .ref a_p0_goesOn, .ref a_p0_isThere, .ref a_p0_isThereThen, .ref a_p0_bestRow, .ref a_p0_lanes, .ref a_p0_sizes, .ref a_p0_cells, .int i_p0_torn]))] := hD
    refine lv_iload_n hx hb dX12_end_26 rfl (lv_at hl 0 rfl) ?_
    obtain ⟨rfl, rfl⟩ := ou2 hf
    rw [hQ]
    exact W.iret hx hb hr (fun t ht hW => ⟨⟨_, (), rfl, rfl, by rw [ht]; exact hP, va_K.moved hW.alike hK, hD⟩, hS.F ht⟩) hS.2.2 dX12_end_27
  ·
    replace hf := ite_t cc hf
    clear cc
    refine lv_iconst (v := (-1 : Int32)) hx hb dX12_end_14 (by decide) ?_
    obtain ⟨rfl, rfl⟩ := ou2 hf
    rw [hQ]
    exact W.iret hx hb hr (fun t ht hW => ⟨⟨_, (), rfl, rfl, by rw [ht]; exact hP, va_K.moved hW.alike hK, hD⟩, hS.F ht⟩) hS.2.2 dX12_end_15

noncomputable def f_X12_isSeat (i_p0_seats : Int32) (x1 : Int32) : Option (Int32) := (bd1 (f_X12_in (x1).toInt64 (0 : Int64) ((i_p0_seats - (1 : Int32))).toInt64) (fun (z1 : Int32) => (ck (zB z1) (some z1))))
abbrev rm_X12_isSeat : Room := { frames := 1, cells := 0, slots := 0, locals := 25 }
theorem inX12_isSeat_X12 : ∀ w ∈ wsX120, w ∈ wsX12_isSeat := by decide +kernel
theorem mwX12_isSeat_1 : Cond.fieldLink RX12 100 "LadleKingsModel" "seats" "I" ∈ wsX12_isSeat := by decide +kernel
set_option maxHeartbeats 8000000 in
set_option maxRecDepth 100000 in
theorem c_X12_isSeat (l : Launch) (D : va_G) (G : Nat → ClassId) (sz : Nat) (a_p0 : Nat) (a_p0_st : Nat) (a_p0_isKept : Nat) (a_p0_brings : Nat) (a_p0_need : Nat) (a_p0_draft : Nat) (a_p0_dStir : Nat) (a_p0_dNeed : Nat) (a_p0_tape : Nat) (a_p0_places : Nat) (a_p0_stirred : Nat) (a_p0_ways : Nat) (a_p0_waysThen : Nat) (a_p0_stays : Nat) (a_p0_fewest : Nat) (a_p0_bowls : Nat) (a_p0_has : Nat) (a_p0_goesOn : Nat) (a_p0_isThere : Nat) (a_p0_isThereThen : Nat) (a_p0_bestRow : Nat) (a_p0_lanes : Nat) (a_p0_sizes : Nat) (a_p0_cells : Nat) (i_p0_seats : Int32) (i_p0_stirs : Int32) (i_p0_dSeats : Int32) (i_p0_dStirs : Int32) (i_p0_told : Int32) (i_p0_highest : Int32) (i_p0_taped : Int32) (i_p0_pos : Int32) (i_p0_from : Int32) (i_p0_sort : Int32) (i_p0_value : Int32) (i_p0_fault : Int32) (i_p0_wrongAt : Int32) (i_p0_torn : Int32) (x1 : Int32) (r : Int32) (hf : f_X12_isSeat i_p0_seats x1 = some r) : Met l yX12_isSeat wsX12_isSeat rm_X12_isSeat (pcG D G [.ref a_p0, .int x1] sz [(a_p0, .inr (12, [.ref a_p0_st, .ref a_p0_isKept, .int i_p0_seats, .int i_p0_stirs, .ref a_p0_brings, .ref a_p0_need, .ref a_p0_draft, .int i_p0_dSeats, .int i_p0_dStirs, .ref a_p0_dStir, .ref a_p0_dNeed, .int i_p0_told, .int i_p0_highest, .ref a_p0_tape, .int i_p0_taped, .int i_p0_pos, .int i_p0_from, .int i_p0_sort, .int i_p0_value, .int i_p0_fault, .int i_p0_wrongAt, .ref a_p0_places, .ref a_p0_stirred, .ref a_p0_ways, .ref a_p0_waysThen, .ref a_p0_stays, .ref a_p0_fewest, .ref a_p0_bowls, .ref a_p0_has, .ref a_p0_goesOn, .ref a_p0_isThere, .ref a_p0_isThereThen, .ref a_p0_bestRow, .ref a_p0_lanes, .ref a_p0_sizes, .ref a_p0_cells, .int i_p0_torn]))]) (qcI D G r [(a_p0, .inr (12, [.ref a_p0_st, .ref a_p0_isKept, .int i_p0_seats, .int i_p0_stirs, .ref a_p0_brings, .ref a_p0_need, .ref a_p0_draft, .int i_p0_dSeats, .int i_p0_dStirs, .ref a_p0_dStir, .ref a_p0_dNeed, .int i_p0_told, .int i_p0_highest, .ref a_p0_tape, .int i_p0_taped, .int i_p0_pos, .int i_p0_from, .int i_p0_sort, .int i_p0_value, .int i_p0_fault, .int i_p0_wrongAt, .ref a_p0_places, .ref a_p0_stirred, .ref a_p0_ways, .ref a_p0_waysThen, .ref a_p0_stays, .ref a_p0_fewest, .ref a_p0_bowls, .ref a_p0_has, .ref a_p0_goesOn, .ref a_p0_isThere, .ref a_p0_isThereThen, .ref a_p0_bestRow, .ref a_p0_lanes, .ref a_p0_sizes, .ref a_p0_cells, .int i_p0_torn]))] (va_A [(a_p0, .inr (12, [.ref a_p0_st, .ref a_p0_isKept, .int i_p0_seats, .int i_p0_stirs, .ref a_p0_brings, .ref a_p0_need, .ref a_p0_draft, .int i_p0_dSeats, .int i_p0_dStirs, .ref a_p0_dStir, .ref a_p0_dNeed, .int i_p0_told, .int i_p0_highest, .ref a_p0_tape, .int i_p0_taped, .int i_p0_pos, .int i_p0_from, .int i_p0_sort, .int i_p0_value, .int i_p0_fault, .int i_p0_wrongAt, .ref a_p0_places, .ref a_p0_stirred, .ref a_p0_ways, .ref a_p0_waysThen, .ref a_p0_stays, .ref a_p0_fewest, .ref a_p0_bowls, .ref a_p0_has, .ref a_p0_goesOn, .ref a_p0_isThere, .ref a_p0_isThereThen, .ref a_p0_bestRow, .ref a_p0_lanes, .ref a_p0_sizes, .ref a_p0_cells, .int i_p0_torn]))] sz)) 0 0 (va_A [(a_p0, .inr (12, [.ref a_p0_st, .ref a_p0_isKept, .int i_p0_seats, .int i_p0_stirs, .ref a_p0_brings, .ref a_p0_need, .ref a_p0_draft, .int i_p0_dSeats, .int i_p0_dStirs, .ref a_p0_dStir, .ref a_p0_dNeed, .int i_p0_told, .int i_p0_highest, .ref a_p0_tape, .int i_p0_taped, .int i_p0_pos, .int i_p0_from, .int i_p0_sort, .int i_p0_value, .int i_p0_fault, .int i_p0_wrongAt, .ref a_p0_places, .ref a_p0_stirred, .ref a_p0_ways, .ref a_p0_waysThen, .ref a_p0_stays, .ref a_p0_fewest, .ref a_p0_bowls, .ref a_p0_has, .ref a_p0_goesOn, .ref a_p0_isThere, .ref a_p0_isThereThen, .ref a_p0_bestRow, .ref a_p0_lanes, .ref a_p0_sizes, .ref a_p0_cells, .int i_p0_torn]))] sz) := by
  refine Met.ofW (cc := cX12_isSeat) (maxL := 2) (ret := (some .boolean)) (by decide) rfl ?_
  intro p e s m args below meth c s₁ B hml hv
  obtain ⟨rfl, hsz, hP, hK, hD0⟩ := hv
  have hx := B.exec
  have hb := B.bytes
  have hr := B.returns
  have hts := atoms_spec (ws := wsX12_isSeat) B.pre
  have hown : s.vm.findClass RX12 = some m.cls := findClass_of_methodNamed B.named
  have hlocks := B.notSynchronized
  subst hsz
  have hD := hD0.self (sz := s.heap.size)
  generalize hAe : va_A [(a_p0, .inr (12, [.ref a_p0_st, .ref a_p0_isKept, .int i_p0_seats, .int i_p0_stirs, .ref a_p0_brings, .ref a_p0_need, .ref a_p0_draft, .int i_p0_dSeats, .int i_p0_dStirs, .ref a_p0_dStir, .ref a_p0_dNeed, .int i_p0_told, .int i_p0_highest, .ref a_p0_tape, .int i_p0_taped, .int i_p0_pos, .int i_p0_from, .int i_p0_sort, .int i_p0_value, .int i_p0_fault, .int i_p0_wrongAt, .ref a_p0_places, .ref a_p0_stirred, .ref a_p0_ways, .ref a_p0_waysThen, .ref a_p0_stays, .ref a_p0_fewest, .ref a_p0_bowls, .ref a_p0_has, .ref a_p0_goesOn, .ref a_p0_isThere, .ref a_p0_isThereThen, .ref a_p0_bestRow, .ref a_p0_lanes, .ref a_p0_sizes, .ref a_p0_cells, .int i_p0_torn]))] s.heap.size = A at hD ⊢
  have hA : ∀ q : Nat, s.heap.size ≤ q → A q := fun q h => by rw [← hAe]; exact Or.inr h
  clear hAe hD0
  have hS : va_S A s.heap s.heap [] := va_S.rf
  have hl := lv_entry ([.ref a_p0, .int x1]) (n := 2) (Nat.le_of_ble_eq_true rfl)
  rw [lg_entry_eq]
  generalize (lg_sl ([.ref a_p0, .int x1]) ++ List.replicate (2 - (lg_sl ([.ref a_p0, .int x1])).length) Slot.unset).toArray = ls at hl ⊢
  have hl : lv_has ls 2 [(0, .ref a_p0), (1, .int x1)] := hl
  refine W_nameQ (fun Q hQ => ?_)
  unfold f_X12_isSeat at hf
  refine lv_iload_n hx hb dX12_isSeat_0 rfl (lv_at hl 1 rfl) ?_
  refine lv_i2l hx hb dX12_isSeat_1 rfl ?_
  refine lv_lconst (v := (0 : Int64)) hx hb dX12_isSeat_2 (by decide) ?_
  refine lv_aload_n hx hb dX12_isSeat_3 rfl (lv_at hl 0 rfl) ?_
  refine va_get (D := D) (ci := 12) (v := .int i_p0_seats) (C := RX12) (T := TX12) (N := 37) hx hb hts inX12_isSeat_X12 hown hK hP 0 rfl rfl 2 (by decide) (hts _ mwX12_isSeat_1) (fun _ h9 => h9) rfl dX12_isSeat_4 ?_
  refine lv_iconst (v := (1 : Int32)) hx hb dX12_isSeat_7 (by decide) ?_
  refine lv_isub hx hb dX12_isSeat_8 ?_
  refine lv_i2l hx hb dX12_isSeat_9 rfl ?_
  have hq := bd1_s hf
  clear hf
  obtain ⟨z1, hcall, hf⟩ := hq
  refine gcI (ws' := [(a_p0, .inr (12, [.ref a_p0_st, .ref a_p0_isKept, .int i_p0_seats, .int i_p0_stirs, .ref a_p0_brings, .ref a_p0_need, .ref a_p0_draft, .int i_p0_dSeats, .int i_p0_dStirs, .ref a_p0_dStir, .ref a_p0_dNeed, .int i_p0_told, .int i_p0_highest, .ref a_p0_tape, .int i_p0_taped, .int i_p0_pos, .int i_p0_from, .int i_p0_sort, .int i_p0_value, .int i_p0_fault, .int i_p0_wrongAt, .ref a_p0_places, .ref a_p0_stirred, .ref a_p0_ways, .ref a_p0_waysThen, .ref a_p0_stays, .ref a_p0_fewest, .ref a_p0_bowls, .ref a_p0_has, .ref a_p0_goesOn, .ref a_p0_isThere, .ref a_p0_isThereThen, .ref a_p0_bestRow, .ref a_p0_lanes, .ref a_p0_sizes, .ref a_p0_cells, .int i_p0_torn]))]) (va_runS (As := [.long (x1).toInt64, .long (0 : Int64), .long ((i_p0_seats - (1 : Int32))).toInt64]) (rest := []) ⟨hx, hb, hml, hown, hts⟩ (c_X12_in (l := l) (D := D) (G := G) (sz := H.size) (x0 := (x1).toInt64) (x2 := (0 : Int64)) (x4 := ((i_p0_seats - (1 : Int32))).toInt64) (r := z1) (hf := hcall)) (va_cwS 3 hts gX12_isSeat_X12_in rfl rfl rfl (by decide +kernel) ⟨Nat.le_of_ble_eq_true rfl, Nat.le_of_ble_eq_true rfl⟩) (preG_S (hP.sub [] rfl) (hD.sub [] rfl rfl) hK) rfl rfl hl.1 rfl (lv_room (Nat.le_of_ble_eq_true rfl)) dX12_isSeat_10 ⟨Nat.le_of_ble_eq_true rfl, Nat.le_of_ble_eq_true rfl⟩) hP hD hS hA [] [0] [0] rfl rfl rfl (by decide) rfl rfl rfl (fun H locs hP hD hS => ?_)
  clear hcall
  have hz := ck_c hf
  replace hf := ck_r hf
  obtain rfl := ou1 hf
  rw [hQ]
  exact W.zret hx hb hr (zB_n hz) (fun t ht hW => ⟨⟨_, (), rfl, rfl, by rw [ht]; exact hP, va_K.moved hW.alike hK, hD⟩, hS.F ht⟩) hS.2.2 dX12_isSeat_13

noncomputable def f_X12_pot (i_p0_seats : Int32) (v_p0_st : (Nat → Int32)) (x1 : Int32) : Option (Int32) := (bd1 (f_X12_isSeat i_p0_seats x1) (fun (z1 : Int32) => (if z1 = 0 then (some (-1 : Int32)) else (ck (ixB x1 152) (some (v_p0_st (x1).toNatClampNeg))))))
abbrev rm_X12_pot : Room := { frames := 2, cells := 0, slots := 0, locals := 46 }
theorem inX12_pot_X12 : ∀ w ∈ wsX120, w ∈ wsX12_pot := by decide +kernel
theorem mwX12_pot_1 : Cond.fieldLink RX12 7 "LadleKingsModel" "st" "[I" ∈ wsX12_pot := by decide +kernel
set_option maxHeartbeats 8000000 in
set_option maxRecDepth 100000 in
theorem c_X12_pot (l : Launch) (D : va_G) (G : Nat → ClassId) (sz : Nat) (a_p0 : Nat) (a_p0_st : Nat) (a_p0_isKept : Nat) (a_p0_brings : Nat) (a_p0_need : Nat) (a_p0_draft : Nat) (a_p0_dStir : Nat) (a_p0_dNeed : Nat) (a_p0_tape : Nat) (a_p0_places : Nat) (a_p0_stirred : Nat) (a_p0_ways : Nat) (a_p0_waysThen : Nat) (a_p0_stays : Nat) (a_p0_fewest : Nat) (a_p0_bowls : Nat) (a_p0_has : Nat) (a_p0_goesOn : Nat) (a_p0_isThere : Nat) (a_p0_isThereThen : Nat) (a_p0_bestRow : Nat) (a_p0_lanes : Nat) (a_p0_sizes : Nat) (a_p0_cells : Nat) (i_p0_seats : Int32) (i_p0_stirs : Int32) (i_p0_dSeats : Int32) (i_p0_dStirs : Int32) (i_p0_told : Int32) (i_p0_highest : Int32) (i_p0_taped : Int32) (i_p0_pos : Int32) (i_p0_from : Int32) (i_p0_sort : Int32) (i_p0_value : Int32) (i_p0_fault : Int32) (i_p0_wrongAt : Int32) (i_p0_torn : Int32) (v_p0_st : (Nat → Int32)) (x1 : Int32) (r : Int32) (hf : f_X12_pot i_p0_seats v_p0_st x1 = some r) : Met l yX12_pot wsX12_pot rm_X12_pot (pcG D G [.ref a_p0, .int x1] sz [(a_p0, .inr (12, [.ref a_p0_st, .ref a_p0_isKept, .int i_p0_seats, .int i_p0_stirs, .ref a_p0_brings, .ref a_p0_need, .ref a_p0_draft, .int i_p0_dSeats, .int i_p0_dStirs, .ref a_p0_dStir, .ref a_p0_dNeed, .int i_p0_told, .int i_p0_highest, .ref a_p0_tape, .int i_p0_taped, .int i_p0_pos, .int i_p0_from, .int i_p0_sort, .int i_p0_value, .int i_p0_fault, .int i_p0_wrongAt, .ref a_p0_places, .ref a_p0_stirred, .ref a_p0_ways, .ref a_p0_waysThen, .ref a_p0_stays, .ref a_p0_fewest, .ref a_p0_bowls, .ref a_p0_has, .ref a_p0_goesOn, .ref a_p0_isThere, .ref a_p0_isThereThen, .ref a_p0_bestRow, .ref a_p0_lanes, .ref a_p0_sizes, .ref a_p0_cells, .int i_p0_torn])), (a_p0_st, .inl (G 1, 152, .inl v_p0_st))]) (qcI D G r [(a_p0, .inr (12, [.ref a_p0_st, .ref a_p0_isKept, .int i_p0_seats, .int i_p0_stirs, .ref a_p0_brings, .ref a_p0_need, .ref a_p0_draft, .int i_p0_dSeats, .int i_p0_dStirs, .ref a_p0_dStir, .ref a_p0_dNeed, .int i_p0_told, .int i_p0_highest, .ref a_p0_tape, .int i_p0_taped, .int i_p0_pos, .int i_p0_from, .int i_p0_sort, .int i_p0_value, .int i_p0_fault, .int i_p0_wrongAt, .ref a_p0_places, .ref a_p0_stirred, .ref a_p0_ways, .ref a_p0_waysThen, .ref a_p0_stays, .ref a_p0_fewest, .ref a_p0_bowls, .ref a_p0_has, .ref a_p0_goesOn, .ref a_p0_isThere, .ref a_p0_isThereThen, .ref a_p0_bestRow, .ref a_p0_lanes, .ref a_p0_sizes, .ref a_p0_cells, .int i_p0_torn])), (a_p0_st, .inl (G 1, 152, .inl v_p0_st))] (va_A [(a_p0, .inr (12, [.ref a_p0_st, .ref a_p0_isKept, .int i_p0_seats, .int i_p0_stirs, .ref a_p0_brings, .ref a_p0_need, .ref a_p0_draft, .int i_p0_dSeats, .int i_p0_dStirs, .ref a_p0_dStir, .ref a_p0_dNeed, .int i_p0_told, .int i_p0_highest, .ref a_p0_tape, .int i_p0_taped, .int i_p0_pos, .int i_p0_from, .int i_p0_sort, .int i_p0_value, .int i_p0_fault, .int i_p0_wrongAt, .ref a_p0_places, .ref a_p0_stirred, .ref a_p0_ways, .ref a_p0_waysThen, .ref a_p0_stays, .ref a_p0_fewest, .ref a_p0_bowls, .ref a_p0_has, .ref a_p0_goesOn, .ref a_p0_isThere, .ref a_p0_isThereThen, .ref a_p0_bestRow, .ref a_p0_lanes, .ref a_p0_sizes, .ref a_p0_cells, .int i_p0_torn])), (a_p0_st, .inl (G 1, 152, .inl v_p0_st))] sz)) 0 0 (va_A [(a_p0, .inr (12, [.ref a_p0_st, .ref a_p0_isKept, .int i_p0_seats, .int i_p0_stirs, .ref a_p0_brings, .ref a_p0_need, .ref a_p0_draft, .int i_p0_dSeats, .int i_p0_dStirs, .ref a_p0_dStir, .ref a_p0_dNeed, .int i_p0_told, .int i_p0_highest, .ref a_p0_tape, .int i_p0_taped, .int i_p0_pos, .int i_p0_from, .int i_p0_sort, .int i_p0_value, .int i_p0_fault, .int i_p0_wrongAt, .ref a_p0_places, .ref a_p0_stirred, .ref a_p0_ways, .ref a_p0_waysThen, .ref a_p0_stays, .ref a_p0_fewest, .ref a_p0_bowls, .ref a_p0_has, .ref a_p0_goesOn, .ref a_p0_isThere, .ref a_p0_isThereThen, .ref a_p0_bestRow, .ref a_p0_lanes, .ref a_p0_sizes, .ref a_p0_cells, .int i_p0_torn])), (a_p0_st, .inl (G 1, 152, .inl v_p0_st))] sz) := by
  refine Met.ofW (cc := cX12_pot) (maxL := 2) (ret := (some .int)) (by decide) rfl ?_
  intro p e s m args below meth c s₁ B hml hv
  obtain ⟨rfl, hsz, hP, hK, hD0⟩ := hv
  have hx := B.exec
  have hb := B.bytes
  have hr := B.returns
  have hts := atoms_spec (ws := wsX12_pot) B.pre
  have hown : s.vm.findClass RX12 = some m.cls := findClass_of_methodNamed B.named
  have hlocks := B.notSynchronized
  subst hsz
  have hD := hD0.self (sz := s.heap.size)
  generalize hAe : va_A [(a_p0, .inr (12, [.ref a_p0_st, .ref a_p0_isKept, .int i_p0_seats, .int i_p0_stirs, .ref a_p0_brings, .ref a_p0_need, .ref a_p0_draft, .int i_p0_dSeats, .int i_p0_dStirs, .ref a_p0_dStir, .ref a_p0_dNeed, .int i_p0_told, .int i_p0_highest, .ref a_p0_tape, .int i_p0_taped, .int i_p0_pos, .int i_p0_from, .int i_p0_sort, .int i_p0_value, .int i_p0_fault, .int i_p0_wrongAt, .ref a_p0_places, .ref a_p0_stirred, .ref a_p0_ways, .ref a_p0_waysThen, .ref a_p0_stays, .ref a_p0_fewest, .ref a_p0_bowls, .ref a_p0_has, .ref a_p0_goesOn, .ref a_p0_isThere, .ref a_p0_isThereThen, .ref a_p0_bestRow, .ref a_p0_lanes, .ref a_p0_sizes, .ref a_p0_cells, .int i_p0_torn])), (a_p0_st, .inl (G 1, 152, .inl v_p0_st))] s.heap.size = A at hD ⊢
  have hA : ∀ q : Nat, s.heap.size ≤ q → A q := fun q h => by rw [← hAe]; exact Or.inr h
  clear hAe hD0
  have hS : va_S A s.heap s.heap [] := va_S.rf
  have hl := lv_entry ([.ref a_p0, .int x1]) (n := 2) (Nat.le_of_ble_eq_true rfl)
  rw [lg_entry_eq]
  generalize (lg_sl ([.ref a_p0, .int x1]) ++ List.replicate (2 - (lg_sl ([.ref a_p0, .int x1])).length) Slot.unset).toArray = ls at hl ⊢
  have hl : lv_has ls 2 [(0, .ref a_p0), (1, .int x1)] := hl
  refine W_nameQ (fun Q hQ => ?_)
  unfold f_X12_pot at hf
  refine lv_aload_n hx hb dX12_pot_0 rfl (lv_at hl 0 rfl) ?_
  refine lv_iload_n hx hb dX12_pot_1 rfl (lv_at hl 1 rfl) ?_
  have hq := bd1_s hf
  clear hf
  obtain ⟨z1, hcall, hf⟩ := hq
  refine gcI (ws' := [(a_p0, .inr (12, [.ref a_p0_st, .ref a_p0_isKept, .int i_p0_seats, .int i_p0_stirs, .ref a_p0_brings, .ref a_p0_need, .ref a_p0_draft, .int i_p0_dSeats, .int i_p0_dStirs, .ref a_p0_dStir, .ref a_p0_dNeed, .int i_p0_told, .int i_p0_highest, .ref a_p0_tape, .int i_p0_taped, .int i_p0_pos, .int i_p0_from, .int i_p0_sort, .int i_p0_value, .int i_p0_fault, .int i_p0_wrongAt, .ref a_p0_places, .ref a_p0_stirred, .ref a_p0_ways, .ref a_p0_waysThen, .ref a_p0_stays, .ref a_p0_fewest, .ref a_p0_bowls, .ref a_p0_has, .ref a_p0_goesOn, .ref a_p0_isThere, .ref a_p0_isThereThen, .ref a_p0_bestRow, .ref a_p0_lanes, .ref a_p0_sizes, .ref a_p0_cells, .int i_p0_torn])), (a_p0_st, .inl (G 1, 152, .inl v_p0_st))]) (va_runV (As := [.int x1]) (rest := []) ⟨hx, hb, hml, hown, hts⟩ (c_X12_isSeat (l := l) (D := D) (G := G) (sz := H.size) (a_p0 := a_p0) (a_p0_st := a_p0_st) (a_p0_isKept := a_p0_isKept) (a_p0_brings := a_p0_brings) (a_p0_need := a_p0_need) (a_p0_draft := a_p0_draft) (a_p0_dStir := a_p0_dStir) (a_p0_dNeed := a_p0_dNeed) (a_p0_tape := a_p0_tape) (a_p0_places := a_p0_places) (a_p0_stirred := a_p0_stirred) (a_p0_ways := a_p0_ways) (a_p0_waysThen := a_p0_waysThen) (a_p0_stays := a_p0_stays) (a_p0_fewest := a_p0_fewest) (a_p0_bowls := a_p0_bowls) (a_p0_has := a_p0_has) (a_p0_goesOn := a_p0_goesOn) (a_p0_isThere := a_p0_isThere) (a_p0_isThereThen := a_p0_isThereThen) (a_p0_bestRow := a_p0_bestRow) (a_p0_lanes := a_p0_lanes) (a_p0_sizes := a_p0_sizes) (a_p0_cells := a_p0_cells) (i_p0_seats := i_p0_seats) (i_p0_stirs := i_p0_stirs) (i_p0_dSeats := i_p0_dSeats) (i_p0_dStirs := i_p0_dStirs) (i_p0_told := i_p0_told) (i_p0_highest := i_p0_highest) (i_p0_taped := i_p0_taped) (i_p0_pos := i_p0_pos) (i_p0_from := i_p0_from) (i_p0_sort := i_p0_sort) (i_p0_value := i_p0_value) (i_p0_fault := i_p0_fault) (i_p0_wrongAt := i_p0_wrongAt) (i_p0_torn := i_p0_torn) (x1 := x1) (r := z1) (hf := hcall)) (cwV 1 hts gX12_pot_X12_isSeat rfl rfl rfl (by decide +kernel) ⟨Nat.le_of_ble_eq_true rfl, Nat.le_of_ble_eq_true rfl⟩) (preG_V (ci := 12) (hP.sub [0] rfl) (hD.sub [0] rfl rfl) hK rfl rfl) rfl rfl hl.1 rfl (lv_room (Nat.le_of_ble_eq_true rfl)) dX12_pot_2 ⟨Nat.le_of_ble_eq_true rfl, Nat.le_of_ble_eq_true rfl⟩) hP hD hS hA [0] [1] [1, 0] rfl rfl rfl (by decide) rfl rfl rfl (fun H locs hP hD hS => ?_)
  clear hcall
  refine lv_if_eq (tgt := 17) hx hb dX12_pot_5 (by decide) (fun cc => ?_) (fun cc => ?_)
  ·
    replace hf := ite_t cc hf
    clear cc
    refine lv_iconst (v := (-1 : Int32)) hx hb dX12_pot_17 (by decide) ?_
    obtain rfl := ou1 hf
    rw [hQ]
    exact W.iret hx hb hr (fun t ht hW => ⟨⟨_, (), rfl, rfl, by rw [ht]; exact hP, va_K.moved hW.alike hK, hD⟩, hS.F ht⟩) hS.2.2 dX12_pot_18
  ·
    replace hf := ite_f cc hf
    clear cc
    refine lv_aload_n hx hb dX12_pot_8 rfl (lv_at hl 0 rfl) ?_
    refine va_get (D := D) (ci := 12) (v := .ref a_p0_st) (C := RX12) (T := TX12) (N := 37) hx hb hts inX12_pot_X12 hown hK hP 0 rfl rfl 0 (by decide) (hts _ mwX12_pot_1) (fun _ h9 => h9) rfl dX12_pot_9 ?_
    refine lv_iload_n hx hb dX12_pot_12 rfl (lv_at hl 1 rfl) ?_
    have hc := ck_c hf
    replace hf := ck_r hf
    refine va_iald hx hb hK hP 1 1 rfl rfl (ixB_in hc) dX12_pot_13 ?_
    clear hc
    refine lv_goto (tgt := 18) hx hb dX12_pot_14 (by decide) ?_
    obtain rfl := ou1 hf
    rw [hQ]
    exact W.iret hx hb hr (fun t ht hW => ⟨⟨_, (), rfl, rfl, by rw [ht]; exact hP, va_K.moved hW.alike hK, hD⟩, hS.F ht⟩) hS.2.2 dX12_pot_18
