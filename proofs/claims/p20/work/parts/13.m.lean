noncomputable def f_J0_coder_7d493 (x0 : Int) : Option (Int) := (if (1 : Int) = (0 : Int) then (some (1 : Int)) else (ck (z_ix x0 11) (some (0 : Int))))
abbrev rm_J0_coder_7d493 : Room := { frames := 0, cells := 0, slots := 0, locals := 0 }
theorem mwJ0_coder_7d493_0 : Cond.fieldLink RJ0 38 "java/lang/String" "COMPACT_STRINGS" "Z" ∈ wsJ0_coder_7d493 := by decide +kernel
theorem mwJ0_coder_7d493_1 : Cond.fieldLink RJ0 15 "java/lang/String" "coder" "B" ∈ wsJ0_coder_7d493 := by decide +kernel
set_option maxHeartbeats 8000000 in
set_option maxRecDepth 100000 in
theorem c_J0_coder_7d493 (l : Launch) (D : va_G) (G : Nat → ClassId) (sz : Nat) (adT adK adV : Nat → Nat) (x0 : Int) (r : Int) (hf : f_J0_coder_7d493 x0 = some r) : Met l yJ0_coder_7d493 wsJ0_coder_7d493 rm_J0_coder_7d493 (pcGE D G adT adK adV [.ref (adK (x0).toNat)] sz []) (qcI D G (Int32.ofInt r) [] (va_A [] sz)) 0 0 (va_A [] sz) := by
  refine Met.ofW (cc := cJ0_coder_7d493) (maxL := 1) (ret := (some .byte)) (by decide) rfl ?_
  intro p e s m args below meth c s₁ B hml hv
  obtain ⟨rfl, hsz, hP, hK, hD0, hE⟩ := hv
  have hx := B.exec
  have hb := B.bytes
  have hr := B.returns
  have hts := atoms_spec (ws := wsJ0_coder_7d493) B.pre
  have hown : s.vm.findClass RJ0 = some m.cls := findClass_of_methodNamed B.named
  have hlocks := B.notSynchronized
  subst hsz
  have hD := hD0.self (sz := s.heap.size)
  generalize hAe : va_A [] s.heap.size = A at hD hE ⊢
  have hA : ∀ q : Nat, s.heap.size ≤ q → A q := fun q h => by rw [← hAe]; exact Or.inr h
  clear hAe hD0
  have hS : va_S A s.heap s.heap [] := va_S.rf
  have hl := lv_entry ([.ref (adK (x0).toNat)]) (n := 1) (Nat.le_of_ble_eq_true rfl)
  rw [lg_entry_eq]
  generalize (lg_sl ([.ref (adK (x0).toNat)]) ++ List.replicate (1 - (lg_sl ([.ref (adK (x0).toNat)])).length) Slot.unset).toArray = ls at hl ⊢
  have hl : lv_has ls 1 [(0, .ref (adK (x0).toNat))] := hl
  refine W_nameQ (fun Q hQ => ?_)
  obtain ⟨H, hH⟩ : ∃ H, H = s.heap := ⟨_, rfl⟩
  replace hS : va_S A s.heap H [] := by rw [hH]; exact hS
  replace hP : va_P D vwCl [] H := by rw [hH]; exact hP
  rw [← hH]
  clear hH
  unfold f_J0_coder_7d493 at hf
  refine va_gets (C := "java/lang/String") (n := "COMPACT_STRINGS") (d := "Z") (v := .int 1) hx hb hE.2.1 hS hown (hts _ mwJ0_coder_7d493_0) (fun _ h9 => h9) dJ0_coder_7d493_0 (z_ci (show Int32.ofInt (1 : Int) = _ from by decide) ?_)
  refine lv_if_eq (tgt := 13) hx hb dJ0_coder_7d493_3 (by decide) (fun cc => ?_) (fun cc => ?_)
  ·
    replace hf := ite_t ((z_eq0 (by decide)).mp cc) hf
    clear cc
    refine lv_iconst (v := Int32.ofInt (1 : Int)) hx hb dJ0_coder_7d493_13 (by decide) ?_
    obtain rfl := ou1 hf
    rw [hQ]
    exact W.zret hx hb hr rfl (fun t ht hW => ⟨⟨_, (), rfl, rfl, by rw [ht]; exact hP, va_K.moved hW.alike hK, hD⟩, hS.F ht⟩) hS.2.2 dJ0_coder_7d493_14
  ·
    replace hf := ite_f (fun h9 => cc ((z_eq0 (by decide)).mpr h9)) hf
    clear cc
    refine lv_aload_n hx hb dJ0_coder_7d493_6 rfl (lv_at hl 0 rfl) ?_
    have hr0 := ck_c hf
    replace hf := ck_r hf
    refine vk_getf hx hb (hE.2.2.2.1.1 _ (z_ix_n hr0)).2.1 hS hown (hts _ mwJ0_coder_7d493_1) (fun _ h9 => h9) dJ0_coder_7d493_7 (z_ci (show Int32.ofInt (0 : Int) = _ from by decide) ?_)
    refine lv_goto (tgt := 14) hx hb dJ0_coder_7d493_10 (by decide) ?_
    obtain rfl := ou1 hf
    rw [hQ]
    exact W.zret hx hb hr rfl (fun t ht hW => ⟨⟨_, (), rfl, rfl, by rw [ht]; exact hP, va_K.moved hW.alike hK, hD⟩, hS.F ht⟩) hS.2.2 dJ0_coder_7d493_14

noncomputable def f_J0_length_8abf5 (x0 : Int) : Option (Int) := (ck (z_ix x0 11) (bd1 (f_J0_coder_7d493 x0) (fun (z2 : Int) => (some (z_shr (z_sl x0) z2)))))
abbrev rm_J0_length_8abf5 : Room := { frames := 1, cells := 0, slots := 0, locals := 20 }
theorem mwJ0_length_8abf5_0 : Cond.fieldLink RJ0 9 "java/lang/String" "value" "[B" ∈ wsJ0_length_8abf5 := by decide +kernel
set_option maxHeartbeats 8000000 in
set_option maxRecDepth 100000 in
theorem c_J0_length_8abf5 (l : Launch) (D : va_G) (G : Nat → ClassId) (sz : Nat) (adT adK adV : Nat → Nat) (x0 : Int) (r : Int) (hf : f_J0_length_8abf5 x0 = some r) : Met l yJ0_length_8abf5 wsJ0_length_8abf5 rm_J0_length_8abf5 (pcGE D G adT adK adV [.ref (adK (x0).toNat)] sz []) (qcI D G (Int32.ofInt r) [] (va_A [] sz)) 0 0 (va_A [] sz) := by
  refine Met.ofW (cc := cJ0_length_8abf5) (maxL := 1) (ret := (some .int)) (by decide) rfl ?_
  intro p e s m args below meth c s₁ B hml hv
  obtain ⟨rfl, hsz, hP, hK, hD0, hE⟩ := hv
  have hx := B.exec
  have hb := B.bytes
  have hr := B.returns
  have hts := atoms_spec (ws := wsJ0_length_8abf5) B.pre
  have hown : s.vm.findClass RJ0 = some m.cls := findClass_of_methodNamed B.named
  have hlocks := B.notSynchronized
  subst hsz
  have hD := hD0.self (sz := s.heap.size)
  generalize hAe : va_A [] s.heap.size = A at hD hE ⊢
  have hA : ∀ q : Nat, s.heap.size ≤ q → A q := fun q h => by rw [← hAe]; exact Or.inr h
  clear hAe hD0
  have hS : va_S A s.heap s.heap [] := va_S.rf
  have hl := lv_entry ([.ref (adK (x0).toNat)]) (n := 1) (Nat.le_of_ble_eq_true rfl)
  rw [lg_entry_eq]
  generalize (lg_sl ([.ref (adK (x0).toNat)]) ++ List.replicate (1 - (lg_sl ([.ref (adK (x0).toNat)])).length) Slot.unset).toArray = ls at hl ⊢
  have hl : lv_has ls 1 [(0, .ref (adK (x0).toNat))] := hl
  refine W_nameQ (fun Q hQ => ?_)
  obtain ⟨H, hH⟩ : ∃ H, H = s.heap := ⟨_, rfl⟩
  replace hS : va_S A s.heap H [] := by rw [hH]; exact hS
  replace hP : va_P D vwCl [] H := by rw [hH]; exact hP
  rw [← hH]
  clear hH
  unfold f_J0_length_8abf5 at hf
  refine lv_aload_n hx hb dJ0_length_8abf5_0 rfl (lv_at hl 0 rfl) ?_
  have hr0 := ck_c hf
  replace hf := ck_r hf
  refine vk_getf hx hb (hE.2.2.2.1.1 _ (z_ix_n hr0)).2.2.1 hS hown (hts _ mwJ0_length_8abf5_0) (fun _ h9 => h9) dJ0_length_8abf5_1 ?_
  refine va_tlen (v := Int32.ofInt (z_sl x0)) hx hb (hE.2.2.2.1.1 _ (z_ix_n hr0)).2.2.2 hS (z_len _) dJ0_length_8abf5_4 ?_
  refine lv_aload_n hx hb dJ0_length_8abf5_5 rfl (lv_at hl 0 rfl) ?_
  have hq := bd1_s hf
  clear hf
  obtain ⟨z2, hcall, hf⟩ := hq
  refine gcI (ws' := []) (va_runV (As := []) (rest := [.int (Int32.ofInt (z_sl x0))]) ⟨hx, hb, hml, hown, hts⟩ (c_J0_coder_7d493 (l := l) (D := D) (G := G) (sz := H.size) (adT := adT) (adK := adK) (adV := adV) (x0 := x0) (r := z2) (hf := hcall)) (cwV 0 hts gJ0_length_8abf5_J0_coder_7d493 rfl rfl rfl (by decide +kernel) ⟨Nat.le_of_ble_eq_true rfl, Nat.le_of_ble_eq_true rfl⟩) (preGE_K (z_ix_n hr0) hK hE hS hA) rfl rfl hl.1 rfl (lv_room (Nat.le_of_ble_eq_true rfl)) dJ0_length_8abf5_6 ⟨Nat.le_of_ble_eq_true rfl, Nat.le_of_ble_eq_true rfl⟩) hP hD hS hA [] [] [] rfl rfl rfl (by decide) rfl rfl rfl (fun H locs hP hD hS => ?_)
  clear hcall
  refine lv_ishr hx hb dJ0_length_8abf5_9 (z_ci (z_shr_e (z_sl x0) z2) ?_)
  obtain rfl := ou1 hf
  rw [hQ]
  exact W.iret hx hb hr (fun t ht hW => ⟨⟨_, (), rfl, rfl, by rw [ht]; exact hP, va_K.moved hW.alike hK, hD⟩, hS.F ht⟩) hS.2.2 dJ0_length_8abf5_10

noncomputable def f_J0_isLatin1_aae02 (x0 : Int) : Option (Int) := (if (1 : Int) = (0 : Int) then (some (0 : Int)) else (ck (z_ix x0 11) (if (0 : Int) = (0 : Int) then (some (1 : Int)) else (some (0 : Int)))))
abbrev rm_J0_isLatin1_aae02 : Room := { frames := 0, cells := 0, slots := 0, locals := 0 }
theorem mwJ0_isLatin1_aae02_0 : Cond.fieldLink RJ0 38 "java/lang/String" "COMPACT_STRINGS" "Z" ∈ wsJ0_isLatin1_aae02 := by decide +kernel
theorem mwJ0_isLatin1_aae02_1 : Cond.fieldLink RJ0 15 "java/lang/String" "coder" "B" ∈ wsJ0_isLatin1_aae02 := by decide +kernel
set_option maxHeartbeats 8000000 in
set_option maxRecDepth 100000 in
theorem c_J0_isLatin1_aae02 (l : Launch) (D : va_G) (G : Nat → ClassId) (sz : Nat) (adT adK adV : Nat → Nat) (x0 : Int) (r : Int) (hf : f_J0_isLatin1_aae02 x0 = some r) : Met l yJ0_isLatin1_aae02 wsJ0_isLatin1_aae02 rm_J0_isLatin1_aae02 (pcGE D G adT adK adV [.ref (adK (x0).toNat)] sz []) (qcI D G (Int32.ofInt r) [] (va_A [] sz)) 0 0 (va_A [] sz) := by
  refine Met.ofW (cc := cJ0_isLatin1_aae02) (maxL := 1) (ret := (some .boolean)) (by decide) rfl ?_
  intro p e s m args below meth c s₁ B hml hv
  obtain ⟨rfl, hsz, hP, hK, hD0, hE⟩ := hv
  have hx := B.exec
  have hb := B.bytes
  have hr := B.returns
  have hts := atoms_spec (ws := wsJ0_isLatin1_aae02) B.pre
  have hown : s.vm.findClass RJ0 = some m.cls := findClass_of_methodNamed B.named
  have hlocks := B.notSynchronized
  subst hsz
  have hD := hD0.self (sz := s.heap.size)
  generalize hAe : va_A [] s.heap.size = A at hD hE ⊢
  have hA : ∀ q : Nat, s.heap.size ≤ q → A q := fun q h => by rw [← hAe]; exact Or.inr h
  clear hAe hD0
  have hS : va_S A s.heap s.heap [] := va_S.rf
  have hl := lv_entry ([.ref (adK (x0).toNat)]) (n := 1) (Nat.le_of_ble_eq_true rfl)
  rw [lg_entry_eq]
  generalize (lg_sl ([.ref (adK (x0).toNat)]) ++ List.replicate (1 - (lg_sl ([.ref (adK (x0).toNat)])).length) Slot.unset).toArray = ls at hl ⊢
  have hl : lv_has ls 1 [(0, .ref (adK (x0).toNat))] := hl
  refine W_nameQ (fun Q hQ => ?_)
  obtain ⟨H, hH⟩ : ∃ H, H = s.heap := ⟨_, rfl⟩
  replace hS : va_S A s.heap H [] := by rw [hH]; exact hS
  replace hP : va_P D vwCl [] H := by rw [hH]; exact hP
  rw [← hH]
  clear hH
  unfold f_J0_isLatin1_aae02 at hf
  refine va_gets (C := "java/lang/String") (n := "COMPACT_STRINGS") (d := "Z") (v := .int 1) hx hb hE.2.1 hS hown (hts _ mwJ0_isLatin1_aae02_0) (fun _ h9 => h9) dJ0_isLatin1_aae02_0 (z_ci (show Int32.ofInt (1 : Int) = _ from by decide) ?_)
  refine lv_if_eq (tgt := 17) hx hb dJ0_isLatin1_aae02_3 (by decide) (fun cc => ?_) (fun cc => ?_)
  ·
    replace hf := ite_t ((z_eq0 (by decide)).mp cc) hf
    clear cc
    refine lv_iconst (v := Int32.ofInt (0 : Int)) hx hb dJ0_isLatin1_aae02_17 (by decide) ?_
    obtain rfl := ou1 hf
    rw [hQ]
    exact W.zret hx hb hr rfl (fun t ht hW => ⟨⟨_, (), rfl, rfl, by rw [ht]; exact hP, va_K.moved hW.alike hK, hD⟩, hS.F ht⟩) hS.2.2 dJ0_isLatin1_aae02_18
  ·
    replace hf := ite_f (fun h9 => cc ((z_eq0 (by decide)).mpr h9)) hf
    clear cc
    refine lv_aload_n hx hb dJ0_isLatin1_aae02_6 rfl (lv_at hl 0 rfl) ?_
    have hr0 := ck_c hf
    replace hf := ck_r hf
    refine vk_getf hx hb (hE.2.2.2.1.1 _ (z_ix_n hr0)).2.1 hS hown (hts _ mwJ0_isLatin1_aae02_1) (fun _ h9 => h9) dJ0_isLatin1_aae02_7 (z_ci (show Int32.ofInt (0 : Int) = _ from by decide) ?_)
    refine lv_if_ne (tgt := 17) hx hb dJ0_isLatin1_aae02_10 (by decide) (fun cc => ?_) (fun cc => ?_)
    ·
      replace hf := ite_f (fun h9 => cc ((z_eq0 (by decide)).mpr h9)) hf
      clear cc
      refine lv_iconst (v := Int32.ofInt (0 : Int)) hx hb dJ0_isLatin1_aae02_17 (by decide) ?_
      obtain rfl := ou1 hf
      rw [hQ]
      exact W.zret hx hb hr rfl (fun t ht hW => ⟨⟨_, (), rfl, rfl, by rw [ht]; exact hP, va_K.moved hW.alike hK, hD⟩, hS.F ht⟩) hS.2.2 dJ0_isLatin1_aae02_18
    ·
      replace hf := ite_t ((z_eq0 (by decide)).mp cc) hf
      clear cc
      refine lv_iconst (v := Int32.ofInt (1 : Int)) hx hb dJ0_isLatin1_aae02_13 (by decide) ?_
      refine lv_goto (tgt := 18) hx hb dJ0_isLatin1_aae02_14 (by decide) ?_
      obtain rfl := ou1 hf
      rw [hQ]
      exact W.zret hx hb hr rfl (fun t ht hW => ⟨⟨_, (), rfl, rfl, by rw [ht]; exact hP, va_K.moved hW.alike hK, hD⟩, hS.F ht⟩) hS.2.2 dJ0_isLatin1_aae02_18

noncomputable def f_J3_checkIndex_8e157 (x0 : Int) (x1 : Int) : Option (Int) := (ck (z_r32 x0) (if x0 < (0 : Int) then none else (ck (z_r32 x1) (if x0 < x1 then (some x0) else none))))
abbrev rm_J3_checkIndex_8e157 : Room := { frames := 0, cells := 0, slots := 0, locals := 0 }
set_option maxHeartbeats 8000000 in
set_option maxRecDepth 100000 in
theorem c_J3_checkIndex_8e157 (l : Launch) (D : va_G) (G : Nat → ClassId) (sz : Nat) (adT adK adV : Nat → Nat) (x0 : Int) (x1 : Int) (x2 : Nat) (r : Int) (hf : f_J3_checkIndex_8e157 x0 x1 = some r) : Met l yJ3_checkIndex_8e157 wsJ3_checkIndex_8e157 rm_J3_checkIndex_8e157 (pcGE D G adT adK adV [.int (Int32.ofInt x0), .int (Int32.ofInt x1), .ref x2] sz []) (qcI D G (Int32.ofInt r) [] (va_A [] sz)) 0 0 (va_A [] sz) := by
  refine Met.ofW (cc := cJ3_checkIndex_8e157) (maxL := 3) (ret := (some .int)) (by decide) rfl ?_
  intro p e s m args below meth c s₁ B hml hv
  obtain ⟨rfl, hsz, hP, hK, hD0, hE⟩ := hv
  have hx := B.exec
  have hb := B.bytes
  have hr := B.returns
  have hts := atoms_spec (ws := wsJ3_checkIndex_8e157) B.pre
  have hown : s.vm.findClass RJ3 = some m.cls := findClass_of_methodNamed B.named
  have hlocks := B.notSynchronized
  subst hsz
  have hD := hD0.self (sz := s.heap.size)
  generalize hAe : va_A [] s.heap.size = A at hD hE ⊢
  have hA : ∀ q : Nat, s.heap.size ≤ q → A q := fun q h => by rw [← hAe]; exact Or.inr h
  clear hAe hD0
  have hS : va_S A s.heap s.heap [] := va_S.rf
  have hl := lv_entry ([.int (Int32.ofInt x0), .int (Int32.ofInt x1), .ref x2]) (n := 3) (Nat.le_of_ble_eq_true rfl)
  rw [lg_entry_eq]
  generalize (lg_sl ([.int (Int32.ofInt x0), .int (Int32.ofInt x1), .ref x2]) ++ List.replicate (3 - (lg_sl ([.int (Int32.ofInt x0), .int (Int32.ofInt x1), .ref x2])).length) Slot.unset).toArray = ls at hl ⊢
  have hl : lv_has ls 3 [(0, .int (Int32.ofInt x0)), (1, .int (Int32.ofInt x1)), (2, .ref x2)] := hl
  refine W_nameQ (fun Q hQ => ?_)
  obtain ⟨H, hH⟩ : ∃ H, H = s.heap := ⟨_, rfl⟩
  replace hS : va_S A s.heap H [] := by rw [hH]; exact hS
  replace hP : va_P D vwCl [] H := by rw [hH]; exact hP
  rw [← hH]
  clear hH
  unfold f_J3_checkIndex_8e157 at hf
  refine lv_iload_n hx hb dJ3_checkIndex_8e157_0 rfl (lv_at hl 0 rfl) ?_
  have hr0 := ck_c hf
  replace hf := ck_r hf
  refine lv_if_lt (tgt := 9) hx hb dJ3_checkIndex_8e157_1 (by decide) (fun cc => ?_) (fun cc => ?_)
  ·
    replace hf := ite_t ((z_lt0 hr0).mp cc) hf
    clear cc
    cases hf
  ·
    replace hf := ite_f (fun h9 => cc ((z_lt0 hr0).mpr h9)) hf
    clear cc
    refine lv_iload_n hx hb dJ3_checkIndex_8e157_4 rfl (lv_at hl 0 rfl) ?_
    refine lv_iload_n hx hb dJ3_checkIndex_8e157_5 rfl (lv_at hl 1 rfl) ?_
    have hr1 := ck_c hf
    replace hf := ck_r hf
    refine lv_icmp_lt (tgt := 16) hx hb dJ3_checkIndex_8e157_6 (by decide) (fun cc => ?_) (fun cc => ?_)
    ·
      replace hf := ite_t ((z_lt hr0 hr1).mp cc) hf
      clear cc
      refine lv_iload_n hx hb dJ3_checkIndex_8e157_16 rfl (lv_at hl 0 rfl) ?_
      obtain rfl := ou1 hf
      rw [hQ]
      exact W.iret hx hb hr (fun t ht hW => ⟨⟨_, (), rfl, rfl, by rw [ht]; exact hP, va_K.moved hW.alike hK, hD⟩, hS.F ht⟩) hS.2.2 dJ3_checkIndex_8e157_17
    ·
      replace hf := ite_f (fun h9 => cc ((z_lt hr0 hr1).mpr h9)) hf
      clear cc
      cases hf

set_option maxHeartbeats 8000000 in
set_option maxRecDepth 100000 in
theorem c_J3_checkIndex_8e157_N (l : Launch) (D : va_G) (G : Nat → ClassId) (sz : Nat) (adT adK adV : Nat → Nat) (x0 : Int) (x1 : Int) (r : Int) (hf : f_J3_checkIndex_8e157 x0 x1 = some r) : Met l yJ3_checkIndex_8e157 wsJ3_checkIndex_8e157 rm_J3_checkIndex_8e157 (pcGE D G adT adK adV [.int (Int32.ofInt x0), .int (Int32.ofInt x1), .null] sz []) (qcI D G (Int32.ofInt r) [] (va_A [] sz)) 0 0 (va_A [] sz) := by
  refine Met.ofW (cc := cJ3_checkIndex_8e157) (maxL := 3) (ret := (some .int)) (by decide) rfl ?_
  intro p e s m args below meth c s₁ B hml hv
  obtain ⟨rfl, hsz, hP, hK, hD0, hE⟩ := hv
  have hx := B.exec
  have hb := B.bytes
  have hr := B.returns
  have hts := atoms_spec (ws := wsJ3_checkIndex_8e157) B.pre
  have hown : s.vm.findClass RJ3 = some m.cls := findClass_of_methodNamed B.named
  have hlocks := B.notSynchronized
  subst hsz
  have hD := hD0.self (sz := s.heap.size)
  generalize hAe : va_A [] s.heap.size = A at hD hE ⊢
  have hA : ∀ q : Nat, s.heap.size ≤ q → A q := fun q h => by rw [← hAe]; exact Or.inr h
  clear hAe hD0
  have hS : va_S A s.heap s.heap [] := va_S.rf
  have hl := lv_entry ([.int (Int32.ofInt x0), .int (Int32.ofInt x1), .null]) (n := 3) (Nat.le_of_ble_eq_true rfl)
  rw [lg_entry_eq]
  generalize (lg_sl ([.int (Int32.ofInt x0), .int (Int32.ofInt x1), .null]) ++ List.replicate (3 - (lg_sl ([.int (Int32.ofInt x0), .int (Int32.ofInt x1), .null])).length) Slot.unset).toArray = ls at hl ⊢
  have hl : lv_has ls 3 [(0, .int (Int32.ofInt x0)), (1, .int (Int32.ofInt x1)), (2, .null)] := hl
  refine W_nameQ (fun Q hQ => ?_)
  obtain ⟨H, hH⟩ : ∃ H, H = s.heap := ⟨_, rfl⟩
  replace hS : va_S A s.heap H [] := by rw [hH]; exact hS
  replace hP : va_P D vwCl [] H := by rw [hH]; exact hP
  rw [← hH]
  clear hH
  unfold f_J3_checkIndex_8e157 at hf
  refine lv_iload_n hx hb dJ3_checkIndex_8e157_0 rfl (lv_at hl 0 rfl) ?_
  have hr0 := ck_c hf
  replace hf := ck_r hf
  refine lv_if_lt (tgt := 9) hx hb dJ3_checkIndex_8e157_1 (by decide) (fun cc => ?_) (fun cc => ?_)
  ·
    replace hf := ite_t ((z_lt0 hr0).mp cc) hf
    clear cc
    cases hf
  ·
    replace hf := ite_f (fun h9 => cc ((z_lt0 hr0).mpr h9)) hf
    clear cc
    refine lv_iload_n hx hb dJ3_checkIndex_8e157_4 rfl (lv_at hl 0 rfl) ?_
    refine lv_iload_n hx hb dJ3_checkIndex_8e157_5 rfl (lv_at hl 1 rfl) ?_
    have hr1 := ck_c hf
    replace hf := ck_r hf
    refine lv_icmp_lt (tgt := 16) hx hb dJ3_checkIndex_8e157_6 (by decide) (fun cc => ?_) (fun cc => ?_)
    ·
      replace hf := ite_t ((z_lt hr0 hr1).mp cc) hf
      clear cc
      refine lv_iload_n hx hb dJ3_checkIndex_8e157_16 rfl (lv_at hl 0 rfl) ?_
      obtain rfl := ou1 hf
      rw [hQ]
      exact W.iret hx hb hr (fun t ht hW => ⟨⟨_, (), rfl, rfl, by rw [ht]; exact hP, va_K.moved hW.alike hK, hD⟩, hS.F ht⟩) hS.2.2 dJ3_checkIndex_8e157_17
    ·
      replace hf := ite_f (fun h9 => cc ((z_lt hr0 hr1).mpr h9)) hf
      clear cc
      cases hf

noncomputable def f_J0_checkIndex_df160 (x0 : Int) (x1 : Int) : Option (Unit) := (bd1 (f_J3_checkIndex_8e157 x0 x1) (fun (z1 : Int) => (some ())))
abbrev rm_J0_checkIndex_df160 : Room := { frames := 1, cells := 0, slots := 0, locals := 22 }
theorem mwJ0_checkIndex_df160_0 : Cond.fieldLink RJ0 1053 "jdk/internal/util/Preconditions" "SIOOBE_FORMATTER" "Ljava/util/function/BiFunction;" ∈ wsJ0_checkIndex_df160 := by decide +kernel
set_option maxHeartbeats 8000000 in
set_option maxRecDepth 100000 in
theorem c_J0_checkIndex_df160 (l : Launch) (D : va_G) (G : Nat → ClassId) (sz : Nat) (adT adK adV : Nat → Nat) (x0 : Int) (x1 : Int)  (hf : f_J0_checkIndex_df160 x0 x1 = some ()) : Met l yJ0_checkIndex_df160 wsJ0_checkIndex_df160 rm_J0_checkIndex_df160 (pcGE D G adT adK adV [.int (Int32.ofInt x0), .int (Int32.ofInt x1)] sz []) (qcV D G [] (va_A [] sz)) 0 0 (va_A [] sz) := by
  refine Met.ofW (cc := cJ0_checkIndex_df160) (maxL := 2) (ret := none) (by decide) rfl ?_
  intro p e s m args below meth c s₁ B hml hv
  obtain ⟨rfl, hsz, hP, hK, hD0, hE⟩ := hv
  have hx := B.exec
  have hb := B.bytes
  have hr := B.returns
  have hts := atoms_spec (ws := wsJ0_checkIndex_df160) B.pre
  have hown : s.vm.findClass RJ0 = some m.cls := findClass_of_methodNamed B.named
  have hlocks := B.notSynchronized
  subst hsz
  have hD := hD0.self (sz := s.heap.size)
  generalize hAe : va_A [] s.heap.size = A at hD hE ⊢
  have hA : ∀ q : Nat, s.heap.size ≤ q → A q := fun q h => by rw [← hAe]; exact Or.inr h
  clear hAe hD0
  have hS : va_S A s.heap s.heap [] := va_S.rf
  have hl := lv_entry ([.int (Int32.ofInt x0), .int (Int32.ofInt x1)]) (n := 2) (Nat.le_of_ble_eq_true rfl)
  rw [lg_entry_eq]
  generalize (lg_sl ([.int (Int32.ofInt x0), .int (Int32.ofInt x1)]) ++ List.replicate (2 - (lg_sl ([.int (Int32.ofInt x0), .int (Int32.ofInt x1)])).length) Slot.unset).toArray = ls at hl ⊢
  have hl : lv_has ls 2 [(0, .int (Int32.ofInt x0)), (1, .int (Int32.ofInt x1))] := hl
  refine W_nameQ (fun Q hQ => ?_)
  obtain ⟨H, hH⟩ : ∃ H, H = s.heap := ⟨_, rfl⟩
  replace hS : va_S A s.heap H [] := by rw [hH]; exact hS
  replace hP : va_P D vwCl [] H := by rw [hH]; exact hP
  rw [← hH]
  clear hH
  unfold f_J0_checkIndex_df160 at hf
  refine lv_iload_n hx hb dJ0_checkIndex_df160_0 rfl (lv_at hl 0 rfl) ?_
  refine lv_iload_n hx hb dJ0_checkIndex_df160_1 rfl (lv_at hl 1 rfl) ?_
  rcases hE.2.2.1 with hvq | ⟨tq, hvq⟩
  ·
    refine va_gets (C := "jdk/internal/util/Preconditions") (n := "SIOOBE_FORMATTER") (d := "Ljava/util/function/BiFunction;") (v := .null) hx hb hvq hS hown (hts _ mwJ0_checkIndex_df160_0) (fun _ h9 => h9) dJ0_checkIndex_df160_2 ?_
    have hq := bd1_s hf
    clear hf
    obtain ⟨z1, hcall, hf⟩ := hq
    refine gcI (ws' := []) (va_runS (As := [.int (Int32.ofInt x0), .int (Int32.ofInt x1), .null]) (rest := []) ⟨hx, hb, hml, hown, hts⟩ (c_J3_checkIndex_8e157_N (l := l) (D := D) (G := G) (sz := H.size) (adT := adT) (adK := adK) (adV := adV) (x0 := x0) (x1 := x1) (r := z1) (hf := hcall)) (va_cwS 3 hts gJ0_checkIndex_df160_J3_checkIndex_8e157 rfl rfl rfl (by decide +kernel) ⟨Nat.le_of_ble_eq_true rfl, Nat.le_of_ble_eq_true rfl⟩) (preGE_S (hP.sub [] rfl) (hD.sub [] rfl rfl) hK hE hS hA) rfl rfl hl.1 rfl (lv_room (Nat.le_of_ble_eq_true rfl)) dJ0_checkIndex_df160_5 ⟨Nat.le_of_ble_eq_true rfl, Nat.le_of_ble_eq_true rfl⟩) hP hD hS hA [] [] [] rfl rfl rfl (by decide) rfl rfl rfl (fun H locs hP hD hS => ?_)
    clear hcall
    refine lv_pop hx hb dJ0_checkIndex_df160_8 rfl ?_
    rw [hQ]
    exact W.vret hx hb hr (fun t ht hW => ⟨⟨(), rfl, trivial, by rw [ht]; exact hP, va_K.moved hW.alike hK, hD⟩, hS.F ht⟩) hS.2.2 dJ0_checkIndex_df160_9
  ·
    refine va_gets (C := "jdk/internal/util/Preconditions") (n := "SIOOBE_FORMATTER") (d := "Ljava/util/function/BiFunction;") (v := .ref tq) hx hb hvq hS hown (hts _ mwJ0_checkIndex_df160_0) (fun _ h9 => h9) dJ0_checkIndex_df160_2 ?_
    have hq := bd1_s hf
    clear hf
    obtain ⟨z2, hcall, hf⟩ := hq
    refine gcI (ws' := []) (va_runS (As := [.int (Int32.ofInt x0), .int (Int32.ofInt x1), .ref tq]) (rest := []) ⟨hx, hb, hml, hown, hts⟩ (c_J3_checkIndex_8e157 (l := l) (D := D) (G := G) (sz := H.size) (adT := adT) (adK := adK) (adV := adV) (x0 := x0) (x1 := x1) (x2 := tq) (r := z2) (hf := hcall)) (va_cwS 3 hts gJ0_checkIndex_df160_J3_checkIndex_8e157 rfl rfl rfl (by decide +kernel) ⟨Nat.le_of_ble_eq_true rfl, Nat.le_of_ble_eq_true rfl⟩) (preGE_S (hP.sub [] rfl) (hD.sub [] rfl rfl) hK hE hS hA) rfl rfl hl.1 rfl (lv_room (Nat.le_of_ble_eq_true rfl)) dJ0_checkIndex_df160_5 ⟨Nat.le_of_ble_eq_true rfl, Nat.le_of_ble_eq_true rfl⟩) hP hD hS hA [] [] [] rfl rfl rfl (by decide) rfl rfl rfl (fun H locs hP hD hS => ?_)
    clear hcall
    refine lv_pop hx hb dJ0_checkIndex_df160_8 rfl ?_
    rw [hQ]
    exact W.vret hx hb hr (fun t ht hW => ⟨⟨(), rfl, trivial, by rw [ht]; exact hP, va_K.moved hW.alike hK, hD⟩, hS.F ht⟩) hS.2.2 dJ0_checkIndex_df160_9

noncomputable def f_J1_charAt_3b067 (x0 : Int) (x1 : Int) : Option (Int) := (ck (z_ix x0 11) (bd0 (f_J0_checkIndex_df160 x1 (z_sl x0)) ((ck (z_ix x1 (z_Sl.getD (x0).toNat 0)) (ck (z_cC (z_i2c (z_and (z_sb x0 x1) (255 : Int)))) (some (z_i2c (z_and (z_sb x0 x1) (255 : Int)))))))))
abbrev rm_J1_charAt_3b067 : Room := { frames := 2, cells := 0, slots := 0, locals := 43 }
set_option maxHeartbeats 8000000 in
set_option maxRecDepth 100000 in
theorem c_J1_charAt_3b067 (l : Launch) (D : va_G) (G : Nat → ClassId) (sz : Nat) (adT adK adV : Nat → Nat) (x0 : Int) (x1 : Int) (r : Int) (hf : f_J1_charAt_3b067 x0 x1 = some r) : Met l yJ1_charAt_3b067 wsJ1_charAt_3b067 rm_J1_charAt_3b067 (pcGE D G adT adK adV [.ref (adV (x0).toNat), .int (Int32.ofInt x1)] sz []) (qcI D G (Int32.ofInt r) [] (va_A [] sz)) 0 0 (va_A [] sz) := by
  refine Met.ofW (cc := cJ1_charAt_3b067) (maxL := 2) (ret := (some .char)) (by decide) rfl ?_
  intro p e s m args below meth c s₁ B hml hv
  obtain ⟨rfl, hsz, hP, hK, hD0, hE⟩ := hv
  have hx := B.exec
  have hb := B.bytes
  have hr := B.returns
  have hts := atoms_spec (ws := wsJ1_charAt_3b067) B.pre
  have hown : s.vm.findClass RJ1 = some m.cls := findClass_of_methodNamed B.named
  have hlocks := B.notSynchronized
  subst hsz
  have hD := hD0.self (sz := s.heap.size)
  generalize hAe : va_A [] s.heap.size = A at hD hE ⊢
  have hA : ∀ q : Nat, s.heap.size ≤ q → A q := fun q h => by rw [← hAe]; exact Or.inr h
  clear hAe hD0
  have hS : va_S A s.heap s.heap [] := va_S.rf
  have hl := lv_entry ([.ref (adV (x0).toNat), .int (Int32.ofInt x1)]) (n := 2) (Nat.le_of_ble_eq_true rfl)
  rw [lg_entry_eq]
  generalize (lg_sl ([.ref (adV (x0).toNat), .int (Int32.ofInt x1)]) ++ List.replicate (2 - (lg_sl ([.ref (adV (x0).toNat), .int (Int32.ofInt x1)])).length) Slot.unset).toArray = ls at hl ⊢
  have hl : lv_has ls 2 [(0, .ref (adV (x0).toNat)), (1, .int (Int32.ofInt x1))] := hl
  refine W_nameQ (fun Q hQ => ?_)
  obtain ⟨H, hH⟩ : ∃ H, H = s.heap := ⟨_, rfl⟩
  replace hS : va_S A s.heap H [] := by rw [hH]; exact hS
  replace hP : va_P D vwCl [] H := by rw [hH]; exact hP
  rw [← hH]
  clear hH
  unfold f_J1_charAt_3b067 at hf
  refine lv_iload_n hx hb dJ1_charAt_3b067_0 rfl (lv_at hl 1 rfl) ?_
  refine lv_aload_n hx hb dJ1_charAt_3b067_1 rfl (lv_at hl 0 rfl) ?_
  have hr0 := ck_c hf
  replace hf := ck_r hf
  refine va_tlen (v := Int32.ofInt (z_sl x0)) hx hb (hE.2.2.2.1.1 _ (z_ix_n hr0)).2.2.2 hS (z_len _) dJ1_charAt_3b067_2 ?_
  have hq := bd0_s hf
  clear hf
  obtain ⟨hcall, hf⟩ := hq
  refine gcV (ws' := []) (va_runS (As := [.int (Int32.ofInt x1), .int (Int32.ofInt (z_sl x0))]) (rest := []) ⟨hx, hb, hml, hown, hts⟩ (c_J0_checkIndex_df160 (l := l) (D := D) (G := G) (sz := H.size) (adT := adT) (adK := adK) (adV := adV) (x0 := x1) (x1 := (z_sl x0)) (hf := hcall)) (va_cwS 2 hts gJ1_charAt_3b067_J0_checkIndex_df160 rfl rfl rfl (by decide +kernel) ⟨Nat.le_of_ble_eq_true rfl, Nat.le_of_ble_eq_true rfl⟩) (preGE_S (hP.sub [] rfl) (hD.sub [] rfl rfl) hK hE hS hA) rfl rfl hl.1 rfl (lv_room (Nat.le_of_ble_eq_true rfl)) dJ1_charAt_3b067_3 ⟨Nat.le_of_ble_eq_true rfl, Nat.le_of_ble_eq_true rfl⟩) hP hD hS hA [] [] [] rfl rfl rfl (by decide) rfl rfl rfl (fun H locs hP hD hS => ?_)
  clear hcall
  refine lv_aload_n hx hb dJ1_charAt_3b067_6 rfl (lv_at hl 0 rfl) ?_
  refine lv_iload_n hx hb dJ1_charAt_3b067_7 rfl (lv_at hl 1 rfl) ?_
  have hc := ck_c hf
  replace hf := ck_r hf
  refine va_tb (v := .int (Int32.ofInt (z_sb x0 x1))) hx hb (hE.2.2.2.1.1 _ (z_ix_n hr0)).2.2.2 hS (z_ix_in hc) (z_sb_e hc) dJ1_charAt_3b067_8 ?_
  clear hc
  refine lv_sipush (v := Int32.ofInt (255 : Int)) hx hb dJ1_charAt_3b067_9 (by decide) ?_
  refine lv_iand hx hb dJ1_charAt_3b067_12 (z_ci (z_and_e (z_sb x0 x1) (255 : Int)) ?_)
  refine lv_i2c (v := Int32.ofInt (z_i2c (z_and (z_sb x0 x1) (255 : Int)))) hx hb dJ1_charAt_3b067_13 (z_i2c_e (z_and (z_sb x0 x1) (255 : Int))).symm ?_
  have hz := ck_c hf
  replace hf := ck_r hf
  obtain rfl := ou1 hf
  rw [hQ]
  exact W.zret hx hb hr (z_cCn hz) (fun t ht hW => ⟨⟨_, (), rfl, rfl, by rw [ht]; exact hP, va_K.moved hW.alike hK, hD⟩, hS.F ht⟩) hS.2.2 dJ1_charAt_3b067_14

noncomputable def f_J0_charAt_5068e (x0 : Int) (x1 : Int) : Option (Int) := (bd1 (f_J0_isLatin1_aae02 x0) (fun (z1 : Int) => (ck (z_ix x0 11) (ck (z_r32 z1) (if z1 = (0 : Int) then none else (bd1 (f_J1_charAt_3b067 x0 x1) (fun (z4 : Int) => (ck (z_cC z4) (some z4)))))))))
abbrev rm_J0_charAt_5068e : Room := { frames := 3, cells := 0, slots := 0, locals := 64 }
theorem mwJ0_charAt_5068e_0 : Cond.fieldLink RJ0 9 "java/lang/String" "value" "[B" ∈ wsJ0_charAt_5068e := by decide +kernel
set_option maxHeartbeats 8000000 in
set_option maxRecDepth 100000 in
theorem c_J0_charAt_5068e (l : Launch) (D : va_G) (G : Nat → ClassId) (sz : Nat) (adT adK adV : Nat → Nat) (x0 : Int) (x1 : Int) (r : Int) (hf : f_J0_charAt_5068e x0 x1 = some r) : Met l yJ0_charAt_5068e wsJ0_charAt_5068e rm_J0_charAt_5068e (pcGE D G adT adK adV [.ref (adK (x0).toNat), .int (Int32.ofInt x1)] sz []) (qcI D G (Int32.ofInt r) [] (va_A [] sz)) 0 0 (va_A [] sz) := by
  refine Met.ofW (cc := cJ0_charAt_5068e) (maxL := 2) (ret := (some .char)) (by decide) rfl ?_
  intro p e s m args below meth c s₁ B hml hv
  obtain ⟨rfl, hsz, hP, hK, hD0, hE⟩ := hv
  have hx := B.exec
  have hb := B.bytes
  have hr := B.returns
  have hts := atoms_spec (ws := wsJ0_charAt_5068e) B.pre
  have hown : s.vm.findClass RJ0 = some m.cls := findClass_of_methodNamed B.named
  have hlocks := B.notSynchronized
  subst hsz
  have hD := hD0.self (sz := s.heap.size)
  generalize hAe : va_A [] s.heap.size = A at hD hE ⊢
  have hA : ∀ q : Nat, s.heap.size ≤ q → A q := fun q h => by rw [← hAe]; exact Or.inr h
  clear hAe hD0
  have hS : va_S A s.heap s.heap [] := va_S.rf
  have hl := lv_entry ([.ref (adK (x0).toNat), .int (Int32.ofInt x1)]) (n := 2) (Nat.le_of_ble_eq_true rfl)
  rw [lg_entry_eq]
  generalize (lg_sl ([.ref (adK (x0).toNat), .int (Int32.ofInt x1)]) ++ List.replicate (2 - (lg_sl ([.ref (adK (x0).toNat), .int (Int32.ofInt x1)])).length) Slot.unset).toArray = ls at hl ⊢
  have hl : lv_has ls 2 [(0, .ref (adK (x0).toNat)), (1, .int (Int32.ofInt x1))] := hl
  refine W_nameQ (fun Q hQ => ?_)
  obtain ⟨H, hH⟩ : ∃ H, H = s.heap := ⟨_, rfl⟩
  replace hS : va_S A s.heap H [] := by rw [hH]; exact hS
  replace hP : va_P D vwCl [] H := by rw [hH]; exact hP
  rw [← hH]
  clear hH
  unfold f_J0_charAt_5068e at hf
  refine lv_aload_n hx hb dJ0_charAt_5068e_0 rfl (lv_at hl 0 rfl) ?_
  have hq := bd1_s hf
  clear hf
  obtain ⟨z1, hcall, hf⟩ := hq
  have hr1 := ck_c hf
  replace hf := ck_r hf
  refine gcI (ws' := []) (va_runV (As := []) (rest := []) ⟨hx, hb, hml, hown, hts⟩ (c_J0_isLatin1_aae02 (l := l) (D := D) (G := G) (sz := H.size) (adT := adT) (adK := adK) (adV := adV) (x0 := x0) (r := z1) (hf := hcall)) (cwV 0 hts gJ0_charAt_5068e_J0_isLatin1_aae02 rfl rfl rfl (by decide +kernel) ⟨Nat.le_of_ble_eq_true rfl, Nat.le_of_ble_eq_true rfl⟩) (preGE_K (z_ix_n hr1) hK hE hS hA) rfl rfl hl.1 rfl (lv_room (Nat.le_of_ble_eq_true rfl)) dJ0_charAt_5068e_1 ⟨Nat.le_of_ble_eq_true rfl, Nat.le_of_ble_eq_true rfl⟩) hP hD hS hA [] [] [] rfl rfl rfl (by decide) rfl rfl rfl (fun H locs hP hD hS => ?_)
  clear hcall
  have hr2 := ck_c hf
  replace hf := ck_r hf
  refine lv_if_eq (tgt := 16) hx hb dJ0_charAt_5068e_4 (by decide) (fun cc => ?_) (fun cc => ?_)
  ·
    replace hf := ite_t ((z_eq0 hr2).mp cc) hf
    clear cc
    refine lv_aload_n hx hb dJ0_charAt_5068e_16 rfl (lv_at hl 0 rfl) ?_
    refine vk_getf hx hb (hE.2.2.2.1.1 _ (z_ix_n hr1)).2.2.1 hS hown (hts _ mwJ0_charAt_5068e_0) (fun _ h9 => h9) dJ0_charAt_5068e_17 ?_
    refine lv_iload_n hx hb dJ0_charAt_5068e_20 rfl (lv_at hl 1 rfl) ?_
    cases hf
  ·
    replace hf := ite_f (fun h9 => cc ((z_eq0 hr2).mpr h9)) hf
    clear cc
    refine lv_aload_n hx hb dJ0_charAt_5068e_7 rfl (lv_at hl 0 rfl) ?_
    refine vk_getf hx hb (hE.2.2.2.1.1 _ (z_ix_n hr1)).2.2.1 hS hown (hts _ mwJ0_charAt_5068e_0) (fun _ h9 => h9) dJ0_charAt_5068e_8 ?_
    refine lv_iload_n hx hb dJ0_charAt_5068e_11 rfl (lv_at hl 1 rfl) ?_
    have hq := bd1_s hf
    clear hf
    obtain ⟨z4, hcall, hf⟩ := hq
    refine gcI (ws' := []) (va_runS (As := [.ref (adV (x0).toNat), .int (Int32.ofInt x1)]) (rest := []) ⟨hx, hb, hml, hown, hts⟩ (c_J1_charAt_3b067 (l := l) (D := D) (G := G) (sz := H.size) (adT := adT) (adK := adK) (adV := adV) (x0 := x0) (x1 := x1) (r := z4) (hf := hcall)) (va_cwS 2 hts gJ0_charAt_5068e_J1_charAt_3b067 rfl rfl rfl (by decide +kernel) ⟨Nat.le_of_ble_eq_true rfl, Nat.le_of_ble_eq_true rfl⟩) (preGE_S (hP.sub [] rfl) (hD.sub [] rfl rfl) hK hE hS hA) rfl rfl hl.1 rfl (lv_room (Nat.le_of_ble_eq_true rfl)) dJ0_charAt_5068e_12 ⟨Nat.le_of_ble_eq_true rfl, Nat.le_of_ble_eq_true rfl⟩) hP hD hS hA [] [] [] rfl rfl rfl (by decide) rfl rfl rfl (fun H locs hP hD hS => ?_)
    clear hcall
    have hz := ck_c hf
    replace hf := ck_r hf
    obtain rfl := ou1 hf
    rw [hQ]
    exact W.zret hx hb hr (z_cCn hz) (fun t ht hW => ⟨⟨_, (), rfl, rfl, by rw [ht]; exact hP, va_K.moved hW.alike hK, hD⟩, hS.F ht⟩) hS.2.2 dJ0_charAt_5068e_15

noncomputable def B_X9_isNamed_20 (x1 : Int) (i_p0_start : Int) (v_p0_bytes : (Int → Int)) (again20 : Int → Option (Int)) (z6 : Int) : Option (Int) := (bd1 (f_J0_length_8abf5 x1) (fun (z8 : Int) => (ck (z_r32 z6) (ck (z_r32 z8) (if z8 ≤ z6 then (some (1 : Int)) else (ck (z_ix (i_p0_start + z6) 320) (bd1 (f_J0_charAt_5068e x1 z6) (fun (z11 : Int) => (ck (z_r32 (v_p0_bytes (i_p0_start + z6))) (ck (z_r32 z11) (if (v_p0_bytes (i_p0_start + z6)) = z11 then (bnd (z6 + (1 : Int)) (fun (z14 : Int) => (again20 z14))) else (some (0 : Int)))))))))))))
noncomputable def f_X9_isNamed (i_p0_at : Int) (i_p0_start : Int) (v_p0_bytes : (Int → Int)) (x1 : Int) : Option (Int) := (bd1 (f_J0_length_8abf5 x1) (fun (z1 : Int) => (ck (z_ix x1 11) (ck (z_r32 (i_p0_at - i_p0_start)) (ck (z_r32 z1) (if (i_p0_at - i_p0_start) = z1 then (bnd (0 : Int) (fun (z5 : Int) => (lq1 (B_X9_isNamed_20 x1 i_p0_start v_p0_bytes) 1000 z5))) else (some (0 : Int))))))))
abbrev rm_X9_isNamed : Room := { frames := 4, cells := 0, slots := 0, locals := 85 }
theorem inX9_isNamed_X9 : ∀ w ∈ wsX90, w ∈ wsX9_isNamed := by decide +kernel
theorem mwX9_isNamed_1 : Cond.fieldLink RX9 19 "LadleKings$Tape" "at" "I" ∈ wsX9_isNamed := by decide +kernel
theorem mwX9_isNamed_2 : Cond.fieldLink RX9 25 "LadleKings$Tape" "start" "I" ∈ wsX9_isNamed := by decide +kernel
theorem mwX9_isNamed_3 : Cond.fieldLink RX9 9 "LadleKings$Tape" "bytes" "[B" ∈ wsX9_isNamed := by decide +kernel
set_option maxHeartbeats 8000000 in
set_option maxRecDepth 100000 in
theorem c_X9_isNamed (l : Launch) (D : va_G) (G : Nat → ClassId) (sz : Nat) (adT adK adV : Nat → Nat) (a_p0 : Nat) (a_p0_bytes : Nat) (i_p0_length : Int) (i_p0_at : Int) (i_p0_token : Int) (i_p0_start : Int) (i_p0_value : Int) (v_p0_bytes : (Int → Int)) (x1 : Int) (r : Int) (hf : f_X9_isNamed i_p0_at i_p0_start v_p0_bytes x1 = some r) : Met l yX9_isNamed wsX9_isNamed rm_X9_isNamed (pcGE D G adT adK adV [.ref a_p0, .ref (adK (x1).toNat)] sz [(a_p0, .inr (9, [.ref a_p0_bytes, .int (Int32.ofInt i_p0_length), .int (Int32.ofInt i_p0_at), .int (Int32.ofInt i_p0_token), .int (Int32.ofInt i_p0_start), .int (Int32.ofInt i_p0_value)])), (a_p0_bytes, .inl (G 0, 320, .inl (zA v_p0_bytes)))]) (qcI D G (Int32.ofInt r) [(a_p0, .inr (9, [.ref a_p0_bytes, .int (Int32.ofInt i_p0_length), .int (Int32.ofInt i_p0_at), .int (Int32.ofInt i_p0_token), .int (Int32.ofInt i_p0_start), .int (Int32.ofInt i_p0_value)])), (a_p0_bytes, .inl (G 0, 320, .inl (zA v_p0_bytes)))] (va_A [(a_p0, .inr (9, [.ref a_p0_bytes, .int (Int32.ofInt i_p0_length), .int (Int32.ofInt i_p0_at), .int (Int32.ofInt i_p0_token), .int (Int32.ofInt i_p0_start), .int (Int32.ofInt i_p0_value)])), (a_p0_bytes, .inl (G 0, 320, .inl (zA v_p0_bytes)))] sz)) 0 0 (va_A [(a_p0, .inr (9, [.ref a_p0_bytes, .int (Int32.ofInt i_p0_length), .int (Int32.ofInt i_p0_at), .int (Int32.ofInt i_p0_token), .int (Int32.ofInt i_p0_start), .int (Int32.ofInt i_p0_value)])), (a_p0_bytes, .inl (G 0, 320, .inl (zA v_p0_bytes)))] sz) := by
  refine Met.ofW (cc := cX9_isNamed) (maxL := 3) (ret := (some .boolean)) (by decide) rfl ?_
  intro p e s m args below meth c s₁ B hml hv
  obtain ⟨rfl, hsz, hP, hK, hD0, hE⟩ := hv
  have hx := B.exec
  have hb := B.bytes
  have hr := B.returns
  have hts := atoms_spec (ws := wsX9_isNamed) B.pre
  have hown : s.vm.findClass RX9 = some m.cls := findClass_of_methodNamed B.named
  have hlocks := B.notSynchronized
  subst hsz
  have hD := hD0.self (sz := s.heap.size)
  generalize hAe : va_A [(a_p0, .inr (9, [.ref a_p0_bytes, .int (Int32.ofInt i_p0_length), .int (Int32.ofInt i_p0_at), .int (Int32.ofInt i_p0_token), .int (Int32.ofInt i_p0_start), .int (Int32.ofInt i_p0_value)])), (a_p0_bytes, .inl (G 0, 320, .inl (zA v_p0_bytes)))] s.heap.size = A at hD hE ⊢
  have hA : ∀ q : Nat, s.heap.size ≤ q → A q := fun q h => by rw [← hAe]; exact Or.inr h
  clear hAe hD0
  have hS : va_S A s.heap s.heap [] := va_S.rf
  have hl := lv_entry ([.ref a_p0, .ref (adK (x1).toNat)]) (n := 3) (Nat.le_of_ble_eq_true rfl)
  rw [lg_entry_eq]
  generalize (lg_sl ([.ref a_p0, .ref (adK (x1).toNat)]) ++ List.replicate (3 - (lg_sl ([.ref a_p0, .ref (adK (x1).toNat)])).length) Slot.unset).toArray = ls at hl ⊢
  have hl : lv_has ls 3 [(0, .ref a_p0), (1, .ref (adK (x1).toNat))] := hl
  refine W_nameQ (fun Q hQ => ?_)
  obtain ⟨H, hH⟩ : ∃ H, H = s.heap := ⟨_, rfl⟩
  replace hS : va_S A s.heap H [] := by rw [hH]; exact hS
  replace hP : va_P D vwCl [(a_p0, .inr (9, [.ref a_p0_bytes, .int (Int32.ofInt i_p0_length), .int (Int32.ofInt i_p0_at), .int (Int32.ofInt i_p0_token), .int (Int32.ofInt i_p0_start), .int (Int32.ofInt i_p0_value)])), (a_p0_bytes, .inl (G 0, 320, .inl (zA v_p0_bytes)))] H := by rw [hH]; exact hP
  rw [← hH]
  clear hH
  unfold f_X9_isNamed at hf
  refine lv_aload_n hx hb dX9_isNamed_0 rfl (lv_at hl 0 rfl) ?_
  refine va_get (D := D) (ci := 9) (v := .int (Int32.ofInt i_p0_at)) (C := RX9) (T := TX9) (N := 6) hx hb hts inX9_isNamed_X9 hown hK hP 0 rfl rfl 2 (by decide) (hts _ mwX9_isNamed_1) (fun _ h9 => h9) rfl dX9_isNamed_1 ?_
  refine lv_aload_n hx hb dX9_isNamed_4 rfl (lv_at hl 0 rfl) ?_
  refine va_get (D := D) (ci := 9) (v := .int (Int32.ofInt i_p0_start)) (C := RX9) (T := TX9) (N := 6) hx hb hts inX9_isNamed_X9 hown hK hP 0 rfl rfl 4 (by decide) (hts _ mwX9_isNamed_2) (fun _ h9 => h9) rfl dX9_isNamed_5 ?_
  refine lv_isub hx hb dX9_isNamed_8 (z_ci (Int32.ofInt_sub i_p0_at i_p0_start) ?_)
  refine lv_aload_n hx hb dX9_isNamed_9 rfl (lv_at hl 1 rfl) ?_
  have hq := bd1_s hf
  clear hf
  obtain ⟨z1, hcall, hf⟩ := hq
  have hr1 := ck_c hf
  replace hf := ck_r hf
  refine gcI (ws' := [(a_p0, .inr (9, [.ref a_p0_bytes, .int (Int32.ofInt i_p0_length), .int (Int32.ofInt i_p0_at), .int (Int32.ofInt i_p0_token), .int (Int32.ofInt i_p0_start), .int (Int32.ofInt i_p0_value)])), (a_p0_bytes, .inl (G 0, 320, .inl (zA v_p0_bytes)))]) (va_runV (As := []) (rest := [.int (Int32.ofInt (i_p0_at - i_p0_start))]) ⟨hx, hb, hml, hown, hts⟩ (c_J0_length_8abf5 (l := l) (D := D) (G := G) (sz := H.size) (adT := adT) (adK := adK) (adV := adV) (x0 := x1) (r := z1) (hf := hcall)) (cwV 0 hts gX9_isNamed_J0_length_8abf5 rfl rfl rfl (by decide +kernel) ⟨Nat.le_of_ble_eq_true rfl, Nat.le_of_ble_eq_true rfl⟩) (preGE_K (z_ix_n hr1) hK hE hS hA) rfl rfl hl.1 rfl (lv_room (Nat.le_of_ble_eq_true rfl)) dX9_isNamed_10 ⟨Nat.le_of_ble_eq_true rfl, Nat.le_of_ble_eq_true rfl⟩) hP hD hS hA [] [0, 1] [0, 1] rfl rfl rfl (by decide) rfl rfl rfl (fun H locs hP hD hS => ?_)
  clear hcall
  have hr2 := ck_c hf
  replace hf := ck_r hf
  have hr3 := ck_c hf
  replace hf := ck_r hf
  refine lv_icmp_eq (tgt := 18) hx hb dX9_isNamed_13 (by decide) (fun cc => ?_) (fun cc => ?_)
  ·
    replace hf := ite_t ((z_eq hr2 hr3).mp cc) hf
    clear cc
    refine lv_iconst (v := Int32.ofInt (0 : Int)) hx hb dX9_isNamed_18 (by decide) ?_
    refine z_topi (fun z5 ez => ?_)
    replace hf := bnd_s hf ez
    clear ez
    refine lv_istore_n (lv' := [(2, .int (Int32.ofInt z5)), (0, .ref a_p0), (1, .ref (adK (x1).toNat))]) hx hb dX9_isNamed_19 rfl hl (by decide) rfl (fun ls hl => ?_)
    have hq := lq1_i hf
    clear hf
    obtain ⟨B7, eB7, NB7, hf⟩ := hq
    have hB7 : ∀ (n : Nat) (z6 : Int) (ls : Array Slot) (H : Heap) (locs : List Loc), lv_has ls 3 [(2, .int (Int32.ofInt z6)), (0, .ref a_p0), (1, .ref (adK (x1).toNat))] → va_P D vwCl [(a_p0, .inr (9, [.ref a_p0_bytes, .int (Int32.ofInt i_p0_length), .int (Int32.ofInt i_p0_at), .int (Int32.ofInt i_p0_token), .int (Int32.ofInt i_p0_start), .int (Int32.ofInt i_p0_value)])), (a_p0_bytes, .inl (G 0, 320, .inl (zA v_p0_bytes)))] H → va_D A [(a_p0, .inr (9, [.ref a_p0_bytes, .int (Int32.ofInt i_p0_length), .int (Int32.ofInt i_p0_at), .int (Int32.ofInt i_p0_token), .int (Int32.ofInt i_p0_start), .int (Int32.ofInt i_p0_value)])), (a_p0_bytes, .inl (G 0, 320, .inl (zA v_p0_bytes)))] → va_S A s.heap H locs → lq1 B7 n z6 = some r → W p l e rm_X9_isNamed s m ([.ref a_p0, .ref (adK (x1).toNat)] : List Value).toArray below meth c H locs 0 0 Q (F0 m 20 ls []) := by
      clear hf hl hP hD hS
      intro n
      induction n with
      | zero =>
        intro z6 ls H locs hl hP hD hS hf
        exact (lq1_0 hf).elim
      | succ n ih20 =>
        intro z6 ls H locs hl hP hD hS hf
        replace hf := lq1_s eB7 hf
        unfold B_X9_isNamed_20 at hf
        refine lv_iload_n hx hb dX9_isNamed_20 rfl (lv_at hl 0 rfl) ?_
        refine lv_aload_n hx hb dX9_isNamed_21 rfl (lv_at hl 2 rfl) ?_
        have hq := bd1_s hf
        clear hf
        obtain ⟨z8, hcall, hf⟩ := hq
        refine gcI (ws' := [(a_p0, .inr (9, [.ref a_p0_bytes, .int (Int32.ofInt i_p0_length), .int (Int32.ofInt i_p0_at), .int (Int32.ofInt i_p0_token), .int (Int32.ofInt i_p0_start), .int (Int32.ofInt i_p0_value)])), (a_p0_bytes, .inl (G 0, 320, .inl (zA v_p0_bytes)))]) (va_runV (As := []) (rest := [.int (Int32.ofInt z6)]) ⟨hx, hb, hml, hown, hts⟩ (c_J0_length_8abf5 (l := l) (D := D) (G := G) (sz := H.size) (adT := adT) (adK := adK) (adV := adV) (x0 := x1) (r := z8) (hf := hcall)) (cwV 0 hts gX9_isNamed_J0_length_8abf5 rfl rfl rfl (by decide +kernel) ⟨Nat.le_of_ble_eq_true rfl, Nat.le_of_ble_eq_true rfl⟩) (preGE_K (z_ix_n hr1) hK hE hS hA) rfl rfl hl.1 rfl (lv_room (Nat.le_of_ble_eq_true rfl)) dX9_isNamed_22 ⟨Nat.le_of_ble_eq_true rfl, Nat.le_of_ble_eq_true rfl⟩) hP hD hS hA [] [0, 1] [0, 1] rfl rfl rfl (by decide) rfl rfl rfl (fun H locs hP hD hS => ?_)
        clear hcall
        have hr8 := ck_c hf
        replace hf := ck_r hf
        have hr9 := ck_c hf
        replace hf := ck_r hf
        refine lv_icmp_ge (tgt := 55) hx hb dX9_isNamed_25 (by decide) (fun cc => ?_) (fun cc => ?_)
        ·
          replace hf := ite_t ((z_le hr9 hr8).mp cc) hf
          clear cc
          refine lv_iconst (v := Int32.ofInt (1 : Int)) hx hb dX9_isNamed_55 (by decide) ?_
          obtain rfl := ou1 hf
          rw [hQ]
          exact W.zret hx hb hr rfl (fun t ht hW => ⟨⟨_, (), rfl, rfl, by rw [ht]; exact hP, va_K.moved hW.alike hK, hD⟩, hS.F ht⟩) hS.2.2 dX9_isNamed_56
        ·
          replace hf := ite_f (fun h9 => cc ((z_le hr9 hr8).mpr h9)) hf
          clear cc
          refine lv_aload_n hx hb dX9_isNamed_28 rfl (lv_at hl 1 rfl) ?_
          refine va_get (D := D) (ci := 9) (v := .ref a_p0_bytes) (C := RX9) (T := TX9) (N := 6) hx hb hts inX9_isNamed_X9 hown hK hP 0 rfl rfl 0 (by decide) (hts _ mwX9_isNamed_3) (fun _ h9 => h9) rfl dX9_isNamed_29 ?_
          refine lv_aload_n hx hb dX9_isNamed_32 rfl (lv_at hl 1 rfl) ?_
          refine va_get (D := D) (ci := 9) (v := .int (Int32.ofInt i_p0_start)) (C := RX9) (T := TX9) (N := 6) hx hb hts inX9_isNamed_X9 hown hK hP 0 rfl rfl 4 (by decide) (hts _ mwX9_isNamed_2) (fun _ h9 => h9) rfl dX9_isNamed_33 ?_
          refine lv_iload_n hx hb dX9_isNamed_36 rfl (lv_at hl 0 rfl) ?_
          refine lv_iadd hx hb dX9_isNamed_37 (z_ci (Int32.ofInt_add i_p0_start z6) ?_)
          have hc := ck_c hf
          replace hf := ck_r hf
          refine va_bald hx hb hK hP 1 0 rfl rfl (z_ix_in hc) dX9_isNamed_38 (z_ci (z_ald v_p0_bytes hc) ?_)
          clear hc
          refine lv_aload_n hx hb dX9_isNamed_39 rfl (lv_at hl 2 rfl) ?_
          refine lv_iload_n hx hb dX9_isNamed_40 rfl (lv_at hl 0 rfl) ?_
          have hq := bd1_s hf
          clear hf
          obtain ⟨z11, hcall, hf⟩ := hq
          refine gcI (ws' := [(a_p0, .inr (9, [.ref a_p0_bytes, .int (Int32.ofInt i_p0_length), .int (Int32.ofInt i_p0_at), .int (Int32.ofInt i_p0_token), .int (Int32.ofInt i_p0_start), .int (Int32.ofInt i_p0_value)])), (a_p0_bytes, .inl (G 0, 320, .inl (zA v_p0_bytes)))]) (va_runV (As := [.int (Int32.ofInt z6)]) (rest := [.int (Int32.ofInt (v_p0_bytes (i_p0_start + z6)))]) ⟨hx, hb, hml, hown, hts⟩ (c_J0_charAt_5068e (l := l) (D := D) (G := G) (sz := H.size) (adT := adT) (adK := adK) (adV := adV) (x0 := x1) (x1 := z6) (r := z11) (hf := hcall)) (cwV 1 hts gX9_isNamed_J0_charAt_5068e rfl rfl rfl (by decide +kernel) ⟨Nat.le_of_ble_eq_true rfl, Nat.le_of_ble_eq_true rfl⟩) (preGE_K (z_ix_n hr1) hK hE hS hA) rfl rfl hl.1 rfl (lv_room (Nat.le_of_ble_eq_true rfl)) dX9_isNamed_41 ⟨Nat.le_of_ble_eq_true rfl, Nat.le_of_ble_eq_true rfl⟩) hP hD hS hA [] [0, 1] [0, 1] rfl rfl rfl (by decide) rfl rfl rfl (fun H locs hP hD hS => ?_)
          clear hcall
          have hr11 := ck_c hf
          replace hf := ck_r hf
          have hr12 := ck_c hf
          replace hf := ck_r hf
          refine lv_icmp_eq (tgt := 49) hx hb dX9_isNamed_44 (by decide) (fun cc => ?_) (fun cc => ?_)
          ·
            replace hf := ite_t ((z_eq hr11 hr12).mp cc) hf
            clear cc
            obtain ⟨z14, ez⟩ : ∃ y : Int, y = (z6 + (1 : Int)) := ⟨_, rfl⟩
            replace hf := bnd_s hf ez
            refine lv_iinc (v := Int32.ofInt z14) (lv' := [(2, .int (Int32.ofInt z14)), (0, .ref a_p0), (1, .ref (adK (x1).toNat))]) hx hb dX9_isNamed_49 hl (k := 0) rfl (by rw [ez]; exact (Int32.ofInt_add _ _).symm) (by decide) rfl (fun ls hl => ?_)
            clear ez
            refine lv_goto (tgt := 20) hx hb dX9_isNamed_52 (by decide) ?_
            exact ih20 _ _ _ _ (lv_sub hl [0, 1, 2] rfl) hP hD hS hf
          ·
            replace hf := ite_f (fun h9 => cc ((z_eq hr11 hr12).mpr h9)) hf
            clear cc
            refine lv_iconst (v := Int32.ofInt (0 : Int)) hx hb dX9_isNamed_47 (by decide) ?_
            obtain rfl := ou1 hf
            rw [hQ]
            exact W.zret hx hb hr rfl (fun t ht hW => ⟨⟨_, (), rfl, rfl, by rw [ht]; exact hP, va_K.moved hW.alike hK, hD⟩, hS.F ht⟩) hS.2.2 dX9_isNamed_48
    exact hB7 _ _ _ _ _ (lv_sub hl [0, 1, 2] rfl) hP hD hS hf
  ·
    replace hf := ite_f (fun h9 => cc ((z_eq hr2 hr3).mpr h9)) hf
    clear cc
    refine lv_iconst (v := Int32.ofInt (0 : Int)) hx hb dX9_isNamed_16 (by decide) ?_
    obtain rfl := ou1 hf
    rw [hQ]
    exact W.zret hx hb hr rfl (fun t ht hW => ⟨⟨_, (), rfl, rfl, by rw [ht]; exact hP, va_K.moved hW.alike hK, hD⟩, hS.F ht⟩) hS.2.2 dX9_isNamed_17

noncomputable def f_X10_begin (v_p0_rules_need : (Int → Int)) (v_p0_state_pieces : (Int → Int)) (v_p0_state_friends : (Int → Int)) (v_p0_state_spoons : (Int → Int)) (v_p0_state_eaten : (Int → Int)) : Option (Int × Int × Int × Int × Int × Int × Int × (Int → Int) × Int × Int × Int × Int × (Int → Int) × (Int → Int) × (Int → Int) × (Int → Int)) := (bd3 (f_X6_reset v_p0_rules_need) (fun (z1 : Int) (z2 : Int) (w3 : (Int → Int)) => (bd8 (f_X8_reset v_p0_state_pieces v_p0_state_friends v_p0_state_spoons v_p0_state_eaten) (fun (z4 : Int) (z5 : Int) (z6 : Int) (z7 : Int) (w8 : (Int → Int)) (w9 : (Int → Int)) (w10 : (Int → Int)) (w11 : (Int → Int)) => (bd1 (f_X9_rewind) (fun (z12 : Int) => (bnd (0 : Int) (fun (z13 : Int) => (bnd (0 : Int) (fun (z14 : Int) => (bnd (0 : Int) (fun (z15 : Int) => (bnd (0 : Int) (fun (z16 : Int) => (some (z13, z14, z15, z16, z12, z1, z2, w3, z4, z5, z6, z7, w8, w9, w10, w11))))))))))))))))
abbrev rm_X10_begin : Room := { frames := 2, cells := 0, slots := 0, locals := 43 }
theorem inX10_begin_X10 : ∀ w ∈ wsX100, w ∈ wsX10_begin := by decide +kernel
theorem mwX10_begin_1 : Cond.fieldLink RX10 12 "LadleKings$TextReader" "rules" "LLadleKings$Rules;" ∈ wsX10_begin := by decide +kernel
theorem mwX10_begin_2 : Cond.fieldLink RX10 21 "LadleKings$TextReader" "state" "LLadleKings$State;" ∈ wsX10_begin := by decide +kernel
theorem mwX10_begin_3 : Cond.fieldLink RX10 45 "LadleKings$TextReader" "tape" "LLadleKings$Tape;" ∈ wsX10_begin := by decide +kernel
theorem mwX10_begin_4 : Cond.fieldLink RX10 25 "LadleKings$TextReader" "faultFound" "I" ∈ wsX10_begin := by decide +kernel
theorem mwX10_begin_5 : Cond.fieldLink RX10 32 "LadleKings$TextReader" "lines" "I" ∈ wsX10_begin := by decide +kernel
theorem mwX10_begin_6 : Cond.fieldLink RX10 35 "LadleKings$TextReader" "met" "I" ∈ wsX10_begin := by decide +kernel
theorem mwX10_begin_7 : Cond.fieldLink RX10 38 "LadleKings$TextReader" "greatest" "I" ∈ wsX10_begin := by decide +kernel
set_option maxHeartbeats 8000000 in
set_option maxRecDepth 100000 in
theorem c_X10_begin (l : Launch) (D : va_G) (G : Nat → ClassId) (sz : Nat) (a_p0 : Nat) (a_p0_tape : Nat) (a_p0_rules : Nat) (a_p0_state : Nat) (a_p0_numbers : Nat) (a_p0_tape_bytes : Nat) (a_p0_rules_need : Nat) (a_p0_rules_kind : Nat) (a_p0_rules_first : Nat) (a_p0_rules_second : Nat) (a_p0_rules_after : Nat) (a_p0_state_pieces : Nat) (a_p0_state_friends : Nat) (a_p0_state_spoons : Nat) (a_p0_state_eaten : Nat) (a_p0_state_seen : Nat) (i_p0_faultFound : Int) (i_p0_faultPlace : Int) (i_p0_lines : Int) (i_p0_met : Int) (i_p0_greatest : Int) (i_p0_tape_length : Int) (i_p0_tape_at : Int) (i_p0_tape_token : Int) (i_p0_tape_start : Int) (i_p0_tape_value : Int) (i_p0_rules_seats : Int) (i_p0_rules_stirs : Int) (v_p0_rules_need : (Int → Int)) (i_p0_state_seenDays : Int) (i_p0_state_bone : Int) (i_p0_state_king : Int) (i_p0_state_days : Int) (v_p0_state_pieces : (Int → Int)) (v_p0_state_friends : (Int → Int)) (v_p0_state_spoons : (Int → Int)) (v_p0_state_eaten : (Int → Int)) (o_i_p0_faultFound : Int) (o_i_p0_lines : Int) (o_i_p0_met : Int) (o_i_p0_greatest : Int) (o_i_p0_tape_at : Int) (o_i_p0_rules_seats : Int) (o_i_p0_rules_stirs : Int) (o_v_p0_rules_need : (Int → Int)) (o_i_p0_state_seenDays : Int) (o_i_p0_state_bone : Int) (o_i_p0_state_king : Int) (o_i_p0_state_days : Int) (o_v_p0_state_pieces : (Int → Int)) (o_v_p0_state_friends : (Int → Int)) (o_v_p0_state_spoons : (Int → Int)) (o_v_p0_state_eaten : (Int → Int)) (hf : f_X10_begin v_p0_rules_need v_p0_state_pieces v_p0_state_friends v_p0_state_spoons v_p0_state_eaten = some (o_i_p0_faultFound, o_i_p0_lines, o_i_p0_met, o_i_p0_greatest, o_i_p0_tape_at, o_i_p0_rules_seats, o_i_p0_rules_stirs, o_v_p0_rules_need, o_i_p0_state_seenDays, o_i_p0_state_bone, o_i_p0_state_king, o_i_p0_state_days, o_v_p0_state_pieces, o_v_p0_state_friends, o_v_p0_state_spoons, o_v_p0_state_eaten)) : Met l yX10_begin wsX10_begin rm_X10_begin (pcG D G [.ref a_p0] sz [(a_p0, .inr (10, [.ref a_p0_tape, .ref a_p0_rules, .ref a_p0_state, .int (Int32.ofInt i_p0_faultFound), .int (Int32.ofInt i_p0_faultPlace), .int (Int32.ofInt i_p0_lines), .int (Int32.ofInt i_p0_met), .int (Int32.ofInt i_p0_greatest), .ref a_p0_numbers])), (a_p0_tape, .inr (9, [.ref a_p0_tape_bytes, .int (Int32.ofInt i_p0_tape_length), .int (Int32.ofInt i_p0_tape_at), .int (Int32.ofInt i_p0_tape_token), .int (Int32.ofInt i_p0_tape_start), .int (Int32.ofInt i_p0_tape_value)])), (a_p0_rules, .inr (6, [.int (Int32.ofInt i_p0_rules_seats), .int (Int32.ofInt i_p0_rules_stirs), .ref a_p0_rules_need, .ref a_p0_rules_kind, .ref a_p0_rules_first, .ref a_p0_rules_second, .ref a_p0_rules_after])), (a_p0_rules_need, .inl (G 1, 7, .inl (zA v_p0_rules_need))), (a_p0_state, .inr (8, [.ref a_p0_state_pieces, .ref a_p0_state_friends, .ref a_p0_state_spoons, .ref a_p0_state_eaten, .ref a_p0_state_seen, .int (Int32.ofInt i_p0_state_seenDays), .int (Int32.ofInt i_p0_state_bone), .int (Int32.ofInt i_p0_state_king), .int (Int32.ofInt i_p0_state_days)])), (a_p0_state_pieces, .inl (G 1, 7, .inl (zA v_p0_state_pieces))), (a_p0_state_friends, .inl (G 1, 7, .inl (zA v_p0_state_friends))), (a_p0_state_spoons, .inl (G 1, 7, .inl (zA v_p0_state_spoons))), (a_p0_state_eaten, .inl (G 1, 7, .inl (zA v_p0_state_eaten)))]) (qcV D G [(a_p0, .inr (10, [.ref a_p0_tape, .ref a_p0_rules, .ref a_p0_state, .int (Int32.ofInt o_i_p0_faultFound), .int (Int32.ofInt i_p0_faultPlace), .int (Int32.ofInt o_i_p0_lines), .int (Int32.ofInt o_i_p0_met), .int (Int32.ofInt o_i_p0_greatest), .ref a_p0_numbers])), (a_p0_tape, .inr (9, [.ref a_p0_tape_bytes, .int (Int32.ofInt i_p0_tape_length), .int (Int32.ofInt o_i_p0_tape_at), .int (Int32.ofInt i_p0_tape_token), .int (Int32.ofInt i_p0_tape_start), .int (Int32.ofInt i_p0_tape_value)])), (a_p0_rules, .inr (6, [.int (Int32.ofInt o_i_p0_rules_seats), .int (Int32.ofInt o_i_p0_rules_stirs), .ref a_p0_rules_need, .ref a_p0_rules_kind, .ref a_p0_rules_first, .ref a_p0_rules_second, .ref a_p0_rules_after])), (a_p0_rules_need, .inl (G 1, 7, .inl (zA o_v_p0_rules_need))), (a_p0_state, .inr (8, [.ref a_p0_state_pieces, .ref a_p0_state_friends, .ref a_p0_state_spoons, .ref a_p0_state_eaten, .ref a_p0_state_seen, .int (Int32.ofInt o_i_p0_state_seenDays), .int (Int32.ofInt o_i_p0_state_bone), .int (Int32.ofInt o_i_p0_state_king), .int (Int32.ofInt o_i_p0_state_days)])), (a_p0_state_pieces, .inl (G 1, 7, .inl (zA o_v_p0_state_pieces))), (a_p0_state_friends, .inl (G 1, 7, .inl (zA o_v_p0_state_friends))), (a_p0_state_spoons, .inl (G 1, 7, .inl (zA o_v_p0_state_spoons))), (a_p0_state_eaten, .inl (G 1, 7, .inl (zA o_v_p0_state_eaten)))] (va_A [(a_p0, .inr (10, [.ref a_p0_tape, .ref a_p0_rules, .ref a_p0_state, .int (Int32.ofInt i_p0_faultFound), .int (Int32.ofInt i_p0_faultPlace), .int (Int32.ofInt i_p0_lines), .int (Int32.ofInt i_p0_met), .int (Int32.ofInt i_p0_greatest), .ref a_p0_numbers])), (a_p0_tape, .inr (9, [.ref a_p0_tape_bytes, .int (Int32.ofInt i_p0_tape_length), .int (Int32.ofInt i_p0_tape_at), .int (Int32.ofInt i_p0_tape_token), .int (Int32.ofInt i_p0_tape_start), .int (Int32.ofInt i_p0_tape_value)])), (a_p0_rules, .inr (6, [.int (Int32.ofInt i_p0_rules_seats), .int (Int32.ofInt i_p0_rules_stirs), .ref a_p0_rules_need, .ref a_p0_rules_kind, .ref a_p0_rules_first, .ref a_p0_rules_second, .ref a_p0_rules_after])), (a_p0_rules_need, .inl (G 1, 7, .inl (zA v_p0_rules_need))), (a_p0_state, .inr (8, [.ref a_p0_state_pieces, .ref a_p0_state_friends, .ref a_p0_state_spoons, .ref a_p0_state_eaten, .ref a_p0_state_seen, .int (Int32.ofInt i_p0_state_seenDays), .int (Int32.ofInt i_p0_state_bone), .int (Int32.ofInt i_p0_state_king), .int (Int32.ofInt i_p0_state_days)])), (a_p0_state_pieces, .inl (G 1, 7, .inl (zA v_p0_state_pieces))), (a_p0_state_friends, .inl (G 1, 7, .inl (zA v_p0_state_friends))), (a_p0_state_spoons, .inl (G 1, 7, .inl (zA v_p0_state_spoons))), (a_p0_state_eaten, .inl (G 1, 7, .inl (zA v_p0_state_eaten)))] sz)) 0 0 (va_A [(a_p0, .inr (10, [.ref a_p0_tape, .ref a_p0_rules, .ref a_p0_state, .int (Int32.ofInt i_p0_faultFound), .int (Int32.ofInt i_p0_faultPlace), .int (Int32.ofInt i_p0_lines), .int (Int32.ofInt i_p0_met), .int (Int32.ofInt i_p0_greatest), .ref a_p0_numbers])), (a_p0_tape, .inr (9, [.ref a_p0_tape_bytes, .int (Int32.ofInt i_p0_tape_length), .int (Int32.ofInt i_p0_tape_at), .int (Int32.ofInt i_p0_tape_token), .int (Int32.ofInt i_p0_tape_start), .int (Int32.ofInt i_p0_tape_value)])), (a_p0_rules, .inr (6, [.int (Int32.ofInt i_p0_rules_seats), .int (Int32.ofInt i_p0_rules_stirs), .ref a_p0_rules_need, .ref a_p0_rules_kind, .ref a_p0_rules_first, .ref a_p0_rules_second, .ref a_p0_rules_after])), (a_p0_rules_need, .inl (G 1, 7, .inl (zA v_p0_rules_need))), (a_p0_state, .inr (8, [.ref a_p0_state_pieces, .ref a_p0_state_friends, .ref a_p0_state_spoons, .ref a_p0_state_eaten, .ref a_p0_state_seen, .int (Int32.ofInt i_p0_state_seenDays), .int (Int32.ofInt i_p0_state_bone), .int (Int32.ofInt i_p0_state_king), .int (Int32.ofInt i_p0_state_days)])), (a_p0_state_pieces, .inl (G 1, 7, .inl (zA v_p0_state_pieces))), (a_p0_state_friends, .inl (G 1, 7, .inl (zA v_p0_state_friends))), (a_p0_state_spoons, .inl (G 1, 7, .inl (zA v_p0_state_spoons))), (a_p0_state_eaten, .inl (G 1, 7, .inl (zA v_p0_state_eaten)))] sz) := by
  refine Met.ofW (cc := cX10_begin) (maxL := 1) (ret := none) (by decide) rfl ?_
  intro p e s m args below meth c s₁ B hml hv
  obtain ⟨rfl, hsz, hP, hK, hD0⟩ := hv
  have hx := B.exec
  have hb := B.bytes
  have hr := B.returns
  have hts := atoms_spec (ws := wsX10_begin) B.pre
  have hown : s.vm.findClass RX10 = some m.cls := findClass_of_methodNamed B.named
  have hlocks := B.notSynchronized
  subst hsz
  have hD := hD0.self (sz := s.heap.size)
  generalize hAe : va_A [(a_p0, .inr (10, [.ref a_p0_tape, .ref a_p0_rules, .ref a_p0_state, .int (Int32.ofInt i_p0_faultFound), .int (Int32.ofInt i_p0_faultPlace), .int (Int32.ofInt i_p0_lines), .int (Int32.ofInt i_p0_met), .int (Int32.ofInt i_p0_greatest), .ref a_p0_numbers])), (a_p0_tape, .inr (9, [.ref a_p0_tape_bytes, .int (Int32.ofInt i_p0_tape_length), .int (Int32.ofInt i_p0_tape_at), .int (Int32.ofInt i_p0_tape_token), .int (Int32.ofInt i_p0_tape_start), .int (Int32.ofInt i_p0_tape_value)])), (a_p0_rules, .inr (6, [.int (Int32.ofInt i_p0_rules_seats), .int (Int32.ofInt i_p0_rules_stirs), .ref a_p0_rules_need, .ref a_p0_rules_kind, .ref a_p0_rules_first, .ref a_p0_rules_second, .ref a_p0_rules_after])), (a_p0_rules_need, .inl (G 1, 7, .inl (zA v_p0_rules_need))), (a_p0_state, .inr (8, [.ref a_p0_state_pieces, .ref a_p0_state_friends, .ref a_p0_state_spoons, .ref a_p0_state_eaten, .ref a_p0_state_seen, .int (Int32.ofInt i_p0_state_seenDays), .int (Int32.ofInt i_p0_state_bone), .int (Int32.ofInt i_p0_state_king), .int (Int32.ofInt i_p0_state_days)])), (a_p0_state_pieces, .inl (G 1, 7, .inl (zA v_p0_state_pieces))), (a_p0_state_friends, .inl (G 1, 7, .inl (zA v_p0_state_friends))), (a_p0_state_spoons, .inl (G 1, 7, .inl (zA v_p0_state_spoons))), (a_p0_state_eaten, .inl (G 1, 7, .inl (zA v_p0_state_eaten)))] s.heap.size = A at hD ⊢
  have hA : ∀ q : Nat, s.heap.size ≤ q → A q := fun q h => by rw [← hAe]; exact Or.inr h
  clear hAe hD0
  have hS : va_S A s.heap s.heap [] := va_S.rf
  have hl := lv_entry ([.ref a_p0]) (n := 1) (Nat.le_of_ble_eq_true rfl)
  rw [lg_entry_eq]
  generalize (lg_sl ([.ref a_p0]) ++ List.replicate (1 - (lg_sl ([.ref a_p0])).length) Slot.unset).toArray = ls at hl ⊢
  have hl : lv_has ls 1 [(0, .ref a_p0)] := hl
  refine W_nameQ (fun Q hQ => ?_)
  obtain ⟨H, hH⟩ : ∃ H, H = s.heap := ⟨_, rfl⟩
  replace hS : va_S A s.heap H [] := by rw [hH]; exact hS
  replace hP : va_P D vwCl [(a_p0, .inr (10, [.ref a_p0_tape, .ref a_p0_rules, .ref a_p0_state, .int (Int32.ofInt i_p0_faultFound), .int (Int32.ofInt i_p0_faultPlace), .int (Int32.ofInt i_p0_lines), .int (Int32.ofInt i_p0_met), .int (Int32.ofInt i_p0_greatest), .ref a_p0_numbers])), (a_p0_tape, .inr (9, [.ref a_p0_tape_bytes, .int (Int32.ofInt i_p0_tape_length), .int (Int32.ofInt i_p0_tape_at), .int (Int32.ofInt i_p0_tape_token), .int (Int32.ofInt i_p0_tape_start), .int (Int32.ofInt i_p0_tape_value)])), (a_p0_rules, .inr (6, [.int (Int32.ofInt i_p0_rules_seats), .int (Int32.ofInt i_p0_rules_stirs), .ref a_p0_rules_need, .ref a_p0_rules_kind, .ref a_p0_rules_first, .ref a_p0_rules_second, .ref a_p0_rules_after])), (a_p0_rules_need, .inl (G 1, 7, .inl (zA v_p0_rules_need))), (a_p0_state, .inr (8, [.ref a_p0_state_pieces, .ref a_p0_state_friends, .ref a_p0_state_spoons, .ref a_p0_state_eaten, .ref a_p0_state_seen, .int (Int32.ofInt i_p0_state_seenDays), .int (Int32.ofInt i_p0_state_bone), .int (Int32.ofInt i_p0_state_king), .int (Int32.ofInt i_p0_state_days)])), (a_p0_state_pieces, .inl (G 1, 7, .inl (zA v_p0_state_pieces))), (a_p0_state_friends, .inl (G 1, 7, .inl (zA v_p0_state_friends))), (a_p0_state_spoons, .inl (G 1, 7, .inl (zA v_p0_state_spoons))), (a_p0_state_eaten, .inl (G 1, 7, .inl (zA v_p0_state_eaten)))] H := by rw [hH]; exact hP
  rw [← hH]
  clear hH
  unfold f_X10_begin at hf
  refine lv_aload_n hx hb dX10_begin_0 rfl (lv_at hl 0 rfl) ?_
  refine va_get (D := D) (ci := 10) (v := .ref a_p0_rules) (C := RX10) (T := TX10) (N := 9) hx hb hts inX10_begin_X10 hown hK hP 0 rfl rfl 1 (by decide) (hts _ mwX10_begin_1) (fun _ h9 => h9) rfl dX10_begin_1 ?_
  have hq := bd3_s hf
  clear hf
  obtain ⟨z1, z2, w3, hcall, hf⟩ := hq
  refine gcV (ws' := [(a_p0, .inr (10, [.ref a_p0_tape, .ref a_p0_rules, .ref a_p0_state, .int (Int32.ofInt i_p0_faultFound), .int (Int32.ofInt i_p0_faultPlace), .int (Int32.ofInt i_p0_lines), .int (Int32.ofInt i_p0_met), .int (Int32.ofInt i_p0_greatest), .ref a_p0_numbers])), (a_p0_tape, .inr (9, [.ref a_p0_tape_bytes, .int (Int32.ofInt i_p0_tape_length), .int (Int32.ofInt i_p0_tape_at), .int (Int32.ofInt i_p0_tape_token), .int (Int32.ofInt i_p0_tape_start), .int (Int32.ofInt i_p0_tape_value)])), (a_p0_rules, .inr (6, [.int (Int32.ofInt z1), .int (Int32.ofInt z2), .ref a_p0_rules_need, .ref a_p0_rules_kind, .ref a_p0_rules_first, .ref a_p0_rules_second, .ref a_p0_rules_after])), (a_p0_rules_need, .inl (G 1, 7, .inl (zA w3))), (a_p0_state, .inr (8, [.ref a_p0_state_pieces, .ref a_p0_state_friends, .ref a_p0_state_spoons, .ref a_p0_state_eaten, .ref a_p0_state_seen, .int (Int32.ofInt i_p0_state_seenDays), .int (Int32.ofInt i_p0_state_bone), .int (Int32.ofInt i_p0_state_king), .int (Int32.ofInt i_p0_state_days)])), (a_p0_state_pieces, .inl (G 1, 7, .inl (zA v_p0_state_pieces))), (a_p0_state_friends, .inl (G 1, 7, .inl (zA v_p0_state_friends))), (a_p0_state_spoons, .inl (G 1, 7, .inl (zA v_p0_state_spoons))), (a_p0_state_eaten, .inl (G 1, 7, .inl (zA v_p0_state_eaten)))]) (va_runV (As := []) (rest := []) ⟨hx, hb, hml, hown, hts⟩ (c_X6_reset (l := l) (D := D) (G := G) (sz := H.size) (a_p0 := a_p0_rules) (a_p0_need := a_p0_rules_need) (a_p0_kind := a_p0_rules_kind) (a_p0_first := a_p0_rules_first) (a_p0_second := a_p0_rules_second) (a_p0_after := a_p0_rules_after) (i_p0_seats := i_p0_rules_seats) (i_p0_stirs := i_p0_rules_stirs) (v_p0_need := v_p0_rules_need) (o_i_p0_seats := z1) (o_i_p0_stirs := z2) (o_v_p0_need := w3) (hf := hcall)) (cwV 0 hts gX10_begin_X6_reset rfl rfl rfl (by decide +kernel) ⟨Nat.le_of_ble_eq_true rfl, Nat.le_of_ble_eq_true rfl⟩) (preG_V (ci := 6) (hP.sub [2, 3] rfl) (hD.sub [2, 3] rfl rfl) hK rfl rfl) rfl rfl hl.1 rfl (lv_room (Nat.le_of_ble_eq_true rfl)) dX10_begin_4 ⟨Nat.le_of_ble_eq_true rfl, Nat.le_of_ble_eq_true rfl⟩) hP hD hS hA [2, 3] [0, 1, 4, 5, 6, 7, 8] [0, 1, 7, 8, 2, 3, 4, 5, 6] rfl rfl rfl (by decide) rfl rfl rfl (fun H locs hP hD hS => ?_)
  clear hcall
  refine lv_aload_n hx hb dX10_begin_7 rfl (lv_at hl 0 rfl) ?_
  refine va_get (D := D) (ci := 10) (v := .ref a_p0_state) (C := RX10) (T := TX10) (N := 9) hx hb hts inX10_begin_X10 hown hK hP 0 rfl rfl 2 (by decide) (hts _ mwX10_begin_2) (fun _ h9 => h9) rfl dX10_begin_8 ?_
  have hq := bd8_s hf
  clear hf
  obtain ⟨z4, z5, z6, z7, w8, w9, w10, w11, hcall, hf⟩ := hq
  refine gcV (ws' := [(a_p0, .inr (10, [.ref a_p0_tape, .ref a_p0_rules, .ref a_p0_state, .int (Int32.ofInt i_p0_faultFound), .int (Int32.ofInt i_p0_faultPlace), .int (Int32.ofInt i_p0_lines), .int (Int32.ofInt i_p0_met), .int (Int32.ofInt i_p0_greatest), .ref a_p0_numbers])), (a_p0_tape, .inr (9, [.ref a_p0_tape_bytes, .int (Int32.ofInt i_p0_tape_length), .int (Int32.ofInt i_p0_tape_at), .int (Int32.ofInt i_p0_tape_token), .int (Int32.ofInt i_p0_tape_start), .int (Int32.ofInt i_p0_tape_value)])), (a_p0_rules, .inr (6, [.int (Int32.ofInt z1), .int (Int32.ofInt z2), .ref a_p0_rules_need, .ref a_p0_rules_kind, .ref a_p0_rules_first, .ref a_p0_rules_second, .ref a_p0_rules_after])), (a_p0_rules_need, .inl (G 1, 7, .inl (zA w3))), (a_p0_state, .inr (8, [.ref a_p0_state_pieces, .ref a_p0_state_friends, .ref a_p0_state_spoons, .ref a_p0_state_eaten, .ref a_p0_state_seen, .int (Int32.ofInt z4), .int (Int32.ofInt z5), .int (Int32.ofInt z6), .int (Int32.ofInt z7)])), (a_p0_state_pieces, .inl (G 1, 7, .inl (zA w8))), (a_p0_state_friends, .inl (G 1, 7, .inl (zA w9))), (a_p0_state_spoons, .inl (G 1, 7, .inl (zA w10))), (a_p0_state_eaten, .inl (G 1, 7, .inl (zA w11)))]) (va_runV (As := []) (rest := []) ⟨hx, hb, hml, hown, hts⟩ (c_X8_reset (l := l) (D := D) (G := G) (sz := H.size) (a_p0 := a_p0_state) (a_p0_pieces := a_p0_state_pieces) (a_p0_friends := a_p0_state_friends) (a_p0_spoons := a_p0_state_spoons) (a_p0_eaten := a_p0_state_eaten) (a_p0_seen := a_p0_state_seen) (i_p0_seenDays := i_p0_state_seenDays) (i_p0_bone := i_p0_state_bone) (i_p0_king := i_p0_state_king) (i_p0_days := i_p0_state_days) (v_p0_pieces := v_p0_state_pieces) (v_p0_friends := v_p0_state_friends) (v_p0_spoons := v_p0_state_spoons) (v_p0_eaten := v_p0_state_eaten) (o_i_p0_seenDays := z4) (o_i_p0_bone := z5) (o_i_p0_king := z6) (o_i_p0_days := z7) (o_v_p0_pieces := w8) (o_v_p0_friends := w9) (o_v_p0_spoons := w10) (o_v_p0_eaten := w11) (hf := hcall)) (cwV 0 hts gX10_begin_X8_reset rfl rfl rfl (by decide +kernel) ⟨Nat.le_of_ble_eq_true rfl, Nat.le_of_ble_eq_true rfl⟩) (preG_V (ci := 8) (hP.sub [4, 5, 6, 7, 8] rfl) (hD.sub [4, 5, 6, 7, 8] rfl rfl) hK rfl rfl) rfl rfl hl.1 rfl (lv_room (Nat.le_of_ble_eq_true rfl)) dX10_begin_11 ⟨Nat.le_of_ble_eq_true rfl, Nat.le_of_ble_eq_true rfl⟩) hP hD hS hA [4, 5, 6, 7, 8] [0, 1, 2, 3] [0, 1, 2, 3, 4, 5, 6, 7, 8] rfl rfl rfl (by decide) rfl rfl rfl (fun H locs hP hD hS => ?_)
  clear hcall
  refine lv_aload_n hx hb dX10_begin_14 rfl (lv_at hl 0 rfl) ?_
  refine va_get (D := D) (ci := 10) (v := .ref a_p0_tape) (C := RX10) (T := TX10) (N := 9) hx hb hts inX10_begin_X10 hown hK hP 0 rfl rfl 0 (by decide) (hts _ mwX10_begin_3) (fun _ h9 => h9) rfl dX10_begin_15 ?_
  have hq := bd1_s hf
  clear hf
  obtain ⟨z12, hcall, hf⟩ := hq
  refine gcV (ws' := [(a_p0, .inr (10, [.ref a_p0_tape, .ref a_p0_rules, .ref a_p0_state, .int (Int32.ofInt i_p0_faultFound), .int (Int32.ofInt i_p0_faultPlace), .int (Int32.ofInt i_p0_lines), .int (Int32.ofInt i_p0_met), .int (Int32.ofInt i_p0_greatest), .ref a_p0_numbers])), (a_p0_tape, .inr (9, [.ref a_p0_tape_bytes, .int (Int32.ofInt i_p0_tape_length), .int (Int32.ofInt z12), .int (Int32.ofInt i_p0_tape_token), .int (Int32.ofInt i_p0_tape_start), .int (Int32.ofInt i_p0_tape_value)])), (a_p0_rules, .inr (6, [.int (Int32.ofInt z1), .int (Int32.ofInt z2), .ref a_p0_rules_need, .ref a_p0_rules_kind, .ref a_p0_rules_first, .ref a_p0_rules_second, .ref a_p0_rules_after])), (a_p0_rules_need, .inl (G 1, 7, .inl (zA w3))), (a_p0_state, .inr (8, [.ref a_p0_state_pieces, .ref a_p0_state_friends, .ref a_p0_state_spoons, .ref a_p0_state_eaten, .ref a_p0_state_seen, .int (Int32.ofInt z4), .int (Int32.ofInt z5), .int (Int32.ofInt z6), .int (Int32.ofInt z7)])), (a_p0_state_pieces, .inl (G 1, 7, .inl (zA w8))), (a_p0_state_friends, .inl (G 1, 7, .inl (zA w9))), (a_p0_state_spoons, .inl (G 1, 7, .inl (zA w10))), (a_p0_state_eaten, .inl (G 1, 7, .inl (zA w11)))]) (va_runV (As := []) (rest := []) ⟨hx, hb, hml, hown, hts⟩ (c_X9_rewind (l := l) (D := D) (G := G) (sz := H.size) (a_p0 := a_p0_tape) (a_p0_bytes := a_p0_tape_bytes) (i_p0_length := i_p0_tape_length) (i_p0_at := i_p0_tape_at) (i_p0_token := i_p0_tape_token) (i_p0_start := i_p0_tape_start) (i_p0_value := i_p0_tape_value) (o_i_p0_at := z12) (hf := hcall)) (cwV 0 hts gX10_begin_X9_rewind rfl rfl rfl (by decide +kernel) ⟨Nat.le_of_ble_eq_true rfl, Nat.le_of_ble_eq_true rfl⟩) (preG_V (ci := 9) (hP.sub [1] rfl) (hD.sub [1] rfl rfl) hK rfl rfl) rfl rfl hl.1 rfl (lv_room (Nat.le_of_ble_eq_true rfl)) dX10_begin_18 ⟨Nat.le_of_ble_eq_true rfl, Nat.le_of_ble_eq_true rfl⟩) hP hD hS hA [1] [0, 2, 3, 4, 5, 6, 7, 8] [0, 8, 1, 2, 3, 4, 5, 6, 7] rfl rfl rfl (by decide) rfl rfl rfl (fun H locs hP hD hS => ?_)
  clear hcall
  refine lv_aload_n hx hb dX10_begin_21 rfl (lv_at hl 0 rfl) ?_
  refine lv_iconst (v := Int32.ofInt (0 : Int)) hx hb dX10_begin_22 (by decide) ?_
  refine z_topi (fun z13 ez => ?_)
  replace hf := bnd_s hf ez
  clear ez
  refine va_put (D := D) (ci := 10) (v := .int (Int32.ofInt z13)) (ty := .int) (C := RX10) (T := TX10) (N := 9) hx hb hts inX10_begin_X10 tyX10 tyX10_ok nmX10 hown hK hP hD hS 0 rfl rfl 3 (by decide) (hts _ mwX10_begin_4) (fun _ h9 => h9) rfl (by decide +kernel) rfl rfl (Nat.le_of_ble_eq_true rfl) dX10_begin_23 (fun H locs hP hD hS => ?_)
  have hP : va_P D vwCl [(a_p0, .inr (10, [.ref a_p0_tape, .ref a_p0_rules, .ref a_p0_state, .int (Int32.ofInt z13), .int (Int32.ofInt i_p0_faultPlace), .int (Int32.ofInt i_p0_lines), .int (Int32.ofInt i_p0_met), .int (Int32.ofInt i_p0_greatest), .ref a_p0_numbers])), (a_p0_tape, .inr (9, [.ref a_p0_tape_bytes, .int (Int32.ofInt i_p0_tape_length), .int (Int32.ofInt z12), .int (Int32.ofInt i_p0_tape_token), .int (Int32.ofInt i_p0_tape_start), .int (Int32.ofInt i_p0_tape_value)])), (a_p0_rules, .inr (6, [.int (Int32.ofInt z1), .int (Int32.ofInt z2), .ref a_p0_rules_need, .ref a_p0_rules_kind, .ref a_p0_rules_first, .ref a_p0_rules_second, .ref a_p0_rules_after])), (a_p0_rules_need, .inl (G 1, 7, .inl (zA w3))), (a_p0_state, .inr (8, [.ref a_p0_state_pieces, .ref a_p0_state_friends, .ref a_p0_state_spoons, .ref a_p0_state_eaten, .ref a_p0_state_seen, .int (Int32.ofInt z4), .int (Int32.ofInt z5), .int (Int32.ofInt z6), .int (Int32.ofInt z7)])), (a_p0_state_pieces, .inl (G 1, 7, .inl (zA w8))), (a_p0_state_friends, .inl (G 1, 7, .inl (zA w9))), (a_p0_state_spoons, .inl (G 1, 7, .inl (zA w10))), (a_p0_state_eaten, .inl (G 1, 7, .inl (zA w11)))] H := hP
  have hD : va_D A [(a_p0, .inr (10, [.ref a_p0_tape, .ref a_p0_rules, .ref a_p0_state, .int (Int32.ofInt z13), .int (Int32.ofInt i_p0_faultPlace), .int (Int32.ofInt i_p0_lines), .int (Int32.ofInt i_p0_met), .int (Int32.ofInt i_p0_greatest), .ref a_p0_numbers])), (a_p0_tape, .inr (9, [.ref a_p0_tape_bytes, .int (Int32.ofInt i_p0_tape_length), .int (Int32.ofInt z12), .int (Int32.ofInt i_p0_tape_token), .int (Int32.ofInt i_p0_tape_start), .int (Int32.ofInt i_p0_tape_value)])), (a_p0_rules, .inr (6, [.int (Int32.ofInt z1), .int (Int32.ofInt z2), .ref a_p0_rules_need, .ref a_p0_rules_kind, .ref a_p0_rules_first, .ref a_p0_rules_second, .ref a_p0_rules_after])), (a_p0_rules_need, .inl (G 1, 7, .inl (zA w3))), (a_p0_state, .inr (8, [.ref a_p0_state_pieces, .ref a_p0_state_friends, .ref a_p0_state_spoons, .ref a_p0_state_eaten, .ref a_p0_state_seen, .int (Int32.ofInt z4), .int (Int32.ofInt z5), .int (Int32.ofInt z6), .int (Int32.ofInt z7)])), (a_p0_state_pieces, .inl (G 1, 7, .inl (zA w8))), (a_p0_state_friends, .inl (G 1, 7, .inl (zA w9))), (a_p0_state_spoons, .inl (G 1, 7, .inl (zA w10))), (a_p0_state_eaten, .inl (G 1, 7, .inl (zA w11)))] := hD
  refine lv_aload_n hx hb dX10_begin_26 rfl (lv_at hl 0 rfl) ?_
  refine lv_iconst (v := Int32.ofInt (0 : Int)) hx hb dX10_begin_27 (by decide) ?_
  refine z_topi (fun z14 ez => ?_)
  replace hf := bnd_s hf ez
  clear ez
  refine va_put (D := D) (ci := 10) (v := .int (Int32.ofInt z14)) (ty := .int) (C := RX10) (T := TX10) (N := 9) hx hb hts inX10_begin_X10 tyX10 tyX10_ok nmX10 hown hK hP hD hS 0 rfl rfl 5 (by decide) (hts _ mwX10_begin_5) (fun _ h9 => h9) rfl (by decide +kernel) rfl rfl (Nat.le_of_ble_eq_true rfl) dX10_begin_28 (fun H locs hP hD hS => ?_)
  have hP : va_P D vwCl [(a_p0, .inr (10, [.ref a_p0_tape, .ref a_p0_rules, .ref a_p0_state, .int (Int32.ofInt z13), .int (Int32.ofInt i_p0_faultPlace), .int (Int32.ofInt z14), .int (Int32.ofInt i_p0_met), .int (Int32.ofInt i_p0_greatest), .ref a_p0_numbers])), (a_p0_tape, .inr (9, [.ref a_p0_tape_bytes, .int (Int32.ofInt i_p0_tape_length), .int (Int32.ofInt z12), .int (Int32.ofInt i_p0_tape_token), .int (Int32.ofInt i_p0_tape_start), .int (Int32.ofInt i_p0_tape_value)])), (a_p0_rules, .inr (6, [.int (Int32.ofInt z1), .int (Int32.ofInt z2), .ref a_p0_rules_need, .ref a_p0_rules_kind, .ref a_p0_rules_first, .ref a_p0_rules_second, .ref a_p0_rules_after])), (a_p0_rules_need, .inl (G 1, 7, .inl (zA w3))), (a_p0_state, .inr (8, [.ref a_p0_state_pieces, .ref a_p0_state_friends, .ref a_p0_state_spoons, .ref a_p0_state_eaten, .ref a_p0_state_seen, .int (Int32.ofInt z4), .int (Int32.ofInt z5), .int (Int32.ofInt z6), .int (Int32.ofInt z7)])), (a_p0_state_pieces, .inl (G 1, 7, .inl (zA w8))), (a_p0_state_friends, .inl (G 1, 7, .inl (zA w9))), (a_p0_state_spoons, .inl (G 1, 7, .inl (zA w10))), (a_p0_state_eaten, .inl (G 1, 7, .inl (zA w11)))] H := hP
  have hD : va_D A [(a_p0, .inr (10, [.ref a_p0_tape, .ref a_p0_rules, .ref a_p0_state, .int (Int32.ofInt z13), .int (Int32.ofInt i_p0_faultPlace), .int (Int32.ofInt z14), .int (Int32.ofInt i_p0_met), .int (Int32.ofInt i_p0_greatest), .ref a_p0_numbers])), (a_p0_tape, .inr (9, [.ref a_p0_tape_bytes, .int (Int32.ofInt i_p0_tape_length), .int (Int32.ofInt z12), .int (Int32.ofInt i_p0_tape_token), .int (Int32.ofInt i_p0_tape_start), .int (Int32.ofInt i_p0_tape_value)])), (a_p0_rules, .inr (6, [.int (Int32.ofInt z1), .int (Int32.ofInt z2), .ref a_p0_rules_need, .ref a_p0_rules_kind, .ref a_p0_rules_first, .ref a_p0_rules_second, .ref a_p0_rules_after])), (a_p0_rules_need, .inl (G 1, 7, .inl (zA w3))), (a_p0_state, .inr (8, [.ref a_p0_state_pieces, .ref a_p0_state_friends, .ref a_p0_state_spoons, .ref a_p0_state_eaten, .ref a_p0_state_seen, .int (Int32.ofInt z4), .int (Int32.ofInt z5), .int (Int32.ofInt z6), .int (Int32.ofInt z7)])), (a_p0_state_pieces, .inl (G 1, 7, .inl (zA w8))), (a_p0_state_friends, .inl (G 1, 7, .inl (zA w9))), (a_p0_state_spoons, .inl (G 1, 7, .inl (zA w10))), (a_p0_state_eaten, .inl (G 1, 7, .inl (zA w11)))] := hD
  refine lv_aload_n hx hb dX10_begin_31 rfl (lv_at hl 0 rfl) ?_
  refine lv_iconst (v := Int32.ofInt (0 : Int)) hx hb dX10_begin_32 (by decide) ?_
  refine z_topi (fun z15 ez => ?_)
  replace hf := bnd_s hf ez
  clear ez
  refine va_put (D := D) (ci := 10) (v := .int (Int32.ofInt z15)) (ty := .int) (C := RX10) (T := TX10) (N := 9) hx hb hts inX10_begin_X10 tyX10 tyX10_ok nmX10 hown hK hP hD hS 0 rfl rfl 6 (by decide) (hts _ mwX10_begin_6) (fun _ h9 => h9) rfl (by decide +kernel) rfl rfl (Nat.le_of_ble_eq_true rfl) dX10_begin_33 (fun H locs hP hD hS => ?_)
  have hP : va_P D vwCl [(a_p0, .inr (10, [.ref a_p0_tape, .ref a_p0_rules, .ref a_p0_state, .int (Int32.ofInt z13), .int (Int32.ofInt i_p0_faultPlace), .int (Int32.ofInt z14), .int (Int32.ofInt z15), .int (Int32.ofInt i_p0_greatest), .ref a_p0_numbers])), (a_p0_tape, .inr (9, [.ref a_p0_tape_bytes, .int (Int32.ofInt i_p0_tape_length), .int (Int32.ofInt z12), .int (Int32.ofInt i_p0_tape_token), .int (Int32.ofInt i_p0_tape_start), .int (Int32.ofInt i_p0_tape_value)])), (a_p0_rules, .inr (6, [.int (Int32.ofInt z1), .int (Int32.ofInt z2), .ref a_p0_rules_need, .ref a_p0_rules_kind, .ref a_p0_rules_first, .ref a_p0_rules_second, .ref a_p0_rules_after])), (a_p0_rules_need, .inl (G 1, 7, .inl (zA w3))), (a_p0_state, .inr (8, [.ref a_p0_state_pieces, .ref a_p0_state_friends, .ref a_p0_state_spoons, .ref a_p0_state_eaten, .ref a_p0_state_seen, .int (Int32.ofInt z4), .int (Int32.ofInt z5), .int (Int32.ofInt z6), .int (Int32.ofInt z7)])), (a_p0_state_pieces, .inl (G 1, 7, .inl (zA w8))), (a_p0_state_friends, .inl (G 1, 7, .inl (zA w9))), (a_p0_state_spoons, .inl (G 1, 7, .inl (zA w10))), (a_p0_state_eaten, .inl (G 1, 7, .inl (zA w11)))] H := hP
  have hD : va_D A [(a_p0, .inr (10, [.ref a_p0_tape, .ref a_p0_rules, .ref a_p0_state, .int (Int32.ofInt z13), .int (Int32.ofInt i_p0_faultPlace), .int (Int32.ofInt z14), .int (Int32.ofInt z15), .int (Int32.ofInt i_p0_greatest), .ref a_p0_numbers])), (a_p0_tape, .inr (9, [.ref a_p0_tape_bytes, .int (Int32.ofInt i_p0_tape_length), .int (Int32.ofInt z12), .int (Int32.ofInt i_p0_tape_token), .int (Int32.ofInt i_p0_tape_start), .int (Int32.ofInt i_p0_tape_value)])), (a_p0_rules, .inr (6, [.int (Int32.ofInt z1), .int (Int32.ofInt z2), .ref a_p0_rules_need, .ref a_p0_rules_kind, .ref a_p0_rules_first, .ref a_p0_rules_second, .ref a_p0_rules_after])), (a_p0_rules_need, .inl (G 1, 7, .inl (zA w3))), (a_p0_state, .inr (8, [.ref a_p0_state_pieces, .ref a_p0_state_friends, .ref a_p0_state_spoons, .ref a_p0_state_eaten, .ref a_p0_state_seen, .int (Int32.ofInt z4), .int (Int32.ofInt z5), .int (Int32.ofInt z6), .int (Int32.ofInt z7)])), (a_p0_state_pieces, .inl (G 1, 7, .inl (zA w8))), (a_p0_state_friends, .inl (G 1, 7, .inl (zA w9))), (a_p0_state_spoons, .inl (G 1, 7, .inl (zA w10))), (a_p0_state_eaten, .inl (G 1, 7, .inl (zA w11)))] := hD
  refine lv_aload_n hx hb dX10_begin_36 rfl (lv_at hl 0 rfl) ?_
  refine lv_iconst (v := Int32.ofInt (0 : Int)) hx hb dX10_begin_37 (by decide) ?_
  refine z_topi (fun z16 ez => ?_)
  replace hf := bnd_s hf ez
  clear ez
  refine va_put (D := D) (ci := 10) (v := .int (Int32.ofInt z16)) (ty := .int) (C := RX10) (T := TX10) (N := 9) hx hb hts inX10_begin_X10 tyX10 tyX10_ok nmX10 hown hK hP hD hS 0 rfl rfl 7 (by decide) (hts _ mwX10_begin_7) (fun _ h9 => h9) rfl (by decide +kernel) rfl rfl (Nat.le_of_ble_eq_true rfl) dX10_begin_38 (fun H locs hP hD hS => ?_)
  have hP : va_P D vwCl [(a_p0, .inr (10, [.ref a_p0_tape, .ref a_p0_rules, .ref a_p0_state, .int (Int32.ofInt z13), .int (Int32.ofInt i_p0_faultPlace), .int (Int32.ofInt z14), .int (Int32.ofInt z15), .int (Int32.ofInt z16), .ref a_p0_numbers])), (a_p0_tape, .inr (9, [.ref a_p0_tape_bytes, .int (Int32.ofInt i_p0_tape_length), .int (Int32.ofInt z12), .int (Int32.ofInt i_p0_tape_token), .int (Int32.ofInt i_p0_tape_start), .int (Int32.ofInt i_p0_tape_value)])), (a_p0_rules, .inr (6, [.int (Int32.ofInt z1), .int (Int32.ofInt z2), .ref a_p0_rules_need, .ref a_p0_rules_kind, .ref a_p0_rules_first, .ref a_p0_rules_second, .ref a_p0_rules_after])), (a_p0_rules_need, .inl (G 1, 7, .inl (zA w3))), (a_p0_state, .inr (8, [.ref a_p0_state_pieces, .ref a_p0_state_friends, .ref a_p0_state_spoons, .ref a_p0_state_eaten, .ref a_p0_state_seen, .int (Int32.ofInt z4), .int (Int32.ofInt z5), .int (Int32.ofInt z6), .int (Int32.ofInt z7)])), (a_p0_state_pieces, .inl (G 1, 7, .inl (zA w8))), (a_p0_state_friends, .inl (G 1, 7, .inl (zA w9))), (a_p0_state_spoons, .inl (G 1, 7, .inl (zA w10))), (a_p0_state_eaten, .inl (G 1, 7, .inl (zA w11)))] H := hP
  have hD : va_D A [(a_p0, .inr (10, [.ref a_p0_tape, .ref a_p0_rules, .ref a_p0_state, .int (Int32.ofInt z13), .int (Int32.ofInt i_p0_faultPlace), .int (Int32.ofInt z14), .int (Int32.ofInt z15), .int (Int32.ofInt z16), .ref a_p0_numbers])), (a_p0_tape, .inr (9, [.ref a_p0_tape_bytes, .int (Int32.ofInt i_p0_tape_length), .int (Int32.ofInt z12), .int (Int32.ofInt i_p0_tape_token), .int (Int32.ofInt i_p0_tape_start), .int (Int32.ofInt i_p0_tape_value)])), (a_p0_rules, .inr (6, [.int (Int32.ofInt z1), .int (Int32.ofInt z2), .ref a_p0_rules_need, .ref a_p0_rules_kind, .ref a_p0_rules_first, .ref a_p0_rules_second, .ref a_p0_rules_after])), (a_p0_rules_need, .inl (G 1, 7, .inl (zA w3))), (a_p0_state, .inr (8, [.ref a_p0_state_pieces, .ref a_p0_state_friends, .ref a_p0_state_spoons, .ref a_p0_state_eaten, .ref a_p0_state_seen, .int (Int32.ofInt z4), .int (Int32.ofInt z5), .int (Int32.ofInt z6), .int (Int32.ofInt z7)])), (a_p0_state_pieces, .inl (G 1, 7, .inl (zA w8))), (a_p0_state_friends, .inl (G 1, 7, .inl (zA w9))), (a_p0_state_spoons, .inl (G 1, 7, .inl (zA w10))), (a_p0_state_eaten, .inl (G 1, 7, .inl (zA w11)))] := hD
  obtain ⟨rfl, rfl, rfl, rfl, rfl, rfl, rfl, rfl, rfl, rfl, rfl, rfl, rfl, rfl, rfl, rfl⟩ := ou16 hf
  rw [hQ]
  exact W.vret hx hb hr (fun t ht hW => ⟨⟨(), rfl, trivial, by rw [ht]; exact hP, va_K.moved hW.alike hK, hD⟩, hS.F ht⟩) hS.2.2 dX10_begin_41

noncomputable def f_X10_nameOf (x0 : Int) : Option (Int) := (ck (z_r32 x0) (if x0 = (0 : Int) then (some (0 : Int)) else (if x0 = (1 : Int) then (some (1 : Int)) else (if x0 = (2 : Int) then (some (2 : Int)) else (if x0 = (3 : Int) then (some (3 : Int)) else (if x0 = (4 : Int) then (some (4 : Int)) else (if x0 = (5 : Int) then (some (5 : Int)) else (if x0 = (6 : Int) then (some (6 : Int)) else (if x0 = (7 : Int) then (some (7 : Int)) else (if x0 = (8 : Int) then (some (8 : Int)) else (if x0 = (9 : Int) then (some (9 : Int)) else (some (10 : Int)))))))))))))
abbrev rm_X10_nameOf : Room := { frames := 0, cells := 0, slots := 0, locals := 0 }
set_option maxHeartbeats 8000000 in
set_option maxRecDepth 100000 in
theorem c_X10_nameOf (l : Launch) (D : va_G) (G : Nat → ClassId) (sz : Nat) (adT adK adV : Nat → Nat) (x0 : Int) (r : Int) (hf : f_X10_nameOf x0 = some r) : Met l yX10_nameOf wsX10_nameOf rm_X10_nameOf (pcGE D G adT adK adV [.int (Int32.ofInt x0)] sz []) (qcR D G adK r [] (va_A [] sz)) 0 0 (va_A [] sz) := by
  refine Met.ofW (cc := cX10_nameOf) (maxL := 1) (ret := (some (.object "java/lang/String"))) (by decide) rfl ?_
  intro p e s m args below meth c s₁ B hml hv
  obtain ⟨rfl, hsz, hP, hK, hD0, hE⟩ := hv
  have hx := B.exec
  have hb := B.bytes
  have hr := B.returns
  have hts := atoms_spec (ws := wsX10_nameOf) B.pre
  have hown : s.vm.findClass RX10 = some m.cls := findClass_of_methodNamed B.named
  have hlocks := B.notSynchronized
  subst hsz
  have hD := hD0.self (sz := s.heap.size)
  generalize hAe : va_A [] s.heap.size = A at hD hE ⊢
  have hA : ∀ q : Nat, s.heap.size ≤ q → A q := fun q h => by rw [← hAe]; exact Or.inr h
  clear hAe hD0
  have hS : va_S A s.heap s.heap [] := va_S.rf
  have hl := lv_entry ([.int (Int32.ofInt x0)]) (n := 1) (Nat.le_of_ble_eq_true rfl)
  rw [lg_entry_eq]
  generalize (lg_sl ([.int (Int32.ofInt x0)]) ++ List.replicate (1 - (lg_sl ([.int (Int32.ofInt x0)])).length) Slot.unset).toArray = ls at hl ⊢
  have hl : lv_has ls 1 [(0, .int (Int32.ofInt x0))] := hl
  refine W_nameQ (fun Q hQ => ?_)
  obtain ⟨H, hH⟩ : ∃ H, H = s.heap := ⟨_, rfl⟩
  replace hS : va_S A s.heap H [] := by rw [hH]; exact hS
  replace hP : va_P D vwCl [] H := by rw [hH]; exact hP
  rw [← hH]
  clear hH
  unfold f_X10_nameOf at hf
  refine lv_iload_n hx hb dX10_nameOf_0 rfl (lv_at hl 0 rfl) ?_
  have hr0 := ck_c hf
  replace hf := ck_r hf
  rcases Decidable.em (x0 = (0 : Int)) with hk2 | hk2
  ·
    replace hf := ite_t hk2 hf
    refine lv_tableIn (tgt := 56) hx hb dX10_nameOf_1 (by rw [hk2]; decide) (by rw [hk2]; decide) (by rw [hk2]; rfl) (by decide) ?_
    clear hk2
    refine va_ldcS (tx := z_Sn 0) (q := adK ((0 : Int)).toNat) hx hb hown (hE.2.2.2.2 0 (by decide)) dX10_nameOf_56 ?_
    obtain rfl := ou1 hf
    rw [hQ]
    exact W.aret hx hb hr (Or.inl ⟨_, rfl⟩) (Or.inr ⟨_, rfl⟩) (fun t ht hW => ⟨⟨(), _, rfl, trivial, rfl, by rw [ht]; exact hP, va_K.moved hW.alike hK, hD⟩, hS.F ht⟩) hS.2.2 dX10_nameOf_58
  replace hf := ite_f hk2 hf
  rcases Decidable.em (x0 = (1 : Int)) with hk3 | hk3
  ·
    replace hf := ite_t hk3 hf
    refine lv_tableIn (tgt := 59) hx hb dX10_nameOf_1 (by rw [hk3]; decide) (by rw [hk3]; decide) (by rw [hk3]; rfl) (by decide) ?_
    clear hk3 hk2
    refine va_ldcS (tx := z_Sn 1) (q := adK ((1 : Int)).toNat) hx hb hown (hE.2.2.2.2 1 (by decide)) dX10_nameOf_59 ?_
    obtain rfl := ou1 hf
    rw [hQ]
    exact W.aret hx hb hr (Or.inl ⟨_, rfl⟩) (Or.inr ⟨_, rfl⟩) (fun t ht hW => ⟨⟨(), _, rfl, trivial, rfl, by rw [ht]; exact hP, va_K.moved hW.alike hK, hD⟩, hS.F ht⟩) hS.2.2 dX10_nameOf_61
  replace hf := ite_f hk3 hf
  rcases Decidable.em (x0 = (2 : Int)) with hk4 | hk4
  ·
    replace hf := ite_t hk4 hf
    refine lv_tableIn (tgt := 62) hx hb dX10_nameOf_1 (by rw [hk4]; decide) (by rw [hk4]; decide) (by rw [hk4]; rfl) (by decide) ?_
    clear hk4 hk2 hk3
    refine va_ldcS (tx := z_Sn 2) (q := adK ((2 : Int)).toNat) hx hb hown (hE.2.2.2.2 2 (by decide)) dX10_nameOf_62 ?_
    obtain rfl := ou1 hf
    rw [hQ]
    exact W.aret hx hb hr (Or.inl ⟨_, rfl⟩) (Or.inr ⟨_, rfl⟩) (fun t ht hW => ⟨⟨(), _, rfl, trivial, rfl, by rw [ht]; exact hP, va_K.moved hW.alike hK, hD⟩, hS.F ht⟩) hS.2.2 dX10_nameOf_64
  replace hf := ite_f hk4 hf
  rcases Decidable.em (x0 = (3 : Int)) with hk5 | hk5
  ·
    replace hf := ite_t hk5 hf
    refine lv_tableIn (tgt := 65) hx hb dX10_nameOf_1 (by rw [hk5]; decide) (by rw [hk5]; decide) (by rw [hk5]; rfl) (by decide) ?_
    clear hk5 hk2 hk3 hk4
    refine va_ldcS (tx := z_Sn 3) (q := adK ((3 : Int)).toNat) hx hb hown (hE.2.2.2.2 3 (by decide)) dX10_nameOf_65 ?_
    obtain rfl := ou1 hf
    rw [hQ]
    exact W.aret hx hb hr (Or.inl ⟨_, rfl⟩) (Or.inr ⟨_, rfl⟩) (fun t ht hW => ⟨⟨(), _, rfl, trivial, rfl, by rw [ht]; exact hP, va_K.moved hW.alike hK, hD⟩, hS.F ht⟩) hS.2.2 dX10_nameOf_67
  replace hf := ite_f hk5 hf
  rcases Decidable.em (x0 = (4 : Int)) with hk6 | hk6
  ·
    replace hf := ite_t hk6 hf
    refine lv_tableIn (tgt := 68) hx hb dX10_nameOf_1 (by rw [hk6]; decide) (by rw [hk6]; decide) (by rw [hk6]; rfl) (by decide) ?_
    clear hk6 hk2 hk3 hk4 hk5
    refine va_ldcS (tx := z_Sn 4) (q := adK ((4 : Int)).toNat) hx hb hown (hE.2.2.2.2 4 (by decide)) dX10_nameOf_68 ?_
    obtain rfl := ou1 hf
    rw [hQ]
    exact W.aret hx hb hr (Or.inl ⟨_, rfl⟩) (Or.inr ⟨_, rfl⟩) (fun t ht hW => ⟨⟨(), _, rfl, trivial, rfl, by rw [ht]; exact hP, va_K.moved hW.alike hK, hD⟩, hS.F ht⟩) hS.2.2 dX10_nameOf_70
  replace hf := ite_f hk6 hf
  rcases Decidable.em (x0 = (5 : Int)) with hk7 | hk7
  ·
    replace hf := ite_t hk7 hf
    refine lv_tableIn (tgt := 71) hx hb dX10_nameOf_1 (by rw [hk7]; decide) (by rw [hk7]; decide) (by rw [hk7]; rfl) (by decide) ?_
    clear hk7 hk2 hk3 hk4 hk5 hk6
    refine va_ldcS (tx := z_Sn 5) (q := adK ((5 : Int)).toNat) hx hb hown (hE.2.2.2.2 5 (by decide)) dX10_nameOf_71 ?_
    obtain rfl := ou1 hf
    rw [hQ]
    exact W.aret hx hb hr (Or.inl ⟨_, rfl⟩) (Or.inr ⟨_, rfl⟩) (fun t ht hW => ⟨⟨(), _, rfl, trivial, rfl, by rw [ht]; exact hP, va_K.moved hW.alike hK, hD⟩, hS.F ht⟩) hS.2.2 dX10_nameOf_73
  replace hf := ite_f hk7 hf
  rcases Decidable.em (x0 = (6 : Int)) with hk8 | hk8
  ·
    replace hf := ite_t hk8 hf
    refine lv_tableIn (tgt := 74) hx hb dX10_nameOf_1 (by rw [hk8]; decide) (by rw [hk8]; decide) (by rw [hk8]; rfl) (by decide) ?_
    clear hk8 hk2 hk3 hk4 hk5 hk6 hk7
    refine va_ldcS (tx := z_Sn 6) (q := adK ((6 : Int)).toNat) hx hb hown (hE.2.2.2.2 6 (by decide)) dX10_nameOf_74 ?_
    obtain rfl := ou1 hf
    rw [hQ]
    exact W.aret hx hb hr (Or.inl ⟨_, rfl⟩) (Or.inr ⟨_, rfl⟩) (fun t ht hW => ⟨⟨(), _, rfl, trivial, rfl, by rw [ht]; exact hP, va_K.moved hW.alike hK, hD⟩, hS.F ht⟩) hS.2.2 dX10_nameOf_76
  replace hf := ite_f hk8 hf
  rcases Decidable.em (x0 = (7 : Int)) with hk9 | hk9
  ·
    replace hf := ite_t hk9 hf
    refine lv_tableIn (tgt := 77) hx hb dX10_nameOf_1 (by rw [hk9]; decide) (by rw [hk9]; decide) (by rw [hk9]; rfl) (by decide) ?_
    clear hk9 hk2 hk3 hk4 hk5 hk6 hk7 hk8
    refine va_ldcS (tx := z_Sn 7) (q := adK ((7 : Int)).toNat) hx hb hown (hE.2.2.2.2 7 (by decide)) dX10_nameOf_77 ?_
    obtain rfl := ou1 hf
    rw [hQ]
    exact W.aret hx hb hr (Or.inl ⟨_, rfl⟩) (Or.inr ⟨_, rfl⟩) (fun t ht hW => ⟨⟨(), _, rfl, trivial, rfl, by rw [ht]; exact hP, va_K.moved hW.alike hK, hD⟩, hS.F ht⟩) hS.2.2 dX10_nameOf_79
  replace hf := ite_f hk9 hf
  rcases Decidable.em (x0 = (8 : Int)) with hk10 | hk10
  ·
    replace hf := ite_t hk10 hf
    refine lv_tableIn (tgt := 80) hx hb dX10_nameOf_1 (by rw [hk10]; decide) (by rw [hk10]; decide) (by rw [hk10]; rfl) (by decide) ?_
    clear hk10 hk2 hk3 hk4 hk5 hk6 hk7 hk8 hk9
    refine va_ldcS (tx := z_Sn 8) (q := adK ((8 : Int)).toNat) hx hb hown (hE.2.2.2.2 8 (by decide)) dX10_nameOf_80 ?_
    obtain rfl := ou1 hf
    rw [hQ]
    exact W.aret hx hb hr (Or.inl ⟨_, rfl⟩) (Or.inr ⟨_, rfl⟩) (fun t ht hW => ⟨⟨(), _, rfl, trivial, rfl, by rw [ht]; exact hP, va_K.moved hW.alike hK, hD⟩, hS.F ht⟩) hS.2.2 dX10_nameOf_82
  replace hf := ite_f hk10 hf
  rcases Decidable.em (x0 = (9 : Int)) with hk11 | hk11
  ·
    replace hf := ite_t hk11 hf
    refine lv_tableIn (tgt := 83) hx hb dX10_nameOf_1 (by rw [hk11]; decide) (by rw [hk11]; decide) (by rw [hk11]; rfl) (by decide) ?_
    clear hk11 hk2 hk3 hk4 hk5 hk6 hk7 hk8 hk9 hk10
    refine va_ldcS (tx := z_Sn 9) (q := adK ((9 : Int)).toNat) hx hb hown (hE.2.2.2.2 9 (by decide)) dX10_nameOf_83 ?_
    obtain rfl := ou1 hf
    rw [hQ]
    exact W.aret hx hb hr (Or.inl ⟨_, rfl⟩) (Or.inr ⟨_, rfl⟩) (fun t ht hW => ⟨⟨(), _, rfl, trivial, rfl, by rw [ht]; exact hP, va_K.moved hW.alike hK, hD⟩, hS.F ht⟩) hS.2.2 dX10_nameOf_85
  replace hf := ite_f hk11 hf
  refine lv_tableOut (tgt := 86) hx hb dX10_nameOf_1 (by rw [z_ti hr0]; omega) (by decide) ?_
  clear hk2 hk3 hk4 hk5 hk6 hk7 hk8 hk9 hk10 hk11
  refine va_ldcS (tx := z_Sn 10) (q := adK ((10 : Int)).toNat) hx hb hown (hE.2.2.2.2 10 (by decide)) dX10_nameOf_86 ?_
  obtain rfl := ou1 hf
  rw [hQ]
  exact W.aret hx hb hr (Or.inl ⟨_, rfl⟩) (Or.inr ⟨_, rfl⟩) (fun t ht hW => ⟨⟨(), _, rfl, trivial, rfl, by rw [ht]; exact hP, va_K.moved hW.alike hK, hD⟩, hS.F ht⟩) hS.2.2 dX10_nameOf_88

noncomputable def B_X10_nameRead_2 (i_p0_tape_token : Int) (i_p0_tape_at : Int) (i_p0_tape_start : Int) (v_p0_tape_bytes : (Int → Int)) (again2 : Int → Option (Int)) (z2 : Int) : Option (Int) := (ck (z_r32 z2) (if (11 : Int) ≤ z2 then (some (-4 : Int)) else (ck (z_r32 i_p0_tape_token) (if i_p0_tape_token = (1 : Int) then (bd1 (f_X10_nameOf z2) (fun (z6 : Int) => (bd1 (f_X9_isNamed i_p0_tape_at i_p0_tape_start v_p0_tape_bytes z6) (fun (z7 : Int) => (ck (z_r32 z7) (if z7 = (0 : Int) then (bnd (z2 + (1 : Int)) (fun (z9 : Int) => (again2 z9))) else (some z2))))))) else (some (-4 : Int))))))
noncomputable def f_X10_nameRead (i_p0_tape_at : Int) (i_p0_tape_token : Int) (i_p0_tape_start : Int) (v_p0_tape_bytes : (Int → Int)) : Option (Int) := (bnd (0 : Int) (fun (z1 : Int) => (lq1 (B_X10_nameRead_2 i_p0_tape_token i_p0_tape_at i_p0_tape_start v_p0_tape_bytes) 1000 z1)))
abbrev rm_X10_nameRead : Room := { frames := 5, cells := 0, slots := 0, locals := 107 }
theorem inX10_nameRead_X10 : ∀ w ∈ wsX100, w ∈ wsX10_nameRead := by decide +kernel
theorem mwX10_nameRead_1 : Cond.fieldLink RX10 45 "LadleKings$TextReader" "tape" "LLadleKings$Tape;" ∈ wsX10_nameRead := by decide +kernel
theorem inX10_nameRead_X9 : ∀ w ∈ wsX90, w ∈ wsX10_nameRead := by decide +kernel
theorem mwX10_nameRead_3 : Cond.fieldLink RX10 81 "LadleKings$Tape" "token" "I" ∈ wsX10_nameRead := by decide +kernel
set_option maxHeartbeats 8000000 in
set_option maxRecDepth 100000 in
theorem c_X10_nameRead (l : Launch) (D : va_G) (G : Nat → ClassId) (sz : Nat) (adT adK adV : Nat → Nat) (a_p0 : Nat) (a_p0_tape : Nat) (a_p0_rules : Nat) (a_p0_state : Nat) (a_p0_numbers : Nat) (a_p0_tape_bytes : Nat) (i_p0_faultFound : Int) (i_p0_faultPlace : Int) (i_p0_lines : Int) (i_p0_met : Int) (i_p0_greatest : Int) (i_p0_tape_length : Int) (i_p0_tape_at : Int) (i_p0_tape_token : Int) (i_p0_tape_start : Int) (i_p0_tape_value : Int) (v_p0_tape_bytes : (Int → Int)) (r : Int) (hf : f_X10_nameRead i_p0_tape_at i_p0_tape_token i_p0_tape_start v_p0_tape_bytes = some r) : Met l yX10_nameRead wsX10_nameRead rm_X10_nameRead (pcGE D G adT adK adV [.ref a_p0] sz [(a_p0, .inr (10, [.ref a_p0_tape, .ref a_p0_rules, .ref a_p0_state, .int (Int32.ofInt i_p0_faultFound), .int (Int32.ofInt i_p0_faultPlace), .int (Int32.ofInt i_p0_lines), .int (Int32.ofInt i_p0_met), .int (Int32.ofInt i_p0_greatest), .ref a_p0_numbers])), (a_p0_tape, .inr (9, [.ref a_p0_tape_bytes, .int (Int32.ofInt i_p0_tape_length), .int (Int32.ofInt i_p0_tape_at), .int (Int32.ofInt i_p0_tape_token), .int (Int32.ofInt i_p0_tape_start), .int (Int32.ofInt i_p0_tape_value)])), (a_p0_tape_bytes, .inl (G 0, 320, .inl (zA v_p0_tape_bytes)))]) (qcI D G (Int32.ofInt r) [(a_p0, .inr (10, [.ref a_p0_tape, .ref a_p0_rules, .ref a_p0_state, .int (Int32.ofInt i_p0_faultFound), .int (Int32.ofInt i_p0_faultPlace), .int (Int32.ofInt i_p0_lines), .int (Int32.ofInt i_p0_met), .int (Int32.ofInt i_p0_greatest), .ref a_p0_numbers])), (a_p0_tape, .inr (9, [.ref a_p0_tape_bytes, .int (Int32.ofInt i_p0_tape_length), .int (Int32.ofInt i_p0_tape_at), .int (Int32.ofInt i_p0_tape_token), .int (Int32.ofInt i_p0_tape_start), .int (Int32.ofInt i_p0_tape_value)])), (a_p0_tape_bytes, .inl (G 0, 320, .inl (zA v_p0_tape_bytes)))] (va_A [(a_p0, .inr (10, [.ref a_p0_tape, .ref a_p0_rules, .ref a_p0_state, .int (Int32.ofInt i_p0_faultFound), .int (Int32.ofInt i_p0_faultPlace), .int (Int32.ofInt i_p0_lines), .int (Int32.ofInt i_p0_met), .int (Int32.ofInt i_p0_greatest), .ref a_p0_numbers])), (a_p0_tape, .inr (9, [.ref a_p0_tape_bytes, .int (Int32.ofInt i_p0_tape_length), .int (Int32.ofInt i_p0_tape_at), .int (Int32.ofInt i_p0_tape_token), .int (Int32.ofInt i_p0_tape_start), .int (Int32.ofInt i_p0_tape_value)])), (a_p0_tape_bytes, .inl (G 0, 320, .inl (zA v_p0_tape_bytes)))] sz)) 0 0 (va_A [(a_p0, .inr (10, [.ref a_p0_tape, .ref a_p0_rules, .ref a_p0_state, .int (Int32.ofInt i_p0_faultFound), .int (Int32.ofInt i_p0_faultPlace), .int (Int32.ofInt i_p0_lines), .int (Int32.ofInt i_p0_met), .int (Int32.ofInt i_p0_greatest), .ref a_p0_numbers])), (a_p0_tape, .inr (9, [.ref a_p0_tape_bytes, .int (Int32.ofInt i_p0_tape_length), .int (Int32.ofInt i_p0_tape_at), .int (Int32.ofInt i_p0_tape_token), .int (Int32.ofInt i_p0_tape_start), .int (Int32.ofInt i_p0_tape_value)])), (a_p0_tape_bytes, .inl (G 0, 320, .inl (zA v_p0_tape_bytes)))] sz) := by
  refine Met.ofW (cc := cX10_nameRead) (maxL := 2) (ret := (some .int)) (by decide) rfl ?_
  intro p e s m args below meth c s₁ B hml hv
  obtain ⟨rfl, hsz, hP, hK, hD0, hE⟩ := hv
  have hx := B.exec
  have hb := B.bytes
  have hr := B.returns
  have hts := atoms_spec (ws := wsX10_nameRead) B.pre
  have hown : s.vm.findClass RX10 = some m.cls := findClass_of_methodNamed B.named
  have hlocks := B.notSynchronized
  subst hsz
  have hD := hD0.self (sz := s.heap.size)
  generalize hAe : va_A [(a_p0, .inr (10, [.ref a_p0_tape, .ref a_p0_rules, .ref a_p0_state, .int (Int32.ofInt i_p0_faultFound), .int (Int32.ofInt i_p0_faultPlace), .int (Int32.ofInt i_p0_lines), .int (Int32.ofInt i_p0_met), .int (Int32.ofInt i_p0_greatest), .ref a_p0_numbers])), (a_p0_tape, .inr (9, [.ref a_p0_tape_bytes, .int (Int32.ofInt i_p0_tape_length), .int (Int32.ofInt i_p0_tape_at), .int (Int32.ofInt i_p0_tape_token), .int (Int32.ofInt i_p0_tape_start), .int (Int32.ofInt i_p0_tape_value)])), (a_p0_tape_bytes, .inl (G 0, 320, .inl (zA v_p0_tape_bytes)))] s.heap.size = A at hD hE ⊢
  have hA : ∀ q : Nat, s.heap.size ≤ q → A q := fun q h => by rw [← hAe]; exact Or.inr h
  clear hAe hD0
  have hS : va_S A s.heap s.heap [] := va_S.rf
  have hl := lv_entry ([.ref a_p0]) (n := 2) (Nat.le_of_ble_eq_true rfl)
  rw [lg_entry_eq]
  generalize (lg_sl ([.ref a_p0]) ++ List.replicate (2 - (lg_sl ([.ref a_p0])).length) Slot.unset).toArray = ls at hl ⊢
  have hl : lv_has ls 2 [(0, .ref a_p0)] := hl
  refine W_nameQ (fun Q hQ => ?_)
  obtain ⟨H, hH⟩ : ∃ H, H = s.heap := ⟨_, rfl⟩
  replace hS : va_S A s.heap H [] := by rw [hH]; exact hS
  replace hP : va_P D vwCl [(a_p0, .inr (10, [.ref a_p0_tape, .ref a_p0_rules, .ref a_p0_state, .int (Int32.ofInt i_p0_faultFound), .int (Int32.ofInt i_p0_faultPlace), .int (Int32.ofInt i_p0_lines), .int (Int32.ofInt i_p0_met), .int (Int32.ofInt i_p0_greatest), .ref a_p0_numbers])), (a_p0_tape, .inr (9, [.ref a_p0_tape_bytes, .int (Int32.ofInt i_p0_tape_length), .int (Int32.ofInt i_p0_tape_at), .int (Int32.ofInt i_p0_tape_token), .int (Int32.ofInt i_p0_tape_start), .int (Int32.ofInt i_p0_tape_value)])), (a_p0_tape_bytes, .inl (G 0, 320, .inl (zA v_p0_tape_bytes)))] H := by rw [hH]; exact hP
  rw [← hH]
  clear hH
  unfold f_X10_nameRead at hf
  refine lv_iconst (v := Int32.ofInt (0 : Int)) hx hb dX10_nameRead_0 (by decide) ?_
  refine z_topi (fun z1 ez => ?_)
  replace hf := bnd_s hf ez
  clear ez
  refine lv_istore_n (lv' := [(1, .int (Int32.ofInt z1)), (0, .ref a_p0)]) hx hb dX10_nameRead_1 rfl hl (by decide) rfl (fun ls hl => ?_)
  have hq := lq1_i hf
  clear hf
  obtain ⟨B3, eB3, NB3, hf⟩ := hq
  have hB3 : ∀ (n : Nat) (z2 : Int) (ls : Array Slot) (H : Heap) (locs : List Loc), lv_has ls 2 [(1, .int (Int32.ofInt z2)), (0, .ref a_p0)] → va_P D vwCl [(a_p0, .inr (10, [.ref a_p0_tape, .ref a_p0_rules, .ref a_p0_state, .int (Int32.ofInt i_p0_faultFound), .int (Int32.ofInt i_p0_faultPlace), .int (Int32.ofInt i_p0_lines), .int (Int32.ofInt i_p0_met), .int (Int32.ofInt i_p0_greatest), .ref a_p0_numbers])), (a_p0_tape, .inr (9, [.ref a_p0_tape_bytes, .int (Int32.ofInt i_p0_tape_length), .int (Int32.ofInt i_p0_tape_at), .int (Int32.ofInt i_p0_tape_token), .int (Int32.ofInt i_p0_tape_start), .int (Int32.ofInt i_p0_tape_value)])), (a_p0_tape_bytes, .inl (G 0, 320, .inl (zA v_p0_tape_bytes)))] H → va_D A [(a_p0, .inr (10, [.ref a_p0_tape, .ref a_p0_rules, .ref a_p0_state, .int (Int32.ofInt i_p0_faultFound), .int (Int32.ofInt i_p0_faultPlace), .int (Int32.ofInt i_p0_lines), .int (Int32.ofInt i_p0_met), .int (Int32.ofInt i_p0_greatest), .ref a_p0_numbers])), (a_p0_tape, .inr (9, [.ref a_p0_tape_bytes, .int (Int32.ofInt i_p0_tape_length), .int (Int32.ofInt i_p0_tape_at), .int (Int32.ofInt i_p0_tape_token), .int (Int32.ofInt i_p0_tape_start), .int (Int32.ofInt i_p0_tape_value)])), (a_p0_tape_bytes, .inl (G 0, 320, .inl (zA v_p0_tape_bytes)))] → va_S A s.heap H locs → lq1 B3 n z2 = some r → W p l e rm_X10_nameRead s m ([.ref a_p0] : List Value).toArray below meth c H locs 0 0 Q (F0 m 2 ls []) := by
    clear hf hl hP hD hS
    intro n
    induction n with
    | zero =>
      intro z2 ls H locs hl hP hD hS hf
      exact (lq1_0 hf).elim
    | succ n ih2 =>
      intro z2 ls H locs hl hP hD hS hf
      replace hf := lq1_s eB3 hf
      unfold B_X10_nameRead_2 at hf
      refine lv_iload_n hx hb dX10_nameRead_2 rfl (lv_at hl 0 rfl) ?_
      refine lv_bipush (v := Int32.ofInt (11 : Int)) hx hb dX10_nameRead_3 (by decide) ?_
      have hr3 := ck_c hf
      replace hf := ck_r hf
      refine lv_icmp_ge (tgt := 41) hx hb dX10_nameRead_5 (by decide) (fun cc => ?_) (fun cc => ?_)
      ·
        replace hf := ite_t ((z_le (by decide) hr3).mp cc) hf
        clear cc
        refine lv_bipush (v := Int32.ofInt (-4 : Int)) hx hb dX10_nameRead_41 (by decide) ?_
        obtain rfl := ou1 hf
        rw [hQ]
        exact W.iret hx hb hr (fun t ht hW => ⟨⟨_, (), rfl, rfl, by rw [ht]; exact hP, va_K.moved hW.alike hK, hD⟩, hS.F ht⟩) hS.2.2 dX10_nameRead_43
      ·
        replace hf := ite_f (fun h9 => cc ((z_le (by decide) hr3).mpr h9)) hf
        clear cc
        refine lv_aload_n hx hb dX10_nameRead_8 rfl (lv_at hl 1 rfl) ?_
        refine va_get (D := D) (ci := 10) (v := .ref a_p0_tape) (C := RX10) (T := TX10) (N := 9) hx hb hts inX10_nameRead_X10 hown hK hP 0 rfl rfl 0 (by decide) (hts _ mwX10_nameRead_1) (fun _ h9 => h9) rfl dX10_nameRead_9 ?_
        refine va_get (D := D) (ci := 9) (v := .int (Int32.ofInt i_p0_tape_token)) (C := RX9) (T := TX9) (N := 6) hx hb hts inX10_nameRead_X9 hown hK hP 1 rfl rfl 3 (by decide) (hts _ mwX10_nameRead_3) (fun _ h9 => h9) rfl dX10_nameRead_12 ?_
        refine lv_iconst (v := Int32.ofInt (1 : Int)) hx hb dX10_nameRead_15 (by decide) ?_
        have hr4 := ck_c hf
        replace hf := ck_r hf
        refine lv_icmp_ne (tgt := 41) hx hb dX10_nameRead_16 (by decide) (fun cc => ?_) (fun cc => ?_)
        ·
          replace hf := ite_f (fun h9 => cc ((z_eq hr4 (by decide)).mpr h9)) hf
          clear cc
          refine lv_bipush (v := Int32.ofInt (-4 : Int)) hx hb dX10_nameRead_41 (by decide) ?_
          obtain rfl := ou1 hf
          rw [hQ]
          exact W.iret hx hb hr (fun t ht hW => ⟨⟨_, (), rfl, rfl, by rw [ht]; exact hP, va_K.moved hW.alike hK, hD⟩, hS.F ht⟩) hS.2.2 dX10_nameRead_43
        ·
          replace hf := ite_t ((z_eq hr4 (by decide)).mp cc) hf
          clear cc
          refine lv_aload_n hx hb dX10_nameRead_19 rfl (lv_at hl 1 rfl) ?_
          refine va_get (D := D) (ci := 10) (v := .ref a_p0_tape) (C := RX10) (T := TX10) (N := 9) hx hb hts inX10_nameRead_X10 hown hK hP 0 rfl rfl 0 (by decide) (hts _ mwX10_nameRead_1) (fun _ h9 => h9) rfl dX10_nameRead_20 ?_
          refine lv_iload_n hx hb dX10_nameRead_23 rfl (lv_at hl 0 rfl) ?_
          have hq := bd1_s hf
          clear hf
          obtain ⟨z6, hcall, hf⟩ := hq
          refine gcR (ws' := [(a_p0, .inr (10, [.ref a_p0_tape, .ref a_p0_rules, .ref a_p0_state, .int (Int32.ofInt i_p0_faultFound), .int (Int32.ofInt i_p0_faultPlace), .int (Int32.ofInt i_p0_lines), .int (Int32.ofInt i_p0_met), .int (Int32.ofInt i_p0_greatest), .ref a_p0_numbers])), (a_p0_tape, .inr (9, [.ref a_p0_tape_bytes, .int (Int32.ofInt i_p0_tape_length), .int (Int32.ofInt i_p0_tape_at), .int (Int32.ofInt i_p0_tape_token), .int (Int32.ofInt i_p0_tape_start), .int (Int32.ofInt i_p0_tape_value)])), (a_p0_tape_bytes, .inl (G 0, 320, .inl (zA v_p0_tape_bytes)))]) (va_runS (As := [.int (Int32.ofInt z2)]) (rest := [.ref a_p0_tape]) ⟨hx, hb, hml, hown, hts⟩ (c_X10_nameOf (l := l) (D := D) (G := G) (sz := H.size) (adT := adT) (adK := adK) (adV := adV) (x0 := z2) (r := z6) (hf := hcall)) (va_cwS 1 hts gX10_nameRead_X10_nameOf rfl rfl rfl (by decide +kernel) ⟨Nat.le_of_ble_eq_true rfl, Nat.le_of_ble_eq_true rfl⟩) (preGE_S (hP.sub [] rfl) (hD.sub [] rfl rfl) hK hE hS hA) rfl rfl hl.1 rfl (lv_room (Nat.le_of_ble_eq_true rfl)) dX10_nameRead_24 ⟨Nat.le_of_ble_eq_true rfl, Nat.le_of_ble_eq_true rfl⟩) hP hD hS hA [] [0, 1, 2] [0, 1, 2] rfl rfl rfl (by decide) rfl rfl rfl (fun H locs hP hD hS => ?_)
          clear hcall
          have hq := bd1_s hf
          clear hf
          obtain ⟨z7, hcall, hf⟩ := hq
          refine gcI (ws' := [(a_p0, .inr (10, [.ref a_p0_tape, .ref a_p0_rules, .ref a_p0_state, .int (Int32.ofInt i_p0_faultFound), .int (Int32.ofInt i_p0_faultPlace), .int (Int32.ofInt i_p0_lines), .int (Int32.ofInt i_p0_met), .int (Int32.ofInt i_p0_greatest), .ref a_p0_numbers])), (a_p0_tape, .inr (9, [.ref a_p0_tape_bytes, .int (Int32.ofInt i_p0_tape_length), .int (Int32.ofInt i_p0_tape_at), .int (Int32.ofInt i_p0_tape_token), .int (Int32.ofInt i_p0_tape_start), .int (Int32.ofInt i_p0_tape_value)])), (a_p0_tape_bytes, .inl (G 0, 320, .inl (zA v_p0_tape_bytes)))]) (va_runV (As := [.ref (adK (z6).toNat)]) (rest := []) ⟨hx, hb, hml, hown, hts⟩ (c_X9_isNamed (l := l) (D := D) (G := G) (sz := H.size) (adT := adT) (adK := adK) (adV := adV) (a_p0 := a_p0_tape) (a_p0_bytes := a_p0_tape_bytes) (i_p0_length := i_p0_tape_length) (i_p0_at := i_p0_tape_at) (i_p0_token := i_p0_tape_token) (i_p0_start := i_p0_tape_start) (i_p0_value := i_p0_tape_value) (v_p0_bytes := v_p0_tape_bytes) (x1 := z6) (r := z7) (hf := hcall)) (cwV 1 hts gX10_nameRead_X9_isNamed rfl rfl rfl (by decide +kernel) ⟨Nat.le_of_ble_eq_true rfl, Nat.le_of_ble_eq_true rfl⟩) (preGE_V (ci := 9) (hP.sub [1, 2] rfl) (hD.sub [1, 2] rfl rfl) hK rfl rfl hE hS hA) rfl rfl hl.1 rfl (lv_room (Nat.le_of_ble_eq_true rfl)) dX10_nameRead_27 ⟨Nat.le_of_ble_eq_true rfl, Nat.le_of_ble_eq_true rfl⟩) hP hD hS hA [1, 2] [0] [0, 1, 2] rfl rfl rfl (by decide) rfl rfl rfl (fun H locs hP hD hS => ?_)
          clear hcall
          have hr7 := ck_c hf
          replace hf := ck_r hf
          refine lv_if_eq (tgt := 35) hx hb dX10_nameRead_30 (by decide) (fun cc => ?_) (fun cc => ?_)
          ·
            replace hf := ite_t ((z_eq0 hr7).mp cc) hf
            clear cc
            obtain ⟨z9, ez⟩ : ∃ y : Int, y = (z2 + (1 : Int)) := ⟨_, rfl⟩
            replace hf := bnd_s hf ez
            refine lv_iinc (v := Int32.ofInt z9) (lv' := [(1, .int (Int32.ofInt z9)), (0, .ref a_p0)]) hx hb dX10_nameRead_35 hl (k := 0) rfl (by rw [ez]; exact (Int32.ofInt_add _ _).symm) (by decide) rfl (fun ls hl => ?_)
            clear ez
            refine lv_goto (tgt := 2) hx hb dX10_nameRead_38 (by decide) ?_
            exact ih2 _ _ _ _ (lv_sub hl [0, 1] rfl) hP hD hS hf
          ·
            replace hf := ite_f (fun h9 => cc ((z_eq0 hr7).mpr h9)) hf
            clear cc
            refine lv_iload_n hx hb dX10_nameRead_33 rfl (lv_at hl 0 rfl) ?_
            obtain rfl := ou1 hf
            rw [hQ]
            exact W.iret hx hb hr (fun t ht hW => ⟨⟨_, (), rfl, rfl, by rw [ht]; exact hP, va_K.moved hW.alike hK, hD⟩, hS.F ht⟩) hS.2.2 dX10_nameRead_34
  exact hB3 _ _ _ _ _ (lv_sub hl [0, 1] rfl) hP hD hS hf

noncomputable def f_X10_faultOfName (i_p0_met : Int) (i_p0_tape_token : Int) (i_p0_rules_stirs : Int) (x1 : Int) : Option (Int) := (ck (z_r32 i_p0_tape_token) (if i_p0_tape_token = (4 : Int) then (some (1 : Int)) else (ck (z_r32 x1) (if x1 = (-4 : Int) then (some (2 : Int)) else (jn (if x1 < (7 : Int) then (some (0 : Int)) else (ck (z_r32 i_p0_rules_stirs) (if i_p0_rules_stirs < (5 : Int) then (some (0 : Int)) else (some (5 : Int))))) (fun (J3 : Option (Int)) => (if (3 : Int) < x1 then (J3) else (ck (z_r32 (z_and (z_shr i_p0_met x1) (1 : Int))) (if (z_and (z_shr i_p0_met x1) (1 : Int)) = (0 : Int) then (J3) else (some (4 : Int)))))))))))
abbrev rm_X10_faultOfName : Room := { frames := 0, cells := 0, slots := 0, locals := 0 }
theorem inX10_faultOfName_X10 : ∀ w ∈ wsX100, w ∈ wsX10_faultOfName := by decide +kernel
theorem mwX10_faultOfName_1 : Cond.fieldLink RX10 45 "LadleKings$TextReader" "tape" "LLadleKings$Tape;" ∈ wsX10_faultOfName := by decide +kernel
theorem inX10_faultOfName_X9 : ∀ w ∈ wsX90, w ∈ wsX10_faultOfName := by decide +kernel
theorem mwX10_faultOfName_3 : Cond.fieldLink RX10 81 "LadleKings$Tape" "token" "I" ∈ wsX10_faultOfName := by decide +kernel
theorem mwX10_faultOfName_4 : Cond.fieldLink RX10 12 "LadleKings$TextReader" "rules" "LLadleKings$Rules;" ∈ wsX10_faultOfName := by decide +kernel
theorem inX10_faultOfName_X6 : ∀ w ∈ wsX60, w ∈ wsX10_faultOfName := by decide +kernel
theorem mwX10_faultOfName_6 : Cond.fieldLink RX10 141 "LadleKings$Rules" "stirs" "I" ∈ wsX10_faultOfName := by decide +kernel
theorem mwX10_faultOfName_7 : Cond.fieldLink RX10 35 "LadleKings$TextReader" "met" "I" ∈ wsX10_faultOfName := by decide +kernel
set_option maxHeartbeats 8000000 in
set_option maxRecDepth 100000 in
theorem c_X10_faultOfName (l : Launch) (D : va_G) (G : Nat → ClassId) (sz : Nat) (a_p0 : Nat) (a_p0_tape : Nat) (a_p0_rules : Nat) (a_p0_state : Nat) (a_p0_numbers : Nat) (a_p0_tape_bytes : Nat) (a_p0_rules_need : Nat) (a_p0_rules_kind : Nat) (a_p0_rules_first : Nat) (a_p0_rules_second : Nat) (a_p0_rules_after : Nat) (i_p0_faultFound : Int) (i_p0_faultPlace : Int) (i_p0_lines : Int) (i_p0_met : Int) (i_p0_greatest : Int) (i_p0_tape_length : Int) (i_p0_tape_at : Int) (i_p0_tape_token : Int) (i_p0_tape_start : Int) (i_p0_tape_value : Int) (i_p0_rules_seats : Int) (i_p0_rules_stirs : Int) (x1 : Int) (r : Int) (hf : f_X10_faultOfName i_p0_met i_p0_tape_token i_p0_rules_stirs x1 = some r) : Met l yX10_faultOfName wsX10_faultOfName rm_X10_faultOfName (pcG D G [.ref a_p0, .int (Int32.ofInt x1)] sz [(a_p0, .inr (10, [.ref a_p0_tape, .ref a_p0_rules, .ref a_p0_state, .int (Int32.ofInt i_p0_faultFound), .int (Int32.ofInt i_p0_faultPlace), .int (Int32.ofInt i_p0_lines), .int (Int32.ofInt i_p0_met), .int (Int32.ofInt i_p0_greatest), .ref a_p0_numbers])), (a_p0_tape, .inr (9, [.ref a_p0_tape_bytes, .int (Int32.ofInt i_p0_tape_length), .int (Int32.ofInt i_p0_tape_at), .int (Int32.ofInt i_p0_tape_token), .int (Int32.ofInt i_p0_tape_start), .int (Int32.ofInt i_p0_tape_value)])), (a_p0_rules, .inr (6, [.int (Int32.ofInt i_p0_rules_seats), .int (Int32.ofInt i_p0_rules_stirs), .ref a_p0_rules_need, .ref a_p0_rules_kind, .ref a_p0_rules_first, .ref a_p0_rules_second, .ref a_p0_rules_after]))]) (qcI D G (Int32.ofInt r) [(a_p0, .inr (10, [.ref a_p0_tape, .ref a_p0_rules, .ref a_p0_state, .int (Int32.ofInt i_p0_faultFound), .int (Int32.ofInt i_p0_faultPlace), .int (Int32.ofInt i_p0_lines), .int (Int32.ofInt i_p0_met), .int (Int32.ofInt i_p0_greatest), .ref a_p0_numbers])), (a_p0_tape, .inr (9, [.ref a_p0_tape_bytes, .int (Int32.ofInt i_p0_tape_length), .int (Int32.ofInt i_p0_tape_at), .int (Int32.ofInt i_p0_tape_token), .int (Int32.ofInt i_p0_tape_start), .int (Int32.ofInt i_p0_tape_value)])), (a_p0_rules, .inr (6, [.int (Int32.ofInt i_p0_rules_seats), .int (Int32.ofInt i_p0_rules_stirs), .ref a_p0_rules_need, .ref a_p0_rules_kind, .ref a_p0_rules_first, .ref a_p0_rules_second, .ref a_p0_rules_after]))] (va_A [(a_p0, .inr (10, [.ref a_p0_tape, .ref a_p0_rules, .ref a_p0_state, .int (Int32.ofInt i_p0_faultFound), .int (Int32.ofInt i_p0_faultPlace), .int (Int32.ofInt i_p0_lines), .int (Int32.ofInt i_p0_met), .int (Int32.ofInt i_p0_greatest), .ref a_p0_numbers])), (a_p0_tape, .inr (9, [.ref a_p0_tape_bytes, .int (Int32.ofInt i_p0_tape_length), .int (Int32.ofInt i_p0_tape_at), .int (Int32.ofInt i_p0_tape_token), .int (Int32.ofInt i_p0_tape_start), .int (Int32.ofInt i_p0_tape_value)])), (a_p0_rules, .inr (6, [.int (Int32.ofInt i_p0_rules_seats), .int (Int32.ofInt i_p0_rules_stirs), .ref a_p0_rules_need, .ref a_p0_rules_kind, .ref a_p0_rules_first, .ref a_p0_rules_second, .ref a_p0_rules_after]))] sz)) 0 0 (va_A [(a_p0, .inr (10, [.ref a_p0_tape, .ref a_p0_rules, .ref a_p0_state, .int (Int32.ofInt i_p0_faultFound), .int (Int32.ofInt i_p0_faultPlace), .int (Int32.ofInt i_p0_lines), .int (Int32.ofInt i_p0_met), .int (Int32.ofInt i_p0_greatest), .ref a_p0_numbers])), (a_p0_tape, .inr (9, [.ref a_p0_tape_bytes, .int (Int32.ofInt i_p0_tape_length), .int (Int32.ofInt i_p0_tape_at), .int (Int32.ofInt i_p0_tape_token), .int (Int32.ofInt i_p0_tape_start), .int (Int32.ofInt i_p0_tape_value)])), (a_p0_rules, .inr (6, [.int (Int32.ofInt i_p0_rules_seats), .int (Int32.ofInt i_p0_rules_stirs), .ref a_p0_rules_need, .ref a_p0_rules_kind, .ref a_p0_rules_first, .ref a_p0_rules_second, .ref a_p0_rules_after]))] sz) := by
  refine Met.ofW (cc := cX10_faultOfName) (maxL := 2) (ret := (some .int)) (by decide) rfl ?_
  intro p e s m args below meth c s₁ B hml hv
  obtain ⟨rfl, hsz, hP, hK, hD0⟩ := hv
  have hx := B.exec
  have hb := B.bytes
  have hr := B.returns
  have hts := atoms_spec (ws := wsX10_faultOfName) B.pre
  have hown : s.vm.findClass RX10 = some m.cls := findClass_of_methodNamed B.named
  have hlocks := B.notSynchronized
  subst hsz
  have hD := hD0.self (sz := s.heap.size)
  generalize hAe : va_A [(a_p0, .inr (10, [.ref a_p0_tape, .ref a_p0_rules, .ref a_p0_state, .int (Int32.ofInt i_p0_faultFound), .int (Int32.ofInt i_p0_faultPlace), .int (Int32.ofInt i_p0_lines), .int (Int32.ofInt i_p0_met), .int (Int32.ofInt i_p0_greatest), .ref a_p0_numbers])), (a_p0_tape, .inr (9, [.ref a_p0_tape_bytes, .int (Int32.ofInt i_p0_tape_length), .int (Int32.ofInt i_p0_tape_at), .int (Int32.ofInt i_p0_tape_token), .int (Int32.ofInt i_p0_tape_start), .int (Int32.ofInt i_p0_tape_value)])), (a_p0_rules, .inr (6, [.int (Int32.ofInt i_p0_rules_seats), .int (Int32.ofInt i_p0_rules_stirs), .ref a_p0_rules_need, .ref a_p0_rules_kind, .ref a_p0_rules_first, .ref a_p0_rules_second, .ref a_p0_rules_after]))] s.heap.size = A at hD ⊢
  have hA : ∀ q : Nat, s.heap.size ≤ q → A q := fun q h => by rw [← hAe]; exact Or.inr h
  clear hAe hD0
  have hS : va_S A s.heap s.heap [] := va_S.rf
  have hl := lv_entry ([.ref a_p0, .int (Int32.ofInt x1)]) (n := 2) (Nat.le_of_ble_eq_true rfl)
  rw [lg_entry_eq]
  generalize (lg_sl ([.ref a_p0, .int (Int32.ofInt x1)]) ++ List.replicate (2 - (lg_sl ([.ref a_p0, .int (Int32.ofInt x1)])).length) Slot.unset).toArray = ls at hl ⊢
  have hl : lv_has ls 2 [(0, .ref a_p0), (1, .int (Int32.ofInt x1))] := hl
  refine W_nameQ (fun Q hQ => ?_)
  obtain ⟨H, hH⟩ : ∃ H, H = s.heap := ⟨_, rfl⟩
  replace hS : va_S A s.heap H [] := by rw [hH]; exact hS
  replace hP : va_P D vwCl [(a_p0, .inr (10, [.ref a_p0_tape, .ref a_p0_rules, .ref a_p0_state, .int (Int32.ofInt i_p0_faultFound), .int (Int32.ofInt i_p0_faultPlace), .int (Int32.ofInt i_p0_lines), .int (Int32.ofInt i_p0_met), .int (Int32.ofInt i_p0_greatest), .ref a_p0_numbers])), (a_p0_tape, .inr (9, [.ref a_p0_tape_bytes, .int (Int32.ofInt i_p0_tape_length), .int (Int32.ofInt i_p0_tape_at), .int (Int32.ofInt i_p0_tape_token), .int (Int32.ofInt i_p0_tape_start), .int (Int32.ofInt i_p0_tape_value)])), (a_p0_rules, .inr (6, [.int (Int32.ofInt i_p0_rules_seats), .int (Int32.ofInt i_p0_rules_stirs), .ref a_p0_rules_need, .ref a_p0_rules_kind, .ref a_p0_rules_first, .ref a_p0_rules_second, .ref a_p0_rules_after]))] H := by rw [hH]; exact hP
  rw [← hH]
  clear hH
  unfold f_X10_faultOfName at hf
  refine lv_aload_n hx hb dX10_faultOfName_0 rfl (lv_at hl 0 rfl) ?_
  refine va_get (D := D) (ci := 10) (v := .ref a_p0_tape) (C := RX10) (T := TX10) (N := 9) hx hb hts inX10_faultOfName_X10 hown hK hP 0 rfl rfl 0 (by decide) (hts _ mwX10_faultOfName_1) (fun _ h9 => h9) rfl dX10_faultOfName_1 ?_
  refine va_get (D := D) (ci := 9) (v := .int (Int32.ofInt i_p0_tape_token)) (C := RX9) (T := TX9) (N := 6) hx hb hts inX10_faultOfName_X9 hown hK hP 1 rfl rfl 3 (by decide) (hts _ mwX10_faultOfName_3) (fun _ h9 => h9) rfl dX10_faultOfName_4 ?_
  refine lv_iconst (v := Int32.ofInt (4 : Int)) hx hb dX10_faultOfName_7 (by decide) ?_
  have hr0 := ck_c hf
  replace hf := ck_r hf
  refine lv_icmp_ne (tgt := 13) hx hb dX10_faultOfName_8 (by decide) (fun cc => ?_) (fun cc => ?_)
  ·
    replace hf := ite_f (fun h9 => cc ((z_eq hr0 (by decide)).mpr h9)) hf
    clear cc
    refine lv_iload_n hx hb dX10_faultOfName_13 rfl (lv_at hl 1 rfl) ?_
    refine lv_bipush (v := Int32.ofInt (-4 : Int)) hx hb dX10_faultOfName_14 (by decide) ?_
    have hr1 := ck_c hf
    replace hf := ck_r hf
    refine lv_icmp_ne (tgt := 21) hx hb dX10_faultOfName_16 (by decide) (fun cc => ?_) (fun cc => ?_)
    ·
      replace hf := ite_f (fun h9 => cc ((z_eq hr1 (by decide)).mpr h9)) hf
      clear cc
      refine lv_iload_n hx hb dX10_faultOfName_21 rfl (lv_at hl 1 rfl) ?_
      refine lv_iconst (v := Int32.ofInt (3 : Int)) hx hb dX10_faultOfName_22 (by decide) ?_
      have hq := jn_i hf
      clear hf
      obtain ⟨J3, eJ3, hf⟩ := hq
      have hJ3 : ∀  (ls : Array Slot) (H : Heap) (locs : List Loc), lv_has ls 2 [(0, .ref a_p0), (1, .int (Int32.ofInt x1))] → va_P D vwCl [(a_p0, .inr (10, [.ref a_p0_tape, .ref a_p0_rules, .ref a_p0_state, .int (Int32.ofInt i_p0_faultFound), .int (Int32.ofInt i_p0_faultPlace), .int (Int32.ofInt i_p0_lines), .int (Int32.ofInt i_p0_met), .int (Int32.ofInt i_p0_greatest), .ref a_p0_numbers])), (a_p0_tape, .inr (9, [.ref a_p0_tape_bytes, .int (Int32.ofInt i_p0_tape_length), .int (Int32.ofInt i_p0_tape_at), .int (Int32.ofInt i_p0_tape_token), .int (Int32.ofInt i_p0_tape_start), .int (Int32.ofInt i_p0_tape_value)])), (a_p0_rules, .inr (6, [.int (Int32.ofInt i_p0_rules_seats), .int (Int32.ofInt i_p0_rules_stirs), .ref a_p0_rules_need, .ref a_p0_rules_kind, .ref a_p0_rules_first, .ref a_p0_rules_second, .ref a_p0_rules_after]))] H → va_D A [(a_p0, .inr (10, [.ref a_p0_tape, .ref a_p0_rules, .ref a_p0_state, .int (Int32.ofInt i_p0_faultFound), .int (Int32.ofInt i_p0_faultPlace), .int (Int32.ofInt i_p0_lines), .int (Int32.ofInt i_p0_met), .int (Int32.ofInt i_p0_greatest), .ref a_p0_numbers])), (a_p0_tape, .inr (9, [.ref a_p0_tape_bytes, .int (Int32.ofInt i_p0_tape_length), .int (Int32.ofInt i_p0_tape_at), .int (Int32.ofInt i_p0_tape_token), .int (Int32.ofInt i_p0_tape_start), .int (Int32.ofInt i_p0_tape_value)])), (a_p0_rules, .inr (6, [.int (Int32.ofInt i_p0_rules_seats), .int (Int32.ofInt i_p0_rules_stirs), .ref a_p0_rules_need, .ref a_p0_rules_kind, .ref a_p0_rules_first, .ref a_p0_rules_second, .ref a_p0_rules_after]))] → va_S A s.heap H locs → J3  = some r → W p l e rm_X10_faultOfName s m ([.ref a_p0, .int (Int32.ofInt x1)] : List Value).toArray below meth c H locs 0 0 Q (F0 m 39 ls []) := by
        clear hf hl hP hD hS
        intro  ls H locs hl hP hD hS hf
        replace hf := jn0_s eJ3 hf
        refine lv_iload_n hx hb dX10_faultOfName_39 rfl (lv_at hl 1 rfl) ?_
        refine lv_bipush (v := Int32.ofInt (7 : Int)) hx hb dX10_faultOfName_40 (by decide) ?_
        refine lv_icmp_lt (tgt := 60) hx hb dX10_faultOfName_42 (by decide) (fun cc => ?_) (fun cc => ?_)
        ·
          replace hf := ite_t ((z_lt hr1 (by decide)).mp cc) hf
          clear cc
          refine lv_iconst (v := Int32.ofInt (0 : Int)) hx hb dX10_faultOfName_60 (by decide) ?_
          obtain rfl := ou1 hf
          rw [hQ]
          exact W.iret hx hb hr (fun t ht hW => ⟨⟨_, (), rfl, rfl, by rw [ht]; exact hP, va_K.moved hW.alike hK, hD⟩, hS.F ht⟩) hS.2.2 dX10_faultOfName_61
        ·
          replace hf := ite_f (fun h9 => cc ((z_lt hr1 (by decide)).mpr h9)) hf
          clear cc
          refine lv_aload_n hx hb dX10_faultOfName_45 rfl (lv_at hl 0 rfl) ?_
          refine va_get (D := D) (ci := 10) (v := .ref a_p0_rules) (C := RX10) (T := TX10) (N := 9) hx hb hts inX10_faultOfName_X10 hown hK hP 0 rfl rfl 1 (by decide) (hts _ mwX10_faultOfName_4) (fun _ h9 => h9) rfl dX10_faultOfName_46 ?_
          refine va_get (D := D) (ci := 6) (v := .int (Int32.ofInt i_p0_rules_stirs)) (C := RX6) (T := TX6) (N := 7) hx hb hts inX10_faultOfName_X6 hown hK hP 2 rfl rfl 1 (by decide) (hts _ mwX10_faultOfName_6) (fun _ h9 => h9) rfl dX10_faultOfName_49 ?_
          refine lv_iconst (v := Int32.ofInt (5 : Int)) hx hb dX10_faultOfName_52 (by decide) ?_
          have hr3 := ck_c hf
          replace hf := ck_r hf
          refine lv_icmp_lt (tgt := 60) hx hb dX10_faultOfName_53 (by decide) (fun cc => ?_) (fun cc => ?_)
          ·
            replace hf := ite_t ((z_lt hr3 (by decide)).mp cc) hf
            clear cc
            refine lv_iconst (v := Int32.ofInt (0 : Int)) hx hb dX10_faultOfName_60 (by decide) ?_
            obtain rfl := ou1 hf
            rw [hQ]
            exact W.iret hx hb hr (fun t ht hW => ⟨⟨_, (), rfl, rfl, by rw [ht]; exact hP, va_K.moved hW.alike hK, hD⟩, hS.F ht⟩) hS.2.2 dX10_faultOfName_61
          ·
            replace hf := ite_f (fun h9 => cc ((z_lt hr3 (by decide)).mpr h9)) hf
            clear cc
            refine lv_iconst (v := Int32.ofInt (5 : Int)) hx hb dX10_faultOfName_56 (by decide) ?_
            refine lv_goto (tgt := 61) hx hb dX10_faultOfName_57 (by decide) ?_
            obtain rfl := ou1 hf
            rw [hQ]
            exact W.iret hx hb hr (fun t ht hW => ⟨⟨_, (), rfl, rfl, by rw [ht]; exact hP, va_K.moved hW.alike hK, hD⟩, hS.F ht⟩) hS.2.2 dX10_faultOfName_61
      refine lv_icmp_gt (tgt := 39) hx hb dX10_faultOfName_23 (by decide) (fun cc => ?_) (fun cc => ?_)
      ·
        replace hf := ite_t ((z_lt (by decide) hr1).mp cc) hf
        clear cc
        exact hJ3  _ _ _ (lv_sub hl [0, 1] rfl) hP hD hS hf
      ·
        replace hf := ite_f (fun h9 => cc ((z_lt (by decide) hr1).mpr h9)) hf
        clear cc
        refine lv_aload_n hx hb dX10_faultOfName_26 rfl (lv_at hl 0 rfl) ?_
        refine va_get (D := D) (ci := 10) (v := .int (Int32.ofInt i_p0_met)) (C := RX10) (T := TX10) (N := 9) hx hb hts inX10_faultOfName_X10 hown hK hP 0 rfl rfl 6 (by decide) (hts _ mwX10_faultOfName_7) (fun _ h9 => h9) rfl dX10_faultOfName_27 ?_
        refine lv_iload_n hx hb dX10_faultOfName_30 rfl (lv_at hl 1 rfl) ?_
        refine lv_ishr hx hb dX10_faultOfName_31 (z_ci (z_shr_e i_p0_met x1) ?_)
        refine lv_iconst (v := Int32.ofInt (1 : Int)) hx hb dX10_faultOfName_32 (by decide) ?_
        refine lv_iand hx hb dX10_faultOfName_33 (z_ci (z_and_e (z_shr i_p0_met x1) (1 : Int)) ?_)
        have hr4 := ck_c hf
        replace hf := ck_r hf
        refine lv_if_eq (tgt := 39) hx hb dX10_faultOfName_34 (by decide) (fun cc => ?_) (fun cc => ?_)
        ·
          replace hf := ite_t ((z_eq0 hr4).mp cc) hf
          clear cc
          exact hJ3  _ _ _ (lv_sub hl [0, 1] rfl) hP hD hS hf
        ·
          replace hf := ite_f (fun h9 => cc ((z_eq0 hr4).mpr h9)) hf
          clear cc
          refine lv_iconst (v := Int32.ofInt (4 : Int)) hx hb dX10_faultOfName_37 (by decide) ?_
          obtain rfl := ou1 hf
          rw [hQ]
          exact W.iret hx hb hr (fun t ht hW => ⟨⟨_, (), rfl, rfl, by rw [ht]; exact hP, va_K.moved hW.alike hK, hD⟩, hS.F ht⟩) hS.2.2 dX10_faultOfName_38
    ·
      replace hf := ite_t ((z_eq hr1 (by decide)).mp cc) hf
      clear cc
      refine lv_iconst (v := Int32.ofInt (2 : Int)) hx hb dX10_faultOfName_19 (by decide) ?_
      obtain rfl := ou1 hf
      rw [hQ]
      exact W.iret hx hb hr (fun t ht hW => ⟨⟨_, (), rfl, rfl, by rw [ht]; exact hP, va_K.moved hW.alike hK, hD⟩, hS.F ht⟩) hS.2.2 dX10_faultOfName_20
  ·
    replace hf := ite_t ((z_eq hr0 (by decide)).mp cc) hf
    clear cc
    refine lv_iconst (v := Int32.ofInt (1 : Int)) hx hb dX10_faultOfName_11 (by decide) ?_
    obtain rfl := ou1 hf
    rw [hQ]
    exact W.iret hx hb hr (fun t ht hW => ⟨⟨_, (), rfl, rfl, by rw [ht]; exact hP, va_K.moved hW.alike hK, hD⟩, hS.F ht⟩) hS.2.2 dX10_faultOfName_12

noncomputable def f_X10_refuse (x1 : Int) (x2 : Int) : Option (Int × Int × Int) := (bnd x1 (fun (z1 : Int) => (bnd x2 (fun (z2 : Int) => (some ((0 : Int), z1, z2))))))
abbrev rm_X10_refuse : Room := { frames := 0, cells := 0, slots := 0, locals := 0 }
theorem inX10_refuse_X10 : ∀ w ∈ wsX100, w ∈ wsX10_refuse := by decide +kernel
theorem mwX10_refuse_1 : Cond.fieldLink RX10 25 "LadleKings$TextReader" "faultFound" "I" ∈ wsX10_refuse := by decide +kernel
theorem mwX10_refuse_2 : Cond.fieldLink RX10 29 "LadleKings$TextReader" "faultPlace" "I" ∈ wsX10_refuse := by decide +kernel
set_option maxHeartbeats 8000000 in
set_option maxRecDepth 100000 in
theorem c_X10_refuse (l : Launch) (D : va_G) (G : Nat → ClassId) (sz : Nat) (a_p0 : Nat) (a_p0_tape : Nat) (a_p0_rules : Nat) (a_p0_state : Nat) (a_p0_numbers : Nat) (i_p0_faultFound : Int) (i_p0_faultPlace : Int) (i_p0_lines : Int) (i_p0_met : Int) (i_p0_greatest : Int) (x1 : Int) (x2 : Int) (r : Int) (o_i_p0_faultFound : Int) (o_i_p0_faultPlace : Int) (hf : f_X10_refuse x1 x2 = some (r, o_i_p0_faultFound, o_i_p0_faultPlace)) : Met l yX10_refuse wsX10_refuse rm_X10_refuse (pcG D G [.ref a_p0, .int (Int32.ofInt x1), .int (Int32.ofInt x2)] sz [(a_p0, .inr (10, [.ref a_p0_tape, .ref a_p0_rules, .ref a_p0_state, .int (Int32.ofInt i_p0_faultFound), .int (Int32.ofInt i_p0_faultPlace), .int (Int32.ofInt i_p0_lines), .int (Int32.ofInt i_p0_met), .int (Int32.ofInt i_p0_greatest), .ref a_p0_numbers]))]) (qcI D G (Int32.ofInt r) [(a_p0, .inr (10, [.ref a_p0_tape, .ref a_p0_rules, .ref a_p0_state, .int (Int32.ofInt o_i_p0_faultFound), .int (Int32.ofInt o_i_p0_faultPlace), .int (Int32.ofInt i_p0_lines), .int (Int32.ofInt i_p0_met), .int (Int32.ofInt i_p0_greatest), .ref a_p0_numbers]))] (va_A [(a_p0, .inr (10, [.ref a_p0_tape, .ref a_p0_rules, .ref a_p0_state, .int (Int32.ofInt i_p0_faultFound), .int (Int32.ofInt i_p0_faultPlace), .int (Int32.ofInt i_p0_lines), .int (Int32.ofInt i_p0_met), .int (Int32.ofInt i_p0_greatest), .ref a_p0_numbers]))] sz)) 0 0 (va_A [(a_p0, .inr (10, [.ref a_p0_tape, .ref a_p0_rules, .ref a_p0_state, .int (Int32.ofInt i_p0_faultFound), .int (Int32.ofInt i_p0_faultPlace), .int (Int32.ofInt i_p0_lines), .int (Int32.ofInt i_p0_met), .int (Int32.ofInt i_p0_greatest), .ref a_p0_numbers]))] sz) := by
  refine Met.ofW (cc := cX10_refuse) (maxL := 3) (ret := (some .boolean)) (by decide) rfl ?_
  intro p e s m args below meth c s₁ B hml hv
  obtain ⟨rfl, hsz, hP, hK, hD0⟩ := hv
  have hx := B.exec
  have hb := B.bytes
  have hr := B.returns
  have hts := atoms_spec (ws := wsX10_refuse) B.pre
  have hown : s.vm.findClass RX10 = some m.cls := findClass_of_methodNamed B.named
  have hlocks := B.notSynchronized
  subst hsz
  have hD := hD0.self (sz := s.heap.size)
  generalize hAe : va_A [(a_p0, .inr (10, [.ref a_p0_tape, .ref a_p0_rules, .ref a_p0_state, .int (Int32.ofInt i_p0_faultFound), .int (Int32.ofInt i_p0_faultPlace), .int (Int32.ofInt i_p0_lines), .int (Int32.ofInt i_p0_met), .int (Int32.ofInt i_p0_greatest), .ref a_p0_numbers]))] s.heap.size = A at hD ⊢
  have hA : ∀ q : Nat, s.heap.size ≤ q → A q := fun q h => by rw [← hAe]; exact Or.inr h
  clear hAe hD0
  have hS : va_S A s.heap s.heap [] := va_S.rf
  have hl := lv_entry ([.ref a_p0, .int (Int32.ofInt x1), .int (Int32.ofInt x2)]) (n := 3) (Nat.le_of_ble_eq_true rfl)
  rw [lg_entry_eq]
  generalize (lg_sl ([.ref a_p0, .int (Int32.ofInt x1), .int (Int32.ofInt x2)]) ++ List.replicate (3 - (lg_sl ([.ref a_p0, .int (Int32.ofInt x1), .int (Int32.ofInt x2)])).length) Slot.unset).toArray = ls at hl ⊢
  have hl : lv_has ls 3 [(0, .ref a_p0), (1, .int (Int32.ofInt x1)), (2, .int (Int32.ofInt x2))] := hl
  refine W_nameQ (fun Q hQ => ?_)
  obtain ⟨H, hH⟩ : ∃ H, H = s.heap := ⟨_, rfl⟩
  replace hS : va_S A s.heap H [] := by rw [hH]; exact hS
  replace hP : va_P D vwCl [(a_p0, .inr (10, [.ref a_p0_tape, .ref a_p0_rules, .ref a_p0_state, .int (Int32.ofInt i_p0_faultFound), .int (Int32.ofInt i_p0_faultPlace), .int (Int32.ofInt i_p0_lines), .int (Int32.ofInt i_p0_met), .int (Int32.ofInt i_p0_greatest), .ref a_p0_numbers]))] H := by rw [hH]; exact hP
  rw [← hH]
  clear hH
  unfold f_X10_refuse at hf
  refine lv_aload_n hx hb dX10_refuse_0 rfl (lv_at hl 0 rfl) ?_
  refine lv_iload_n hx hb dX10_refuse_1 rfl (lv_at hl 1 rfl) ?_
  refine z_topi (fun z1 ez => ?_)
  replace hf := bnd_s hf ez
  clear ez
  refine va_put (D := D) (ci := 10) (v := .int (Int32.ofInt z1)) (ty := .int) (C := RX10) (T := TX10) (N := 9) hx hb hts inX10_refuse_X10 tyX10 tyX10_ok nmX10 hown hK hP hD hS 0 rfl rfl 3 (by decide) (hts _ mwX10_refuse_1) (fun _ h9 => h9) rfl (by decide +kernel) rfl rfl (Nat.le_of_ble_eq_true rfl) dX10_refuse_2 (fun H locs hP hD hS => ?_)
  have hP : va_P D vwCl [(a_p0, .inr (10, [.ref a_p0_tape, .ref a_p0_rules, .ref a_p0_state, .int (Int32.ofInt z1), .int (Int32.ofInt i_p0_faultPlace), .int (Int32.ofInt i_p0_lines), .int (Int32.ofInt i_p0_met), .int (Int32.ofInt i_p0_greatest), .ref a_p0_numbers]))] H := hP
  have hD : va_D A [(a_p0, .inr (10, [.ref a_p0_tape, .ref a_p0_rules, .ref a_p0_state, .int (Int32.ofInt z1), .int (Int32.ofInt i_p0_faultPlace), .int (Int32.ofInt i_p0_lines), .int (Int32.ofInt i_p0_met), .int (Int32.ofInt i_p0_greatest), .ref a_p0_numbers]))] := hD
  refine lv_aload_n hx hb dX10_refuse_5 rfl (lv_at hl 0 rfl) ?_
  refine lv_iload_n hx hb dX10_refuse_6 rfl (lv_at hl 2 rfl) ?_
  refine z_topi (fun z2 ez => ?_)
  replace hf := bnd_s hf ez
  clear ez
  refine va_put (D := D) (ci := 10) (v := .int (Int32.ofInt z2)) (ty := .int) (C := RX10) (T := TX10) (N := 9) hx hb hts inX10_refuse_X10 tyX10 tyX10_ok nmX10 hown hK hP hD hS 0 rfl rfl 4 (by decide) (hts _ mwX10_refuse_2) (fun _ h9 => h9) rfl (by decide +kernel) rfl rfl (Nat.le_of_ble_eq_true rfl) dX10_refuse_7 (fun H locs hP hD hS => ?_)
  have hP : va_P D vwCl [(a_p0, .inr (10, [.ref a_p0_tape, .ref a_p0_rules, .ref a_p0_state, .int (Int32.ofInt z1), .int (Int32.ofInt z2), .int (Int32.ofInt i_p0_lines), .int (Int32.ofInt i_p0_met), .int (Int32.ofInt i_p0_greatest), .ref a_p0_numbers]))] H := hP
  have hD : va_D A [(a_p0, .inr (10, [.ref a_p0_tape, .ref a_p0_rules, .ref a_p0_state, .int (Int32.ofInt z1), .int (Int32.ofInt z2), .int (Int32.ofInt i_p0_lines), .int (Int32.ofInt i_p0_met), .int (Int32.ofInt i_p0_greatest), .ref a_p0_numbers]))] := hD
  refine lv_iconst (v := Int32.ofInt (0 : Int)) hx hb dX10_refuse_10 (by decide) ?_
  obtain ⟨rfl, rfl, rfl⟩ := ou3 hf
  rw [hQ]
  exact W.zret hx hb hr rfl (fun t ht hW => ⟨⟨_, (), rfl, rfl, by rw [ht]; exact hP, va_K.moved hW.alike hK, hD⟩, hS.F ht⟩) hS.2.2 dX10_refuse_11

noncomputable def f_X10_heed (i_p0_greatest : Int) (x1 : Int) : Option (Int) := (ck (z_r32 i_p0_greatest) (ck (z_r32 x1) (bnd (max i_p0_greatest x1) (fun (z3 : Int) => (some z3)))))
abbrev rm_X10_heed : Room := { frames := 1, cells := 0, slots := 0, locals := 30 }
theorem inX10_heed_X10 : ∀ w ∈ wsX100, w ∈ wsX10_heed := by decide +kernel
theorem mwX10_heed_1 : Cond.fieldLink RX10 38 "LadleKings$TextReader" "greatest" "I" ∈ wsX10_heed := by decide +kernel
theorem mwX10_heed_2 : Cond.methodLink RX10 184 Lib.Math.max.name ∈ wsX10_heed := by decide +kernel
theorem mwX10_heed_3 : Cond.static Lib.Math.max.name ∈ wsX10_heed := by decide +kernel
theorem mwX10_heed_4 : Cond.initialized "java/lang/Math" ∈ wsX10_heed := by decide +kernel
theorem mwX10_heed_5 : Cond.code Lib.Math.max.name Lib.Math.max.code 2 (some .int) ∈ wsX10_heed := by decide +kernel
set_option maxHeartbeats 8000000 in
set_option maxRecDepth 100000 in
theorem c_X10_heed (l : Launch) (D : va_G) (G : Nat → ClassId) (sz : Nat) (a_p0 : Nat) (a_p0_tape : Nat) (a_p0_rules : Nat) (a_p0_state : Nat) (a_p0_numbers : Nat) (i_p0_faultFound : Int) (i_p0_faultPlace : Int) (i_p0_lines : Int) (i_p0_met : Int) (i_p0_greatest : Int) (x1 : Int) (o_i_p0_greatest : Int) (hf : f_X10_heed i_p0_greatest x1 = some o_i_p0_greatest) : Met l yX10_heed wsX10_heed rm_X10_heed (pcG D G [.ref a_p0, .int (Int32.ofInt x1)] sz [(a_p0, .inr (10, [.ref a_p0_tape, .ref a_p0_rules, .ref a_p0_state, .int (Int32.ofInt i_p0_faultFound), .int (Int32.ofInt i_p0_faultPlace), .int (Int32.ofInt i_p0_lines), .int (Int32.ofInt i_p0_met), .int (Int32.ofInt i_p0_greatest), .ref a_p0_numbers]))]) (qcV D G [(a_p0, .inr (10, [.ref a_p0_tape, .ref a_p0_rules, .ref a_p0_state, .int (Int32.ofInt i_p0_faultFound), .int (Int32.ofInt i_p0_faultPlace), .int (Int32.ofInt i_p0_lines), .int (Int32.ofInt i_p0_met), .int (Int32.ofInt o_i_p0_greatest), .ref a_p0_numbers]))] (va_A [(a_p0, .inr (10, [.ref a_p0_tape, .ref a_p0_rules, .ref a_p0_state, .int (Int32.ofInt i_p0_faultFound), .int (Int32.ofInt i_p0_faultPlace), .int (Int32.ofInt i_p0_lines), .int (Int32.ofInt i_p0_met), .int (Int32.ofInt i_p0_greatest), .ref a_p0_numbers]))] sz)) 0 0 (va_A [(a_p0, .inr (10, [.ref a_p0_tape, .ref a_p0_rules, .ref a_p0_state, .int (Int32.ofInt i_p0_faultFound), .int (Int32.ofInt i_p0_faultPlace), .int (Int32.ofInt i_p0_lines), .int (Int32.ofInt i_p0_met), .int (Int32.ofInt i_p0_greatest), .ref a_p0_numbers]))] sz) := by
  refine Met.ofW (cc := cX10_heed) (maxL := 2) (ret := none) (by decide) rfl ?_
  intro p e s m args below meth c s₁ B hml hv
  obtain ⟨rfl, hsz, hP, hK, hD0⟩ := hv
  have hx := B.exec
  have hb := B.bytes
  have hr := B.returns
  have hts := atoms_spec (ws := wsX10_heed) B.pre
  have hown : s.vm.findClass RX10 = some m.cls := findClass_of_methodNamed B.named
  have hlocks := B.notSynchronized
  subst hsz
  have hD := hD0.self (sz := s.heap.size)
  generalize hAe : va_A [(a_p0, .inr (10, [.ref a_p0_tape, .ref a_p0_rules, .ref a_p0_state, .int (Int32.ofInt i_p0_faultFound), .int (Int32.ofInt i_p0_faultPlace), .int (Int32.ofInt i_p0_lines), .int (Int32.ofInt i_p0_met), .int (Int32.ofInt i_p0_greatest), .ref a_p0_numbers]))] s.heap.size = A at hD ⊢
  have hA : ∀ q : Nat, s.heap.size ≤ q → A q := fun q h => by rw [← hAe]; exact Or.inr h
  clear hAe hD0
  have hS : va_S A s.heap s.heap [] := va_S.rf
  have hl := lv_entry ([.ref a_p0, .int (Int32.ofInt x1)]) (n := 2) (Nat.le_of_ble_eq_true rfl)
  rw [lg_entry_eq]
  generalize (lg_sl ([.ref a_p0, .int (Int32.ofInt x1)]) ++ List.replicate (2 - (lg_sl ([.ref a_p0, .int (Int32.ofInt x1)])).length) Slot.unset).toArray = ls at hl ⊢
  have hl : lv_has ls 2 [(0, .ref a_p0), (1, .int (Int32.ofInt x1))] := hl
  refine W_nameQ (fun Q hQ => ?_)
  obtain ⟨H, hH⟩ : ∃ H, H = s.heap := ⟨_, rfl⟩
  replace hS : va_S A s.heap H [] := by rw [hH]; exact hS
  replace hP : va_P D vwCl [(a_p0, .inr (10, [.ref a_p0_tape, .ref a_p0_rules, .ref a_p0_state, .int (Int32.ofInt i_p0_faultFound), .int (Int32.ofInt i_p0_faultPlace), .int (Int32.ofInt i_p0_lines), .int (Int32.ofInt i_p0_met), .int (Int32.ofInt i_p0_greatest), .ref a_p0_numbers]))] H := by rw [hH]; exact hP
  rw [← hH]
  clear hH
  unfold f_X10_heed at hf
  refine lv_aload_n hx hb dX10_heed_0 rfl (lv_at hl 0 rfl) ?_
  refine lv_aload_n hx hb dX10_heed_1 rfl (lv_at hl 0 rfl) ?_
  refine va_get (D := D) (ci := 10) (v := .int (Int32.ofInt i_p0_greatest)) (C := RX10) (T := TX10) (N := 9) hx hb hts inX10_heed_X10 hown hK hP 0 rfl rfl 7 (by decide) (hts _ mwX10_heed_1) (fun _ h9 => h9) rfl dX10_heed_2 ?_
  refine lv_iload_n hx hb dX10_heed_5 rfl (lv_at hl 1 rfl) ?_
  have hr0 := ck_c hf
  replace hf := ck_r hf
  have hr1 := ck_c hf
  replace hf := ck_r hf
  refine va_mmax hx hb (by rw [hml]; exact hl.1.symm) hown (hts _ mwX10_heed_2) (hts _ mwX10_heed_3) (hts _ mwX10_heed_4) (hts _ mwX10_heed_5) (Nat.le_of_ble_eq_true rfl) (Nat.le_of_ble_eq_true rfl) (Nat.le_of_ble_eq_true rfl) (Nat.le_of_ble_eq_true rfl) dX10_heed_6 (z_ci (z_max hr0 hr1) ?_)
  refine z_topi (fun z3 ez => ?_)
  replace hf := bnd_s hf ez
  clear ez
  refine va_put (D := D) (ci := 10) (v := .int (Int32.ofInt z3)) (ty := .int) (C := RX10) (T := TX10) (N := 9) hx hb hts inX10_heed_X10 tyX10 tyX10_ok nmX10 hown hK hP hD hS 0 rfl rfl 7 (by decide) (hts _ mwX10_heed_1) (fun _ h9 => h9) rfl (by decide +kernel) rfl rfl (Nat.le_of_ble_eq_true rfl) dX10_heed_9 (fun H locs hP hD hS => ?_)
  have hP : va_P D vwCl [(a_p0, .inr (10, [.ref a_p0_tape, .ref a_p0_rules, .ref a_p0_state, .int (Int32.ofInt i_p0_faultFound), .int (Int32.ofInt i_p0_faultPlace), .int (Int32.ofInt i_p0_lines), .int (Int32.ofInt i_p0_met), .int (Int32.ofInt z3), .ref a_p0_numbers]))] H := hP
  have hD : va_D A [(a_p0, .inr (10, [.ref a_p0_tape, .ref a_p0_rules, .ref a_p0_state, .int (Int32.ofInt i_p0_faultFound), .int (Int32.ofInt i_p0_faultPlace), .int (Int32.ofInt i_p0_lines), .int (Int32.ofInt i_p0_met), .int (Int32.ofInt z3), .ref a_p0_numbers]))] := hD
  obtain rfl := ou1 hf
  rw [hQ]
  exact W.vret hx hb hr (fun t ht hW => ⟨⟨(), rfl, trivial, by rw [ht]; exact hP, va_K.moved hW.alike hK, hD⟩, hS.F ht⟩) hS.2.2 dX10_heed_12

noncomputable def f_X10_takeStir (i_p0_greatest : Int) (i_p0_rules_stirs : Int) (v_p0_rules_kind : (Int → Int)) (v_p0_rules_first : (Int → Int)) (v_p0_rules_second : (Int → Int)) (x1 : Int) (x2 : Int) (x3 : Int) : Option (Int × Int × (Int → Int) × (Int → Int) × (Int → Int)) := (bd4 (f_X6_addStir i_p0_rules_stirs v_p0_rules_kind v_p0_rules_first v_p0_rules_second x1 x2 x3) (fun (z1 : Int) (w2 : (Int → Int)) (w3 : (Int → Int)) (w4 : (Int → Int)) => (ck (z_r32 x1) (if x1 = (9 : Int) then (ck (z_r32 x2) (ck (z_r32 x3) (bd1 (f_X10_heed i_p0_greatest (max x2 x3)) (fun (z9 : Int) => (some (z9, z1, w2, w3, w4)))))) else (if x1 = (10 : Int) then (bd1 (f_X10_heed i_p0_greatest x2) (fun (z6 : Int) => (some (z6, z1, w2, w3, w4)))) else (some (i_p0_greatest, z1, w2, w3, w4)))))))
abbrev rm_X10_takeStir : Room := { frames := 2, cells := 0, slots := 0, locals := 51 }
theorem inX10_takeStir_X10 : ∀ w ∈ wsX100, w ∈ wsX10_takeStir := by decide +kernel
theorem mwX10_takeStir_1 : Cond.fieldLink RX10 12 "LadleKings$TextReader" "rules" "LLadleKings$Rules;" ∈ wsX10_takeStir := by decide +kernel
theorem mwX10_takeStir_2 : Cond.methodLink RX10 184 Lib.Math.max.name ∈ wsX10_takeStir := by decide +kernel
theorem mwX10_takeStir_3 : Cond.static Lib.Math.max.name ∈ wsX10_takeStir := by decide +kernel
theorem mwX10_takeStir_4 : Cond.initialized "java/lang/Math" ∈ wsX10_takeStir := by decide +kernel
theorem mwX10_takeStir_5 : Cond.code Lib.Math.max.name Lib.Math.max.code 2 (some .int) ∈ wsX10_takeStir := by decide +kernel
set_option maxHeartbeats 8000000 in
set_option maxRecDepth 100000 in
theorem c_X10_takeStir (l : Launch) (D : va_G) (G : Nat → ClassId) (sz : Nat) (a_p0 : Nat) (a_p0_tape : Nat) (a_p0_rules : Nat) (a_p0_state : Nat) (a_p0_numbers : Nat) (a_p0_rules_need : Nat) (a_p0_rules_kind : Nat) (a_p0_rules_first : Nat) (a_p0_rules_second : Nat) (a_p0_rules_after : Nat) (i_p0_faultFound : Int) (i_p0_faultPlace : Int) (i_p0_lines : Int) (i_p0_met : Int) (i_p0_greatest : Int) (i_p0_rules_seats : Int) (i_p0_rules_stirs : Int) (v_p0_rules_kind : (Int → Int)) (v_p0_rules_first : (Int → Int)) (v_p0_rules_second : (Int → Int)) (x1 : Int) (x2 : Int) (x3 : Int) (o_i_p0_greatest : Int) (o_i_p0_rules_stirs : Int) (o_v_p0_rules_kind : (Int → Int)) (o_v_p0_rules_first : (Int → Int)) (o_v_p0_rules_second : (Int → Int)) (hf : f_X10_takeStir i_p0_greatest i_p0_rules_stirs v_p0_rules_kind v_p0_rules_first v_p0_rules_second x1 x2 x3 = some (o_i_p0_greatest, o_i_p0_rules_stirs, o_v_p0_rules_kind, o_v_p0_rules_first, o_v_p0_rules_second)) : Met l yX10_takeStir wsX10_takeStir rm_X10_takeStir (pcG D G [.ref a_p0, .int (Int32.ofInt x1), .int (Int32.ofInt x2), .int (Int32.ofInt x3)] sz [(a_p0, .inr (10, [.ref a_p0_tape, .ref a_p0_rules, .ref a_p0_state, .int (Int32.ofInt i_p0_faultFound), .int (Int32.ofInt i_p0_faultPlace), .int (Int32.ofInt i_p0_lines), .int (Int32.ofInt i_p0_met), .int (Int32.ofInt i_p0_greatest), .ref a_p0_numbers])), (a_p0_rules, .inr (6, [.int (Int32.ofInt i_p0_rules_seats), .int (Int32.ofInt i_p0_rules_stirs), .ref a_p0_rules_need, .ref a_p0_rules_kind, .ref a_p0_rules_first, .ref a_p0_rules_second, .ref a_p0_rules_after])), (a_p0_rules_kind, .inl (G 1, 5, .inl (zA v_p0_rules_kind))), (a_p0_rules_first, .inl (G 1, 5, .inl (zA v_p0_rules_first))), (a_p0_rules_second, .inl (G 1, 5, .inl (zA v_p0_rules_second)))]) (qcV D G [(a_p0, .inr (10, [.ref a_p0_tape, .ref a_p0_rules, .ref a_p0_state, .int (Int32.ofInt i_p0_faultFound), .int (Int32.ofInt i_p0_faultPlace), .int (Int32.ofInt i_p0_lines), .int (Int32.ofInt i_p0_met), .int (Int32.ofInt o_i_p0_greatest), .ref a_p0_numbers])), (a_p0_rules, .inr (6, [.int (Int32.ofInt i_p0_rules_seats), .int (Int32.ofInt o_i_p0_rules_stirs), .ref a_p0_rules_need, .ref a_p0_rules_kind, .ref a_p0_rules_first, .ref a_p0_rules_second, .ref a_p0_rules_after])), (a_p0_rules_kind, .inl (G 1, 5, .inl (zA o_v_p0_rules_kind))), (a_p0_rules_first, .inl (G 1, 5, .inl (zA o_v_p0_rules_first))), (a_p0_rules_second, .inl (G 1, 5, .inl (zA o_v_p0_rules_second)))] (va_A [(a_p0, .inr (10, [.ref a_p0_tape, .ref a_p0_rules, .ref a_p0_state, .int (Int32.ofInt i_p0_faultFound), .int (Int32.ofInt i_p0_faultPlace), .int (Int32.ofInt i_p0_lines), .int (Int32.ofInt i_p0_met), .int (Int32.ofInt i_p0_greatest), .ref a_p0_numbers])), (a_p0_rules, .inr (6, [.int (Int32.ofInt i_p0_rules_seats), .int (Int32.ofInt i_p0_rules_stirs), .ref a_p0_rules_need, .ref a_p0_rules_kind, .ref a_p0_rules_first, .ref a_p0_rules_second, .ref a_p0_rules_after])), (a_p0_rules_kind, .inl (G 1, 5, .inl (zA v_p0_rules_kind))), (a_p0_rules_first, .inl (G 1, 5, .inl (zA v_p0_rules_first))), (a_p0_rules_second, .inl (G 1, 5, .inl (zA v_p0_rules_second)))] sz)) 0 0 (va_A [(a_p0, .inr (10, [.ref a_p0_tape, .ref a_p0_rules, .ref a_p0_state, .int (Int32.ofInt i_p0_faultFound), .int (Int32.ofInt i_p0_faultPlace), .int (Int32.ofInt i_p0_lines), .int (Int32.ofInt i_p0_met), .int (Int32.ofInt i_p0_greatest), .ref a_p0_numbers])), (a_p0_rules, .inr (6, [.int (Int32.ofInt i_p0_rules_seats), .int (Int32.ofInt i_p0_rules_stirs), .ref a_p0_rules_need, .ref a_p0_rules_kind, .ref a_p0_rules_first, .ref a_p0_rules_second, .ref a_p0_rules_after])), (a_p0_rules_kind, .inl (G 1, 5, .inl (zA v_p0_rules_kind))), (a_p0_rules_first, .inl (G 1, 5, .inl (zA v_p0_rules_first))), (a_p0_rules_second, .inl (G 1, 5, .inl (zA v_p0_rules_second)))] sz) := by
  refine Met.ofW (cc := cX10_takeStir) (maxL := 4) (ret := none) (by decide) rfl ?_
  intro p e s m args below meth c s₁ B hml hv
  obtain ⟨rfl, hsz, hP, hK, hD0⟩ := hv
  have hx := B.exec
  have hb := B.bytes
  have hr := B.returns
  have hts := atoms_spec (ws := wsX10_takeStir) B.pre
  have hown : s.vm.findClass RX10 = some m.cls := findClass_of_methodNamed B.named
  have hlocks := B.notSynchronized
  subst hsz
  have hD := hD0.self (sz := s.heap.size)
  generalize hAe : va_A [(a_p0, .inr (10, [.ref a_p0_tape, .ref a_p0_rules, .ref a_p0_state, .int (Int32.ofInt i_p0_faultFound), .int (Int32.ofInt i_p0_faultPlace), .int (Int32.ofInt i_p0_lines), .int (Int32.ofInt i_p0_met), .int (Int32.ofInt i_p0_greatest), .ref a_p0_numbers])), (a_p0_rules, .inr (6, [.int (Int32.ofInt i_p0_rules_seats), .int (Int32.ofInt i_p0_rules_stirs), .ref a_p0_rules_need, .ref a_p0_rules_kind, .ref a_p0_rules_first, .ref a_p0_rules_second, .ref a_p0_rules_after])), (a_p0_rules_kind, .inl (G 1, 5, .inl (zA v_p0_rules_kind))), (a_p0_rules_first, .inl (G 1, 5, .inl (zA v_p0_rules_first))), (a_p0_rules_second, .inl (G 1, 5, .inl (zA v_p0_rules_second)))] s.heap.size = A at hD ⊢
  have hA : ∀ q : Nat, s.heap.size ≤ q → A q := fun q h => by rw [← hAe]; exact Or.inr h
  clear hAe hD0
  have hS : va_S A s.heap s.heap [] := va_S.rf
  have hl := lv_entry ([.ref a_p0, .int (Int32.ofInt x1), .int (Int32.ofInt x2), .int (Int32.ofInt x3)]) (n := 4) (Nat.le_of_ble_eq_true rfl)
  rw [lg_entry_eq]
  generalize (lg_sl ([.ref a_p0, .int (Int32.ofInt x1), .int (Int32.ofInt x2), .int (Int32.ofInt x3)]) ++ List.replicate (4 - (lg_sl ([.ref a_p0, .int (Int32.ofInt x1), .int (Int32.ofInt x2), .int (Int32.ofInt x3)])).length) Slot.unset).toArray = ls at hl ⊢
  have hl : lv_has ls 4 [(0, .ref a_p0), (1, .int (Int32.ofInt x1)), (2, .int (Int32.ofInt x2)), (3, .int (Int32.ofInt x3))] := hl
  refine W_nameQ (fun Q hQ => ?_)
  obtain ⟨H, hH⟩ : ∃ H, H = s.heap := ⟨_, rfl⟩
  replace hS : va_S A s.heap H [] := by rw [hH]; exact hS
  replace hP : va_P D vwCl [(a_p0, .inr (10, [.ref a_p0_tape, .ref a_p0_rules, .ref a_p0_state, .int (Int32.ofInt i_p0_faultFound), .int (Int32.ofInt i_p0_faultPlace), .int (Int32.ofInt i_p0_lines), .int (Int32.ofInt i_p0_met), .int (Int32.ofInt i_p0_greatest), .ref a_p0_numbers])), (a_p0_rules, .inr (6, [.int (Int32.ofInt i_p0_rules_seats), .int (Int32.ofInt i_p0_rules_stirs), .ref a_p0_rules_need, .ref a_p0_rules_kind, .ref a_p0_rules_first, .ref a_p0_rules_second, .ref a_p0_rules_after])), (a_p0_rules_kind, .inl (G 1, 5, .inl (zA v_p0_rules_kind))), (a_p0_rules_first, .inl (G 1, 5, .inl (zA v_p0_rules_first))), (a_p0_rules_second, .inl (G 1, 5, .inl (zA v_p0_rules_second)))] H := by rw [hH]; exact hP
  rw [← hH]
  clear hH
  unfold f_X10_takeStir at hf
  refine lv_aload_n hx hb dX10_takeStir_0 rfl (lv_at hl 0 rfl) ?_
  refine va_get (D := D) (ci := 10) (v := .ref a_p0_rules) (C := RX10) (T := TX10) (N := 9) hx hb hts inX10_takeStir_X10 hown hK hP 0 rfl rfl 1 (by decide) (hts _ mwX10_takeStir_1) (fun _ h9 => h9) rfl dX10_takeStir_1 ?_
  refine lv_iload_n hx hb dX10_takeStir_4 rfl (lv_at hl 1 rfl) ?_
  refine lv_iload_n hx hb dX10_takeStir_5 rfl (lv_at hl 2 rfl) ?_
  refine lv_iload_n hx hb dX10_takeStir_6 rfl (lv_at hl 3 rfl) ?_
  have hq := bd4_s hf
  clear hf
  obtain ⟨z1, w2, w3, w4, hcall, hf⟩ := hq
  refine gcV (ws' := [(a_p0, .inr (10, [.ref a_p0_tape, .ref a_p0_rules, .ref a_p0_state, .int (Int32.ofInt i_p0_faultFound), .int (Int32.ofInt i_p0_faultPlace), .int (Int32.ofInt i_p0_lines), .int (Int32.ofInt i_p0_met), .int (Int32.ofInt i_p0_greatest), .ref a_p0_numbers])), (a_p0_rules, .inr (6, [.int (Int32.ofInt i_p0_rules_seats), .int (Int32.ofInt z1), .ref a_p0_rules_need, .ref a_p0_rules_kind, .ref a_p0_rules_first, .ref a_p0_rules_second, .ref a_p0_rules_after])), (a_p0_rules_kind, .inl (G 1, 5, .inl (zA w2))), (a_p0_rules_first, .inl (G 1, 5, .inl (zA w3))), (a_p0_rules_second, .inl (G 1, 5, .inl (zA w4)))]) (va_runV (As := [.int (Int32.ofInt x1), .int (Int32.ofInt x2), .int (Int32.ofInt x3)]) (rest := []) ⟨hx, hb, hml, hown, hts⟩ (c_X6_addStir (l := l) (D := D) (G := G) (sz := H.size) (a_p0 := a_p0_rules) (a_p0_need := a_p0_rules_need) (a_p0_kind := a_p0_rules_kind) (a_p0_first := a_p0_rules_first) (a_p0_second := a_p0_rules_second) (a_p0_after := a_p0_rules_after) (i_p0_seats := i_p0_rules_seats) (i_p0_stirs := i_p0_rules_stirs) (v_p0_kind := v_p0_rules_kind) (v_p0_first := v_p0_rules_first) (v_p0_second := v_p0_rules_second) (x1 := x1) (x2 := x2) (x3 := x3) (o_i_p0_stirs := z1) (o_v_p0_kind := w2) (o_v_p0_first := w3) (o_v_p0_second := w4) (hf := hcall)) (cwV 3 hts gX10_takeStir_X6_addStir rfl rfl rfl (by decide +kernel) ⟨Nat.le_of_ble_eq_true rfl, Nat.le_of_ble_eq_true rfl⟩) (preG_V (ci := 6) (hP.sub [1, 2, 3, 4] rfl) (hD.sub [1, 2, 3, 4] rfl rfl) hK rfl rfl) rfl rfl hl.1 rfl (lv_room (Nat.le_of_ble_eq_true rfl)) dX10_takeStir_7 ⟨Nat.le_of_ble_eq_true rfl, Nat.le_of_ble_eq_true rfl⟩) hP hD hS hA [1, 2, 3, 4] [0] [0, 1, 2, 3, 4] rfl rfl rfl (by decide) rfl rfl rfl (fun H locs hP hD hS => ?_)
  clear hcall
  refine lv_iload_n hx hb dX10_takeStir_10 rfl (lv_at hl 1 rfl) ?_
  refine lv_bipush (v := Int32.ofInt (9 : Int)) hx hb dX10_takeStir_11 (by decide) ?_
  have hr4 := ck_c hf
  replace hf := ck_r hf
  refine lv_icmp_ne (tgt := 28) hx hb dX10_takeStir_13 (by decide) (fun cc => ?_) (fun cc => ?_)
  ·
    replace hf := ite_f (fun h9 => cc ((z_eq hr4 (by decide)).mpr h9)) hf
    clear cc
    refine lv_iload_n hx hb dX10_takeStir_28 rfl (lv_at hl 1 rfl) ?_
    refine lv_bipush (v := Int32.ofInt (10 : Int)) hx hb dX10_takeStir_29 (by decide) ?_
    refine lv_icmp_ne (tgt := 39) hx hb dX10_takeStir_31 (by decide) (fun cc => ?_) (fun cc => ?_)
    ·
      replace hf := ite_f (fun h9 => cc ((z_eq hr4 (by decide)).mpr h9)) hf
      clear cc
      obtain ⟨rfl, rfl, rfl, rfl, rfl⟩ := ou5 hf
      rw [hQ]
      exact W.vret hx hb hr (fun t ht hW => ⟨⟨(), rfl, trivial, by rw [ht]; exact hP, va_K.moved hW.alike hK, hD⟩, hS.F ht⟩) hS.2.2 dX10_takeStir_39
    ·
      replace hf := ite_t ((z_eq hr4 (by decide)).mp cc) hf
      clear cc
      refine lv_aload_n hx hb dX10_takeStir_34 rfl (lv_at hl 0 rfl) ?_
      refine lv_iload_n hx hb dX10_takeStir_35 rfl (lv_at hl 2 rfl) ?_
      have hq := bd1_s hf
      clear hf
      obtain ⟨z6, hcall, hf⟩ := hq
      refine gcV (ws' := [(a_p0, .inr (10, [.ref a_p0_tape, .ref a_p0_rules, .ref a_p0_state, .int (Int32.ofInt i_p0_faultFound), .int (Int32.ofInt i_p0_faultPlace), .int (Int32.ofInt i_p0_lines), .int (Int32.ofInt i_p0_met), .int (Int32.ofInt z6), .ref a_p0_numbers])), (a_p0_rules, .inr (6, [.int (Int32.ofInt i_p0_rules_seats), .int (Int32.ofInt z1), .ref a_p0_rules_need, .ref a_p0_rules_kind, .ref a_p0_rules_first, .ref a_p0_rules_second, .ref a_p0_rules_after])), (a_p0_rules_kind, .inl (G 1, 5, .inl (zA w2))), (a_p0_rules_first, .inl (G 1, 5, .inl (zA w3))), (a_p0_rules_second, .inl (G 1, 5, .inl (zA w4)))]) (va_runV (As := [.int (Int32.ofInt x2)]) (rest := []) ⟨hx, hb, hml, hown, hts⟩ (c_X10_heed (l := l) (D := D) (G := G) (sz := H.size) (a_p0 := a_p0) (a_p0_tape := a_p0_tape) (a_p0_rules := a_p0_rules) (a_p0_state := a_p0_state) (a_p0_numbers := a_p0_numbers) (i_p0_faultFound := i_p0_faultFound) (i_p0_faultPlace := i_p0_faultPlace) (i_p0_lines := i_p0_lines) (i_p0_met := i_p0_met) (i_p0_greatest := i_p0_greatest) (x1 := x2) (o_i_p0_greatest := z6) (hf := hcall)) (cwV 1 hts gX10_takeStir_X10_heed rfl rfl rfl (by decide +kernel) ⟨Nat.le_of_ble_eq_true rfl, Nat.le_of_ble_eq_true rfl⟩) (preG_V (ci := 10) (hP.sub [0] rfl) (hD.sub [0] rfl rfl) hK rfl rfl) rfl rfl hl.1 rfl (lv_room (Nat.le_of_ble_eq_true rfl)) dX10_takeStir_36 ⟨Nat.le_of_ble_eq_true rfl, Nat.le_of_ble_eq_true rfl⟩) hP hD hS hA [0] [1, 2, 3, 4] [4, 0, 1, 2, 3] rfl rfl rfl (by decide) rfl rfl rfl (fun H locs hP hD hS => ?_)
      clear hcall
      obtain ⟨rfl, rfl, rfl, rfl, rfl⟩ := ou5 hf
      rw [hQ]
      exact W.vret hx hb hr (fun t ht hW => ⟨⟨(), rfl, trivial, by rw [ht]; exact hP, va_K.moved hW.alike hK, hD⟩, hS.F ht⟩) hS.2.2 dX10_takeStir_39
  ·
    replace hf := ite_t ((z_eq hr4 (by decide)).mp cc) hf
    clear cc
    refine lv_aload_n hx hb dX10_takeStir_16 rfl (lv_at hl 0 rfl) ?_
    refine lv_iload_n hx hb dX10_takeStir_17 rfl (lv_at hl 2 rfl) ?_
    refine lv_iload_n hx hb dX10_takeStir_18 rfl (lv_at hl 3 rfl) ?_
    have hr6 := ck_c hf
    replace hf := ck_r hf
    have hr7 := ck_c hf
    replace hf := ck_r hf
    refine va_mmax hx hb (by rw [hml]; exact hl.1.symm) hown (hts _ mwX10_takeStir_2) (hts _ mwX10_takeStir_3) (hts _ mwX10_takeStir_4) (hts _ mwX10_takeStir_5) (Nat.le_of_ble_eq_true rfl) (Nat.le_of_ble_eq_true rfl) (Nat.le_of_ble_eq_true rfl) (Nat.le_of_ble_eq_true rfl) dX10_takeStir_19 (z_ci (z_max hr6 hr7) ?_)
    have hq := bd1_s hf
    clear hf
    obtain ⟨z9, hcall, hf⟩ := hq
    refine gcV (ws' := [(a_p0, .inr (10, [.ref a_p0_tape, .ref a_p0_rules, .ref a_p0_state, .int (Int32.ofInt i_p0_faultFound), .int (Int32.ofInt i_p0_faultPlace), .int (Int32.ofInt i_p0_lines), .int (Int32.ofInt i_p0_met), .int (Int32.ofInt z9), .ref a_p0_numbers])), (a_p0_rules, .inr (6, [.int (Int32.ofInt i_p0_rules_seats), .int (Int32.ofInt z1), .ref a_p0_rules_need, .ref a_p0_rules_kind, .ref a_p0_rules_first, .ref a_p0_rules_second, .ref a_p0_rules_after])), (a_p0_rules_kind, .inl (G 1, 5, .inl (zA w2))), (a_p0_rules_first, .inl (G 1, 5, .inl (zA w3))), (a_p0_rules_second, .inl (G 1, 5, .inl (zA w4)))]) (va_runV (As := [.int (Int32.ofInt (max x2 x3))]) (rest := []) ⟨hx, hb, hml, hown, hts⟩ (c_X10_heed (l := l) (D := D) (G := G) (sz := H.size) (a_p0 := a_p0) (a_p0_tape := a_p0_tape) (a_p0_rules := a_p0_rules) (a_p0_state := a_p0_state) (a_p0_numbers := a_p0_numbers) (i_p0_faultFound := i_p0_faultFound) (i_p0_faultPlace := i_p0_faultPlace) (i_p0_lines := i_p0_lines) (i_p0_met := i_p0_met) (i_p0_greatest := i_p0_greatest) (x1 := (max x2 x3)) (o_i_p0_greatest := z9) (hf := hcall)) (cwV 1 hts gX10_takeStir_X10_heed rfl rfl rfl (by decide +kernel) ⟨Nat.le_of_ble_eq_true rfl, Nat.le_of_ble_eq_true rfl⟩) (preG_V (ci := 10) (hP.sub [0] rfl) (hD.sub [0] rfl rfl) hK rfl rfl) rfl rfl hl.1 rfl (lv_room (Nat.le_of_ble_eq_true rfl)) dX10_takeStir_22 ⟨Nat.le_of_ble_eq_true rfl, Nat.le_of_ble_eq_true rfl⟩) hP hD hS hA [0] [1, 2, 3, 4] [4, 0, 1, 2, 3] rfl rfl rfl (by decide) rfl rfl rfl (fun H locs hP hD hS => ?_)
    clear hcall
    refine lv_goto (tgt := 39) hx hb dX10_takeStir_25 (by decide) ?_
    obtain ⟨rfl, rfl, rfl, rfl, rfl⟩ := ou5 hf
    rw [hQ]
    exact W.vret hx hb hr (fun t ht hW => ⟨⟨(), rfl, trivial, by rw [ht]; exact hP, va_K.moved hW.alike hK, hD⟩, hS.F ht⟩) hS.2.2 dX10_takeStir_39

noncomputable def f_X10_takeLine (i_p0_lines : Int) (i_p0_greatest : Int) (i_p0_rules_seats : Int) (i_p0_rules_stirs : Int) (v_p0_rules_need : (Int → Int)) (v_p0_rules_kind : (Int → Int)) (v_p0_rules_first : (Int → Int)) (v_p0_rules_second : (Int → Int)) (i_p0_state_bone : Int) (i_p0_state_king : Int) (v_p0_state_pieces : (Int → Int)) (v_p0_state_friends : (Int → Int)) (v_p0_state_spoons : (Int → Int)) (v_p0_numbers : (Int → Int)) (x1 : Int) (x2 : Int) : Option (Int × Int × Int × Int × (Int → Int) × (Int → Int) × (Int → Int) × (Int → Int) × Int × Int × (Int → Int) × (Int → Int) × (Int → Int)) := (bnd (i_p0_lines + (1 : Int)) (fun (z1 : Int) => (ck (z_ix (0 : Int) 7) (bnd (v_p0_numbers (0 : Int)) (fun (z2 : Int) => (ck (z_ix (1 : Int) 7) (bnd (v_p0_numbers (1 : Int)) (fun (z3 : Int) => (ck (z_r32 x1) (if x1 = (0 : Int) then (bnd z2 (fun (z6 : Int) => (some (z1, i_p0_greatest, z6, i_p0_rules_stirs, v_p0_rules_need, v_p0_rules_kind, v_p0_rules_first, v_p0_rules_second, i_p0_state_bone, i_p0_state_king, v_p0_state_pieces, v_p0_state_friends, v_p0_state_spoons)))) else (if x1 = (1 : Int) then (ck (z_cp (0 : Int) x2 7) (ck (z_cp (0 : Int) x2 7) (bnd (z_cpy v_p0_numbers v_p0_state_pieces (0 : Int) (0 : Int) x2) (fun (w8 : (Int → Int)) => (bd1 (f_X10_heed i_p0_greatest (x2 - (1 : Int))) (fun (z9 : Int) => (some (z1, z9, i_p0_rules_seats, i_p0_rules_stirs, v_p0_rules_need, v_p0_rules_kind, v_p0_rules_first, v_p0_rules_second, i_p0_state_bone, i_p0_state_king, w8, v_p0_state_friends, v_p0_state_spoons)))))))) else (if x1 = (2 : Int) then (bnd z2 (fun (z11 : Int) => (bd1 (f_X10_heed i_p0_greatest z2) (fun (z12 : Int) => (some (z1, z12, i_p0_rules_seats, i_p0_rules_stirs, v_p0_rules_need, v_p0_rules_kind, v_p0_rules_first, v_p0_rules_second, z11, i_p0_state_king, v_p0_state_pieces, v_p0_state_friends, v_p0_state_spoons)))))) else (if x1 = (3 : Int) then (bnd z2 (fun (z14 : Int) => (bd1 (f_X10_heed i_p0_greatest z2) (fun (z15 : Int) => (some (z1, z15, i_p0_rules_seats, i_p0_rules_stirs, v_p0_rules_need, v_p0_rules_kind, v_p0_rules_first, v_p0_rules_second, i_p0_state_bone, z14, v_p0_state_pieces, v_p0_state_friends, v_p0_state_spoons)))))) else (if x1 = (4 : Int) then (bd1 (f_X8_setFriend v_p0_state_friends z2 z3 (1 : Int)) (fun (w17 : (Int → Int)) => (ck (z_r32 z2) (ck (z_r32 z3) (bd1 (f_X10_heed i_p0_greatest (max z2 z3)) (fun (z20 : Int) => (some (z1, z20, i_p0_rules_seats, i_p0_rules_stirs, v_p0_rules_need, v_p0_rules_kind, v_p0_rules_first, v_p0_rules_second, i_p0_state_bone, i_p0_state_king, v_p0_state_pieces, w17, v_p0_state_spoons)))))))) else (if x1 = (5 : Int) then (ck (z_ix z2 7) (bnd (z_up v_p0_state_spoons z2 z3) (fun (w22 : (Int → Int)) => (bd1 (f_X10_heed i_p0_greatest z2) (fun (z23 : Int) => (some (z1, z23, i_p0_rules_seats, i_p0_rules_stirs, v_p0_rules_need, v_p0_rules_kind, v_p0_rules_first, v_p0_rules_second, i_p0_state_bone, i_p0_state_king, v_p0_state_pieces, v_p0_state_friends, w22))))))) else (if x1 = (6 : Int) then (ck (z_ix z2 7) (bnd (z_up v_p0_rules_need z2 z3) (fun (w25 : (Int → Int)) => (bd1 (f_X10_heed i_p0_greatest z2) (fun (z26 : Int) => (some (z1, z26, i_p0_rules_seats, i_p0_rules_stirs, w25, v_p0_rules_kind, v_p0_rules_first, v_p0_rules_second, i_p0_state_bone, i_p0_state_king, v_p0_state_pieces, v_p0_state_friends, v_p0_state_spoons))))))) else (bd5 (f_X10_takeStir i_p0_greatest i_p0_rules_stirs v_p0_rules_kind v_p0_rules_first v_p0_rules_second x1 z2 z3) (fun (z27 : Int) (z28 : Int) (w29 : (Int → Int)) (w30 : (Int → Int)) (w31 : (Int → Int)) => (some (z1, z27, i_p0_rules_seats, z28, v_p0_rules_need, w29, w30, w31, i_p0_state_bone, i_p0_state_king, v_p0_state_pieces, v_p0_state_friends, v_p0_state_spoons))))))))))))))))))))
abbrev rm_X10_takeLine : Room := { frames := 3, cells := 0, slots := 0, locals := 74 }
theorem inX10_takeLine_X10 : ∀ w ∈ wsX100, w ∈ wsX10_takeLine := by decide +kernel
theorem mwX10_takeLine_1 : Cond.fieldLink RX10 32 "LadleKings$TextReader" "lines" "I" ∈ wsX10_takeLine := by decide +kernel
theorem mwX10_takeLine_2 : Cond.fieldLink RX10 41 "LadleKings$TextReader" "numbers" "[I" ∈ wsX10_takeLine := by decide +kernel
theorem mwX10_takeLine_3 : Cond.fieldLink RX10 12 "LadleKings$TextReader" "rules" "LLadleKings$Rules;" ∈ wsX10_takeLine := by decide +kernel
theorem inX10_takeLine_X6 : ∀ w ∈ wsX60, w ∈ wsX10_takeLine := by decide +kernel
theorem mwX10_takeLine_5 : Cond.fieldLink RX10 56 "LadleKings$Rules" "seats" "I" ∈ wsX10_takeLine := by decide +kernel
theorem mwX10_takeLine_6 : Cond.fieldLink RX10 21 "LadleKings$TextReader" "state" "LLadleKings$State;" ∈ wsX10_takeLine := by decide +kernel
theorem inX10_takeLine_X8 : ∀ w ∈ wsX80, w ∈ wsX10_takeLine := by decide +kernel
theorem mwX10_takeLine_8 : Cond.fieldLink RX10 163 "LadleKings$State" "pieces" "[I" ∈ wsX10_takeLine := by decide +kernel
theorem mwX10_takeLine_9 : Cond.methodLink RX10 166 arraycopyName ∈ wsX10_takeLine := by decide +kernel
theorem mwX10_takeLine_10 : Cond.native arraycopyName ∈ wsX10_takeLine := by decide +kernel
theorem mwX10_takeLine_11 : Cond.static arraycopyName ∈ wsX10_takeLine := by decide +kernel
theorem mwX10_takeLine_12 : Cond.initialized "java/lang/System" ∈ wsX10_takeLine := by decide +kernel
theorem mwX10_takeLine_13 : Cond.fieldLink RX10 176 "LadleKings$State" "bone" "I" ∈ wsX10_takeLine := by decide +kernel
theorem mwX10_takeLine_14 : Cond.fieldLink RX10 178 "LadleKings$State" "king" "I" ∈ wsX10_takeLine := by decide +kernel
theorem mwX10_takeLine_15 : Cond.methodLink RX10 184 Lib.Math.max.name ∈ wsX10_takeLine := by decide +kernel
theorem mwX10_takeLine_16 : Cond.static Lib.Math.max.name ∈ wsX10_takeLine := by decide +kernel
theorem mwX10_takeLine_17 : Cond.initialized "java/lang/Math" ∈ wsX10_takeLine := by decide +kernel
theorem mwX10_takeLine_18 : Cond.code Lib.Math.max.name Lib.Math.max.code 2 (some .int) ∈ wsX10_takeLine := by decide +kernel
theorem mwX10_takeLine_19 : Cond.fieldLink RX10 189 "LadleKings$State" "spoons" "[I" ∈ wsX10_takeLine := by decide +kernel
theorem mwX10_takeLine_20 : Cond.fieldLink RX10 191 "LadleKings$Rules" "need" "[I" ∈ wsX10_takeLine := by decide +kernel
set_option maxHeartbeats 8000000 in
set_option maxRecDepth 100000 in
theorem c_X10_takeLine (l : Launch) (D : va_G) (G : Nat → ClassId) (sz : Nat) (a_p0 : Nat) (a_p0_tape : Nat) (a_p0_rules : Nat) (a_p0_state : Nat) (a_p0_numbers : Nat) (a_p0_rules_need : Nat) (a_p0_rules_kind : Nat) (a_p0_rules_first : Nat) (a_p0_rules_second : Nat) (a_p0_rules_after : Nat) (a_p0_state_pieces : Nat) (a_p0_state_friends : Nat) (a_p0_state_spoons : Nat) (a_p0_state_eaten : Nat) (a_p0_state_seen : Nat) (i_p0_faultFound : Int) (i_p0_faultPlace : Int) (i_p0_lines : Int) (i_p0_met : Int) (i_p0_greatest : Int) (i_p0_rules_seats : Int) (i_p0_rules_stirs : Int) (v_p0_rules_need : (Int → Int)) (v_p0_rules_kind : (Int → Int)) (v_p0_rules_first : (Int → Int)) (v_p0_rules_second : (Int → Int)) (i_p0_state_seenDays : Int) (i_p0_state_bone : Int) (i_p0_state_king : Int) (i_p0_state_days : Int) (v_p0_state_pieces : (Int → Int)) (v_p0_state_friends : (Int → Int)) (v_p0_state_spoons : (Int → Int)) (v_p0_numbers : (Int → Int)) (x1 : Int) (x2 : Int) (o_i_p0_lines : Int) (o_i_p0_greatest : Int) (o_i_p0_rules_seats : Int) (o_i_p0_rules_stirs : Int) (o_v_p0_rules_need : (Int → Int)) (o_v_p0_rules_kind : (Int → Int)) (o_v_p0_rules_first : (Int → Int)) (o_v_p0_rules_second : (Int → Int)) (o_i_p0_state_bone : Int) (o_i_p0_state_king : Int) (o_v_p0_state_pieces : (Int → Int)) (o_v_p0_state_friends : (Int → Int)) (o_v_p0_state_spoons : (Int → Int)) (hf : f_X10_takeLine i_p0_lines i_p0_greatest i_p0_rules_seats i_p0_rules_stirs v_p0_rules_need v_p0_rules_kind v_p0_rules_first v_p0_rules_second i_p0_state_bone i_p0_state_king v_p0_state_pieces v_p0_state_friends v_p0_state_spoons v_p0_numbers x1 x2 = some (o_i_p0_lines, o_i_p0_greatest, o_i_p0_rules_seats, o_i_p0_rules_stirs, o_v_p0_rules_need, o_v_p0_rules_kind, o_v_p0_rules_first, o_v_p0_rules_second, o_i_p0_state_bone, o_i_p0_state_king, o_v_p0_state_pieces, o_v_p0_state_friends, o_v_p0_state_spoons)) : Met l yX10_takeLine wsX10_takeLine rm_X10_takeLine (pcG D G [.ref a_p0, .int (Int32.ofInt x1), .int (Int32.ofInt x2)] sz [(a_p0, .inr (10, [.ref a_p0_tape, .ref a_p0_rules, .ref a_p0_state, .int (Int32.ofInt i_p0_faultFound), .int (Int32.ofInt i_p0_faultPlace), .int (Int32.ofInt i_p0_lines), .int (Int32.ofInt i_p0_met), .int (Int32.ofInt i_p0_greatest), .ref a_p0_numbers])), (a_p0_rules, .inr (6, [.int (Int32.ofInt i_p0_rules_seats), .int (Int32.ofInt i_p0_rules_stirs), .ref a_p0_rules_need, .ref a_p0_rules_kind, .ref a_p0_rules_first, .ref a_p0_rules_second, .ref a_p0_rules_after])), (a_p0_rules_need, .inl (G 1, 7, .inl (zA v_p0_rules_need))), (a_p0_rules_kind, .inl (G 1, 5, .inl (zA v_p0_rules_kind))), (a_p0_rules_first, .inl (G 1, 5, .inl (zA v_p0_rules_first))), (a_p0_rules_second, .inl (G 1, 5, .inl (zA v_p0_rules_second))), (a_p0_state, .inr (8, [.ref a_p0_state_pieces, .ref a_p0_state_friends, .ref a_p0_state_spoons, .ref a_p0_state_eaten, .ref a_p0_state_seen, .int (Int32.ofInt i_p0_state_seenDays), .int (Int32.ofInt i_p0_state_bone), .int (Int32.ofInt i_p0_state_king), .int (Int32.ofInt i_p0_state_days)])), (a_p0_state_pieces, .inl (G 1, 7, .inl (zA v_p0_state_pieces))), (a_p0_state_friends, .inl (G 1, 7, .inl (zA v_p0_state_friends))), (a_p0_state_spoons, .inl (G 1, 7, .inl (zA v_p0_state_spoons))), (a_p0_numbers, .inl (G 1, 7, .inl (zA v_p0_numbers)))]) (qcV D G [(a_p0, .inr (10, [.ref a_p0_tape, .ref a_p0_rules, .ref a_p0_state, .int (Int32.ofInt i_p0_faultFound), .int (Int32.ofInt i_p0_faultPlace), .int (Int32.ofInt o_i_p0_lines), .int (Int32.ofInt i_p0_met), .int (Int32.ofInt o_i_p0_greatest), .ref a_p0_numbers])), (a_p0_rules, .inr (6, [.int (Int32.ofInt o_i_p0_rules_seats), .int (Int32.ofInt o_i_p0_rules_stirs), .ref a_p0_rules_need, .ref a_p0_rules_kind, .ref a_p0_rules_first, .ref a_p0_rules_second, .ref a_p0_rules_after])), (a_p0_rules_need, .inl (G 1, 7, .inl (zA o_v_p0_rules_need))), (a_p0_rules_kind, .inl (G 1, 5, .inl (zA o_v_p0_rules_kind))), (a_p0_rules_first, .inl (G 1, 5, .inl (zA o_v_p0_rules_first))), (a_p0_rules_second, .inl (G 1, 5, .inl (zA o_v_p0_rules_second))), (a_p0_state, .inr (8, [.ref a_p0_state_pieces, .ref a_p0_state_friends, .ref a_p0_state_spoons, .ref a_p0_state_eaten, .ref a_p0_state_seen, .int (Int32.ofInt i_p0_state_seenDays), .int (Int32.ofInt o_i_p0_state_bone), .int (Int32.ofInt o_i_p0_state_king), .int (Int32.ofInt i_p0_state_days)])), (a_p0_state_pieces, .inl (G 1, 7, .inl (zA o_v_p0_state_pieces))), (a_p0_state_friends, .inl (G 1, 7, .inl (zA o_v_p0_state_friends))), (a_p0_state_spoons, .inl (G 1, 7, .inl (zA o_v_p0_state_spoons))), (a_p0_numbers, .inl (G 1, 7, .inl (zA v_p0_numbers)))] (va_A [(a_p0, .inr (10, [.ref a_p0_tape, .ref a_p0_rules, .ref a_p0_state, .int (Int32.ofInt i_p0_faultFound), .int (Int32.ofInt i_p0_faultPlace), .int (Int32.ofInt i_p0_lines), .int (Int32.ofInt i_p0_met), .int (Int32.ofInt i_p0_greatest), .ref a_p0_numbers])), (a_p0_rules, .inr (6, [.int (Int32.ofInt i_p0_rules_seats), .int (Int32.ofInt i_p0_rules_stirs), .ref a_p0_rules_need, .ref a_p0_rules_kind, .ref a_p0_rules_first, .ref a_p0_rules_second, .ref a_p0_rules_after])), (a_p0_rules_need, .inl (G 1, 7, .inl (zA v_p0_rules_need))), (a_p0_rules_kind, .inl (G 1, 5, .inl (zA v_p0_rules_kind))), (a_p0_rules_first, .inl (G 1, 5, .inl (zA v_p0_rules_first))), (a_p0_rules_second, .inl (G 1, 5, .inl (zA v_p0_rules_second))), (a_p0_state, .inr (8, [.ref a_p0_state_pieces, .ref a_p0_state_friends, .ref a_p0_state_spoons, .ref a_p0_state_eaten, .ref a_p0_state_seen, .int (Int32.ofInt i_p0_state_seenDays), .int (Int32.ofInt i_p0_state_bone), .int (Int32.ofInt i_p0_state_king), .int (Int32.ofInt i_p0_state_days)])), (a_p0_state_pieces, .inl (G 1, 7, .inl (zA v_p0_state_pieces))), (a_p0_state_friends, .inl (G 1, 7, .inl (zA v_p0_state_friends))), (a_p0_state_spoons, .inl (G 1, 7, .inl (zA v_p0_state_spoons))), (a_p0_numbers, .inl (G 1, 7, .inl (zA v_p0_numbers)))] sz)) 0 0 (va_A [(a_p0, .inr (10, [.ref a_p0_tape, .ref a_p0_rules, .ref a_p0_state, .int (Int32.ofInt i_p0_faultFound), .int (Int32.ofInt i_p0_faultPlace), .int (Int32.ofInt i_p0_lines), .int (Int32.ofInt i_p0_met), .int (Int32.ofInt i_p0_greatest), .ref a_p0_numbers])), (a_p0_rules, .inr (6, [.int (Int32.ofInt i_p0_rules_seats), .int (Int32.ofInt i_p0_rules_stirs), .ref a_p0_rules_need, .ref a_p0_rules_kind, .ref a_p0_rules_first, .ref a_p0_rules_second, .ref a_p0_rules_after])), (a_p0_rules_need, .inl (G 1, 7, .inl (zA v_p0_rules_need))), (a_p0_rules_kind, .inl (G 1, 5, .inl (zA v_p0_rules_kind))), (a_p0_rules_first, .inl (G 1, 5, .inl (zA v_p0_rules_first))), (a_p0_rules_second, .inl (G 1, 5, .inl (zA v_p0_rules_second))), (a_p0_state, .inr (8, [.ref a_p0_state_pieces, .ref a_p0_state_friends, .ref a_p0_state_spoons, .ref a_p0_state_eaten, .ref a_p0_state_seen, .int (Int32.ofInt i_p0_state_seenDays), .int (Int32.ofInt i_p0_state_bone), .int (Int32.ofInt i_p0_state_king), .int (Int32.ofInt i_p0_state_days)])), (a_p0_state_pieces, .inl (G 1, 7, .inl (zA v_p0_state_pieces))), (a_p0_state_friends, .inl (G 1, 7, .inl (zA v_p0_state_friends))), (a_p0_state_spoons, .inl (G 1, 7, .inl (zA v_p0_state_spoons))), (a_p0_numbers, .inl (G 1, 7, .inl (zA v_p0_numbers)))] sz) := by
  refine Met.ofW (cc := cX10_takeLine) (maxL := 5) (ret := none) (by decide) rfl ?_
  intro p e s m args below meth c s₁ B hml hv
  obtain ⟨rfl, hsz, hP, hK, hD0⟩ := hv
  have hx := B.exec
  have hb := B.bytes
  have hr := B.returns
  have hts := atoms_spec (ws := wsX10_takeLine) B.pre
  have hown : s.vm.findClass RX10 = some m.cls := findClass_of_methodNamed B.named
  have hlocks := B.notSynchronized
  subst hsz
  have hD := hD0.self (sz := s.heap.size)
  generalize hAe : va_A [(a_p0, .inr (10, [.ref a_p0_tape, .ref a_p0_rules, .ref a_p0_state, .int (Int32.ofInt i_p0_faultFound), .int (Int32.ofInt i_p0_faultPlace), .int (Int32.ofInt i_p0_lines), .int (Int32.ofInt i_p0_met), .int (Int32.ofInt i_p0_greatest), .ref a_p0_numbers])), (a_p0_rules, .inr (6, [.int (Int32.ofInt i_p0_rules_seats), .int (Int32.ofInt i_p0_rules_stirs), .ref a_p0_rules_need, .ref a_p0_rules_kind, .ref a_p0_rules_first, .ref a_p0_rules_second, .ref a_p0_rules_after])), (a_p0_rules_need, .inl (G 1, 7, .inl (zA v_p0_rules_need))), (a_p0_rules_kind, .inl (G 1, 5, .inl (zA v_p0_rules_kind))), (a_p0_rules_first, .inl (G 1, 5, .inl (zA v_p0_rules_first))), (a_p0_rules_second, .inl (G 1, 5, .inl (zA v_p0_rules_second))), (a_p0_state, .inr (8, [.ref a_p0_state_pieces, .ref a_p0_state_friends, .ref a_p0_state_spoons, .ref a_p0_state_eaten, .ref a_p0_state_seen, .int (Int32.ofInt i_p0_state_seenDays), .int (Int32.ofInt i_p0_state_bone), .int (Int32.ofInt i_p0_state_king), .int (Int32.ofInt i_p0_state_days)])), (a_p0_state_pieces, .inl (G 1, 7, .inl (zA v_p0_state_pieces))), (a_p0_state_friends, .inl (G 1, 7, .inl (zA v_p0_state_friends))), (a_p0_state_spoons, .inl (G 1, 7, .inl (zA v_p0_state_spoons))), (a_p0_numbers, .inl (G 1, 7, .inl (zA v_p0_numbers)))] s.heap.size = A at hD ⊢
  have hA : ∀ q : Nat, s.heap.size ≤ q → A q := fun q h => by rw [← hAe]; exact Or.inr h
  clear hAe hD0
  have hS : va_S A s.heap s.heap [] := va_S.rf
  have hl := lv_entry ([.ref a_p0, .int (Int32.ofInt x1), .int (Int32.ofInt x2)]) (n := 5) (Nat.le_of_ble_eq_true rfl)
  rw [lg_entry_eq]
  generalize (lg_sl ([.ref a_p0, .int (Int32.ofInt x1), .int (Int32.ofInt x2)]) ++ List.replicate (5 - (lg_sl ([.ref a_p0, .int (Int32.ofInt x1), .int (Int32.ofInt x2)])).length) Slot.unset).toArray = ls at hl ⊢
  have hl : lv_has ls 5 [(0, .ref a_p0), (1, .int (Int32.ofInt x1)), (2, .int (Int32.ofInt x2))] := hl
  refine W_nameQ (fun Q hQ => ?_)
  obtain ⟨H, hH⟩ : ∃ H, H = s.heap := ⟨_, rfl⟩
  replace hS : va_S A s.heap H [] := by rw [hH]; exact hS
  replace hP : va_P D vwCl [(a_p0, .inr (10, [.ref a_p0_tape, .ref a_p0_rules, .ref a_p0_state, .int (Int32.ofInt i_p0_faultFound), .int (Int32.ofInt i_p0_faultPlace), .int (Int32.ofInt i_p0_lines), .int (Int32.ofInt i_p0_met), .int (Int32.ofInt i_p0_greatest), .ref a_p0_numbers])), (a_p0_rules, .inr (6, [.int (Int32.ofInt i_p0_rules_seats), .int (Int32.ofInt i_p0_rules_stirs), .ref a_p0_rules_need, .ref a_p0_rules_kind, .ref a_p0_rules_first, .ref a_p0_rules_second, .ref a_p0_rules_after])), (a_p0_rules_need, .inl (G 1, 7, .inl (zA v_p0_rules_need))), (a_p0_rules_kind, .inl (G 1, 5, .inl (zA v_p0_rules_kind))), (a_p0_rules_first, .inl (G 1, 5, .inl (zA v_p0_rules_first))), (a_p0_rules_second, .inl (G 1, 5, .inl (zA v_p0_rules_second))), (a_p0_state, .inr (8, [.ref a_p0_state_pieces, .ref a_p0_state_friends, .ref a_p0_state_spoons, .ref a_p0_state_eaten, .ref a_p0_state_seen, .int (Int32.ofInt i_p0_state_seenDays), .int (Int32.ofInt i_p0_state_bone), .int (Int32.ofInt i_p0_state_king), .int (Int32.ofInt i_p0_state_days)])), (a_p0_state_pieces, .inl (G 1, 7, .inl (zA v_p0_state_pieces))), (a_p0_state_friends, .inl (G 1, 7, .inl (zA v_p0_state_friends))), (a_p0_state_spoons, .inl (G 1, 7, .inl (zA v_p0_state_spoons))), (a_p0_numbers, .inl (G 1, 7, .inl (zA v_p0_numbers)))] H := by rw [hH]; exact hP
  rw [← hH]
  clear hH
  unfold f_X10_takeLine at hf
  refine lv_aload_n hx hb dX10_takeLine_0 rfl (lv_at hl 0 rfl) ?_
  refine lv_dup hx hb dX10_takeLine_1 rfl ?_
  refine va_get (D := D) (ci := 10) (v := .int (Int32.ofInt i_p0_lines)) (C := RX10) (T := TX10) (N := 9) hx hb hts inX10_takeLine_X10 hown hK hP 0 rfl rfl 5 (by decide) (hts _ mwX10_takeLine_1) (fun _ h9 => h9) rfl dX10_takeLine_2 ?_
  refine lv_iconst (v := Int32.ofInt (1 : Int)) hx hb dX10_takeLine_5 (by decide) ?_
  refine lv_iadd hx hb dX10_takeLine_6 (z_ci (Int32.ofInt_add i_p0_lines (1 : Int)) ?_)
  refine z_topi (fun z1 ez => ?_)
  replace hf := bnd_s hf ez
  clear ez
  refine va_put (D := D) (ci := 10) (v := .int (Int32.ofInt z1)) (ty := .int) (C := RX10) (T := TX10) (N := 9) hx hb hts inX10_takeLine_X10 tyX10 tyX10_ok nmX10 hown hK hP hD hS 0 rfl rfl 5 (by decide) (hts _ mwX10_takeLine_1) (fun _ h9 => h9) rfl (by decide +kernel) rfl rfl (Nat.le_of_ble_eq_true rfl) dX10_takeLine_7 (fun H locs hP hD hS => ?_)
  have hP : va_P D vwCl [(a_p0, .inr (10, [.ref a_p0_tape, .ref a_p0_rules, .ref a_p0_state, .int (Int32.ofInt i_p0_faultFound), .int (Int32.ofInt i_p0_faultPlace), .int (Int32.ofInt z1), .int (Int32.ofInt i_p0_met), .int (Int32.ofInt i_p0_greatest), .ref a_p0_numbers])), (a_p0_rules, .inr (6, [.int (Int32.ofInt i_p0_rules_seats), .int (Int32.ofInt i_p0_rules_stirs), .ref a_p0_rules_need, .ref a_p0_rules_kind, .ref a_p0_rules_first, .ref a_p0_rules_second, .ref a_p0_rules_after])), (a_p0_rules_need, .inl (G 1, 7, .inl (zA v_p0_rules_need))), (a_p0_rules_kind, .inl (G 1, 5, .inl (zA v_p0_rules_kind))), (a_p0_rules_first, .inl (G 1, 5, .inl (zA v_p0_rules_first))), (a_p0_rules_second, .inl (G 1, 5, .inl (zA v_p0_rules_second))), (a_p0_state, .inr (8, [.ref a_p0_state_pieces, .ref a_p0_state_friends, .ref a_p0_state_spoons, .ref a_p0_state_eaten, .ref a_p0_state_seen, .int (Int32.ofInt i_p0_state_seenDays), .int (Int32.ofInt i_p0_state_bone), .int (Int32.ofInt i_p0_state_king), .int (Int32.ofInt i_p0_state_days)])), (a_p0_state_pieces, .inl (G 1, 7, .inl (zA v_p0_state_pieces))), (a_p0_state_friends, .inl (G 1, 7, .inl (zA v_p0_state_friends))), (a_p0_state_spoons, .inl (G 1, 7, .inl (zA v_p0_state_spoons))), (a_p0_numbers, .inl (G 1, 7, .inl (zA v_p0_numbers)))] H := hP
  have hD : va_D A [(a_p0, .inr (10, [.ref a_p0_tape, .ref a_p0_rules, .ref a_p0_state, .int (Int32.ofInt i_p0_faultFound), .int (Int32.ofInt i_p0_faultPlace), .int (Int32.ofInt z1), .int (Int32.ofInt i_p0_met), .int (Int32.ofInt i_p0_greatest), .ref a_p0_numbers])), (a_p0_rules, .inr (6, [.int (Int32.ofInt i_p0_rules_seats), .int (Int32.ofInt i_p0_rules_stirs), .ref a_p0_rules_need, .ref a_p0_rules_kind, .ref a_p0_rules_first, .ref a_p0_rules_second, .ref a_p0_rules_after])), (a_p0_rules_need, .inl (G 1, 7, .inl (zA v_p0_rules_need))), (a_p0_rules_kind, .inl (G 1, 5, .inl (zA v_p0_rules_kind))), (a_p0_rules_first, .inl (G 1, 5, .inl (zA v_p0_rules_first))), (a_p0_rules_second, .inl (G 1, 5, .inl (zA v_p0_rules_second))), (a_p0_state, .inr (8, [.ref a_p0_state_pieces, .ref a_p0_state_friends, .ref a_p0_state_spoons, .ref a_p0_state_eaten, .ref a_p0_state_seen, .int (Int32.ofInt i_p0_state_seenDays), .int (Int32.ofInt i_p0_state_bone), .int (Int32.ofInt i_p0_state_king), .int (Int32.ofInt i_p0_state_days)])), (a_p0_state_pieces, .inl (G 1, 7, .inl (zA v_p0_state_pieces))), (a_p0_state_friends, .inl (G 1, 7, .inl (zA v_p0_state_friends))), (a_p0_state_spoons, .inl (G 1, 7, .inl (zA v_p0_state_spoons))), (a_p0_numbers, .inl (G 1, 7, .inl (zA v_p0_numbers)))] := hD
  refine lv_aload_n hx hb dX10_takeLine_10 rfl (lv_at hl 0 rfl) ?_
  refine va_get (D := D) (ci := 10) (v := .ref a_p0_numbers) (C := RX10) (T := TX10) (N := 9) hx hb hts inX10_takeLine_X10 hown hK hP 0 rfl rfl 8 (by decide) (hts _ mwX10_takeLine_2) (fun _ h9 => h9) rfl dX10_takeLine_11 ?_
  refine lv_iconst (v := Int32.ofInt (0 : Int)) hx hb dX10_takeLine_14 (by decide) ?_
  have hc := ck_c hf
  replace hf := ck_r hf
  refine va_iald hx hb hK hP 10 1 rfl rfl (z_ix_in hc) dX10_takeLine_15 (z_ci (z_ald v_p0_numbers hc) ?_)
  clear hc
  refine z_topi (fun z2 ez => ?_)
  replace hf := bnd_s hf ez
  clear ez
  refine lv_istore_n (lv' := [(3, .int (Int32.ofInt z2)), (0, .ref a_p0), (1, .int (Int32.ofInt x1)), (2, .int (Int32.ofInt x2))]) hx hb dX10_takeLine_16 rfl hl (by decide) rfl (fun ls hl => ?_)
  refine lv_aload_n hx hb dX10_takeLine_17 rfl (lv_at hl 1 rfl) ?_
  refine va_get (D := D) (ci := 10) (v := .ref a_p0_numbers) (C := RX10) (T := TX10) (N := 9) hx hb hts inX10_takeLine_X10 hown hK hP 0 rfl rfl 8 (by decide) (hts _ mwX10_takeLine_2) (fun _ h9 => h9) rfl dX10_takeLine_18 ?_
  refine lv_iconst (v := Int32.ofInt (1 : Int)) hx hb dX10_takeLine_21 (by decide) ?_
  have hc := ck_c hf
  replace hf := ck_r hf
  refine va_iald hx hb hK hP 10 1 rfl rfl (z_ix_in hc) dX10_takeLine_22 (z_ci (z_ald v_p0_numbers hc) ?_)
  clear hc
  refine z_topi (fun z3 ez => ?_)
  replace hf := bnd_s hf ez
  clear ez
  refine lv_istore (lv' := [(4, .int (Int32.ofInt z3)), (3, .int (Int32.ofInt z2)), (0, .ref a_p0), (1, .int (Int32.ofInt x1)), (2, .int (Int32.ofInt x2))]) hx hb dX10_takeLine_23 hl (by decide) rfl (fun ls hl => ?_)
  refine lv_iload_n hx hb dX10_takeLine_25 rfl (lv_at hl 3 rfl) ?_
  have hr3 := ck_c hf
  replace hf := ck_r hf
  rcases Decidable.em (x1 = (0 : Int)) with hk5 | hk5
  ·
    replace hf := ite_t hk5 hf
    refine lv_tableIn (tgt := 68) hx hb dX10_takeLine_26 (by rw [hk5]; decide) (by rw [hk5]; decide) (by rw [hk5]; rfl) (by decide) ?_
    clear hk5
    refine lv_aload_n hx hb dX10_takeLine_68 rfl (lv_at hl 2 rfl) ?_
    refine va_get (D := D) (ci := 10) (v := .ref a_p0_rules) (C := RX10) (T := TX10) (N := 9) hx hb hts inX10_takeLine_X10 hown hK hP 0 rfl rfl 1 (by decide) (hts _ mwX10_takeLine_3) (fun _ h9 => h9) rfl dX10_takeLine_69 ?_
    refine lv_iload_n hx hb dX10_takeLine_72 rfl (lv_at hl 1 rfl) ?_
    refine z_topi (fun z6 ez => ?_)
    replace hf := bnd_s hf ez
    clear ez
    refine va_put (D := D) (ci := 6) (v := .int (Int32.ofInt z6)) (ty := .int) (C := RX6) (T := TX6) (N := 7) hx hb hts inX10_takeLine_X6 tyX6 tyX6_ok nmX6 hown hK hP hD hS 1 rfl rfl 0 (by decide) (hts _ mwX10_takeLine_5) (fun _ h9 => h9) rfl (by decide +kernel) rfl rfl (Nat.le_of_ble_eq_true rfl) dX10_takeLine_73 (fun H locs hP hD hS => ?_)
    have hP : va_P D vwCl [(a_p0, .inr (10, [.ref a_p0_tape, .ref a_p0_rules, .ref a_p0_state, .int (Int32.ofInt i_p0_faultFound), .int (Int32.ofInt i_p0_faultPlace), .int (Int32.ofInt z1), .int (Int32.ofInt i_p0_met), .int (Int32.ofInt i_p0_greatest), .ref a_p0_numbers])), (a_p0_rules, .inr (6, [.int (Int32.ofInt z6), .int (Int32.ofInt i_p0_rules_stirs), .ref a_p0_rules_need, .ref a_p0_rules_kind, .ref a_p0_rules_first, .ref a_p0_rules_second, .ref a_p0_rules_after])), (a_p0_rules_need, .inl (G 1, 7, .inl (zA v_p0_rules_need))), (a_p0_rules_kind, .inl (G 1, 5, .inl (zA v_p0_rules_kind))), (a_p0_rules_first, .inl (G 1, 5, .inl (zA v_p0_rules_first))), (a_p0_rules_second, .inl (G 1, 5, .inl (zA v_p0_rules_second))), (a_p0_state, .inr (8, [.ref a_p0_state_pieces, .ref a_p0_state_friends, .ref a_p0_state_spoons, .ref a_p0_state_eaten, .ref a_p0_state_seen, .int (Int32.ofInt i_p0_state_seenDays), .int (Int32.ofInt i_p0_state_bone), .int (Int32.ofInt i_p0_state_king), .int (Int32.ofInt i_p0_state_days)])), (a_p0_state_pieces, .inl (G 1, 7, .inl (zA v_p0_state_pieces))), (a_p0_state_friends, .inl (G 1, 7, .inl (zA v_p0_state_friends))), (a_p0_state_spoons, .inl (G 1, 7, .inl (zA v_p0_state_spoons))), (a_p0_numbers, .inl (G 1, 7, .inl (zA v_p0_numbers)))] H := hP
    have hD : va_D A [(a_p0, .inr (10, [.ref a_p0_tape, .ref a_p0_rules, .ref a_p0_state, .int (Int32.ofInt i_p0_faultFound), .int (Int32.ofInt i_p0_faultPlace), .int (Int32.ofInt z1), .int (Int32.ofInt i_p0_met), .int (Int32.ofInt i_p0_greatest), .ref a_p0_numbers])), (a_p0_rules, .inr (6, [.int (Int32.ofInt z6), .int (Int32.ofInt i_p0_rules_stirs), .ref a_p0_rules_need, .ref a_p0_rules_kind, .ref a_p0_rules_first, .ref a_p0_rules_second, .ref a_p0_rules_after])), (a_p0_rules_need, .inl (G 1, 7, .inl (zA v_p0_rules_need))), (a_p0_rules_kind, .inl (G 1, 5, .inl (zA v_p0_rules_kind))), (a_p0_rules_first, .inl (G 1, 5, .inl (zA v_p0_rules_first))), (a_p0_rules_second, .inl (G 1, 5, .inl (zA v_p0_rules_second))), (a_p0_state, .inr (8, [.ref a_p0_state_pieces, .ref a_p0_state_friends, .ref a_p0_state_spoons, .ref a_p0_state_eaten, .ref a_p0_state_seen, .int (Int32.ofInt i_p0_state_seenDays), .int (Int32.ofInt i_p0_state_bone), .int (Int32.ofInt i_p0_state_king), .int (Int32.ofInt i_p0_state_days)])), (a_p0_state_pieces, .inl (G 1, 7, .inl (zA v_p0_state_pieces))), (a_p0_state_friends, .inl (G 1, 7, .inl (zA v_p0_state_friends))), (a_p0_state_spoons, .inl (G 1, 7, .inl (zA v_p0_state_spoons))), (a_p0_numbers, .inl (G 1, 7, .inl (zA v_p0_numbers)))] := hD
    refine lv_goto (tgt := 208) hx hb dX10_takeLine_76 (by decide) ?_
    obtain ⟨rfl, rfl, rfl, rfl, rfl, rfl, rfl, rfl, rfl, rfl, rfl, rfl, rfl⟩ := ou13 hf
    rw [hQ]
    exact W.vret hx hb hr (fun t ht hW => ⟨⟨(), rfl, trivial, by rw [ht]; exact hP, va_K.moved hW.alike hK, hD⟩, hS.F ht⟩) hS.2.2 dX10_takeLine_208
  replace hf := ite_f hk5 hf
  rcases Decidable.em (x1 = (1 : Int)) with hk7 | hk7
  ·
    replace hf := ite_t hk7 hf
    refine lv_tableIn (tgt := 79) hx hb dX10_takeLine_26 (by rw [hk7]; decide) (by rw [hk7]; decide) (by rw [hk7]; rfl) (by decide) ?_
    clear hk7 hk5
    refine lv_aload_n hx hb dX10_takeLine_79 rfl (lv_at hl 2 rfl) ?_
    refine va_get (D := D) (ci := 10) (v := .ref a_p0_numbers) (C := RX10) (T := TX10) (N := 9) hx hb hts inX10_takeLine_X10 hown hK hP 0 rfl rfl 8 (by decide) (hts _ mwX10_takeLine_2) (fun _ h9 => h9) rfl dX10_takeLine_80 ?_
    refine lv_iconst (v := Int32.ofInt (0 : Int)) hx hb dX10_takeLine_83 (by decide) ?_
    refine lv_aload_n hx hb dX10_takeLine_84 rfl (lv_at hl 2 rfl) ?_
    refine va_get (D := D) (ci := 10) (v := .ref a_p0_state) (C := RX10) (T := TX10) (N := 9) hx hb hts inX10_takeLine_X10 hown hK hP 0 rfl rfl 2 (by decide) (hts _ mwX10_takeLine_6) (fun _ h9 => h9) rfl dX10_takeLine_85 ?_
    refine va_get (D := D) (ci := 8) (v := .ref a_p0_state_pieces) (C := RX8) (T := TX8) (N := 9) hx hb hts inX10_takeLine_X8 hown hK hP 6 rfl rfl 0 (by decide) (hts _ mwX10_takeLine_8) (fun _ h9 => h9) rfl dX10_takeLine_88 ?_
    refine lv_iconst (v := Int32.ofInt (0 : Int)) hx hb dX10_takeLine_91 (by decide) ?_
    refine lv_iload_n hx hb dX10_takeLine_92 rfl (lv_at hl 4 rfl) ?_
    have hc0 := ck_c hf
    have hc := z_cp_s hc0
    replace hf := ck_r hf
    have hc02 := ck_c hf
    have hc2 := z_cp_s hc02
    replace hf := ck_r hf
    refine va_copyi hx hb (by rw [hml]; exact hl.1.symm) hown (hts _ mwX10_takeLine_9) (hts _ mwX10_takeLine_10) (hts _ mwX10_takeLine_11) (hts _ mwX10_takeLine_12) hK hP hD hS 10 7 1 1 rfl rfl rfl rfl rfl hc.1 hc2.1 hc.2.1 hc.2.2 hc2.2.2 (fun _ _ => rfl) (Nat.le_of_ble_eq_true rfl) (Nat.le_of_ble_eq_true rfl) dX10_takeLine_93 (fun H locs hP hD hS => ?_)
    obtain ⟨w8, ez⟩ : ∃ y : (Int → Int), y = (z_cpy v_p0_numbers v_p0_state_pieces (0 : Int) (0 : Int) x2) := ⟨_, rfl⟩
    have hP : va_P D vwCl [(a_p0, .inr (10, [.ref a_p0_tape, .ref a_p0_rules, .ref a_p0_state, .int (Int32.ofInt i_p0_faultFound), .int (Int32.ofInt i_p0_faultPlace), .int (Int32.ofInt z1), .int (Int32.ofInt i_p0_met), .int (Int32.ofInt i_p0_greatest), .ref a_p0_numbers])), (a_p0_rules, .inr (6, [.int (Int32.ofInt i_p0_rules_seats), .int (Int32.ofInt i_p0_rules_stirs), .ref a_p0_rules_need, .ref a_p0_rules_kind, .ref a_p0_rules_first, .ref a_p0_rules_second, .ref a_p0_rules_after])), (a_p0_rules_need, .inl (G 1, 7, .inl (zA v_p0_rules_need))), (a_p0_rules_kind, .inl (G 1, 5, .inl (zA v_p0_rules_kind))), (a_p0_rules_first, .inl (G 1, 5, .inl (zA v_p0_rules_first))), (a_p0_rules_second, .inl (G 1, 5, .inl (zA v_p0_rules_second))), (a_p0_state, .inr (8, [.ref a_p0_state_pieces, .ref a_p0_state_friends, .ref a_p0_state_spoons, .ref a_p0_state_eaten, .ref a_p0_state_seen, .int (Int32.ofInt i_p0_state_seenDays), .int (Int32.ofInt i_p0_state_bone), .int (Int32.ofInt i_p0_state_king), .int (Int32.ofInt i_p0_state_days)])), (a_p0_state_pieces, .inl (G 1, 7, .inl (zA w8))), (a_p0_state_friends, .inl (G 1, 7, .inl (zA v_p0_state_friends))), (a_p0_state_spoons, .inl (G 1, 7, .inl (zA v_p0_state_spoons))), (a_p0_numbers, .inl (G 1, 7, .inl (zA v_p0_numbers)))] H := by rw [ez, ← z_cpy_e hc0 hc02]; exact hP
    have hD : va_D A [(a_p0, .inr (10, [.ref a_p0_tape, .ref a_p0_rules, .ref a_p0_state, .int (Int32.ofInt i_p0_faultFound), .int (Int32.ofInt i_p0_faultPlace), .int (Int32.ofInt z1), .int (Int32.ofInt i_p0_met), .int (Int32.ofInt i_p0_greatest), .ref a_p0_numbers])), (a_p0_rules, .inr (6, [.int (Int32.ofInt i_p0_rules_seats), .int (Int32.ofInt i_p0_rules_stirs), .ref a_p0_rules_need, .ref a_p0_rules_kind, .ref a_p0_rules_first, .ref a_p0_rules_second, .ref a_p0_rules_after])), (a_p0_rules_need, .inl (G 1, 7, .inl (zA v_p0_rules_need))), (a_p0_rules_kind, .inl (G 1, 5, .inl (zA v_p0_rules_kind))), (a_p0_rules_first, .inl (G 1, 5, .inl (zA v_p0_rules_first))), (a_p0_rules_second, .inl (G 1, 5, .inl (zA v_p0_rules_second))), (a_p0_state, .inr (8, [.ref a_p0_state_pieces, .ref a_p0_state_friends, .ref a_p0_state_spoons, .ref a_p0_state_eaten, .ref a_p0_state_seen, .int (Int32.ofInt i_p0_state_seenDays), .int (Int32.ofInt i_p0_state_bone), .int (Int32.ofInt i_p0_state_king), .int (Int32.ofInt i_p0_state_days)])), (a_p0_state_pieces, .inl (G 1, 7, .inl (zA w8))), (a_p0_state_friends, .inl (G 1, 7, .inl (zA v_p0_state_friends))), (a_p0_state_spoons, .inl (G 1, 7, .inl (zA v_p0_state_spoons))), (a_p0_numbers, .inl (G 1, 7, .inl (zA v_p0_numbers)))] := by rw [ez, ← z_cpy_e hc0 hc02]; exact hD
    replace hf := bnd_s hf ez
    clear ez hc hc2 hc0 hc02
    refine lv_aload_n hx hb dX10_takeLine_96 rfl (lv_at hl 2 rfl) ?_
    refine lv_iload_n hx hb dX10_takeLine_97 rfl (lv_at hl 4 rfl) ?_
    refine lv_iconst (v := Int32.ofInt (1 : Int)) hx hb dX10_takeLine_98 (by decide) ?_
    refine lv_isub hx hb dX10_takeLine_99 (z_ci (Int32.ofInt_sub x2 (1 : Int)) ?_)
    have hq := bd1_s hf
    clear hf
    obtain ⟨z9, hcall, hf⟩ := hq
    refine gcV (ws' := [(a_p0, .inr (10, [.ref a_p0_tape, .ref a_p0_rules, .ref a_p0_state, .int (Int32.ofInt i_p0_faultFound), .int (Int32.ofInt i_p0_faultPlace), .int (Int32.ofInt z1), .int (Int32.ofInt i_p0_met), .int (Int32.ofInt z9), .ref a_p0_numbers])), (a_p0_rules, .inr (6, [.int (Int32.ofInt i_p0_rules_seats), .int (Int32.ofInt i_p0_rules_stirs), .ref a_p0_rules_need, .ref a_p0_rules_kind, .ref a_p0_rules_first, .ref a_p0_rules_second, .ref a_p0_rules_after])), (a_p0_rules_need, .inl (G 1, 7, .inl (zA v_p0_rules_need))), (a_p0_rules_kind, .inl (G 1, 5, .inl (zA v_p0_rules_kind))), (a_p0_rules_first, .inl (G 1, 5, .inl (zA v_p0_rules_first))), (a_p0_rules_second, .inl (G 1, 5, .inl (zA v_p0_rules_second))), (a_p0_state, .inr (8, [.ref a_p0_state_pieces, .ref a_p0_state_friends, .ref a_p0_state_spoons, .ref a_p0_state_eaten, .ref a_p0_state_seen, .int (Int32.ofInt i_p0_state_seenDays), .int (Int32.ofInt i_p0_state_bone), .int (Int32.ofInt i_p0_state_king), .int (Int32.ofInt i_p0_state_days)])), (a_p0_state_pieces, .inl (G 1, 7, .inl (zA w8))), (a_p0_state_friends, .inl (G 1, 7, .inl (zA v_p0_state_friends))), (a_p0_state_spoons, .inl (G 1, 7, .inl (zA v_p0_state_spoons))), (a_p0_numbers, .inl (G 1, 7, .inl (zA v_p0_numbers)))]) (va_runV (As := [.int (Int32.ofInt (x2 - (1 : Int)))]) (rest := []) ⟨hx, hb, hml, hown, hts⟩ (c_X10_heed (l := l) (D := D) (G := G) (sz := H.size) (a_p0 := a_p0) (a_p0_tape := a_p0_tape) (a_p0_rules := a_p0_rules) (a_p0_state := a_p0_state) (a_p0_numbers := a_p0_numbers) (i_p0_faultFound := i_p0_faultFound) (i_p0_faultPlace := i_p0_faultPlace) (i_p0_lines := z1) (i_p0_met := i_p0_met) (i_p0_greatest := i_p0_greatest) (x1 := (x2 - (1 : Int))) (o_i_p0_greatest := z9) (hf := hcall)) (cwV 1 hts gX10_takeLine_X10_heed rfl rfl rfl (by decide +kernel) ⟨Nat.le_of_ble_eq_true rfl, Nat.le_of_ble_eq_true rfl⟩) (preG_V (ci := 10) (hP.sub [0] rfl) (hD.sub [0] rfl rfl) hK rfl rfl) rfl rfl hl.1 rfl (lv_room (Nat.le_of_ble_eq_true rfl)) dX10_takeLine_100 ⟨Nat.le_of_ble_eq_true rfl, Nat.le_of_ble_eq_true rfl⟩) hP hD hS hA [0] [1, 2, 3, 4, 5, 6, 7, 8, 9, 10] [10, 0, 1, 2, 3, 4, 5, 6, 7, 8, 9] rfl rfl rfl (by decide) rfl rfl rfl (fun H locs hP hD hS => ?_)
    clear hcall
    refine lv_goto (tgt := 208) hx hb dX10_takeLine_103 (by decide) ?_
    obtain ⟨rfl, rfl, rfl, rfl, rfl, rfl, rfl, rfl, rfl, rfl, rfl, rfl, rfl⟩ := ou13 hf
    rw [hQ]
    exact W.vret hx hb hr (fun t ht hW => ⟨⟨(), rfl, trivial, by rw [ht]; exact hP, va_K.moved hW.alike hK, hD⟩, hS.F ht⟩) hS.2.2 dX10_takeLine_208
  replace hf := ite_f hk7 hf
  rcases Decidable.em (x1 = (2 : Int)) with hk10 | hk10
  ·
    replace hf := ite_t hk10 hf
    refine lv_tableIn (tgt := 106) hx hb dX10_takeLine_26 (by rw [hk10]; decide) (by rw [hk10]; decide) (by rw [hk10]; rfl) (by decide) ?_
    clear hk10 hk5 hk7
    refine lv_aload_n hx hb dX10_takeLine_106 rfl (lv_at hl 2 rfl) ?_
    refine va_get (D := D) (ci := 10) (v := .ref a_p0_state) (C := RX10) (T := TX10) (N := 9) hx hb hts inX10_takeLine_X10 hown hK hP 0 rfl rfl 2 (by decide) (hts _ mwX10_takeLine_6) (fun _ h9 => h9) rfl dX10_takeLine_107 ?_
    refine lv_iload_n hx hb dX10_takeLine_110 rfl (lv_at hl 1 rfl) ?_
    refine z_topi (fun z11 ez => ?_)
    replace hf := bnd_s hf ez
    clear ez
    refine va_put (D := D) (ci := 8) (v := .int (Int32.ofInt z11)) (ty := .int) (C := RX8) (T := TX8) (N := 9) hx hb hts inX10_takeLine_X8 tyX8 tyX8_ok nmX8 hown hK hP hD hS 6 rfl rfl 6 (by decide) (hts _ mwX10_takeLine_13) (fun _ h9 => h9) rfl (by decide +kernel) rfl rfl (Nat.le_of_ble_eq_true rfl) dX10_takeLine_111 (fun H locs hP hD hS => ?_)
    have hP : va_P D vwCl [(a_p0, .inr (10, [.ref a_p0_tape, .ref a_p0_rules, .ref a_p0_state, .int (Int32.ofInt i_p0_faultFound), .int (Int32.ofInt i_p0_faultPlace), .int (Int32.ofInt z1), .int (Int32.ofInt i_p0_met), .int (Int32.ofInt i_p0_greatest), .ref a_p0_numbers])), (a_p0_rules, .inr (6, [.int (Int32.ofInt i_p0_rules_seats), .int (Int32.ofInt i_p0_rules_stirs), .ref a_p0_rules_need, .ref a_p0_rules_kind, .ref a_p0_rules_first, .ref a_p0_rules_second, .ref a_p0_rules_after])), (a_p0_rules_need, .inl (G 1, 7, .inl (zA v_p0_rules_need))), (a_p0_rules_kind, .inl (G 1, 5, .inl (zA v_p0_rules_kind))), (a_p0_rules_first, .inl (G 1, 5, .inl (zA v_p0_rules_first))), (a_p0_rules_second, .inl (G 1, 5, .inl (zA v_p0_rules_second))), (a_p0_state, .inr (8, [.ref a_p0_state_pieces, .ref a_p0_state_friends, .ref a_p0_state_spoons, .ref a_p0_state_eaten, .ref a_p0_state_seen, .int (Int32.ofInt i_p0_state_seenDays), .int (Int32.ofInt z11), .int (Int32.ofInt i_p0_state_king), .int (Int32.ofInt i_p0_state_days)])), (a_p0_state_pieces, .inl (G 1, 7, .inl (zA v_p0_state_pieces))), (a_p0_state_friends, .inl (G 1, 7, .inl (zA v_p0_state_friends))), (a_p0_state_spoons, .inl (G 1, 7, .inl (zA v_p0_state_spoons))), (a_p0_numbers, .inl (G 1, 7, .inl (zA v_p0_numbers)))] H := hP
    have hD : va_D A [(a_p0, .inr (10, [.ref a_p0_tape, .ref a_p0_rules, .ref a_p0_state, .int (Int32.ofInt i_p0_faultFound), .int (Int32.ofInt i_p0_faultPlace), .int (Int32.ofInt z1), .int (Int32.ofInt i_p0_met), .int (Int32.ofInt i_p0_greatest), .ref a_p0_numbers])), (a_p0_rules, .inr (6, [.int (Int32.ofInt i_p0_rules_seats), .int (Int32.ofInt i_p0_rules_stirs), .ref a_p0_rules_need, .ref a_p0_rules_kind, .ref a_p0_rules_first, .ref a_p0_rules_second, .ref a_p0_rules_after])), (a_p0_rules_need, .inl (G 1, 7, .inl (zA v_p0_rules_need))), (a_p0_rules_kind, .inl (G 1, 5, .inl (zA v_p0_rules_kind))), (a_p0_rules_first, .inl (G 1, 5, .inl (zA v_p0_rules_first))), (a_p0_rules_second, .inl (G 1, 5, .inl (zA v_p0_rules_second))), (a_p0_state, .inr (8, [.ref a_p0_state_pieces, .ref a_p0_state_friends, .ref a_p0_state_spoons, .ref a_p0_state_eaten, .ref a_p0_state_seen, .int (Int32.ofInt i_p0_state_seenDays), .int (Int32.ofInt z11), .int (Int32.ofInt i_p0_state_king), .int (Int32.ofInt i_p0_state_days)])), (a_p0_state_pieces, .inl (G 1, 7, .inl (zA v_p0_state_pieces))), (a_p0_state_friends, .inl (G 1, 7, .inl (zA v_p0_state_friends))), (a_p0_state_spoons, .inl (G 1, 7, .inl (zA v_p0_state_spoons))), (a_p0_numbers, .inl (G 1, 7, .inl (zA v_p0_numbers)))] := hD
    refine lv_aload_n hx hb dX10_takeLine_114 rfl (lv_at hl 2 rfl) ?_
    refine lv_iload_n hx hb dX10_takeLine_115 rfl (lv_at hl 1 rfl) ?_
    have hq := bd1_s hf
    clear hf
    obtain ⟨z12, hcall, hf⟩ := hq
    refine gcV (ws' := [(a_p0, .inr (10, [.ref a_p0_tape, .ref a_p0_rules, .ref a_p0_state, .int (Int32.ofInt i_p0_faultFound), .int (Int32.ofInt i_p0_faultPlace), .int (Int32.ofInt z1), .int (Int32.ofInt i_p0_met), .int (Int32.ofInt z12), .ref a_p0_numbers])), (a_p0_rules, .inr (6, [.int (Int32.ofInt i_p0_rules_seats), .int (Int32.ofInt i_p0_rules_stirs), .ref a_p0_rules_need, .ref a_p0_rules_kind, .ref a_p0_rules_first, .ref a_p0_rules_second, .ref a_p0_rules_after])), (a_p0_rules_need, .inl (G 1, 7, .inl (zA v_p0_rules_need))), (a_p0_rules_kind, .inl (G 1, 5, .inl (zA v_p0_rules_kind))), (a_p0_rules_first, .inl (G 1, 5, .inl (zA v_p0_rules_first))), (a_p0_rules_second, .inl (G 1, 5, .inl (zA v_p0_rules_second))), (a_p0_state, .inr (8, [.ref a_p0_state_pieces, .ref a_p0_state_friends, .ref a_p0_state_spoons, .ref a_p0_state_eaten, .ref a_p0_state_seen, .int (Int32.ofInt i_p0_state_seenDays), .int (Int32.ofInt z11), .int (Int32.ofInt i_p0_state_king), .int (Int32.ofInt i_p0_state_days)])), (a_p0_state_pieces, .inl (G 1, 7, .inl (zA v_p0_state_pieces))), (a_p0_state_friends, .inl (G 1, 7, .inl (zA v_p0_state_friends))), (a_p0_state_spoons, .inl (G 1, 7, .inl (zA v_p0_state_spoons))), (a_p0_numbers, .inl (G 1, 7, .inl (zA v_p0_numbers)))]) (va_runV (As := [.int (Int32.ofInt z2)]) (rest := []) ⟨hx, hb, hml, hown, hts⟩ (c_X10_heed (l := l) (D := D) (G := G) (sz := H.size) (a_p0 := a_p0) (a_p0_tape := a_p0_tape) (a_p0_rules := a_p0_rules) (a_p0_state := a_p0_state) (a_p0_numbers := a_p0_numbers) (i_p0_faultFound := i_p0_faultFound) (i_p0_faultPlace := i_p0_faultPlace) (i_p0_lines := z1) (i_p0_met := i_p0_met) (i_p0_greatest := i_p0_greatest) (x1 := z2) (o_i_p0_greatest := z12) (hf := hcall)) (cwV 1 hts gX10_takeLine_X10_heed rfl rfl rfl (by decide +kernel) ⟨Nat.le_of_ble_eq_true rfl, Nat.le_of_ble_eq_true rfl⟩) (preG_V (ci := 10) (hP.sub [0] rfl) (hD.sub [0] rfl rfl) hK rfl rfl) rfl rfl hl.1 rfl (lv_room (Nat.le_of_ble_eq_true rfl)) dX10_takeLine_116 ⟨Nat.le_of_ble_eq_true rfl, Nat.le_of_ble_eq_true rfl⟩) hP hD hS hA [0] [1, 2, 3, 4, 5, 6, 7, 8, 9, 10] [10, 0, 1, 2, 3, 4, 5, 6, 7, 8, 9] rfl rfl rfl (by decide) rfl rfl rfl (fun H locs hP hD hS => ?_)
    clear hcall
    refine lv_goto (tgt := 208) hx hb dX10_takeLine_119 (by decide) ?_
    obtain ⟨rfl, rfl, rfl, rfl, rfl, rfl, rfl, rfl, rfl, rfl, rfl, rfl, rfl⟩ := ou13 hf
    rw [hQ]
    exact W.vret hx hb hr (fun t ht hW => ⟨⟨(), rfl, trivial, by rw [ht]; exact hP, va_K.moved hW.alike hK, hD⟩, hS.F ht⟩) hS.2.2 dX10_takeLine_208
  replace hf := ite_f hk10 hf
  rcases Decidable.em (x1 = (3 : Int)) with hk13 | hk13
  ·
    replace hf := ite_t hk13 hf
    refine lv_tableIn (tgt := 122) hx hb dX10_takeLine_26 (by rw [hk13]; decide) (by rw [hk13]; decide) (by rw [hk13]; rfl) (by decide) ?_
    clear hk13 hk5 hk7 hk10
    refine lv_aload_n hx hb dX10_takeLine_122 rfl (lv_at hl 2 rfl) ?_
    refine va_get (D := D) (ci := 10) (v := .ref a_p0_state) (C := RX10) (T := TX10) (N := 9) hx hb hts inX10_takeLine_X10 hown hK hP 0 rfl rfl 2 (by decide) (hts _ mwX10_takeLine_6) (fun _ h9 => h9) rfl dX10_takeLine_123 ?_
    refine lv_iload_n hx hb dX10_takeLine_126 rfl (lv_at hl 1 rfl) ?_
    refine z_topi (fun z14 ez => ?_)
    replace hf := bnd_s hf ez
    clear ez
    refine va_put (D := D) (ci := 8) (v := .int (Int32.ofInt z14)) (ty := .int) (C := RX8) (T := TX8) (N := 9) hx hb hts inX10_takeLine_X8 tyX8 tyX8_ok nmX8 hown hK hP hD hS 6 rfl rfl 7 (by decide) (hts _ mwX10_takeLine_14) (fun _ h9 => h9) rfl (by decide +kernel) rfl rfl (Nat.le_of_ble_eq_true rfl) dX10_takeLine_127 (fun H locs hP hD hS => ?_)
    have hP : va_P D vwCl [(a_p0, .inr (10, [.ref a_p0_tape, .ref a_p0_rules, .ref a_p0_state, .int (Int32.ofInt i_p0_faultFound), .int (Int32.ofInt i_p0_faultPlace), .int (Int32.ofInt z1), .int (Int32.ofInt i_p0_met), .int (Int32.ofInt i_p0_greatest), .ref a_p0_numbers])), (a_p0_rules, .inr (6, [.int (Int32.ofInt i_p0_rules_seats), .int (Int32.ofInt i_p0_rules_stirs), .ref a_p0_rules_need, .ref a_p0_rules_kind, .ref a_p0_rules_first, .ref a_p0_rules_second, .ref a_p0_rules_after])), (a_p0_rules_need, .inl (G 1, 7, .inl (zA v_p0_rules_need))), (a_p0_rules_kind, .inl (G 1, 5, .inl (zA v_p0_rules_kind))), (a_p0_rules_first, .inl (G 1, 5, .inl (zA v_p0_rules_first))), (a_p0_rules_second, .inl (G 1, 5, .inl (zA v_p0_rules_second))), (a_p0_state, .inr (8, [.ref a_p0_state_pieces, .ref a_p0_state_friends, .ref a_p0_state_spoons, .ref a_p0_state_eaten, .ref a_p0_state_seen, .int (Int32.ofInt i_p0_state_seenDays), .int (Int32.ofInt i_p0_state_bone), .int (Int32.ofInt z14), .int (Int32.ofInt i_p0_state_days)])), (a_p0_state_pieces, .inl (G 1, 7, .inl (zA v_p0_state_pieces))), (a_p0_state_friends, .inl (G 1, 7, .inl (zA v_p0_state_friends))), (a_p0_state_spoons, .inl (G 1, 7, .inl (zA v_p0_state_spoons))), (a_p0_numbers, .inl (G 1, 7, .inl (zA v_p0_numbers)))] H := hP
    have hD : va_D A [(a_p0, .inr (10, [.ref a_p0_tape, .ref a_p0_rules, .ref a_p0_state, .int (Int32.ofInt i_p0_faultFound), .int (Int32.ofInt i_p0_faultPlace), .int (Int32.ofInt z1), .int (Int32.ofInt i_p0_met), .int (Int32.ofInt i_p0_greatest), .ref a_p0_numbers])), (a_p0_rules, .inr (6, [.int (Int32.ofInt i_p0_rules_seats), .int (Int32.ofInt i_p0_rules_stirs), .ref a_p0_rules_need, .ref a_p0_rules_kind, .ref a_p0_rules_first, .ref a_p0_rules_second, .ref a_p0_rules_after])), (a_p0_rules_need, .inl (G 1, 7, .inl (zA v_p0_rules_need))), (a_p0_rules_kind, .inl (G 1, 5, .inl (zA v_p0_rules_kind))), (a_p0_rules_first, .inl (G 1, 5, .inl (zA v_p0_rules_first))), (a_p0_rules_second, .inl (G 1, 5, .inl (zA v_p0_rules_second))), (a_p0_state, .inr (8, [.ref a_p0_state_pieces, .ref a_p0_state_friends, .ref a_p0_state_spoons, .ref a_p0_state_eaten, .ref a_p0_state_seen, .int (Int32.ofInt i_p0_state_seenDays), .int (Int32.ofInt i_p0_state_bone), .int (Int32.ofInt z14), .int (Int32.ofInt i_p0_state_days)])), (a_p0_state_pieces, .inl (G 1, 7, .inl (zA v_p0_state_pieces))), (a_p0_state_friends, .inl (G 1, 7, .inl (zA v_p0_state_friends))), (a_p0_state_spoons, .inl (G 1, 7, .inl (zA v_p0_state_spoons))), (a_p0_numbers, .inl (G 1, 7, .inl (zA v_p0_numbers)))] := hD
    refine lv_aload_n hx hb dX10_takeLine_130 rfl (lv_at hl 2 rfl) ?_
    refine lv_iload_n hx hb dX10_takeLine_131 rfl (lv_at hl 1 rfl) ?_
    have hq := bd1_s hf
    clear hf
    obtain ⟨z15, hcall, hf⟩ := hq
    refine gcV (ws' := [(a_p0, .inr (10, [.ref a_p0_tape, .ref a_p0_rules, .ref a_p0_state, .int (Int32.ofInt i_p0_faultFound), .int (Int32.ofInt i_p0_faultPlace), .int (Int32.ofInt z1), .int (Int32.ofInt i_p0_met), .int (Int32.ofInt z15), .ref a_p0_numbers])), (a_p0_rules, .inr (6, [.int (Int32.ofInt i_p0_rules_seats), .int (Int32.ofInt i_p0_rules_stirs), .ref a_p0_rules_need, .ref a_p0_rules_kind, .ref a_p0_rules_first, .ref a_p0_rules_second, .ref a_p0_rules_after])), (a_p0_rules_need, .inl (G 1, 7, .inl (zA v_p0_rules_need))), (a_p0_rules_kind, .inl (G 1, 5, .inl (zA v_p0_rules_kind))), (a_p0_rules_first, .inl (G 1, 5, .inl (zA v_p0_rules_first))), (a_p0_rules_second, .inl (G 1, 5, .inl (zA v_p0_rules_second))), (a_p0_state, .inr (8, [.ref a_p0_state_pieces, .ref a_p0_state_friends, .ref a_p0_state_spoons, .ref a_p0_state_eaten, .ref a_p0_state_seen, .int (Int32.ofInt i_p0_state_seenDays), .int (Int32.ofInt i_p0_state_bone), .int (Int32.ofInt z14), .int (Int32.ofInt i_p0_state_days)])), (a_p0_state_pieces, .inl (G 1, 7, .inl (zA v_p0_state_pieces))), (a_p0_state_friends, .inl (G 1, 7, .inl (zA v_p0_state_friends))), (a_p0_state_spoons, .inl (G 1, 7, .inl (zA v_p0_state_spoons))), (a_p0_numbers, .inl (G 1, 7, .inl (zA v_p0_numbers)))]) (va_runV (As := [.int (Int32.ofInt z2)]) (rest := []) ⟨hx, hb, hml, hown, hts⟩ (c_X10_heed (l := l) (D := D) (G := G) (sz := H.size) (a_p0 := a_p0) (a_p0_tape := a_p0_tape) (a_p0_rules := a_p0_rules) (a_p0_state := a_p0_state) (a_p0_numbers := a_p0_numbers) (i_p0_faultFound := i_p0_faultFound) (i_p0_faultPlace := i_p0_faultPlace) (i_p0_lines := z1) (i_p0_met := i_p0_met) (i_p0_greatest := i_p0_greatest) (x1 := z2) (o_i_p0_greatest := z15) (hf := hcall)) (cwV 1 hts gX10_takeLine_X10_heed rfl rfl rfl (by decide +kernel) ⟨Nat.le_of_ble_eq_true rfl, Nat.le_of_ble_eq_true rfl⟩) (preG_V (ci := 10) (hP.sub [0] rfl) (hD.sub [0] rfl rfl) hK rfl rfl) rfl rfl hl.1 rfl (lv_room (Nat.le_of_ble_eq_true rfl)) dX10_takeLine_132 ⟨Nat.le_of_ble_eq_true rfl, Nat.le_of_ble_eq_true rfl⟩) hP hD hS hA [0] [1, 2, 3, 4, 5, 6, 7, 8, 9, 10] [10, 0, 1, 2, 3, 4, 5, 6, 7, 8, 9] rfl rfl rfl (by decide) rfl rfl rfl (fun H locs hP hD hS => ?_)
    clear hcall
    refine lv_goto (tgt := 208) hx hb dX10_takeLine_135 (by decide) ?_
    obtain ⟨rfl, rfl, rfl, rfl, rfl, rfl, rfl, rfl, rfl, rfl, rfl, rfl, rfl⟩ := ou13 hf
    rw [hQ]
    exact W.vret hx hb hr (fun t ht hW => ⟨⟨(), rfl, trivial, by rw [ht]; exact hP, va_K.moved hW.alike hK, hD⟩, hS.F ht⟩) hS.2.2 dX10_takeLine_208
  replace hf := ite_f hk13 hf
  rcases Decidable.em (x1 = (4 : Int)) with hk16 | hk16
  ·
    replace hf := ite_t hk16 hf
    refine lv_tableIn (tgt := 138) hx hb dX10_takeLine_26 (by rw [hk16]; decide) (by rw [hk16]; decide) (by rw [hk16]; rfl) (by decide) ?_
    clear hk16 hk5 hk7 hk10 hk13
    refine lv_aload_n hx hb dX10_takeLine_138 rfl (lv_at hl 2 rfl) ?_
    refine va_get (D := D) (ci := 10) (v := .ref a_p0_state) (C := RX10) (T := TX10) (N := 9) hx hb hts inX10_takeLine_X10 hown hK hP 0 rfl rfl 2 (by decide) (hts _ mwX10_takeLine_6) (fun _ h9 => h9) rfl dX10_takeLine_139 ?_
    refine lv_iload_n hx hb dX10_takeLine_142 rfl (lv_at hl 1 rfl) ?_
    refine lv_iload hx hb dX10_takeLine_143 (lv_at hl 0 rfl) ?_
    refine lv_iconst (v := Int32.ofInt (1 : Int)) hx hb dX10_takeLine_145 (by decide) ?_
    have hq := bd1_s hf
    clear hf
    obtain ⟨w17, hcall, hf⟩ := hq
    refine gcV (ws' := [(a_p0, .inr (10, [.ref a_p0_tape, .ref a_p0_rules, .ref a_p0_state, .int (Int32.ofInt i_p0_faultFound), .int (Int32.ofInt i_p0_faultPlace), .int (Int32.ofInt z1), .int (Int32.ofInt i_p0_met), .int (Int32.ofInt i_p0_greatest), .ref a_p0_numbers])), (a_p0_rules, .inr (6, [.int (Int32.ofInt i_p0_rules_seats), .int (Int32.ofInt i_p0_rules_stirs), .ref a_p0_rules_need, .ref a_p0_rules_kind, .ref a_p0_rules_first, .ref a_p0_rules_second, .ref a_p0_rules_after])), (a_p0_rules_need, .inl (G 1, 7, .inl (zA v_p0_rules_need))), (a_p0_rules_kind, .inl (G 1, 5, .inl (zA v_p0_rules_kind))), (a_p0_rules_first, .inl (G 1, 5, .inl (zA v_p0_rules_first))), (a_p0_rules_second, .inl (G 1, 5, .inl (zA v_p0_rules_second))), (a_p0_state, .inr (8, [.ref a_p0_state_pieces, .ref a_p0_state_friends, .ref a_p0_state_spoons, .ref a_p0_state_eaten, .ref a_p0_state_seen, .int (Int32.ofInt i_p0_state_seenDays), .int (Int32.ofInt i_p0_state_bone), .int (Int32.ofInt i_p0_state_king), .int (Int32.ofInt i_p0_state_days)])), (a_p0_state_pieces, .inl (G 1, 7, .inl (zA v_p0_state_pieces))), (a_p0_state_friends, .inl (G 1, 7, .inl (zA w17))), (a_p0_state_spoons, .inl (G 1, 7, .inl (zA v_p0_state_spoons))), (a_p0_numbers, .inl (G 1, 7, .inl (zA v_p0_numbers)))]) (va_runV (As := [.int (Int32.ofInt z2), .int (Int32.ofInt z3), .int (Int32.ofInt (1 : Int))]) (rest := []) ⟨hx, hb, hml, hown, hts⟩ (c_X8_setFriend (l := l) (D := D) (G := G) (sz := H.size) (a_p0 := a_p0_state) (a_p0_pieces := a_p0_state_pieces) (a_p0_friends := a_p0_state_friends) (a_p0_spoons := a_p0_state_spoons) (a_p0_eaten := a_p0_state_eaten) (a_p0_seen := a_p0_state_seen) (i_p0_seenDays := i_p0_state_seenDays) (i_p0_bone := i_p0_state_bone) (i_p0_king := i_p0_state_king) (i_p0_days := i_p0_state_days) (v_p0_friends := v_p0_state_friends) (x1 := z2) (x2 := z3) (x3 := (1 : Int)) (o_v_p0_friends := w17) (hf := hcall)) (cwV 3 hts gX10_takeLine_X8_setFriend rfl rfl rfl (by decide +kernel) ⟨Nat.le_of_ble_eq_true rfl, Nat.le_of_ble_eq_true rfl⟩) (preG_V (ci := 8) (hP.sub [6, 8] rfl) (hD.sub [6, 8] rfl rfl) hK rfl rfl) rfl rfl hl.1 rfl (lv_room (Nat.le_of_ble_eq_true rfl)) dX10_takeLine_146 ⟨Nat.le_of_ble_eq_true rfl, Nat.le_of_ble_eq_true rfl⟩) hP hD hS hA [6, 8] [0, 1, 2, 3, 4, 5, 7, 9, 10] [0, 1, 2, 3, 4, 5, 9, 6, 10, 7, 8] rfl rfl rfl (by decide) rfl rfl rfl (fun H locs hP hD hS => ?_)
    clear hcall
    refine lv_aload_n hx hb dX10_takeLine_149 rfl (lv_at hl 2 rfl) ?_
    refine lv_iload_n hx hb dX10_takeLine_150 rfl (lv_at hl 1 rfl) ?_
    refine lv_iload hx hb dX10_takeLine_151 (lv_at hl 0 rfl) ?_
    have hr17 := ck_c hf
    replace hf := ck_r hf
    have hr18 := ck_c hf
    replace hf := ck_r hf
    refine va_mmax hx hb (by rw [hml]; exact hl.1.symm) hown (hts _ mwX10_takeLine_15) (hts _ mwX10_takeLine_16) (hts _ mwX10_takeLine_17) (hts _ mwX10_takeLine_18) (Nat.le_of_ble_eq_true rfl) (Nat.le_of_ble_eq_true rfl) (Nat.le_of_ble_eq_true rfl) (Nat.le_of_ble_eq_true rfl) dX10_takeLine_153 (z_ci (z_max hr17 hr18) ?_)
    have hq := bd1_s hf
    clear hf
    obtain ⟨z20, hcall, hf⟩ := hq
    refine gcV (ws' := [(a_p0, .inr (10, [.ref a_p0_tape, .ref a_p0_rules, .ref a_p0_state, .int (Int32.ofInt i_p0_faultFound), .int (Int32.ofInt i_p0_faultPlace), .int (Int32.ofInt z1), .int (Int32.ofInt i_p0_met), .int (Int32.ofInt z20), .ref a_p0_numbers])), (a_p0_rules, .inr (6, [.int (Int32.ofInt i_p0_rules_seats), .int (Int32.ofInt i_p0_rules_stirs), .ref a_p0_rules_need, .ref a_p0_rules_kind, .ref a_p0_rules_first, .ref a_p0_rules_second, .ref a_p0_rules_after])), (a_p0_rules_need, .inl (G 1, 7, .inl (zA v_p0_rules_need))), (a_p0_rules_kind, .inl (G 1, 5, .inl (zA v_p0_rules_kind))), (a_p0_rules_first, .inl (G 1, 5, .inl (zA v_p0_rules_first))), (a_p0_rules_second, .inl (G 1, 5, .inl (zA v_p0_rules_second))), (a_p0_state, .inr (8, [.ref a_p0_state_pieces, .ref a_p0_state_friends, .ref a_p0_state_spoons, .ref a_p0_state_eaten, .ref a_p0_state_seen, .int (Int32.ofInt i_p0_state_seenDays), .int (Int32.ofInt i_p0_state_bone), .int (Int32.ofInt i_p0_state_king), .int (Int32.ofInt i_p0_state_days)])), (a_p0_state_pieces, .inl (G 1, 7, .inl (zA v_p0_state_pieces))), (a_p0_state_friends, .inl (G 1, 7, .inl (zA w17))), (a_p0_state_spoons, .inl (G 1, 7, .inl (zA v_p0_state_spoons))), (a_p0_numbers, .inl (G 1, 7, .inl (zA v_p0_numbers)))]) (va_runV (As := [.int (Int32.ofInt (max z2 z3))]) (rest := []) ⟨hx, hb, hml, hown, hts⟩ (c_X10_heed (l := l) (D := D) (G := G) (sz := H.size) (a_p0 := a_p0) (a_p0_tape := a_p0_tape) (a_p0_rules := a_p0_rules) (a_p0_state := a_p0_state) (a_p0_numbers := a_p0_numbers) (i_p0_faultFound := i_p0_faultFound) (i_p0_faultPlace := i_p0_faultPlace) (i_p0_lines := z1) (i_p0_met := i_p0_met) (i_p0_greatest := i_p0_greatest) (x1 := (max z2 z3)) (o_i_p0_greatest := z20) (hf := hcall)) (cwV 1 hts gX10_takeLine_X10_heed rfl rfl rfl (by decide +kernel) ⟨Nat.le_of_ble_eq_true rfl, Nat.le_of_ble_eq_true rfl⟩) (preG_V (ci := 10) (hP.sub [0] rfl) (hD.sub [0] rfl rfl) hK rfl rfl) rfl rfl hl.1 rfl (lv_room (Nat.le_of_ble_eq_true rfl)) dX10_takeLine_156 ⟨Nat.le_of_ble_eq_true rfl, Nat.le_of_ble_eq_true rfl⟩) hP hD hS hA [0] [1, 2, 3, 4, 5, 6, 7, 8, 9, 10] [10, 0, 1, 2, 3, 4, 5, 6, 7, 8, 9] rfl rfl rfl (by decide) rfl rfl rfl (fun H locs hP hD hS => ?_)
    clear hcall
    refine lv_goto (tgt := 208) hx hb dX10_takeLine_159 (by decide) ?_
    obtain ⟨rfl, rfl, rfl, rfl, rfl, rfl, rfl, rfl, rfl, rfl, rfl, rfl, rfl⟩ := ou13 hf
    rw [hQ]
    exact W.vret hx hb hr (fun t ht hW => ⟨⟨(), rfl, trivial, by rw [ht]; exact hP, va_K.moved hW.alike hK, hD⟩, hS.F ht⟩) hS.2.2 dX10_takeLine_208
  replace hf := ite_f hk16 hf
  rcases Decidable.em (x1 = (5 : Int)) with hk21 | hk21
  ·
    replace hf := ite_t hk21 hf
    refine lv_tableIn (tgt := 162) hx hb dX10_takeLine_26 (by rw [hk21]; decide) (by rw [hk21]; decide) (by rw [hk21]; rfl) (by decide) ?_
    clear hk21 hk5 hk7 hk10 hk13 hk16
    refine lv_aload_n hx hb dX10_takeLine_162 rfl (lv_at hl 2 rfl) ?_
    refine va_get (D := D) (ci := 10) (v := .ref a_p0_state) (C := RX10) (T := TX10) (N := 9) hx hb hts inX10_takeLine_X10 hown hK hP 0 rfl rfl 2 (by decide) (hts _ mwX10_takeLine_6) (fun _ h9 => h9) rfl dX10_takeLine_163 ?_
    refine va_get (D := D) (ci := 8) (v := .ref a_p0_state_spoons) (C := RX8) (T := TX8) (N := 9) hx hb hts inX10_takeLine_X8 hown hK hP 6 rfl rfl 2 (by decide) (hts _ mwX10_takeLine_19) (fun _ h9 => h9) rfl dX10_takeLine_166 ?_
    refine lv_iload_n hx hb dX10_takeLine_169 rfl (lv_at hl 1 rfl) ?_
    refine lv_iload hx hb dX10_takeLine_170 (lv_at hl 0 rfl) ?_
    have hc := ck_c hf
    replace hf := ck_r hf
    refine zs_iast (wf := fun w22 => [(a_p0, .inr (10, [.ref a_p0_tape, .ref a_p0_rules, .ref a_p0_state, .int (Int32.ofInt i_p0_faultFound), .int (Int32.ofInt i_p0_faultPlace), .int (Int32.ofInt z1), .int (Int32.ofInt i_p0_met), .int (Int32.ofInt i_p0_greatest), .ref a_p0_numbers])), (a_p0_rules, .inr (6, [.int (Int32.ofInt i_p0_rules_seats), .int (Int32.ofInt i_p0_rules_stirs), .ref a_p0_rules_need, .ref a_p0_rules_kind, .ref a_p0_rules_first, .ref a_p0_rules_second, .ref a_p0_rules_after])), (a_p0_rules_need, .inl (G 1, 7, .inl (zA v_p0_rules_need))), (a_p0_rules_kind, .inl (G 1, 5, .inl (zA v_p0_rules_kind))), (a_p0_rules_first, .inl (G 1, 5, .inl (zA v_p0_rules_first))), (a_p0_rules_second, .inl (G 1, 5, .inl (zA v_p0_rules_second))), (a_p0_state, .inr (8, [.ref a_p0_state_pieces, .ref a_p0_state_friends, .ref a_p0_state_spoons, .ref a_p0_state_eaten, .ref a_p0_state_seen, .int (Int32.ofInt i_p0_state_seenDays), .int (Int32.ofInt i_p0_state_bone), .int (Int32.ofInt i_p0_state_king), .int (Int32.ofInt i_p0_state_days)])), (a_p0_state_pieces, .inl (G 1, 7, .inl (zA v_p0_state_pieces))), (a_p0_state_friends, .inl (G 1, 7, .inl (zA v_p0_state_friends))), (a_p0_state_spoons, .inl (G 1, 7, .inl (zA w22))), (a_p0_numbers, .inl (G 1, 7, .inl (zA v_p0_numbers)))]) hx hb hK hP hD hS 9 1 rfl rfl hc dX10_takeLine_172 (fun _ => rfl) (fun w22 ez H locs hP hD hS => ?_)
    replace hf := bnd_s hf ez
    clear ez hc
    refine lv_aload_n hx hb dX10_takeLine_173 rfl (lv_at hl 2 rfl) ?_
    refine lv_iload_n hx hb dX10_takeLine_174 rfl (lv_at hl 1 rfl) ?_
    have hq := bd1_s hf
    clear hf
    obtain ⟨z23, hcall, hf⟩ := hq
    refine gcV (ws' := [(a_p0, .inr (10, [.ref a_p0_tape, .ref a_p0_rules, .ref a_p0_state, .int (Int32.ofInt i_p0_faultFound), .int (Int32.ofInt i_p0_faultPlace), .int (Int32.ofInt z1), .int (Int32.ofInt i_p0_met), .int (Int32.ofInt z23), .ref a_p0_numbers])), (a_p0_rules, .inr (6, [.int (Int32.ofInt i_p0_rules_seats), .int (Int32.ofInt i_p0_rules_stirs), .ref a_p0_rules_need, .ref a_p0_rules_kind, .ref a_p0_rules_first, .ref a_p0_rules_second, .ref a_p0_rules_after])), (a_p0_rules_need, .inl (G 1, 7, .inl (zA v_p0_rules_need))), (a_p0_rules_kind, .inl (G 1, 5, .inl (zA v_p0_rules_kind))), (a_p0_rules_first, .inl (G 1, 5, .inl (zA v_p0_rules_first))), (a_p0_rules_second, .inl (G 1, 5, .inl (zA v_p0_rules_second))), (a_p0_state, .inr (8, [.ref a_p0_state_pieces, .ref a_p0_state_friends, .ref a_p0_state_spoons, .ref a_p0_state_eaten, .ref a_p0_state_seen, .int (Int32.ofInt i_p0_state_seenDays), .int (Int32.ofInt i_p0_state_bone), .int (Int32.ofInt i_p0_state_king), .int (Int32.ofInt i_p0_state_days)])), (a_p0_state_pieces, .inl (G 1, 7, .inl (zA v_p0_state_pieces))), (a_p0_state_friends, .inl (G 1, 7, .inl (zA v_p0_state_friends))), (a_p0_state_spoons, .inl (G 1, 7, .inl (zA w22))), (a_p0_numbers, .inl (G 1, 7, .inl (zA v_p0_numbers)))]) (va_runV (As := [.int (Int32.ofInt z2)]) (rest := []) ⟨hx, hb, hml, hown, hts⟩ (c_X10_heed (l := l) (D := D) (G := G) (sz := H.size) (a_p0 := a_p0) (a_p0_tape := a_p0_tape) (a_p0_rules := a_p0_rules) (a_p0_state := a_p0_state) (a_p0_numbers := a_p0_numbers) (i_p0_faultFound := i_p0_faultFound) (i_p0_faultPlace := i_p0_faultPlace) (i_p0_lines := z1) (i_p0_met := i_p0_met) (i_p0_greatest := i_p0_greatest) (x1 := z2) (o_i_p0_greatest := z23) (hf := hcall)) (cwV 1 hts gX10_takeLine_X10_heed rfl rfl rfl (by decide +kernel) ⟨Nat.le_of_ble_eq_true rfl, Nat.le_of_ble_eq_true rfl⟩) (preG_V (ci := 10) (hP.sub [0] rfl) (hD.sub [0] rfl rfl) hK rfl rfl) rfl rfl hl.1 rfl (lv_room (Nat.le_of_ble_eq_true rfl)) dX10_takeLine_175 ⟨Nat.le_of_ble_eq_true rfl, Nat.le_of_ble_eq_true rfl⟩) hP hD hS hA [0] [1, 2, 3, 4, 5, 6, 7, 8, 9, 10] [10, 0, 1, 2, 3, 4, 5, 6, 7, 8, 9] rfl rfl rfl (by decide) rfl rfl rfl (fun H locs hP hD hS => ?_)
    clear hcall
    refine lv_goto (tgt := 208) hx hb dX10_takeLine_178 (by decide) ?_
    obtain ⟨rfl, rfl, rfl, rfl, rfl, rfl, rfl, rfl, rfl, rfl, rfl, rfl, rfl⟩ := ou13 hf
    rw [hQ]
    exact W.vret hx hb hr (fun t ht hW => ⟨⟨(), rfl, trivial, by rw [ht]; exact hP, va_K.moved hW.alike hK, hD⟩, hS.F ht⟩) hS.2.2 dX10_takeLine_208
  replace hf := ite_f hk21 hf
  rcases Decidable.em (x1 = (6 : Int)) with hk24 | hk24
  ·
    replace hf := ite_t hk24 hf
    refine lv_tableIn (tgt := 181) hx hb dX10_takeLine_26 (by rw [hk24]; decide) (by rw [hk24]; decide) (by rw [hk24]; rfl) (by decide) ?_
    clear hk24 hk5 hk7 hk10 hk13 hk16 hk21
    refine lv_aload_n hx hb dX10_takeLine_181 rfl (lv_at hl 2 rfl) ?_
    refine va_get (D := D) (ci := 10) (v := .ref a_p0_rules) (C := RX10) (T := TX10) (N := 9) hx hb hts inX10_takeLine_X10 hown hK hP 0 rfl rfl 1 (by decide) (hts _ mwX10_takeLine_3) (fun _ h9 => h9) rfl dX10_takeLine_182 ?_
    refine va_get (D := D) (ci := 6) (v := .ref a_p0_rules_need) (C := RX6) (T := TX6) (N := 7) hx hb hts inX10_takeLine_X6 hown hK hP 1 rfl rfl 2 (by decide) (hts _ mwX10_takeLine_20) (fun _ h9 => h9) rfl dX10_takeLine_185 ?_
    refine lv_iload_n hx hb dX10_takeLine_188 rfl (lv_at hl 1 rfl) ?_
    refine lv_iload hx hb dX10_takeLine_189 (lv_at hl 0 rfl) ?_
    have hc := ck_c hf
    replace hf := ck_r hf
    refine zs_iast (wf := fun w25 => [(a_p0, .inr (10, [.ref a_p0_tape, .ref a_p0_rules, .ref a_p0_state, .int (Int32.ofInt i_p0_faultFound), .int (Int32.ofInt i_p0_faultPlace), .int (Int32.ofInt z1), .int (Int32.ofInt i_p0_met), .int (Int32.ofInt i_p0_greatest), .ref a_p0_numbers])), (a_p0_rules, .inr (6, [.int (Int32.ofInt i_p0_rules_seats), .int (Int32.ofInt i_p0_rules_stirs), .ref a_p0_rules_need, .ref a_p0_rules_kind, .ref a_p0_rules_first, .ref a_p0_rules_second, .ref a_p0_rules_after])), (a_p0_rules_need, .inl (G 1, 7, .inl (zA w25))), (a_p0_rules_kind, .inl (G 1, 5, .inl (zA v_p0_rules_kind))), (a_p0_rules_first, .inl (G 1, 5, .inl (zA v_p0_rules_first))), (a_p0_rules_second, .inl (G 1, 5, .inl (zA v_p0_rules_second))), (a_p0_state, .inr (8, [.ref a_p0_state_pieces, .ref a_p0_state_friends, .ref a_p0_state_spoons, .ref a_p0_state_eaten, .ref a_p0_state_seen, .int (Int32.ofInt i_p0_state_seenDays), .int (Int32.ofInt i_p0_state_bone), .int (Int32.ofInt i_p0_state_king), .int (Int32.ofInt i_p0_state_days)])), (a_p0_state_pieces, .inl (G 1, 7, .inl (zA v_p0_state_pieces))), (a_p0_state_friends, .inl (G 1, 7, .inl (zA v_p0_state_friends))), (a_p0_state_spoons, .inl (G 1, 7, .inl (zA v_p0_state_spoons))), (a_p0_numbers, .inl (G 1, 7, .inl (zA v_p0_numbers)))]) hx hb hK hP hD hS 2 1 rfl rfl hc dX10_takeLine_191 (fun _ => rfl) (fun w25 ez H locs hP hD hS => ?_)
    replace hf := bnd_s hf ez
    clear ez hc
    refine lv_aload_n hx hb dX10_takeLine_192 rfl (lv_at hl 2 rfl) ?_
    refine lv_iload_n hx hb dX10_takeLine_193 rfl (lv_at hl 1 rfl) ?_
    have hq := bd1_s hf
    clear hf
    obtain ⟨z26, hcall, hf⟩ := hq
    refine gcV (ws' := [(a_p0, .inr (10, [.ref a_p0_tape, .ref a_p0_rules, .ref a_p0_state, .int (Int32.ofInt i_p0_faultFound), .int (Int32.ofInt i_p0_faultPlace), .int (Int32.ofInt z1), .int (Int32.ofInt i_p0_met), .int (Int32.ofInt z26), .ref a_p0_numbers])), (a_p0_rules, .inr (6, [.int (Int32.ofInt i_p0_rules_seats), .int (Int32.ofInt i_p0_rules_stirs), .ref a_p0_rules_need, .ref a_p0_rules_kind, .ref a_p0_rules_first, .ref a_p0_rules_second, .ref a_p0_rules_after])), (a_p0_rules_need, .inl (G 1, 7, .inl (zA w25))), (a_p0_rules_kind, .inl (G 1, 5, .inl (zA v_p0_rules_kind))), (a_p0_rules_first, .inl (G 1, 5, .inl (zA v_p0_rules_first))), (a_p0_rules_second, .inl (G 1, 5, .inl (zA v_p0_rules_second))), (a_p0_state, .inr (8, [.ref a_p0_state_pieces, .ref a_p0_state_friends, .ref a_p0_state_spoons, .ref a_p0_state_eaten, .ref a_p0_state_seen, .int (Int32.ofInt i_p0_state_seenDays), .int (Int32.ofInt i_p0_state_bone), .int (Int32.ofInt i_p0_state_king), .int (Int32.ofInt i_p0_state_days)])), (a_p0_state_pieces, .inl (G 1, 7, .inl (zA v_p0_state_pieces))), (a_p0_state_friends, .inl (G 1, 7, .inl (zA v_p0_state_friends))), (a_p0_state_spoons, .inl (G 1, 7, .inl (zA v_p0_state_spoons))), (a_p0_numbers, .inl (G 1, 7, .inl (zA v_p0_numbers)))]) (va_runV (As := [.int (Int32.ofInt z2)]) (rest := []) ⟨hx, hb, hml, hown, hts⟩ (c_X10_heed (l := l) (D := D) (G := G) (sz := H.size) (a_p0 := a_p0) (a_p0_tape := a_p0_tape) (a_p0_rules := a_p0_rules) (a_p0_state := a_p0_state) (a_p0_numbers := a_p0_numbers) (i_p0_faultFound := i_p0_faultFound) (i_p0_faultPlace := i_p0_faultPlace) (i_p0_lines := z1) (i_p0_met := i_p0_met) (i_p0_greatest := i_p0_greatest) (x1 := z2) (o_i_p0_greatest := z26) (hf := hcall)) (cwV 1 hts gX10_takeLine_X10_heed rfl rfl rfl (by decide +kernel) ⟨Nat.le_of_ble_eq_true rfl, Nat.le_of_ble_eq_true rfl⟩) (preG_V (ci := 10) (hP.sub [0] rfl) (hD.sub [0] rfl rfl) hK rfl rfl) rfl rfl hl.1 rfl (lv_room (Nat.le_of_ble_eq_true rfl)) dX10_takeLine_194 ⟨Nat.le_of_ble_eq_true rfl, Nat.le_of_ble_eq_true rfl⟩) hP hD hS hA [0] [1, 2, 3, 4, 5, 6, 7, 8, 9, 10] [10, 0, 1, 2, 3, 4, 5, 6, 7, 8, 9] rfl rfl rfl (by decide) rfl rfl rfl (fun H locs hP hD hS => ?_)
    clear hcall
    refine lv_goto (tgt := 208) hx hb dX10_takeLine_197 (by decide) ?_
    obtain ⟨rfl, rfl, rfl, rfl, rfl, rfl, rfl, rfl, rfl, rfl, rfl, rfl, rfl⟩ := ou13 hf
    rw [hQ]
    exact W.vret hx hb hr (fun t ht hW => ⟨⟨(), rfl, trivial, by rw [ht]; exact hP, va_K.moved hW.alike hK, hD⟩, hS.F ht⟩) hS.2.2 dX10_takeLine_208
  replace hf := ite_f hk24 hf
  refine lv_tableOut (tgt := 200) hx hb dX10_takeLine_26 (by rw [z_ti hr3]; omega) (by decide) ?_
  clear hk5 hk7 hk10 hk13 hk16 hk21 hk24
  refine lv_aload_n hx hb dX10_takeLine_200 rfl (lv_at hl 2 rfl) ?_
  refine lv_iload_n hx hb dX10_takeLine_201 rfl (lv_at hl 3 rfl) ?_
  refine lv_iload_n hx hb dX10_takeLine_202 rfl (lv_at hl 1 rfl) ?_
  refine lv_iload hx hb dX10_takeLine_203 (lv_at hl 0 rfl) ?_
  have hq := bd5_s hf
  clear hf
  obtain ⟨z27, z28, w29, w30, w31, hcall, hf⟩ := hq
  refine gcV (ws' := [(a_p0, .inr (10, [.ref a_p0_tape, .ref a_p0_rules, .ref a_p0_state, .int (Int32.ofInt i_p0_faultFound), .int (Int32.ofInt i_p0_faultPlace), .int (Int32.ofInt z1), .int (Int32.ofInt i_p0_met), .int (Int32.ofInt z27), .ref a_p0_numbers])), (a_p0_rules, .inr (6, [.int (Int32.ofInt i_p0_rules_seats), .int (Int32.ofInt z28), .ref a_p0_rules_need, .ref a_p0_rules_kind, .ref a_p0_rules_first, .ref a_p0_rules_second, .ref a_p0_rules_after])), (a_p0_rules_need, .inl (G 1, 7, .inl (zA v_p0_rules_need))), (a_p0_rules_kind, .inl (G 1, 5, .inl (zA w29))), (a_p0_rules_first, .inl (G 1, 5, .inl (zA w30))), (a_p0_rules_second, .inl (G 1, 5, .inl (zA w31))), (a_p0_state, .inr (8, [.ref a_p0_state_pieces, .ref a_p0_state_friends, .ref a_p0_state_spoons, .ref a_p0_state_eaten, .ref a_p0_state_seen, .int (Int32.ofInt i_p0_state_seenDays), .int (Int32.ofInt i_p0_state_bone), .int (Int32.ofInt i_p0_state_king), .int (Int32.ofInt i_p0_state_days)])), (a_p0_state_pieces, .inl (G 1, 7, .inl (zA v_p0_state_pieces))), (a_p0_state_friends, .inl (G 1, 7, .inl (zA v_p0_state_friends))), (a_p0_state_spoons, .inl (G 1, 7, .inl (zA v_p0_state_spoons))), (a_p0_numbers, .inl (G 1, 7, .inl (zA v_p0_numbers)))]) (va_runV (As := [.int (Int32.ofInt x1), .int (Int32.ofInt z2), .int (Int32.ofInt z3)]) (rest := []) ⟨hx, hb, hml, hown, hts⟩ (c_X10_takeStir (l := l) (D := D) (G := G) (sz := H.size) (a_p0 := a_p0) (a_p0_tape := a_p0_tape) (a_p0_rules := a_p0_rules) (a_p0_state := a_p0_state) (a_p0_numbers := a_p0_numbers) (a_p0_rules_need := a_p0_rules_need) (a_p0_rules_kind := a_p0_rules_kind) (a_p0_rules_first := a_p0_rules_first) (a_p0_rules_second := a_p0_rules_second) (a_p0_rules_after := a_p0_rules_after) (i_p0_faultFound := i_p0_faultFound) (i_p0_faultPlace := i_p0_faultPlace) (i_p0_lines := z1) (i_p0_met := i_p0_met) (i_p0_greatest := i_p0_greatest) (i_p0_rules_seats := i_p0_rules_seats) (i_p0_rules_stirs := i_p0_rules_stirs) (v_p0_rules_kind := v_p0_rules_kind) (v_p0_rules_first := v_p0_rules_first) (v_p0_rules_second := v_p0_rules_second) (x1 := x1) (x2 := z2) (x3 := z3) (o_i_p0_greatest := z27) (o_i_p0_rules_stirs := z28) (o_v_p0_rules_kind := w29) (o_v_p0_rules_first := w30) (o_v_p0_rules_second := w31) (hf := hcall)) (cwV 3 hts gX10_takeLine_X10_takeStir rfl rfl rfl (by decide +kernel) ⟨Nat.le_of_ble_eq_true rfl, Nat.le_of_ble_eq_true rfl⟩) (preG_V (ci := 10) (hP.sub [0, 1, 3, 4, 5] rfl) (hD.sub [0, 1, 3, 4, 5] rfl rfl) hK rfl rfl) rfl rfl hl.1 rfl (lv_room (Nat.le_of_ble_eq_true rfl)) dX10_takeLine_205 ⟨Nat.le_of_ble_eq_true rfl, Nat.le_of_ble_eq_true rfl⟩) hP hD hS hA [0, 1, 3, 4, 5] [2, 6, 7, 8, 9, 10] [6, 7, 0, 8, 9, 10, 1, 2, 3, 4, 5] rfl rfl rfl (by decide) rfl rfl rfl (fun H locs hP hD hS => ?_)
  clear hcall
  obtain ⟨rfl, rfl, rfl, rfl, rfl, rfl, rfl, rfl, rfl, rfl, rfl, rfl, rfl⟩ := ou13 hf
  rw [hQ]
  exact W.vret hx hb hr (fun t ht hW => ⟨⟨(), rfl, trivial, by rw [ht]; exact hP, va_K.moved hW.alike hK, hD⟩, hS.F ht⟩) hS.2.2 dX10_takeLine_208

noncomputable def f_X10_isAgain (i_p0_tape_value : Int) (v_p0_state_friends : (Int → Int)) (v_p0_numbers : (Int → Int)) (x1 : Int) : Option (Int) := (ck (z_ix (0 : Int) 7) (ck (z_r32 i_p0_tape_value) (ck (z_r32 (v_p0_numbers (0 : Int))) (jn (fun (z3 : Int) => (bnd z3 (fun (z5 : Int) => (ck (z_r32 x1) (if x1 = (4 : Int) then (ck (z_r32 z5) (if z5 = (0 : Int) then (ck (z_ix (0 : Int) 7) (bd1 (f_X8_isFriend v_p0_state_friends (v_p0_numbers (0 : Int)) i_p0_tape_value) (fun (z9 : Int) => (ck (z_r32 z9) (if z9 = (0 : Int) then (some (0 : Int)) else (some (1 : Int))))))) else (some (1 : Int)))) else (if x1 = (9 : Int) then (ck (z_r32 z5) (if z5 = (0 : Int) then (some (0 : Int)) else (some (1 : Int)))) else (some (0 : Int)))))))) (fun (J4 : Int → Option (Int)) => (if i_p0_tape_value = (v_p0_numbers (0 : Int)) then (J4 (1 : Int)) else (J4 (0 : Int))))))))
abbrev rm_X10_isAgain : Room := { frames := 1, cells := 0, slots := 0, locals := 22 }
theorem inX10_isAgain_X10 : ∀ w ∈ wsX100, w ∈ wsX10_isAgain := by decide +kernel
theorem mwX10_isAgain_1 : Cond.fieldLink RX10 45 "LadleKings$TextReader" "tape" "LLadleKings$Tape;" ∈ wsX10_isAgain := by decide +kernel
theorem inX10_isAgain_X9 : ∀ w ∈ wsX90, w ∈ wsX10_isAgain := by decide +kernel
theorem mwX10_isAgain_3 : Cond.fieldLink RX10 109 "LadleKings$Tape" "value" "I" ∈ wsX10_isAgain := by decide +kernel
theorem mwX10_isAgain_4 : Cond.fieldLink RX10 41 "LadleKings$TextReader" "numbers" "[I" ∈ wsX10_isAgain := by decide +kernel
theorem mwX10_isAgain_5 : Cond.fieldLink RX10 21 "LadleKings$TextReader" "state" "LLadleKings$State;" ∈ wsX10_isAgain := by decide +kernel
set_option maxHeartbeats 8000000 in
set_option maxRecDepth 100000 in
theorem c_X10_isAgain (l : Launch) (D : va_G) (G : Nat → ClassId) (sz : Nat) (a_p0 : Nat) (a_p0_tape : Nat) (a_p0_rules : Nat) (a_p0_state : Nat) (a_p0_numbers : Nat) (a_p0_tape_bytes : Nat) (a_p0_state_pieces : Nat) (a_p0_state_friends : Nat) (a_p0_state_spoons : Nat) (a_p0_state_eaten : Nat) (a_p0_state_seen : Nat) (i_p0_faultFound : Int) (i_p0_faultPlace : Int) (i_p0_lines : Int) (i_p0_met : Int) (i_p0_greatest : Int) (i_p0_tape_length : Int) (i_p0_tape_at : Int) (i_p0_tape_token : Int) (i_p0_tape_start : Int) (i_p0_tape_value : Int) (i_p0_state_seenDays : Int) (i_p0_state_bone : Int) (i_p0_state_king : Int) (i_p0_state_days : Int) (v_p0_state_friends : (Int → Int)) (v_p0_numbers : (Int → Int)) (x1 : Int) (r : Int) (hf : f_X10_isAgain i_p0_tape_value v_p0_state_friends v_p0_numbers x1 = some r) : Met l yX10_isAgain wsX10_isAgain rm_X10_isAgain (pcG D G [.ref a_p0, .int (Int32.ofInt x1)] sz [(a_p0, .inr (10, [.ref a_p0_tape, .ref a_p0_rules, .ref a_p0_state, .int (Int32.ofInt i_p0_faultFound), .int (Int32.ofInt i_p0_faultPlace), .int (Int32.ofInt i_p0_lines), .int (Int32.ofInt i_p0_met), .int (Int32.ofInt i_p0_greatest), .ref a_p0_numbers])), (a_p0_tape, .inr (9, [.ref a_p0_tape_bytes, .int (Int32.ofInt i_p0_tape_length), .int (Int32.ofInt i_p0_tape_at), .int (Int32.ofInt i_p0_tape_token), .int (Int32.ofInt i_p0_tape_start), .int (Int32.ofInt i_p0_tape_value)])), (a_p0_state, .inr (8, [.ref a_p0_state_pieces, .ref a_p0_state_friends, .ref a_p0_state_spoons, .ref a_p0_state_eaten, .ref a_p0_state_seen, .int (Int32.ofInt i_p0_state_seenDays), .int (Int32.ofInt i_p0_state_bone), .int (Int32.ofInt i_p0_state_king), .int (Int32.ofInt i_p0_state_days)])), (a_p0_state_friends, .inl (G 1, 7, .inl (zA v_p0_state_friends))), (a_p0_numbers, .inl (G 1, 7, .inl (zA v_p0_numbers)))]) (qcI D G (Int32.ofInt r) [(a_p0, .inr (10, [.ref a_p0_tape, .ref a_p0_rules, .ref a_p0_state, .int (Int32.ofInt i_p0_faultFound), .int (Int32.ofInt i_p0_faultPlace), .int (Int32.ofInt i_p0_lines), .int (Int32.ofInt i_p0_met), .int (Int32.ofInt i_p0_greatest), .ref a_p0_numbers])), (a_p0_tape, .inr (9, [.ref a_p0_tape_bytes, .int (Int32.ofInt i_p0_tape_length), .int (Int32.ofInt i_p0_tape_at), .int (Int32.ofInt i_p0_tape_token), .int (Int32.ofInt i_p0_tape_start), .int (Int32.ofInt i_p0_tape_value)])), (a_p0_state, .inr (8, [.ref a_p0_state_pieces, .ref a_p0_state_friends, .ref a_p0_state_spoons, .ref a_p0_state_eaten, .ref a_p0_state_seen, .int (Int32.ofInt i_p0_state_seenDays), .int (Int32.ofInt i_p0_state_bone), .int (Int32.ofInt i_p0_state_king), .int (Int32.ofInt i_p0_state_days)])), (a_p0_state_friends, .inl (G 1, 7, .inl (zA v_p0_state_friends))), (a_p0_numbers, .inl (G 1, 7, .inl (zA v_p0_numbers)))] (va_A [(a_p0, .inr (10, [.ref a_p0_tape, .ref a_p0_rules, .ref a_p0_state, .int (Int32.ofInt i_p0_faultFound), .int (Int32.ofInt i_p0_faultPlace), .int (Int32.ofInt i_p0_lines), .int (Int32.ofInt i_p0_met), .int (Int32.ofInt i_p0_greatest), .ref a_p0_numbers])), (a_p0_tape, .inr (9, [.ref a_p0_tape_bytes, .int (Int32.ofInt i_p0_tape_length), .int (Int32.ofInt i_p0_tape_at), .int (Int32.ofInt i_p0_tape_token), .int (Int32.ofInt i_p0_tape_start), .int (Int32.ofInt i_p0_tape_value)])), (a_p0_state, .inr (8, [.ref a_p0_state_pieces, .ref a_p0_state_friends, .ref a_p0_state_spoons, .ref a_p0_state_eaten, .ref a_p0_state_seen, .int (Int32.ofInt i_p0_state_seenDays), .int (Int32.ofInt i_p0_state_bone), .int (Int32.ofInt i_p0_state_king), .int (Int32.ofInt i_p0_state_days)])), (a_p0_state_friends, .inl (G 1, 7, .inl (zA v_p0_state_friends))), (a_p0_numbers, .inl (G 1, 7, .inl (zA v_p0_numbers)))] sz)) 0 0 (va_A [(a_p0, .inr (10, [.ref a_p0_tape, .ref a_p0_rules, .ref a_p0_state, .int (Int32.ofInt i_p0_faultFound), .int (Int32.ofInt i_p0_faultPlace), .int (Int32.ofInt i_p0_lines), .int (Int32.ofInt i_p0_met), .int (Int32.ofInt i_p0_greatest), .ref a_p0_numbers])), (a_p0_tape, .inr (9, [.ref a_p0_tape_bytes, .int (Int32.ofInt i_p0_tape_length), .int (Int32.ofInt i_p0_tape_at), .int (Int32.ofInt i_p0_tape_token), .int (Int32.ofInt i_p0_tape_start), .int (Int32.ofInt i_p0_tape_value)])), (a_p0_state, .inr (8, [.ref a_p0_state_pieces, .ref a_p0_state_friends, .ref a_p0_state_spoons, .ref a_p0_state_eaten, .ref a_p0_state_seen, .int (Int32.ofInt i_p0_state_seenDays), .int (Int32.ofInt i_p0_state_bone), .int (Int32.ofInt i_p0_state_king), .int (Int32.ofInt i_p0_state_days)])), (a_p0_state_friends, .inl (G 1, 7, .inl (zA v_p0_state_friends))), (a_p0_numbers, .inl (G 1, 7, .inl (zA v_p0_numbers)))] sz) := by
  refine Met.ofW (cc := cX10_isAgain) (maxL := 3) (ret := (some .boolean)) (by decide) rfl ?_
  intro p e s m args below meth c s₁ B hml hv
  obtain ⟨rfl, hsz, hP, hK, hD0⟩ := hv
  have hx := B.exec
  have hb := B.bytes
  have hr := B.returns
  have hts := atoms_spec (ws := wsX10_isAgain) B.pre
  have hown : s.vm.findClass RX10 = some m.cls := findClass_of_methodNamed B.named
  have hlocks := B.notSynchronized
  subst hsz
  have hD := hD0.self (sz := s.heap.size)
  generalize hAe : va_A [(a_p0, .inr (10, [.ref a_p0_tape, .ref a_p0_rules, .ref a_p0_state, .int (Int32.ofInt i_p0_faultFound), .int (Int32.ofInt i_p0_faultPlace), .int (Int32.ofInt i_p0_lines), .int (Int32.ofInt i_p0_met), .int (Int32.ofInt i_p0_greatest), .ref a_p0_numbers])), (a_p0_tape, .inr (9, [.ref a_p0_tape_bytes, .int (Int32.ofInt i_p0_tape_length), .int (Int32.ofInt i_p0_tape_at), .int (Int32.ofInt i_p0_tape_token), .int (Int32.ofInt i_p0_tape_start), .int (Int32.ofInt i_p0_tape_value)])), (a_p0_state, .inr (8, [.ref a_p0_state_pieces, .ref a_p0_state_friends, .ref a_p0_state_spoons, .ref a_p0_state_eaten, .ref a_p0_state_seen, .int (Int32.ofInt i_p0_state_seenDays), .int (Int32.ofInt i_p0_state_bone), .int (Int32.ofInt i_p0_state_king), .int (Int32.ofInt i_p0_state_days)])), (a_p0_state_friends, .inl (G 1, 7, .inl (zA v_p0_state_friends))), (a_p0_numbers, .inl (G 1, 7, .inl (zA v_p0_numbers)))] s.heap.size = A at hD ⊢
  have hA : ∀ q : Nat, s.heap.size ≤ q → A q := fun q h => by rw [← hAe]; exact Or.inr h
  clear hAe hD0
  have hS : va_S A s.heap s.heap [] := va_S.rf
  have hl := lv_entry ([.ref a_p0, .int (Int32.ofInt x1)]) (n := 3) (Nat.le_of_ble_eq_true rfl)
  rw [lg_entry_eq]
  generalize (lg_sl ([.ref a_p0, .int (Int32.ofInt x1)]) ++ List.replicate (3 - (lg_sl ([.ref a_p0, .int (Int32.ofInt x1)])).length) Slot.unset).toArray = ls at hl ⊢
  have hl : lv_has ls 3 [(0, .ref a_p0), (1, .int (Int32.ofInt x1))] := hl
  refine W_nameQ (fun Q hQ => ?_)
  obtain ⟨H, hH⟩ : ∃ H, H = s.heap := ⟨_, rfl⟩
  replace hS : va_S A s.heap H [] := by rw [hH]; exact hS
  replace hP : va_P D vwCl [(a_p0, .inr (10, [.ref a_p0_tape, .ref a_p0_rules, .ref a_p0_state, .int (Int32.ofInt i_p0_faultFound), .int (Int32.ofInt i_p0_faultPlace), .int (Int32.ofInt i_p0_lines), .int (Int32.ofInt i_p0_met), .int (Int32.ofInt i_p0_greatest), .ref a_p0_numbers])), (a_p0_tape, .inr (9, [.ref a_p0_tape_bytes, .int (Int32.ofInt i_p0_tape_length), .int (Int32.ofInt i_p0_tape_at), .int (Int32.ofInt i_p0_tape_token), .int (Int32.ofInt i_p0_tape_start), .int (Int32.ofInt i_p0_tape_value)])), (a_p0_state, .inr (8, [.ref a_p0_state_pieces, .ref a_p0_state_friends, .ref a_p0_state_spoons, .ref a_p0_state_eaten, .ref a_p0_state_seen, .int (Int32.ofInt i_p0_state_seenDays), .int (Int32.ofInt i_p0_state_bone), .int (Int32.ofInt i_p0_state_king), .int (Int32.ofInt i_p0_state_days)])), (a_p0_state_friends, .inl (G 1, 7, .inl (zA v_p0_state_friends))), (a_p0_numbers, .inl (G 1, 7, .inl (zA v_p0_numbers)))] H := by rw [hH]; exact hP
  rw [← hH]
  clear hH
  unfold f_X10_isAgain at hf
  refine lv_aload_n hx hb dX10_isAgain_0 rfl (lv_at hl 0 rfl) ?_
  refine va_get (D := D) (ci := 10) (v := .ref a_p0_tape) (C := RX10) (T := TX10) (N := 9) hx hb hts inX10_isAgain_X10 hown hK hP 0 rfl rfl 0 (by decide) (hts _ mwX10_isAgain_1) (fun _ h9 => h9) rfl dX10_isAgain_1 ?_
  refine va_get (D := D) (ci := 9) (v := .int (Int32.ofInt i_p0_tape_value)) (C := RX9) (T := TX9) (N := 6) hx hb hts inX10_isAgain_X9 hown hK hP 1 rfl rfl 5 (by decide) (hts _ mwX10_isAgain_3) (fun _ h9 => h9) rfl dX10_isAgain_4 ?_
  refine lv_aload_n hx hb dX10_isAgain_7 rfl (lv_at hl 0 rfl) ?_
  refine va_get (D := D) (ci := 10) (v := .ref a_p0_numbers) (C := RX10) (T := TX10) (N := 9) hx hb hts inX10_isAgain_X10 hown hK hP 0 rfl rfl 8 (by decide) (hts _ mwX10_isAgain_4) (fun _ h9 => h9) rfl dX10_isAgain_8 ?_
  refine lv_iconst (v := Int32.ofInt (0 : Int)) hx hb dX10_isAgain_11 (by decide) ?_
  have hc := ck_c hf
  replace hf := ck_r hf
  refine va_iald hx hb hK hP 4 1 rfl rfl (z_ix_in hc) dX10_isAgain_12 (z_ci (z_ald v_p0_numbers hc) ?_)
  clear hc
  have hr0 := ck_c hf
  replace hf := ck_r hf
  have hr1 := ck_c hf
  replace hf := ck_r hf
  have hq := jn_i hf
  clear hf
  obtain ⟨J4, eJ4, hf⟩ := hq
  have hJ4 : ∀ (z3 : Int) (ls : Array Slot) (H : Heap) (locs : List Loc), lv_has ls 3 [(0, .ref a_p0), (1, .int (Int32.ofInt x1))] → va_P D vwCl [(a_p0, .inr (10, [.ref a_p0_tape, .ref a_p0_rules, .ref a_p0_state, .int (Int32.ofInt i_p0_faultFound), .int (Int32.ofInt i_p0_faultPlace), .int (Int32.ofInt i_p0_lines), .int (Int32.ofInt i_p0_met), .int (Int32.ofInt i_p0_greatest), .ref a_p0_numbers])), (a_p0_tape, .inr (9, [.ref a_p0_tape_bytes, .int (Int32.ofInt i_p0_tape_length), .int (Int32.ofInt i_p0_tape_at), .int (Int32.ofInt i_p0_tape_token), .int (Int32.ofInt i_p0_tape_start), .int (Int32.ofInt i_p0_tape_value)])), (a_p0_state, .inr (8, [.ref a_p0_state_pieces, .ref a_p0_state_friends, .ref a_p0_state_spoons, .ref a_p0_state_eaten, .ref a_p0_state_seen, .int (Int32.ofInt i_p0_state_seenDays), .int (Int32.ofInt i_p0_state_bone), .int (Int32.ofInt i_p0_state_king), .int (Int32.ofInt i_p0_state_days)])), (a_p0_state_friends, .inl (G 1, 7, .inl (zA v_p0_state_friends))), (a_p0_numbers, .inl (G 1, 7, .inl (zA v_p0_numbers)))] H → va_D A [(a_p0, .inr (10, [.ref a_p0_tape, .ref a_p0_rules, .ref a_p0_state, .int (Int32.ofInt i_p0_faultFound), .int (Int32.ofInt i_p0_faultPlace), .int (Int32.ofInt i_p0_lines), .int (Int32.ofInt i_p0_met), .int (Int32.ofInt i_p0_greatest), .ref a_p0_numbers])), (a_p0_tape, .inr (9, [.ref a_p0_tape_bytes, .int (Int32.ofInt i_p0_tape_length), .int (Int32.ofInt i_p0_tape_at), .int (Int32.ofInt i_p0_tape_token), .int (Int32.ofInt i_p0_tape_start), .int (Int32.ofInt i_p0_tape_value)])), (a_p0_state, .inr (8, [.ref a_p0_state_pieces, .ref a_p0_state_friends, .ref a_p0_state_spoons, .ref a_p0_state_eaten, .ref a_p0_state_seen, .int (Int32.ofInt i_p0_state_seenDays), .int (Int32.ofInt i_p0_state_bone), .int (Int32.ofInt i_p0_state_king), .int (Int32.ofInt i_p0_state_days)])), (a_p0_state_friends, .inl (G 1, 7, .inl (zA v_p0_state_friends))), (a_p0_numbers, .inl (G 1, 7, .inl (zA v_p0_numbers)))] → va_S A s.heap H locs → J4 z3 = some r → W p l e rm_X10_isAgain s m ([.ref a_p0, .int (Int32.ofInt x1)] : List Value).toArray below meth c H locs 0 0 Q (F0 m 21 ls [.int (Int32.ofInt z3)]) := by
    clear hf hl hP hD hS
    intro z3 ls H locs hl hP hD hS hf
    replace hf := jn1_s eJ4 hf
    refine z_topi (fun z5 ez => ?_)
    replace hf := bnd_s hf ez
    clear ez
    refine lv_istore_n (lv' := [(2, .int (Int32.ofInt z5)), (0, .ref a_p0), (1, .int (Int32.ofInt x1))]) hx hb dX10_isAgain_21 rfl hl (by decide) rfl (fun ls hl => ?_)
    refine lv_iload_n hx hb dX10_isAgain_22 rfl (lv_at hl 2 rfl) ?_
    refine lv_iconst (v := Int32.ofInt (4 : Int)) hx hb dX10_isAgain_23 (by decide) ?_
    have hr5 := ck_c hf
    replace hf := ck_r hf
    refine lv_icmp_ne (tgt := 60) hx hb dX10_isAgain_24 (by decide) (fun cc => ?_) (fun cc => ?_)
    ·
      replace hf := ite_f (fun h9 => cc ((z_eq hr5 (by decide)).mpr h9)) hf
      clear cc
      refine lv_iload_n hx hb dX10_isAgain_60 rfl (lv_at hl 2 rfl) ?_
      refine lv_bipush (v := Int32.ofInt (9 : Int)) hx hb dX10_isAgain_61 (by decide) ?_
      refine lv_icmp_ne (tgt := 74) hx hb dX10_isAgain_63 (by decide) (fun cc => ?_) (fun cc => ?_)
      ·
        replace hf := ite_f (fun h9 => cc ((z_eq hr5 (by decide)).mpr h9)) hf
        clear cc
        refine lv_iconst (v := Int32.ofInt (0 : Int)) hx hb dX10_isAgain_74 (by decide) ?_
        obtain rfl := ou1 hf
        rw [hQ]
        exact W.zret hx hb hr rfl (fun t ht hW => ⟨⟨_, (), rfl, rfl, by rw [ht]; exact hP, va_K.moved hW.alike hK, hD⟩, hS.F ht⟩) hS.2.2 dX10_isAgain_75
      ·
        replace hf := ite_t ((z_eq hr5 (by decide)).mp cc) hf
        clear cc
        refine lv_iload_n hx hb dX10_isAgain_66 rfl (lv_at hl 0 rfl) ?_
        have hr6 := ck_c hf
        replace hf := ck_r hf
        refine lv_if_eq (tgt := 74) hx hb dX10_isAgain_67 (by decide) (fun cc => ?_) (fun cc => ?_)
        ·
          replace hf := ite_t ((z_eq0 hr6).mp cc) hf
          clear cc
          refine lv_iconst (v := Int32.ofInt (0 : Int)) hx hb dX10_isAgain_74 (by decide) ?_
          obtain rfl := ou1 hf
          rw [hQ]
          exact W.zret hx hb hr rfl (fun t ht hW => ⟨⟨_, (), rfl, rfl, by rw [ht]; exact hP, va_K.moved hW.alike hK, hD⟩, hS.F ht⟩) hS.2.2 dX10_isAgain_75
        ·
          replace hf := ite_f (fun h9 => cc ((z_eq0 hr6).mpr h9)) hf
          clear cc
          refine lv_iconst (v := Int32.ofInt (1 : Int)) hx hb dX10_isAgain_70 (by decide) ?_
          refine lv_goto (tgt := 75) hx hb dX10_isAgain_71 (by decide) ?_
          obtain rfl := ou1 hf
          rw [hQ]
          exact W.zret hx hb hr rfl (fun t ht hW => ⟨⟨_, (), rfl, rfl, by rw [ht]; exact hP, va_K.moved hW.alike hK, hD⟩, hS.F ht⟩) hS.2.2 dX10_isAgain_75
    ·
      replace hf := ite_t ((z_eq hr5 (by decide)).mp cc) hf
      clear cc
      refine lv_iload_n hx hb dX10_isAgain_27 rfl (lv_at hl 0 rfl) ?_
      have hr7 := ck_c hf
      replace hf := ck_r hf
      refine lv_if_ne (tgt := 54) hx hb dX10_isAgain_28 (by decide) (fun cc => ?_) (fun cc => ?_)
      ·
        replace hf := ite_f (fun h9 => cc ((z_eq0 hr7).mpr h9)) hf
        clear cc
        refine lv_iconst (v := Int32.ofInt (1 : Int)) hx hb dX10_isAgain_54 (by decide) ?_
        refine lv_goto (tgt := 59) hx hb dX10_isAgain_55 (by decide) ?_
        obtain rfl := ou1 hf
        rw [hQ]
        exact W.zret hx hb hr rfl (fun t ht hW => ⟨⟨_, (), rfl, rfl, by rw [ht]; exact hP, va_K.moved hW.alike hK, hD⟩, hS.F ht⟩) hS.2.2 dX10_isAgain_59
      ·
        replace hf := ite_t ((z_eq0 hr7).mp cc) hf
        clear cc
        refine lv_aload_n hx hb dX10_isAgain_31 rfl (lv_at hl 1 rfl) ?_
        refine va_get (D := D) (ci := 10) (v := .ref a_p0_state) (C := RX10) (T := TX10) (N := 9) hx hb hts inX10_isAgain_X10 hown hK hP 0 rfl rfl 2 (by decide) (hts _ mwX10_isAgain_5) (fun _ h9 => h9) rfl dX10_isAgain_32 ?_
        refine lv_aload_n hx hb dX10_isAgain_35 rfl (lv_at hl 1 rfl) ?_
        refine va_get (D := D) (ci := 10) (v := .ref a_p0_numbers) (C := RX10) (T := TX10) (N := 9) hx hb hts inX10_isAgain_X10 hown hK hP 0 rfl rfl 8 (by decide) (hts _ mwX10_isAgain_4) (fun _ h9 => h9) rfl dX10_isAgain_36 ?_
        refine lv_iconst (v := Int32.ofInt (0 : Int)) hx hb dX10_isAgain_39 (by decide) ?_
        have hc := ck_c hf
        replace hf := ck_r hf
        refine va_iald hx hb hK hP 4 1 rfl rfl (z_ix_in hc) dX10_isAgain_40 (z_ci (z_ald v_p0_numbers hc) ?_)
        clear hc
        refine lv_aload_n hx hb dX10_isAgain_41 rfl (lv_at hl 1 rfl) ?_
        refine va_get (D := D) (ci := 10) (v := .ref a_p0_tape) (C := RX10) (T := TX10) (N := 9) hx hb hts inX10_isAgain_X10 hown hK hP 0 rfl rfl 0 (by decide) (hts _ mwX10_isAgain_1) (fun _ h9 => h9) rfl dX10_isAgain_42 ?_
        refine va_get (D := D) (ci := 9) (v := .int (Int32.ofInt i_p0_tape_value)) (C := RX9) (T := TX9) (N := 6) hx hb hts inX10_isAgain_X9 hown hK hP 1 rfl rfl 5 (by decide) (hts _ mwX10_isAgain_3) (fun _ h9 => h9) rfl dX10_isAgain_45 ?_
        have hq := bd1_s hf
        clear hf
        obtain ⟨z9, hcall, hf⟩ := hq
        refine gcI (ws' := [(a_p0, .inr (10, [.ref a_p0_tape, .ref a_p0_rules, .ref a_p0_state, .int (Int32.ofInt i_p0_faultFound), .int (Int32.ofInt i_p0_faultPlace), .int (Int32.ofInt i_p0_lines), .int (Int32.ofInt i_p0_met), .int (Int32.ofInt i_p0_greatest), .ref a_p0_numbers])), (a_p0_tape, .inr (9, [.ref a_p0_tape_bytes, .int (Int32.ofInt i_p0_tape_length), .int (Int32.ofInt i_p0_tape_at), .int (Int32.ofInt i_p0_tape_token), .int (Int32.ofInt i_p0_tape_start), .int (Int32.ofInt i_p0_tape_value)])), (a_p0_state, .inr (8, [.ref a_p0_state_pieces, .ref a_p0_state_friends, .ref a_p0_state_spoons, .ref a_p0_state_eaten, .ref a_p0_state_seen, .int (Int32.ofInt i_p0_state_seenDays), .int (Int32.ofInt i_p0_state_bone), .int (Int32.ofInt i_p0_state_king), .int (Int32.ofInt i_p0_state_days)])), (a_p0_state_friends, .inl (G 1, 7, .inl (zA v_p0_state_friends))), (a_p0_numbers, .inl (G 1, 7, .inl (zA v_p0_numbers)))]) (va_runV (As := [.int (Int32.ofInt (v_p0_numbers (0 : Int))), .int (Int32.ofInt i_p0_tape_value)]) (rest := []) ⟨hx, hb, hml, hown, hts⟩ (c_X8_isFriend (l := l) (D := D) (G := G) (sz := H.size) (a_p0 := a_p0_state) (a_p0_pieces := a_p0_state_pieces) (a_p0_friends := a_p0_state_friends) (a_p0_spoons := a_p0_state_spoons) (a_p0_eaten := a_p0_state_eaten) (a_p0_seen := a_p0_state_seen) (i_p0_seenDays := i_p0_state_seenDays) (i_p0_bone := i_p0_state_bone) (i_p0_king := i_p0_state_king) (i_p0_days := i_p0_state_days) (v_p0_friends := v_p0_state_friends) (x1 := (v_p0_numbers (0 : Int))) (x2 := i_p0_tape_value) (r := z9) (hf := hcall)) (cwV 2 hts gX10_isAgain_X8_isFriend rfl rfl rfl (by decide +kernel) ⟨Nat.le_of_ble_eq_true rfl, Nat.le_of_ble_eq_true rfl⟩) (preG_V (ci := 8) (hP.sub [2, 3] rfl) (hD.sub [2, 3] rfl rfl) hK rfl rfl) rfl rfl hl.1 rfl (lv_room (Nat.le_of_ble_eq_true rfl)) dX10_isAgain_48 ⟨Nat.le_of_ble_eq_true rfl, Nat.le_of_ble_eq_true rfl⟩) hP hD hS hA [2, 3] [0, 1, 4] [0, 1, 3, 4, 2] rfl rfl rfl (by decide) rfl rfl rfl (fun H locs hP hD hS => ?_)
        clear hcall
        have hr9 := ck_c hf
        replace hf := ck_r hf
        refine lv_if_eq (tgt := 58) hx hb dX10_isAgain_51 (by decide) (fun cc => ?_) (fun cc => ?_)
        ·
          replace hf := ite_t ((z_eq0 hr9).mp cc) hf
          clear cc
          refine lv_iconst (v := Int32.ofInt (0 : Int)) hx hb dX10_isAgain_58 (by decide) ?_
          obtain rfl := ou1 hf
          rw [hQ]
          exact W.zret hx hb hr rfl (fun t ht hW => ⟨⟨_, (), rfl, rfl, by rw [ht]; exact hP, va_K.moved hW.alike hK, hD⟩, hS.F ht⟩) hS.2.2 dX10_isAgain_59
        ·
          replace hf := ite_f (fun h9 => cc ((z_eq0 hr9).mpr h9)) hf
          clear cc
          refine lv_iconst (v := Int32.ofInt (1 : Int)) hx hb dX10_isAgain_54 (by decide) ?_
          refine lv_goto (tgt := 59) hx hb dX10_isAgain_55 (by decide) ?_
          obtain rfl := ou1 hf
          rw [hQ]
          exact W.zret hx hb hr rfl (fun t ht hW => ⟨⟨_, (), rfl, rfl, by rw [ht]; exact hP, va_K.moved hW.alike hK, hD⟩, hS.F ht⟩) hS.2.2 dX10_isAgain_59
  refine lv_icmp_ne (tgt := 20) hx hb dX10_isAgain_13 (by decide) (fun cc => ?_) (fun cc => ?_)
  ·
    replace hf := ite_f (fun h9 => cc ((z_eq hr0 hr1).mpr h9)) hf
    clear cc
    refine lv_iconst (v := Int32.ofInt (0 : Int)) hx hb dX10_isAgain_20 (by decide) ?_
    exact hJ4 _ _ _ _ (lv_sub hl [0, 1] rfl) hP hD hS hf
  ·
    replace hf := ite_t ((z_eq hr0 hr1).mp cc) hf
    clear cc
    refine lv_iconst (v := Int32.ofInt (1 : Int)) hx hb dX10_isAgain_16 (by decide) ?_
    refine lv_goto (tgt := 21) hx hb dX10_isAgain_17 (by decide) ?_
    exact hJ4 _ _ _ _ (lv_sub hl [0, 1] rfl) hP hD hS hf

noncomputable def f_X10_faultOfNumber (i_p0_tape_token : Int) (i_p0_tape_value : Int) (v_p0_state_friends : (Int → Int)) (v_p0_numbers : (Int → Int)) (x1 : Int) (x2 : Int) : Option (Int) := (ck (z_r32 i_p0_tape_token) (if i_p0_tape_token = (4 : Int) then (some (1 : Int)) else (ck (z_ix x1 11) (ck (z_r32 x2) (ck (z_r32 (z_T 1 x1)) (jn (fun (z4 : Int) => (bnd z4 (fun (z6 : Int) => (if i_p0_tape_token = (2 : Int) then (ck (z_r32 z6) (if z6 = (0 : Int) then (some (2 : Int)) else (jn (fun (z8 : Int) => (bnd z8 (fun (z10 : Int) => (jn (fun (z11 : Int) => (bnd z11 (fun (z13 : Int) => (ck (z_r32 i_p0_tape_value) (ck (z_r32 z10) (if i_p0_tape_value < z10 then (some (3 : Int)) else (ck (z_r32 z13) (if i_p0_tape_value ≤ z13 then (jn (ck (z_ix x1 11) (if x2 < (z_T 1 x1) then (some (0 : Int)) else (some (5 : Int)))) (fun (J17 : Option (Int)) => (if x2 = (1 : Int) then (bd1 (f_X10_isAgain i_p0_tape_value v_p0_state_friends v_p0_numbers x1) (fun (z18 : Int) => (ck (z_r32 z18) (if z18 = (0 : Int) then (J17) else (some (4 : Int)))))) else (J17)))) else (some (3 : Int)))))))))) (fun (J12 : Int → Option (Int)) => (if x2 = (0 : Int) then (ck (z_ix x1 11) (J12 (z_T 3 x1))) else (ck (z_ix x1 11) (J12 (z_T 5 x1))))))))) (fun (J9 : Int → Option (Int)) => (if x2 = (0 : Int) then (ck (z_ix x1 11) (J9 (z_T 2 x1))) else (ck (z_ix x1 11) (J9 (z_T 4 x1)))))))) else (some (2 : Int)))))) (fun (J5 : Int → Option (Int)) => (jn (J5 (1 : Int)) (fun (J20 : Option (Int)) => (if x2 < (z_T 1 x1) then (J20) else (ck (z_r32 x1) (if x1 = (1 : Int) then (J20) else (J5 (0 : Int))))))))))))))
abbrev rm_X10_faultOfNumber : Room := { frames := 2, cells := 0, slots := 0, locals := 44 }
theorem inX10_faultOfNumber_X10 : ∀ w ∈ wsX100, w ∈ wsX10_faultOfNumber := by decide +kernel
theorem mwX10_faultOfNumber_1 : Cond.fieldLink RX10 45 "LadleKings$TextReader" "tape" "LLadleKings$Tape;" ∈ wsX10_faultOfNumber := by decide +kernel
theorem inX10_faultOfNumber_X9 : ∀ w ∈ wsX90, w ∈ wsX10_faultOfNumber := by decide +kernel
theorem mwX10_faultOfNumber_3 : Cond.fieldLink RX10 81 "LadleKings$Tape" "token" "I" ∈ wsX10_faultOfNumber := by decide +kernel
theorem mwX10_faultOfNumber_4 : Cond.fieldLink RX10 95 "LadleKings$TextReader" "MOST" "[I" ∈ wsX10_faultOfNumber := by decide +kernel
theorem mwX10_faultOfNumber_5 : Cond.fieldLink RX10 109 "LadleKings$Tape" "value" "I" ∈ wsX10_faultOfNumber := by decide +kernel
theorem mwX10_faultOfNumber_6 : Cond.fieldLink RX10 153 "LadleKings$TextReader" "LATER_HIGH" "[I" ∈ wsX10_faultOfNumber := by decide +kernel
theorem mwX10_faultOfNumber_7 : Cond.fieldLink RX10 150 "LadleKings$TextReader" "FIRST_HIGH" "[I" ∈ wsX10_faultOfNumber := by decide +kernel
theorem mwX10_faultOfNumber_8 : Cond.fieldLink RX10 147 "LadleKings$TextReader" "LATER_LOW" "[I" ∈ wsX10_faultOfNumber := by decide +kernel
theorem mwX10_faultOfNumber_9 : Cond.fieldLink RX10 144 "LadleKings$TextReader" "FIRST_LOW" "[I" ∈ wsX10_faultOfNumber := by decide +kernel
set_option maxHeartbeats 8000000 in
set_option maxRecDepth 100000 in
theorem c_X10_faultOfNumber (l : Launch) (D : va_G) (G : Nat → ClassId) (sz : Nat) (adT adK adV : Nat → Nat) (a_p0 : Nat) (a_p0_tape : Nat) (a_p0_rules : Nat) (a_p0_state : Nat) (a_p0_numbers : Nat) (a_p0_tape_bytes : Nat) (a_p0_state_pieces : Nat) (a_p0_state_friends : Nat) (a_p0_state_spoons : Nat) (a_p0_state_eaten : Nat) (a_p0_state_seen : Nat) (i_p0_faultFound : Int) (i_p0_faultPlace : Int) (i_p0_lines : Int) (i_p0_met : Int) (i_p0_greatest : Int) (i_p0_tape_length : Int) (i_p0_tape_at : Int) (i_p0_tape_token : Int) (i_p0_tape_start : Int) (i_p0_tape_value : Int) (i_p0_state_seenDays : Int) (i_p0_state_bone : Int) (i_p0_state_king : Int) (i_p0_state_days : Int) (v_p0_state_friends : (Int → Int)) (v_p0_numbers : (Int → Int)) (x1 : Int) (x2 : Int) (r : Int) (hf : f_X10_faultOfNumber i_p0_tape_token i_p0_tape_value v_p0_state_friends v_p0_numbers x1 x2 = some r) : Met l yX10_faultOfNumber wsX10_faultOfNumber rm_X10_faultOfNumber (pcGE D G adT adK adV [.ref a_p0, .int (Int32.ofInt x1), .int (Int32.ofInt x2)] sz [(a_p0, .inr (10, [.ref a_p0_tape, .ref a_p0_rules, .ref a_p0_state, .int (Int32.ofInt i_p0_faultFound), .int (Int32.ofInt i_p0_faultPlace), .int (Int32.ofInt i_p0_lines), .int (Int32.ofInt i_p0_met), .int (Int32.ofInt i_p0_greatest), .ref a_p0_numbers])), (a_p0_tape, .inr (9, [.ref a_p0_tape_bytes, .int (Int32.ofInt i_p0_tape_length), .int (Int32.ofInt i_p0_tape_at), .int (Int32.ofInt i_p0_tape_token), .int (Int32.ofInt i_p0_tape_start), .int (Int32.ofInt i_p0_tape_value)])), (a_p0_state, .inr (8, [.ref a_p0_state_pieces, .ref a_p0_state_friends, .ref a_p0_state_spoons, .ref a_p0_state_eaten, .ref a_p0_state_seen, .int (Int32.ofInt i_p0_state_seenDays), .int (Int32.ofInt i_p0_state_bone), .int (Int32.ofInt i_p0_state_king), .int (Int32.ofInt i_p0_state_days)])), (a_p0_state_friends, .inl (G 1, 7, .inl (zA v_p0_state_friends))), (a_p0_numbers, .inl (G 1, 7, .inl (zA v_p0_numbers)))]) (qcI D G (Int32.ofInt r) [(a_p0, .inr (10, [.ref a_p0_tape, .ref a_p0_rules, .ref a_p0_state, .int (Int32.ofInt i_p0_faultFound), .int (Int32.ofInt i_p0_faultPlace), .int (Int32.ofInt i_p0_lines), .int (Int32.ofInt i_p0_met), .int (Int32.ofInt i_p0_greatest), .ref a_p0_numbers])), (a_p0_tape, .inr (9, [.ref a_p0_tape_bytes, .int (Int32.ofInt i_p0_tape_length), .int (Int32.ofInt i_p0_tape_at), .int (Int32.ofInt i_p0_tape_token), .int (Int32.ofInt i_p0_tape_start), .int (Int32.ofInt i_p0_tape_value)])), (a_p0_state, .inr (8, [.ref a_p0_state_pieces, .ref a_p0_state_friends, .ref a_p0_state_spoons, .ref a_p0_state_eaten, .ref a_p0_state_seen, .int (Int32.ofInt i_p0_state_seenDays), .int (Int32.ofInt i_p0_state_bone), .int (Int32.ofInt i_p0_state_king), .int (Int32.ofInt i_p0_state_days)])), (a_p0_state_friends, .inl (G 1, 7, .inl (zA v_p0_state_friends))), (a_p0_numbers, .inl (G 1, 7, .inl (zA v_p0_numbers)))] (va_A [(a_p0, .inr (10, [.ref a_p0_tape, .ref a_p0_rules, .ref a_p0_state, .int (Int32.ofInt i_p0_faultFound), .int (Int32.ofInt i_p0_faultPlace), .int (Int32.ofInt i_p0_lines), .int (Int32.ofInt i_p0_met), .int (Int32.ofInt i_p0_greatest), .ref a_p0_numbers])), (a_p0_tape, .inr (9, [.ref a_p0_tape_bytes, .int (Int32.ofInt i_p0_tape_length), .int (Int32.ofInt i_p0_tape_at), .int (Int32.ofInt i_p0_tape_token), .int (Int32.ofInt i_p0_tape_start), .int (Int32.ofInt i_p0_tape_value)])), (a_p0_state, .inr (8, [.ref a_p0_state_pieces, .ref a_p0_state_friends, .ref a_p0_state_spoons, .ref a_p0_state_eaten, .ref a_p0_state_seen, .int (Int32.ofInt i_p0_state_seenDays), .int (Int32.ofInt i_p0_state_bone), .int (Int32.ofInt i_p0_state_king), .int (Int32.ofInt i_p0_state_days)])), (a_p0_state_friends, .inl (G 1, 7, .inl (zA v_p0_state_friends))), (a_p0_numbers, .inl (G 1, 7, .inl (zA v_p0_numbers)))] sz)) 0 0 (va_A [(a_p0, .inr (10, [.ref a_p0_tape, .ref a_p0_rules, .ref a_p0_state, .int (Int32.ofInt i_p0_faultFound), .int (Int32.ofInt i_p0_faultPlace), .int (Int32.ofInt i_p0_lines), .int (Int32.ofInt i_p0_met), .int (Int32.ofInt i_p0_greatest), .ref a_p0_numbers])), (a_p0_tape, .inr (9, [.ref a_p0_tape_bytes, .int (Int32.ofInt i_p0_tape_length), .int (Int32.ofInt i_p0_tape_at), .int (Int32.ofInt i_p0_tape_token), .int (Int32.ofInt i_p0_tape_start), .int (Int32.ofInt i_p0_tape_value)])), (a_p0_state, .inr (8, [.ref a_p0_state_pieces, .ref a_p0_state_friends, .ref a_p0_state_spoons, .ref a_p0_state_eaten, .ref a_p0_state_seen, .int (Int32.ofInt i_p0_state_seenDays), .int (Int32.ofInt i_p0_state_bone), .int (Int32.ofInt i_p0_state_king), .int (Int32.ofInt i_p0_state_days)])), (a_p0_state_friends, .inl (G 1, 7, .inl (zA v_p0_state_friends))), (a_p0_numbers, .inl (G 1, 7, .inl (zA v_p0_numbers)))] sz) := by
  refine Met.ofW (cc := cX10_faultOfNumber) (maxL := 6) (ret := (some .int)) (by decide) rfl ?_
  intro p e s m args below meth c s₁ B hml hv
  obtain ⟨rfl, hsz, hP, hK, hD0, hE⟩ := hv
  have hx := B.exec
  have hb := B.bytes
  have hr := B.returns
  have hts := atoms_spec (ws := wsX10_faultOfNumber) B.pre
  have hown : s.vm.findClass RX10 = some m.cls := findClass_of_methodNamed B.named
  have hlocks := B.notSynchronized
  subst hsz
  have hD := hD0.self (sz := s.heap.size)
  generalize hAe : va_A [(a_p0, .inr (10, [.ref a_p0_tape, .ref a_p0_rules, .ref a_p0_state, .int (Int32.ofInt i_p0_faultFound), .int (Int32.ofInt i_p0_faultPlace), .int (Int32.ofInt i_p0_lines), .int (Int32.ofInt i_p0_met), .int (Int32.ofInt i_p0_greatest), .ref a_p0_numbers])), (a_p0_tape, .inr (9, [.ref a_p0_tape_bytes, .int (Int32.ofInt i_p0_tape_length), .int (Int32.ofInt i_p0_tape_at), .int (Int32.ofInt i_p0_tape_token), .int (Int32.ofInt i_p0_tape_start), .int (Int32.ofInt i_p0_tape_value)])), (a_p0_state, .inr (8, [.ref a_p0_state_pieces, .ref a_p0_state_friends, .ref a_p0_state_spoons, .ref a_p0_state_eaten, .ref a_p0_state_seen, .int (Int32.ofInt i_p0_state_seenDays), .int (Int32.ofInt i_p0_state_bone), .int (Int32.ofInt i_p0_state_king), .int (Int32.ofInt i_p0_state_days)])), (a_p0_state_friends, .inl (G 1, 7, .inl (zA v_p0_state_friends))), (a_p0_numbers, .inl (G 1, 7, .inl (zA v_p0_numbers)))] s.heap.size = A at hD hE ⊢
  have hA : ∀ q : Nat, s.heap.size ≤ q → A q := fun q h => by rw [← hAe]; exact Or.inr h
  clear hAe hD0
  have hS : va_S A s.heap s.heap [] := va_S.rf
  have hl := lv_entry ([.ref a_p0, .int (Int32.ofInt x1), .int (Int32.ofInt x2)]) (n := 6) (Nat.le_of_ble_eq_true rfl)
  rw [lg_entry_eq]
  generalize (lg_sl ([.ref a_p0, .int (Int32.ofInt x1), .int (Int32.ofInt x2)]) ++ List.replicate (6 - (lg_sl ([.ref a_p0, .int (Int32.ofInt x1), .int (Int32.ofInt x2)])).length) Slot.unset).toArray = ls at hl ⊢
  have hl : lv_has ls 6 [(0, .ref a_p0), (1, .int (Int32.ofInt x1)), (2, .int (Int32.ofInt x2))] := hl
  refine W_nameQ (fun Q hQ => ?_)
  obtain ⟨H, hH⟩ : ∃ H, H = s.heap := ⟨_, rfl⟩
  replace hS : va_S A s.heap H [] := by rw [hH]; exact hS
  replace hP : va_P D vwCl [(a_p0, .inr (10, [.ref a_p0_tape, .ref a_p0_rules, .ref a_p0_state, .int (Int32.ofInt i_p0_faultFound), .int (Int32.ofInt i_p0_faultPlace), .int (Int32.ofInt i_p0_lines), .int (Int32.ofInt i_p0_met), .int (Int32.ofInt i_p0_greatest), .ref a_p0_numbers])), (a_p0_tape, .inr (9, [.ref a_p0_tape_bytes, .int (Int32.ofInt i_p0_tape_length), .int (Int32.ofInt i_p0_tape_at), .int (Int32.ofInt i_p0_tape_token), .int (Int32.ofInt i_p0_tape_start), .int (Int32.ofInt i_p0_tape_value)])), (a_p0_state, .inr (8, [.ref a_p0_state_pieces, .ref a_p0_state_friends, .ref a_p0_state_spoons, .ref a_p0_state_eaten, .ref a_p0_state_seen, .int (Int32.ofInt i_p0_state_seenDays), .int (Int32.ofInt i_p0_state_bone), .int (Int32.ofInt i_p0_state_king), .int (Int32.ofInt i_p0_state_days)])), (a_p0_state_friends, .inl (G 1, 7, .inl (zA v_p0_state_friends))), (a_p0_numbers, .inl (G 1, 7, .inl (zA v_p0_numbers)))] H := by rw [hH]; exact hP
  rw [← hH]
  clear hH
  unfold f_X10_faultOfNumber at hf
  refine lv_aload_n hx hb dX10_faultOfNumber_0 rfl (lv_at hl 0 rfl) ?_
  refine va_get (D := D) (ci := 10) (v := .ref a_p0_tape) (C := RX10) (T := TX10) (N := 9) hx hb hts inX10_faultOfNumber_X10 hown hK hP 0 rfl rfl 0 (by decide) (hts _ mwX10_faultOfNumber_1) (fun _ h9 => h9) rfl dX10_faultOfNumber_1 ?_
  refine va_get (D := D) (ci := 9) (v := .int (Int32.ofInt i_p0_tape_token)) (C := RX9) (T := TX9) (N := 6) hx hb hts inX10_faultOfNumber_X9 hown hK hP 1 rfl rfl 3 (by decide) (hts _ mwX10_faultOfNumber_3) (fun _ h9 => h9) rfl dX10_faultOfNumber_4 ?_
  refine lv_iconst (v := Int32.ofInt (4 : Int)) hx hb dX10_faultOfNumber_7 (by decide) ?_
  have hr0 := ck_c hf
  replace hf := ck_r hf
  refine lv_icmp_ne (tgt := 13) hx hb dX10_faultOfNumber_8 (by decide) (fun cc => ?_) (fun cc => ?_)
  ·
    replace hf := ite_f (fun h9 => cc ((z_eq hr0 (by decide)).mpr h9)) hf
    clear cc
    refine lv_iload_n hx hb dX10_faultOfNumber_13 rfl (lv_at hl 2 rfl) ?_
    refine va_gets (C := "LadleKings$TextReader") (n := "MOST") (d := "[I") (v := .ref (adT 1)) hx hb (hE.1 1 (by decide)).1 hS hown (hts _ mwX10_faultOfNumber_4) (fun _ h9 => h9) dX10_faultOfNumber_14 ?_
    refine lv_iload_n hx hb dX10_faultOfNumber_17 rfl (lv_at hl 1 rfl) ?_
    have hc := ck_c hf
    replace hf := ck_r hf
    refine va_ti (v := .int (Int32.ofInt (z_T 1 x1))) hx hb (hE.1 1 (by decide)).2 hS (z_ix_in hc) (z_T_e 1 hc) dX10_faultOfNumber_18 ?_
    clear hc
    have hr1 := ck_c hf
    replace hf := ck_r hf
    have hr2 := ck_c hf
    replace hf := ck_r hf
    have hq := jn_i hf
    clear hf
    obtain ⟨J5, eJ5, hf⟩ := hq
    have hJ5 : ∀ (z4 : Int) (ls : Array Slot) (H : Heap) (locs : List Loc), lv_has ls 6 [(0, .ref a_p0), (1, .int (Int32.ofInt x1)), (2, .int (Int32.ofInt x2))] → va_P D vwCl [(a_p0, .inr (10, [.ref a_p0_tape, .ref a_p0_rules, .ref a_p0_state, .int (Int32.ofInt i_p0_faultFound), .int (Int32.ofInt i_p0_faultPlace), .int (Int32.ofInt i_p0_lines), .int (Int32.ofInt i_p0_met), .int (Int32.ofInt i_p0_greatest), .ref a_p0_numbers])), (a_p0_tape, .inr (9, [.ref a_p0_tape_bytes, .int (Int32.ofInt i_p0_tape_length), .int (Int32.ofInt i_p0_tape_at), .int (Int32.ofInt i_p0_tape_token), .int (Int32.ofInt i_p0_tape_start), .int (Int32.ofInt i_p0_tape_value)])), (a_p0_state, .inr (8, [.ref a_p0_state_pieces, .ref a_p0_state_friends, .ref a_p0_state_spoons, .ref a_p0_state_eaten, .ref a_p0_state_seen, .int (Int32.ofInt i_p0_state_seenDays), .int (Int32.ofInt i_p0_state_bone), .int (Int32.ofInt i_p0_state_king), .int (Int32.ofInt i_p0_state_days)])), (a_p0_state_friends, .inl (G 1, 7, .inl (zA v_p0_state_friends))), (a_p0_numbers, .inl (G 1, 7, .inl (zA v_p0_numbers)))] H → va_D A [(a_p0, .inr (10, [.ref a_p0_tape, .ref a_p0_rules, .ref a_p0_state, .int (Int32.ofInt i_p0_faultFound), .int (Int32.ofInt i_p0_faultPlace), .int (Int32.ofInt i_p0_lines), .int (Int32.ofInt i_p0_met), .int (Int32.ofInt i_p0_greatest), .ref a_p0_numbers])), (a_p0_tape, .inr (9, [.ref a_p0_tape_bytes, .int (Int32.ofInt i_p0_tape_length), .int (Int32.ofInt i_p0_tape_at), .int (Int32.ofInt i_p0_tape_token), .int (Int32.ofInt i_p0_tape_start), .int (Int32.ofInt i_p0_tape_value)])), (a_p0_state, .inr (8, [.ref a_p0_state_pieces, .ref a_p0_state_friends, .ref a_p0_state_spoons, .ref a_p0_state_eaten, .ref a_p0_state_seen, .int (Int32.ofInt i_p0_state_seenDays), .int (Int32.ofInt i_p0_state_bone), .int (Int32.ofInt i_p0_state_king), .int (Int32.ofInt i_p0_state_days)])), (a_p0_state_friends, .inl (G 1, 7, .inl (zA v_p0_state_friends))), (a_p0_numbers, .inl (G 1, 7, .inl (zA v_p0_numbers)))] → va_S A s.heap H locs → J5 z4 = some r → W p l e rm_X10_faultOfNumber s m ([.ref a_p0, .int (Int32.ofInt x1), .int (Int32.ofInt x2)] : List Value).toArray below meth c H locs 0 0 Q (F0 m 32 ls [.int (Int32.ofInt z4)]) := by
      clear hf hl hP hD hS
      intro z4 ls H locs hl hP hD hS hf
      replace hf := jn1_s eJ5 hf
      refine z_topi (fun z6 ez => ?_)
      replace hf := bnd_s hf ez
      clear ez
      refine lv_istore_n (lv' := [(3, .int (Int32.ofInt z6)), (0, .ref a_p0), (1, .int (Int32.ofInt x1)), (2, .int (Int32.ofInt x2))]) hx hb dX10_faultOfNumber_32 rfl hl (by decide) rfl (fun ls hl => ?_)
      refine lv_aload_n hx hb dX10_faultOfNumber_33 rfl (lv_at hl 1 rfl) ?_
      refine va_get (D := D) (ci := 10) (v := .ref a_p0_tape) (C := RX10) (T := TX10) (N := 9) hx hb hts inX10_faultOfNumber_X10 hown hK hP 0 rfl rfl 0 (by decide) (hts _ mwX10_faultOfNumber_1) (fun _ h9 => h9) rfl dX10_faultOfNumber_34 ?_
      refine va_get (D := D) (ci := 9) (v := .int (Int32.ofInt i_p0_tape_token)) (C := RX9) (T := TX9) (N := 6) hx hb hts inX10_faultOfNumber_X9 hown hK hP 1 rfl rfl 3 (by decide) (hts _ mwX10_faultOfNumber_3) (fun _ h9 => h9) rfl dX10_faultOfNumber_37 ?_
      refine lv_iconst (v := Int32.ofInt (2 : Int)) hx hb dX10_faultOfNumber_40 (by decide) ?_
      refine lv_icmp_ne (tgt := 48) hx hb dX10_faultOfNumber_41 (by decide) (fun cc => ?_) (fun cc => ?_)
      ·
        replace hf := ite_f (fun h9 => cc ((z_eq hr0 (by decide)).mpr h9)) hf
        clear cc
        refine lv_iconst (v := Int32.ofInt (2 : Int)) hx hb dX10_faultOfNumber_48 (by decide) ?_
        obtain rfl := ou1 hf
        rw [hQ]
        exact W.iret hx hb hr (fun t ht hW => ⟨⟨_, (), rfl, rfl, by rw [ht]; exact hP, va_K.moved hW.alike hK, hD⟩, hS.F ht⟩) hS.2.2 dX10_faultOfNumber_49
      ·
        replace hf := ite_t ((z_eq hr0 (by decide)).mp cc) hf
        clear cc
        refine lv_iload_n hx hb dX10_faultOfNumber_44 rfl (lv_at hl 0 rfl) ?_
        have hr6 := ck_c hf
        replace hf := ck_r hf
        refine lv_if_ne (tgt := 50) hx hb dX10_faultOfNumber_45 (by decide) (fun cc => ?_) (fun cc => ?_)
        ·
          replace hf := ite_f (fun h9 => cc ((z_eq0 hr6).mpr h9)) hf
          clear cc
          refine lv_iload_n hx hb dX10_faultOfNumber_50 rfl (lv_at hl 3 rfl) ?_
          have hq := jn_i hf
          clear hf
          obtain ⟨J9, eJ9, hf⟩ := hq
          have hJ9 : ∀ (z8 : Int) (ls : Array Slot) (H : Heap) (locs : List Loc), lv_has ls 6 [(0, .ref a_p0), (1, .int (Int32.ofInt x1)), (2, .int (Int32.ofInt x2))] → va_P D vwCl [(a_p0, .inr (10, [.ref a_p0_tape, .ref a_p0_rules, .ref a_p0_state, .int (Int32.ofInt i_p0_faultFound), .int (Int32.ofInt i_p0_faultPlace), .int (Int32.ofInt i_p0_lines), .int (Int32.ofInt i_p0_met), .int (Int32.ofInt i_p0_greatest), .ref a_p0_numbers])), (a_p0_tape, .inr (9, [.ref a_p0_tape_bytes, .int (Int32.ofInt i_p0_tape_length), .int (Int32.ofInt i_p0_tape_at), .int (Int32.ofInt i_p0_tape_token), .int (Int32.ofInt i_p0_tape_start), .int (Int32.ofInt i_p0_tape_value)])), (a_p0_state, .inr (8, [.ref a_p0_state_pieces, .ref a_p0_state_friends, .ref a_p0_state_spoons, .ref a_p0_state_eaten, .ref a_p0_state_seen, .int (Int32.ofInt i_p0_state_seenDays), .int (Int32.ofInt i_p0_state_bone), .int (Int32.ofInt i_p0_state_king), .int (Int32.ofInt i_p0_state_days)])), (a_p0_state_friends, .inl (G 1, 7, .inl (zA v_p0_state_friends))), (a_p0_numbers, .inl (G 1, 7, .inl (zA v_p0_numbers)))] H → va_D A [(a_p0, .inr (10, [.ref a_p0_tape, .ref a_p0_rules, .ref a_p0_state, .int (Int32.ofInt i_p0_faultFound), .int (Int32.ofInt i_p0_faultPlace), .int (Int32.ofInt i_p0_lines), .int (Int32.ofInt i_p0_met), .int (Int32.ofInt i_p0_greatest), .ref a_p0_numbers])), (a_p0_tape, .inr (9, [.ref a_p0_tape_bytes, .int (Int32.ofInt i_p0_tape_length), .int (Int32.ofInt i_p0_tape_at), .int (Int32.ofInt i_p0_tape_token), .int (Int32.ofInt i_p0_tape_start), .int (Int32.ofInt i_p0_tape_value)])), (a_p0_state, .inr (8, [.ref a_p0_state_pieces, .ref a_p0_state_friends, .ref a_p0_state_spoons, .ref a_p0_state_eaten, .ref a_p0_state_seen, .int (Int32.ofInt i_p0_state_seenDays), .int (Int32.ofInt i_p0_state_bone), .int (Int32.ofInt i_p0_state_king), .int (Int32.ofInt i_p0_state_days)])), (a_p0_state_friends, .inl (G 1, 7, .inl (zA v_p0_state_friends))), (a_p0_numbers, .inl (G 1, 7, .inl (zA v_p0_numbers)))] → va_S A s.heap H locs → J9 z8 = some r → W p l e rm_X10_faultOfNumber s m ([.ref a_p0, .int (Int32.ofInt x1), .int (Int32.ofInt x2)] : List Value).toArray below meth c H locs 0 0 Q (F0 m 67 ls [.int (Int32.ofInt z8)]) := by
            clear hf hl hP hD hS
            intro z8 ls H locs hl hP hD hS hf
            replace hf := jn1_s eJ9 hf
            refine z_topi (fun z10 ez => ?_)
            replace hf := bnd_s hf ez
            clear ez
            refine lv_istore (lv' := [(4, .int (Int32.ofInt z10)), (0, .ref a_p0), (1, .int (Int32.ofInt x1)), (2, .int (Int32.ofInt x2))]) hx hb dX10_faultOfNumber_67 hl (by decide) rfl (fun ls hl => ?_)
            refine lv_iload_n hx hb dX10_faultOfNumber_69 rfl (lv_at hl 3 rfl) ?_
            have hq := jn_i hf
            clear hf
            obtain ⟨J12, eJ12, hf⟩ := hq
            have hJ12 : ∀ (z11 : Int) (ls : Array Slot) (H : Heap) (locs : List Loc), lv_has ls 6 [(4, .int (Int32.ofInt z10)), (0, .ref a_p0), (1, .int (Int32.ofInt x1)), (2, .int (Int32.ofInt x2))] → va_P D vwCl [(a_p0, .inr (10, [.ref a_p0_tape, .ref a_p0_rules, .ref a_p0_state, .int (Int32.ofInt i_p0_faultFound), .int (Int32.ofInt i_p0_faultPlace), .int (Int32.ofInt i_p0_lines), .int (Int32.ofInt i_p0_met), .int (Int32.ofInt i_p0_greatest), .ref a_p0_numbers])), (a_p0_tape, .inr (9, [.ref a_p0_tape_bytes, .int (Int32.ofInt i_p0_tape_length), .int (Int32.ofInt i_p0_tape_at), .int (Int32.ofInt i_p0_tape_token), .int (Int32.ofInt i_p0_tape_start), .int (Int32.ofInt i_p0_tape_value)])), (a_p0_state, .inr (8, [.ref a_p0_state_pieces, .ref a_p0_state_friends, .ref a_p0_state_spoons, .ref a_p0_state_eaten, .ref a_p0_state_seen, .int (Int32.ofInt i_p0_state_seenDays), .int (Int32.ofInt i_p0_state_bone), .int (Int32.ofInt i_p0_state_king), .int (Int32.ofInt i_p0_state_days)])), (a_p0_state_friends, .inl (G 1, 7, .inl (zA v_p0_state_friends))), (a_p0_numbers, .inl (G 1, 7, .inl (zA v_p0_numbers)))] H → va_D A [(a_p0, .inr (10, [.ref a_p0_tape, .ref a_p0_rules, .ref a_p0_state, .int (Int32.ofInt i_p0_faultFound), .int (Int32.ofInt i_p0_faultPlace), .int (Int32.ofInt i_p0_lines), .int (Int32.ofInt i_p0_met), .int (Int32.ofInt i_p0_greatest), .ref a_p0_numbers])), (a_p0_tape, .inr (9, [.ref a_p0_tape_bytes, .int (Int32.ofInt i_p0_tape_length), .int (Int32.ofInt i_p0_tape_at), .int (Int32.ofInt i_p0_tape_token), .int (Int32.ofInt i_p0_tape_start), .int (Int32.ofInt i_p0_tape_value)])), (a_p0_state, .inr (8, [.ref a_p0_state_pieces, .ref a_p0_state_friends, .ref a_p0_state_spoons, .ref a_p0_state_eaten, .ref a_p0_state_seen, .int (Int32.ofInt i_p0_state_seenDays), .int (Int32.ofInt i_p0_state_bone), .int (Int32.ofInt i_p0_state_king), .int (Int32.ofInt i_p0_state_days)])), (a_p0_state_friends, .inl (G 1, 7, .inl (zA v_p0_state_friends))), (a_p0_numbers, .inl (G 1, 7, .inl (zA v_p0_numbers)))] → va_S A s.heap H locs → J12 z11 = some r → W p l e rm_X10_faultOfNumber s m ([.ref a_p0, .int (Int32.ofInt x1), .int (Int32.ofInt x2)] : List Value).toArray below meth c H locs 0 0 Q (F0 m 86 ls [.int (Int32.ofInt z11)]) := by
              clear hf hl hP hD hS
              intro z11 ls H locs hl hP hD hS hf
              replace hf := jn1_s eJ12 hf
              refine z_topi (fun z13 ez => ?_)
              replace hf := bnd_s hf ez
              clear ez
              refine lv_istore (lv' := [(5, .int (Int32.ofInt z13)), (4, .int (Int32.ofInt z10)), (0, .ref a_p0), (1, .int (Int32.ofInt x1)), (2, .int (Int32.ofInt x2))]) hx hb dX10_faultOfNumber_86 hl (by decide) rfl (fun ls hl => ?_)
              refine lv_aload_n hx hb dX10_faultOfNumber_88 rfl (lv_at hl 2 rfl) ?_
              refine va_get (D := D) (ci := 10) (v := .ref a_p0_tape) (C := RX10) (T := TX10) (N := 9) hx hb hts inX10_faultOfNumber_X10 hown hK hP 0 rfl rfl 0 (by decide) (hts _ mwX10_faultOfNumber_1) (fun _ h9 => h9) rfl dX10_faultOfNumber_89 ?_
              refine va_get (D := D) (ci := 9) (v := .int (Int32.ofInt i_p0_tape_value)) (C := RX9) (T := TX9) (N := 6) hx hb hts inX10_faultOfNumber_X9 hown hK hP 1 rfl rfl 5 (by decide) (hts _ mwX10_faultOfNumber_5) (fun _ h9 => h9) rfl dX10_faultOfNumber_92 ?_
              refine lv_iload hx hb dX10_faultOfNumber_95 (lv_at hl 1 rfl) ?_
              have hr13 := ck_c hf
              replace hf := ck_r hf
              have hr14 := ck_c hf
              replace hf := ck_r hf
              refine lv_icmp_lt (tgt := 112) hx hb dX10_faultOfNumber_97 (by decide) (fun cc => ?_) (fun cc => ?_)
              ·
                replace hf := ite_t ((z_lt hr13 hr14).mp cc) hf
                clear cc
                refine lv_iconst (v := Int32.ofInt (3 : Int)) hx hb dX10_faultOfNumber_112 (by decide) ?_
                obtain rfl := ou1 hf
                rw [hQ]
                exact W.iret hx hb hr (fun t ht hW => ⟨⟨_, (), rfl, rfl, by rw [ht]; exact hP, va_K.moved hW.alike hK, hD⟩, hS.F ht⟩) hS.2.2 dX10_faultOfNumber_113
              ·
                replace hf := ite_f (fun h9 => cc ((z_lt hr13 hr14).mpr h9)) hf
                clear cc
                refine lv_aload_n hx hb dX10_faultOfNumber_100 rfl (lv_at hl 2 rfl) ?_
                refine va_get (D := D) (ci := 10) (v := .ref a_p0_tape) (C := RX10) (T := TX10) (N := 9) hx hb hts inX10_faultOfNumber_X10 hown hK hP 0 rfl rfl 0 (by decide) (hts _ mwX10_faultOfNumber_1) (fun _ h9 => h9) rfl dX10_faultOfNumber_101 ?_
                refine va_get (D := D) (ci := 9) (v := .int (Int32.ofInt i_p0_tape_value)) (C := RX9) (T := TX9) (N := 6) hx hb hts inX10_faultOfNumber_X9 hown hK hP 1 rfl rfl 5 (by decide) (hts _ mwX10_faultOfNumber_5) (fun _ h9 => h9) rfl dX10_faultOfNumber_104 ?_
                refine lv_iload hx hb dX10_faultOfNumber_107 (lv_at hl 0 rfl) ?_
                have hr15 := ck_c hf
                replace hf := ck_r hf
                refine lv_icmp_le (tgt := 114) hx hb dX10_faultOfNumber_109 (by decide) (fun cc => ?_) (fun cc => ?_)
                ·
                  replace hf := ite_t ((z_le hr13 hr15).mp cc) hf
                  clear cc
                  refine lv_iload_n hx hb dX10_faultOfNumber_114 rfl (lv_at hl 4 rfl) ?_
                  refine lv_iconst (v := Int32.ofInt (1 : Int)) hx hb dX10_faultOfNumber_115 (by decide) ?_
                  have hq := jn_i hf
                  clear hf
                  obtain ⟨J17, eJ17, hf⟩ := hq
                  have hJ17 : ∀  (ls : Array Slot) (H : Heap) (locs : List Loc), lv_has ls 6 [(1, .int (Int32.ofInt x1)), (2, .int (Int32.ofInt x2))] → va_P D vwCl [(a_p0, .inr (10, [.ref a_p0_tape, .ref a_p0_rules, .ref a_p0_state, .int (Int32.ofInt i_p0_faultFound), .int (Int32.ofInt i_p0_faultPlace), .int (Int32.ofInt i_p0_lines), .int (Int32.ofInt i_p0_met), .int (Int32.ofInt i_p0_greatest), .ref a_p0_numbers])), (a_p0_tape, .inr (9, [.ref a_p0_tape_bytes, .int (Int32.ofInt i_p0_tape_length), .int (Int32.ofInt i_p0_tape_at), .int (Int32.ofInt i_p0_tape_token), .int (Int32.ofInt i_p0_tape_start), .int (Int32.ofInt i_p0_tape_value)])), (a_p0_state, .inr (8, [.ref a_p0_state_pieces, .ref a_p0_state_friends, .ref a_p0_state_spoons, .ref a_p0_state_eaten, .ref a_p0_state_seen, .int (Int32.ofInt i_p0_state_seenDays), .int (Int32.ofInt i_p0_state_bone), .int (Int32.ofInt i_p0_state_king), .int (Int32.ofInt i_p0_state_days)])), (a_p0_state_friends, .inl (G 1, 7, .inl (zA v_p0_state_friends))), (a_p0_numbers, .inl (G 1, 7, .inl (zA v_p0_numbers)))] H → va_D A [(a_p0, .inr (10, [.ref a_p0_tape, .ref a_p0_rules, .ref a_p0_state, .int (Int32.ofInt i_p0_faultFound), .int (Int32.ofInt i_p0_faultPlace), .int (Int32.ofInt i_p0_lines), .int (Int32.ofInt i_p0_met), .int (Int32.ofInt i_p0_greatest), .ref a_p0_numbers])), (a_p0_tape, .inr (9, [.ref a_p0_tape_bytes, .int (Int32.ofInt i_p0_tape_length), .int (Int32.ofInt i_p0_tape_at), .int (Int32.ofInt i_p0_tape_token), .int (Int32.ofInt i_p0_tape_start), .int (Int32.ofInt i_p0_tape_value)])), (a_p0_state, .inr (8, [.ref a_p0_state_pieces, .ref a_p0_state_friends, .ref a_p0_state_spoons, .ref a_p0_state_eaten, .ref a_p0_state_seen, .int (Int32.ofInt i_p0_state_seenDays), .int (Int32.ofInt i_p0_state_bone), .int (Int32.ofInt i_p0_state_king), .int (Int32.ofInt i_p0_state_days)])), (a_p0_state_friends, .inl (G 1, 7, .inl (zA v_p0_state_friends))), (a_p0_numbers, .inl (G 1, 7, .inl (zA v_p0_numbers)))] → va_S A s.heap H locs → J17  = some r → W p l e rm_X10_faultOfNumber s m ([.ref a_p0, .int (Int32.ofInt x1), .int (Int32.ofInt x2)] : List Value).toArray below meth c H locs 0 0 Q (F0 m 129 ls []) := by
                    clear hf hl hP hD hS
                    intro  ls H locs hl hP hD hS hf
                    replace hf := jn0_s eJ17 hf
                    refine lv_iload_n hx hb dX10_faultOfNumber_129 rfl (lv_at hl 1 rfl) ?_
                    refine va_gets (C := "LadleKings$TextReader") (n := "MOST") (d := "[I") (v := .ref (adT 1)) hx hb (hE.1 1 (by decide)).1 hS hown (hts _ mwX10_faultOfNumber_4) (fun _ h9 => h9) dX10_faultOfNumber_130 ?_
                    refine lv_iload_n hx hb dX10_faultOfNumber_133 rfl (lv_at hl 0 rfl) ?_
                    have hc := ck_c hf
                    replace hf := ck_r hf
                    refine va_ti (v := .int (Int32.ofInt (z_T 1 x1))) hx hb (hE.1 1 (by decide)).2 hS (z_ix_in hc) (z_T_e 1 hc) dX10_faultOfNumber_134 ?_
                    clear hc
                    refine lv_icmp_lt (tgt := 142) hx hb dX10_faultOfNumber_135 (by decide) (fun cc => ?_) (fun cc => ?_)
                    ·
                      replace hf := ite_t ((z_lt hr1 hr2).mp cc) hf
                      clear cc
                      refine lv_iconst (v := Int32.ofInt (0 : Int)) hx hb dX10_faultOfNumber_142 (by decide) ?_
                      obtain rfl := ou1 hf
                      rw [hQ]
                      exact W.iret hx hb hr (fun t ht hW => ⟨⟨_, (), rfl, rfl, by rw [ht]; exact hP, va_K.moved hW.alike hK, hD⟩, hS.F ht⟩) hS.2.2 dX10_faultOfNumber_143
                    ·
                      replace hf := ite_f (fun h9 => cc ((z_lt hr1 hr2).mpr h9)) hf
                      clear cc
                      refine lv_iconst (v := Int32.ofInt (5 : Int)) hx hb dX10_faultOfNumber_138 (by decide) ?_
                      refine lv_goto (tgt := 143) hx hb dX10_faultOfNumber_139 (by decide) ?_
                      obtain rfl := ou1 hf
                      rw [hQ]
                      exact W.iret hx hb hr (fun t ht hW => ⟨⟨_, (), rfl, rfl, by rw [ht]; exact hP, va_K.moved hW.alike hK, hD⟩, hS.F ht⟩) hS.2.2 dX10_faultOfNumber_143
                  refine lv_icmp_ne (tgt := 129) hx hb dX10_faultOfNumber_116 (by decide) (fun cc => ?_) (fun cc => ?_)
                  ·
                    replace hf := ite_f (fun h9 => cc ((z_eq hr1 (by decide)).mpr h9)) hf
                    clear cc
                    exact hJ17  _ _ _ (lv_sub hl [3, 4] rfl) hP hD hS hf
                  ·
                    replace hf := ite_t ((z_eq hr1 (by decide)).mp cc) hf
                    clear cc
                    refine lv_aload_n hx hb dX10_faultOfNumber_119 rfl (lv_at hl 2 rfl) ?_
                    refine lv_iload_n hx hb dX10_faultOfNumber_120 rfl (lv_at hl 3 rfl) ?_
                    have hq := bd1_s hf
                    clear hf
                    obtain ⟨z18, hcall, hf⟩ := hq
                    refine gcI (ws' := [(a_p0, .inr (10, [.ref a_p0_tape, .ref a_p0_rules, .ref a_p0_state, .int (Int32.ofInt i_p0_faultFound), .int (Int32.ofInt i_p0_faultPlace), .int (Int32.ofInt i_p0_lines), .int (Int32.ofInt i_p0_met), .int (Int32.ofInt i_p0_greatest), .ref a_p0_numbers])), (a_p0_tape, .inr (9, [.ref a_p0_tape_bytes, .int (Int32.ofInt i_p0_tape_length), .int (Int32.ofInt i_p0_tape_at), .int (Int32.ofInt i_p0_tape_token), .int (Int32.ofInt i_p0_tape_start), .int (Int32.ofInt i_p0_tape_value)])), (a_p0_state, .inr (8, [.ref a_p0_state_pieces, .ref a_p0_state_friends, .ref a_p0_state_spoons, .ref a_p0_state_eaten, .ref a_p0_state_seen, .int (Int32.ofInt i_p0_state_seenDays), .int (Int32.ofInt i_p0_state_bone), .int (Int32.ofInt i_p0_state_king), .int (Int32.ofInt i_p0_state_days)])), (a_p0_state_friends, .inl (G 1, 7, .inl (zA v_p0_state_friends))), (a_p0_numbers, .inl (G 1, 7, .inl (zA v_p0_numbers)))]) (va_runV (As := [.int (Int32.ofInt x1)]) (rest := []) ⟨hx, hb, hml, hown, hts⟩ (c_X10_isAgain (l := l) (D := D) (G := G) (sz := H.size) (a_p0 := a_p0) (a_p0_tape := a_p0_tape) (a_p0_rules := a_p0_rules) (a_p0_state := a_p0_state) (a_p0_numbers := a_p0_numbers) (a_p0_tape_bytes := a_p0_tape_bytes) (a_p0_state_pieces := a_p0_state_pieces) (a_p0_state_friends := a_p0_state_friends) (a_p0_state_spoons := a_p0_state_spoons) (a_p0_state_eaten := a_p0_state_eaten) (a_p0_state_seen := a_p0_state_seen) (i_p0_faultFound := i_p0_faultFound) (i_p0_faultPlace := i_p0_faultPlace) (i_p0_lines := i_p0_lines) (i_p0_met := i_p0_met) (i_p0_greatest := i_p0_greatest) (i_p0_tape_length := i_p0_tape_length) (i_p0_tape_at := i_p0_tape_at) (i_p0_tape_token := i_p0_tape_token) (i_p0_tape_start := i_p0_tape_start) (i_p0_tape_value := i_p0_tape_value) (i_p0_state_seenDays := i_p0_state_seenDays) (i_p0_state_bone := i_p0_state_bone) (i_p0_state_king := i_p0_state_king) (i_p0_state_days := i_p0_state_days) (v_p0_state_friends := v_p0_state_friends) (v_p0_numbers := v_p0_numbers) (x1 := x1) (r := z18) (hf := hcall)) (cwV 1 hts gX10_faultOfNumber_X10_isAgain rfl rfl rfl (by decide +kernel) ⟨Nat.le_of_ble_eq_true rfl, Nat.le_of_ble_eq_true rfl⟩) (preG_V (ci := 10) (hP.sub [0, 1, 2, 3, 4] rfl) (hD.sub [0, 1, 2, 3, 4] rfl rfl) hK rfl rfl) rfl rfl hl.1 rfl (lv_room (Nat.le_of_ble_eq_true rfl)) dX10_faultOfNumber_121 ⟨Nat.le_of_ble_eq_true rfl, Nat.le_of_ble_eq_true rfl⟩) hP hD hS hA [0, 1, 2, 3, 4] [] [0, 1, 2, 3, 4] rfl rfl rfl (by decide) rfl rfl rfl (fun H locs hP hD hS => ?_)
                    clear hcall
                    have hr18 := ck_c hf
                    replace hf := ck_r hf
                    refine lv_if_eq (tgt := 129) hx hb dX10_faultOfNumber_124 (by decide) (fun cc => ?_) (fun cc => ?_)
                    ·
                      replace hf := ite_t ((z_eq0 hr18).mp cc) hf
                      clear cc
                      exact hJ17  _ _ _ (lv_sub hl [3, 4] rfl) hP hD hS hf
                    ·
                      replace hf := ite_f (fun h9 => cc ((z_eq0 hr18).mpr h9)) hf
                      clear cc
                      refine lv_iconst (v := Int32.ofInt (4 : Int)) hx hb dX10_faultOfNumber_127 (by decide) ?_
                      obtain rfl := ou1 hf
                      rw [hQ]
                      exact W.iret hx hb hr (fun t ht hW => ⟨⟨_, (), rfl, rfl, by rw [ht]; exact hP, va_K.moved hW.alike hK, hD⟩, hS.F ht⟩) hS.2.2 dX10_faultOfNumber_128
                ·
                  replace hf := ite_f (fun h9 => cc ((z_le hr13 hr15).mpr h9)) hf
                  clear cc
                  refine lv_iconst (v := Int32.ofInt (3 : Int)) hx hb dX10_faultOfNumber_112 (by decide) ?_
                  obtain rfl := ou1 hf
                  rw [hQ]
                  exact W.iret hx hb hr (fun t ht hW => ⟨⟨_, (), rfl, rfl, by rw [ht]; exact hP, va_K.moved hW.alike hK, hD⟩, hS.F ht⟩) hS.2.2 dX10_faultOfNumber_113
            refine lv_if_ne (tgt := 81) hx hb dX10_faultOfNumber_70 (by decide) (fun cc => ?_) (fun cc => ?_)
            ·
              replace hf := ite_f (fun h9 => cc ((z_eq0 hr1).mpr h9)) hf
              clear cc
              refine va_gets (C := "LadleKings$TextReader") (n := "LATER_HIGH") (d := "[I") (v := .ref (adT 5)) hx hb (hE.1 5 (by decide)).1 hS hown (hts _ mwX10_faultOfNumber_6) (fun _ h9 => h9) dX10_faultOfNumber_81 ?_
              refine lv_iload_n hx hb dX10_faultOfNumber_84 rfl (lv_at hl 2 rfl) ?_
              have hc := ck_c hf
              replace hf := ck_r hf
              refine va_ti (v := .int (Int32.ofInt (z_T 5 x1))) hx hb (hE.1 5 (by decide)).2 hS (z_ix_in hc) (z_T_e 5 hc) dX10_faultOfNumber_85 ?_
              clear hc
              exact hJ12 _ _ _ _ (lv_sub hl [0, 1, 2, 3] rfl) hP hD hS hf
            ·
              replace hf := ite_t ((z_eq0 hr1).mp cc) hf
              clear cc
              refine va_gets (C := "LadleKings$TextReader") (n := "FIRST_HIGH") (d := "[I") (v := .ref (adT 3)) hx hb (hE.1 3 (by decide)).1 hS hown (hts _ mwX10_faultOfNumber_7) (fun _ h9 => h9) dX10_faultOfNumber_73 ?_
              refine lv_iload_n hx hb dX10_faultOfNumber_76 rfl (lv_at hl 2 rfl) ?_
              have hc := ck_c hf
              replace hf := ck_r hf
              refine va_ti (v := .int (Int32.ofInt (z_T 3 x1))) hx hb (hE.1 3 (by decide)).2 hS (z_ix_in hc) (z_T_e 3 hc) dX10_faultOfNumber_77 ?_
              clear hc
              refine lv_goto (tgt := 86) hx hb dX10_faultOfNumber_78 (by decide) ?_
              exact hJ12 _ _ _ _ (lv_sub hl [0, 1, 2, 3] rfl) hP hD hS hf
          refine lv_if_ne (tgt := 62) hx hb dX10_faultOfNumber_51 (by decide) (fun cc => ?_) (fun cc => ?_)
          ·
            replace hf := ite_f (fun h9 => cc ((z_eq0 hr1).mpr h9)) hf
            clear cc
            refine va_gets (C := "LadleKings$TextReader") (n := "LATER_LOW") (d := "[I") (v := .ref (adT 4)) hx hb (hE.1 4 (by decide)).1 hS hown (hts _ mwX10_faultOfNumber_8) (fun _ h9 => h9) dX10_faultOfNumber_62 ?_
            refine lv_iload_n hx hb dX10_faultOfNumber_65 rfl (lv_at hl 2 rfl) ?_
            have hc := ck_c hf
            replace hf := ck_r hf
            refine va_ti (v := .int (Int32.ofInt (z_T 4 x1))) hx hb (hE.1 4 (by decide)).2 hS (z_ix_in hc) (z_T_e 4 hc) dX10_faultOfNumber_66 ?_
            clear hc
            exact hJ9 _ _ _ _ (lv_sub hl [1, 2, 3] rfl) hP hD hS hf
          ·
            replace hf := ite_t ((z_eq0 hr1).mp cc) hf
            clear cc
            refine va_gets (C := "LadleKings$TextReader") (n := "FIRST_LOW") (d := "[I") (v := .ref (adT 2)) hx hb (hE.1 2 (by decide)).1 hS hown (hts _ mwX10_faultOfNumber_9) (fun _ h9 => h9) dX10_faultOfNumber_54 ?_
            refine lv_iload_n hx hb dX10_faultOfNumber_57 rfl (lv_at hl 2 rfl) ?_
            have hc := ck_c hf
            replace hf := ck_r hf
            refine va_ti (v := .int (Int32.ofInt (z_T 2 x1))) hx hb (hE.1 2 (by decide)).2 hS (z_ix_in hc) (z_T_e 2 hc) dX10_faultOfNumber_58 ?_
            clear hc
            refine lv_goto (tgt := 67) hx hb dX10_faultOfNumber_59 (by decide) ?_
            exact hJ9 _ _ _ _ (lv_sub hl [1, 2, 3] rfl) hP hD hS hf
        ·
          replace hf := ite_t ((z_eq0 hr6).mp cc) hf
          clear cc
          refine lv_iconst (v := Int32.ofInt (2 : Int)) hx hb dX10_faultOfNumber_48 (by decide) ?_
          obtain rfl := ou1 hf
          rw [hQ]
          exact W.iret hx hb hr (fun t ht hW => ⟨⟨_, (), rfl, rfl, by rw [ht]; exact hP, va_K.moved hW.alike hK, hD⟩, hS.F ht⟩) hS.2.2 dX10_faultOfNumber_49
    have hq := jn_i hf
    clear hf
    obtain ⟨J20, eJ20, hf⟩ := hq
    have hJ20 : ∀  (ls : Array Slot) (H : Heap) (locs : List Loc), lv_has ls 6 [(0, .ref a_p0), (1, .int (Int32.ofInt x1)), (2, .int (Int32.ofInt x2))] → va_P D vwCl [(a_p0, .inr (10, [.ref a_p0_tape, .ref a_p0_rules, .ref a_p0_state, .int (Int32.ofInt i_p0_faultFound), .int (Int32.ofInt i_p0_faultPlace), .int (Int32.ofInt i_p0_lines), .int (Int32.ofInt i_p0_met), .int (Int32.ofInt i_p0_greatest), .ref a_p0_numbers])), (a_p0_tape, .inr (9, [.ref a_p0_tape_bytes, .int (Int32.ofInt i_p0_tape_length), .int (Int32.ofInt i_p0_tape_at), .int (Int32.ofInt i_p0_tape_token), .int (Int32.ofInt i_p0_tape_start), .int (Int32.ofInt i_p0_tape_value)])), (a_p0_state, .inr (8, [.ref a_p0_state_pieces, .ref a_p0_state_friends, .ref a_p0_state_spoons, .ref a_p0_state_eaten, .ref a_p0_state_seen, .int (Int32.ofInt i_p0_state_seenDays), .int (Int32.ofInt i_p0_state_bone), .int (Int32.ofInt i_p0_state_king), .int (Int32.ofInt i_p0_state_days)])), (a_p0_state_friends, .inl (G 1, 7, .inl (zA v_p0_state_friends))), (a_p0_numbers, .inl (G 1, 7, .inl (zA v_p0_numbers)))] H → va_D A [(a_p0, .inr (10, [.ref a_p0_tape, .ref a_p0_rules, .ref a_p0_state, .int (Int32.ofInt i_p0_faultFound), .int (Int32.ofInt i_p0_faultPlace), .int (Int32.ofInt i_p0_lines), .int (Int32.ofInt i_p0_met), .int (Int32.ofInt i_p0_greatest), .ref a_p0_numbers])), (a_p0_tape, .inr (9, [.ref a_p0_tape_bytes, .int (Int32.ofInt i_p0_tape_length), .int (Int32.ofInt i_p0_tape_at), .int (Int32.ofInt i_p0_tape_token), .int (Int32.ofInt i_p0_tape_start), .int (Int32.ofInt i_p0_tape_value)])), (a_p0_state, .inr (8, [.ref a_p0_state_pieces, .ref a_p0_state_friends, .ref a_p0_state_spoons, .ref a_p0_state_eaten, .ref a_p0_state_seen, .int (Int32.ofInt i_p0_state_seenDays), .int (Int32.ofInt i_p0_state_bone), .int (Int32.ofInt i_p0_state_king), .int (Int32.ofInt i_p0_state_days)])), (a_p0_state_friends, .inl (G 1, 7, .inl (zA v_p0_state_friends))), (a_p0_numbers, .inl (G 1, 7, .inl (zA v_p0_numbers)))] → va_S A s.heap H locs → J20  = some r → W p l e rm_X10_faultOfNumber s m ([.ref a_p0, .int (Int32.ofInt x1), .int (Int32.ofInt x2)] : List Value).toArray below meth c H locs 0 0 Q (F0 m 27 ls []) := by
      clear hf hl hP hD hS
      intro  ls H locs hl hP hD hS hf
      replace hf := jn0_s eJ20 hf
      refine lv_iconst (v := Int32.ofInt (1 : Int)) hx hb dX10_faultOfNumber_27 (by decide) ?_
      refine lv_goto (tgt := 32) hx hb dX10_faultOfNumber_28 (by decide) ?_
      exact hJ5 _ _ _ _ (lv_sub hl [0, 1, 2] rfl) hP hD hS hf
    refine lv_icmp_lt (tgt := 27) hx hb dX10_faultOfNumber_19 (by decide) (fun cc => ?_) (fun cc => ?_)
    ·
      replace hf := ite_t ((z_lt hr1 hr2).mp cc) hf
      clear cc
      exact hJ20  _ _ _ (lv_sub hl [0, 1, 2] rfl) hP hD hS hf
    ·
      replace hf := ite_f (fun h9 => cc ((z_lt hr1 hr2).mpr h9)) hf
      clear cc
      refine lv_iload_n hx hb dX10_faultOfNumber_22 rfl (lv_at hl 1 rfl) ?_
      refine lv_iconst (v := Int32.ofInt (1 : Int)) hx hb dX10_faultOfNumber_23 (by decide) ?_
      have hr20 := ck_c hf
      replace hf := ck_r hf
      refine lv_icmp_ne (tgt := 31) hx hb dX10_faultOfNumber_24 (by decide) (fun cc => ?_) (fun cc => ?_)
      ·
        replace hf := ite_f (fun h9 => cc ((z_eq hr20 (by decide)).mpr h9)) hf
        clear cc
        refine lv_iconst (v := Int32.ofInt (0 : Int)) hx hb dX10_faultOfNumber_31 (by decide) ?_
        exact hJ5 _ _ _ _ (lv_sub hl [0, 1, 2] rfl) hP hD hS hf
      ·
        replace hf := ite_t ((z_eq hr20 (by decide)).mp cc) hf
        clear cc
        exact hJ20  _ _ _ (lv_sub hl [0, 1, 2] rfl) hP hD hS hf
  ·
    replace hf := ite_t ((z_eq hr0 (by decide)).mp cc) hf
    clear cc
    refine lv_iconst (v := Int32.ofInt (1 : Int)) hx hb dX10_faultOfNumber_11 (by decide) ?_
    obtain rfl := ou1 hf
    rw [hQ]
    exact W.iret hx hb hr (fun t ht hW => ⟨⟨_, (), rfl, rfl, by rw [ht]; exact hP, va_K.moved hW.alike hK, hD⟩, hS.F ht⟩) hS.2.2 dX10_faultOfNumber_12

noncomputable def B_X10_readLine_61 (z7 : Int) (i_p0_faultFound : Int) (i_p0_faultPlace : Int) (i_p0_lines : Int) (z11 : Int) (i_p0_greatest : Int) (i_p0_rules_seats : Int) (i_p0_rules_stirs : Int) (v_p0_rules_need : (Int → Int)) (v_p0_rules_kind : (Int → Int)) (v_p0_rules_first : (Int → Int)) (v_p0_rules_second : (Int → Int)) (i_p0_state_bone : Int) (i_p0_state_king : Int) (v_p0_state_pieces : (Int → Int)) (v_p0_state_friends : (Int → Int)) (v_p0_state_spoons : (Int → Int)) (i_p0_tape_length : Int) (v_p0_tape_bytes : (Int → Int)) (J19 : Int → Int → Int → Int → Int → (Int → Int) → Option (Int × Int × Int × Int × Int × Int × Int × Int × Int × Int × Int × Int × (Int → Int) × (Int → Int) × (Int → Int) × (Int → Int) × Int × Int × (Int → Int) × (Int → Int) × (Int → Int) × (Int → Int))) (J29 : Int → Int → Int → Int → Int → (Int → Int) → Option (Int × Int × Int × Int × Int × Int × Int × Int × Int × Int × Int × Int × (Int → Int) × (Int → Int) × (Int → Int) × (Int → Int) × Int × Int × (Int → Int) × (Int → Int) × (Int → Int) × (Int → Int))) (again61 : Int → Int → Int → Int → Int → (Int → Int) → Option (Int × Int × Int × Int × Int × Int × Int × Int × Int × Int × Int × Int × (Int → Int) × (Int → Int) × (Int → Int) × (Int → Int) × Int × Int × (Int → Int) × (Int → Int) × (Int → Int) × (Int → Int))) (z43 : Int) (z44 : Int) (z45 : Int) (z46 : Int) (z47 : Int) (w48 : (Int → Int)) : Option (Int × Int × Int × Int × Int × Int × Int × Int × Int × Int × Int × Int × (Int → Int) × (Int → Int) × (Int → Int) × (Int → Int) × Int × Int × (Int → Int) × (Int → Int) × (Int → Int) × (Int → Int)) := (ck (z_ix z7 11) (ck (z_r32 z43) (ck (z_r32 (z_T 1 z7)) (if (z_T 1 z7) < z43 then (some ((0 : Int), i_p0_faultFound, i_p0_faultPlace, i_p0_lines, z11, i_p0_greatest, z44, z45, z46, z47, i_p0_rules_seats, i_p0_rules_stirs, v_p0_rules_need, v_p0_rules_kind, v_p0_rules_first, v_p0_rules_second, i_p0_state_bone, i_p0_state_king, v_p0_state_pieces, v_p0_state_friends, v_p0_state_spoons, w48)) else (bd4 (f_X9_readToken i_p0_tape_length z44 z47 v_p0_tape_bytes) (fun (z52 : Int) (z53 : Int) (z54 : Int) (z55 : Int) => (ck (z_r32 z53) (jn (bd1 (f_X10_faultOfNumber z53 z55 v_p0_state_friends w48 z7 z43) (fun (z58 : Int) => (bnd z58 (fun (z59 : Int) => (ck (z_r32 z59) (if z59 = (0 : Int) then (ck (z_ix z43 7) (bnd (z_up w48 z43 z55) (fun (w61 : (Int → Int)) => (bnd (z43 + (1 : Int)) (fun (z62 : Int) => (again61 z62 z52 z53 z54 z55 w61)))))) else (J19 z59 z52 z53 z54 z55 w48))))))) (fun (J57 : Option (Int × Int × Int × Int × Int × Int × Int × Int × Int × Int × Int × Int × (Int → Int) × (Int → Int) × (Int → Int) × (Int → Int) × Int × Int × (Int → Int) × (Int → Int) × (Int → Int) × (Int → Int))) => (if z53 = (3 : Int) then (ck (z_ix z7 11) (ck (z_r32 (z_T 0 z7)) (if z43 < (z_T 0 z7) then (J57) else (J29 z43 z52 z53 z54 z55 w48)))) else (J57)))))))))))
noncomputable def f_X10_readLine (i_p0_faultFound : Int) (i_p0_faultPlace : Int) (i_p0_lines : Int) (i_p0_met : Int) (i_p0_greatest : Int) (i_p0_tape_length : Int) (i_p0_tape_at : Int) (i_p0_tape_value : Int) (v_p0_tape_bytes : (Int → Int)) (i_p0_rules_seats : Int) (i_p0_rules_stirs : Int) (v_p0_rules_need : (Int → Int)) (v_p0_rules_kind : (Int → Int)) (v_p0_rules_first : (Int → Int)) (v_p0_rules_second : (Int → Int)) (i_p0_state_bone : Int) (i_p0_state_king : Int) (v_p0_state_pieces : (Int → Int)) (v_p0_state_friends : (Int → Int)) (v_p0_state_spoons : (Int → Int)) (v_p0_numbers : (Int → Int)) : Option (Int × Int × Int × Int × Int × Int × Int × Int × Int × Int × Int × Int × (Int → Int) × (Int → Int) × (Int → Int) × (Int → Int) × Int × Int × (Int → Int) × (Int → Int) × (Int → Int) × (Int → Int)) := (bd4 (f_X9_readToken i_p0_tape_length i_p0_tape_at i_p0_tape_value v_p0_tape_bytes) (fun (z1 : Int) (z2 : Int) (z3 : Int) (z4 : Int) => (ck (z_r32 z2) (if z2 = (0 : Int) then (some ((0 : Int), i_p0_faultFound, i_p0_faultPlace, i_p0_lines, i_p0_met, i_p0_greatest, z1, z2, z3, z4, i_p0_rules_seats, i_p0_rules_stirs, v_p0_rules_need, v_p0_rules_kind, v_p0_rules_first, v_p0_rules_second, i_p0_state_bone, i_p0_state_king, v_p0_state_pieces, v_p0_state_friends, v_p0_state_spoons, v_p0_numbers)) else (bd1 (f_X10_nameRead z1 z2 z3 v_p0_tape_bytes) (fun (z6 : Int) => (bnd z6 (fun (z7 : Int) => (bd1 (f_X10_faultOfName i_p0_met z2 i_p0_rules_stirs z7) (fun (z8 : Int) => (bnd z8 (fun (z9 : Int) => (ck (z_r32 z9) (if z9 = (0 : Int) then (bnd (z_or i_p0_met (z_shl (1 : Int) z7)) (fun (z11 : Int) => (bnd (0 : Int) (fun (z12 : Int) => (jn (fun (z13 : Int) (z14 : Int) (z15 : Int) (z16 : Int) (z17 : Int) (w18 : (Int → Int)) => (bd3 (f_X10_refuse z13 z16) (fun (z20 : Int) (z21 : Int) (z22 : Int) => (ck (z_bB z20) (some (z20, z21, z22, i_p0_lines, z11, i_p0_greatest, z14, z15, z16, z17, i_p0_rules_seats, i_p0_rules_stirs, v_p0_rules_need, v_p0_rules_kind, v_p0_rules_first, v_p0_rules_second, i_p0_state_bone, i_p0_state_king, v_p0_state_pieces, v_p0_state_friends, v_p0_state_spoons, w18)))))) (fun (J19 : Int → Int → Int → Int → Int → (Int → Int) → Option (Int × Int × Int × Int × Int × Int × Int × Int × Int × Int × Int × Int × (Int → Int) × (Int → Int) × (Int → Int) × (Int → Int) × Int × Int × (Int → Int) × (Int → Int) × (Int → Int) × (Int → Int))) => (jn (fun (z23 : Int) (z24 : Int) (z25 : Int) (z26 : Int) (z27 : Int) (w28 : (Int → Int)) => (bd13 (f_X10_takeLine i_p0_lines i_p0_greatest i_p0_rules_seats i_p0_rules_stirs v_p0_rules_need v_p0_rules_kind v_p0_rules_first v_p0_rules_second i_p0_state_bone i_p0_state_king v_p0_state_pieces v_p0_state_friends v_p0_state_spoons w28 z7 z23) (fun (z30 : Int) (z31 : Int) (z32 : Int) (z33 : Int) (w34 : (Int → Int)) (w35 : (Int → Int)) (w36 : (Int → Int)) (w37 : (Int → Int)) (z38 : Int) (z39 : Int) (w40 : (Int → Int)) (w41 : (Int → Int)) (w42 : (Int → Int)) => (some ((1 : Int), i_p0_faultFound, i_p0_faultPlace, z30, z11, z31, z24, z25, z26, z27, z32, z33, w34, w35, w36, w37, z38, z39, w40, w41, w42, w28))))) (fun (J29 : Int → Int → Int → Int → Int → (Int → Int) → Option (Int × Int × Int × Int × Int × Int × Int × Int × Int × Int × Int × Int × (Int → Int) × (Int → Int) × (Int → Int) × (Int → Int) × Int × Int × (Int → Int) × (Int → Int) × (Int → Int) × (Int → Int))) => (lq6 (B_X10_readLine_61 z7 i_p0_faultFound i_p0_faultPlace i_p0_lines z11 i_p0_greatest i_p0_rules_seats i_p0_rules_stirs v_p0_rules_need v_p0_rules_kind v_p0_rules_first v_p0_rules_second i_p0_state_bone i_p0_state_king v_p0_state_pieces v_p0_state_friends v_p0_state_spoons i_p0_tape_length v_p0_tape_bytes J19 J29) 1000 z12 z1 z2 z3 z4 v_p0_numbers))))))))) else (bd3 (f_X10_refuse z9 z3) (fun (z64 : Int) (z65 : Int) (z66 : Int) => (ck (z_bB z64) (some (z64, z65, z66, i_p0_lines, i_p0_met, i_p0_greatest, z1, z2, z3, z4, i_p0_rules_seats, i_p0_rules_stirs, v_p0_rules_need, v_p0_rules_kind, v_p0_rules_first, v_p0_rules_second, i_p0_state_bone, i_p0_state_king, v_p0_state_pieces, v_p0_state_friends, v_p0_state_spoons, v_p0_numbers)))))))))))))))))))
abbrev rm_X10_readLine : Room := { frames := 6, cells := 0, slots := 0, locals := 128 }
theorem inX10_readLine_X10 : ∀ w ∈ wsX100, w ∈ wsX10_readLine := by decide +kernel
theorem mwX10_readLine_1 : Cond.fieldLink RX10 45 "LadleKings$TextReader" "tape" "LLadleKings$Tape;" ∈ wsX10_readLine := by decide +kernel
theorem inX10_readLine_X9 : ∀ w ∈ wsX90, w ∈ wsX10_readLine := by decide +kernel
theorem mwX10_readLine_3 : Cond.fieldLink RX10 81 "LadleKings$Tape" "token" "I" ∈ wsX10_readLine := by decide +kernel
theorem mwX10_readLine_4 : Cond.fieldLink RX10 35 "LadleKings$TextReader" "met" "I" ∈ wsX10_readLine := by decide +kernel
theorem mwX10_readLine_5 : Cond.fieldLink RX10 92 "LadleKings$Tape" "start" "I" ∈ wsX10_readLine := by decide +kernel
theorem mwX10_readLine_6 : Cond.fieldLink RX10 95 "LadleKings$TextReader" "MOST" "[I" ∈ wsX10_readLine := by decide +kernel
theorem mwX10_readLine_7 : Cond.fieldLink RX10 41 "LadleKings$TextReader" "numbers" "[I" ∈ wsX10_readLine := by decide +kernel
theorem mwX10_readLine_8 : Cond.fieldLink RX10 109 "LadleKings$Tape" "value" "I" ∈ wsX10_readLine := by decide +kernel
theorem mwX10_readLine_9 : Cond.fieldLink RX10 98 "LadleKings$TextReader" "FEWEST" "[I" ∈ wsX10_readLine := by decide +kernel
set_option maxHeartbeats 8000000 in
set_option maxRecDepth 100000 in
theorem c_X10_readLine (l : Launch) (D : va_G) (G : Nat → ClassId) (sz : Nat) (adT adK adV : Nat → Nat) (a_p0 : Nat) (a_p0_tape : Nat) (a_p0_rules : Nat) (a_p0_state : Nat) (a_p0_numbers : Nat) (a_p0_tape_bytes : Nat) (a_p0_rules_need : Nat) (a_p0_rules_kind : Nat) (a_p0_rules_first : Nat) (a_p0_rules_second : Nat) (a_p0_rules_after : Nat) (a_p0_state_pieces : Nat) (a_p0_state_friends : Nat) (a_p0_state_spoons : Nat) (a_p0_state_eaten : Nat) (a_p0_state_seen : Nat) (i_p0_faultFound : Int) (i_p0_faultPlace : Int) (i_p0_lines : Int) (i_p0_met : Int) (i_p0_greatest : Int) (i_p0_tape_length : Int) (i_p0_tape_at : Int) (i_p0_tape_token : Int) (i_p0_tape_start : Int) (i_p0_tape_value : Int) (v_p0_tape_bytes : (Int → Int)) (i_p0_rules_seats : Int) (i_p0_rules_stirs : Int) (v_p0_rules_need : (Int → Int)) (v_p0_rules_kind : (Int → Int)) (v_p0_rules_first : (Int → Int)) (v_p0_rules_second : (Int → Int)) (i_p0_state_seenDays : Int) (i_p0_state_bone : Int) (i_p0_state_king : Int) (i_p0_state_days : Int) (v_p0_state_pieces : (Int → Int)) (v_p0_state_friends : (Int → Int)) (v_p0_state_spoons : (Int → Int)) (v_p0_numbers : (Int → Int)) (r : Int) (o_i_p0_faultFound : Int) (o_i_p0_faultPlace : Int) (o_i_p0_lines : Int) (o_i_p0_met : Int) (o_i_p0_greatest : Int) (o_i_p0_tape_at : Int) (o_i_p0_tape_token : Int) (o_i_p0_tape_start : Int) (o_i_p0_tape_value : Int) (o_i_p0_rules_seats : Int) (o_i_p0_rules_stirs : Int) (o_v_p0_rules_need : (Int → Int)) (o_v_p0_rules_kind : (Int → Int)) (o_v_p0_rules_first : (Int → Int)) (o_v_p0_rules_second : (Int → Int)) (o_i_p0_state_bone : Int) (o_i_p0_state_king : Int) (o_v_p0_state_pieces : (Int → Int)) (o_v_p0_state_friends : (Int → Int)) (o_v_p0_state_spoons : (Int → Int)) (o_v_p0_numbers : (Int → Int)) (hf : f_X10_readLine i_p0_faultFound i_p0_faultPlace i_p0_lines i_p0_met i_p0_greatest i_p0_tape_length i_p0_tape_at i_p0_tape_value v_p0_tape_bytes i_p0_rules_seats i_p0_rules_stirs v_p0_rules_need v_p0_rules_kind v_p0_rules_first v_p0_rules_second i_p0_state_bone i_p0_state_king v_p0_state_pieces v_p0_state_friends v_p0_state_spoons v_p0_numbers = some (r, o_i_p0_faultFound, o_i_p0_faultPlace, o_i_p0_lines, o_i_p0_met, o_i_p0_greatest, o_i_p0_tape_at, o_i_p0_tape_token, o_i_p0_tape_start, o_i_p0_tape_value, o_i_p0_rules_seats, o_i_p0_rules_stirs, o_v_p0_rules_need, o_v_p0_rules_kind, o_v_p0_rules_first, o_v_p0_rules_second, o_i_p0_state_bone, o_i_p0_state_king, o_v_p0_state_pieces, o_v_p0_state_friends, o_v_p0_state_spoons, o_v_p0_numbers)) : Met l yX10_readLine wsX10_readLine rm_X10_readLine (pcGE D G adT adK adV [.ref a_p0] sz [(a_p0, .inr (10, [.ref a_p0_tape, .ref a_p0_rules, .ref a_p0_state, .int (Int32.ofInt i_p0_faultFound), .int (Int32.ofInt i_p0_faultPlace), .int (Int32.ofInt i_p0_lines), .int (Int32.ofInt i_p0_met), .int (Int32.ofInt i_p0_greatest), .ref a_p0_numbers])), (a_p0_tape, .inr (9, [.ref a_p0_tape_bytes, .int (Int32.ofInt i_p0_tape_length), .int (Int32.ofInt i_p0_tape_at), .int (Int32.ofInt i_p0_tape_token), .int (Int32.ofInt i_p0_tape_start), .int (Int32.ofInt i_p0_tape_value)])), (a_p0_tape_bytes, .inl (G 0, 320, .inl (zA v_p0_tape_bytes))), (a_p0_rules, .inr (6, [.int (Int32.ofInt i_p0_rules_seats), .int (Int32.ofInt i_p0_rules_stirs), .ref a_p0_rules_need, .ref a_p0_rules_kind, .ref a_p0_rules_first, .ref a_p0_rules_second, .ref a_p0_rules_after])), (a_p0_rules_need, .inl (G 1, 7, .inl (zA v_p0_rules_need))), (a_p0_rules_kind, .inl (G 1, 5, .inl (zA v_p0_rules_kind))), (a_p0_rules_first, .inl (G 1, 5, .inl (zA v_p0_rules_first))), (a_p0_rules_second, .inl (G 1, 5, .inl (zA v_p0_rules_second))), (a_p0_state, .inr (8, [.ref a_p0_state_pieces, .ref a_p0_state_friends, .ref a_p0_state_spoons, .ref a_p0_state_eaten, .ref a_p0_state_seen, .int (Int32.ofInt i_p0_state_seenDays), .int (Int32.ofInt i_p0_state_bone), .int (Int32.ofInt i_p0_state_king), .int (Int32.ofInt i_p0_state_days)])), (a_p0_state_pieces, .inl (G 1, 7, .inl (zA v_p0_state_pieces))), (a_p0_state_friends, .inl (G 1, 7, .inl (zA v_p0_state_friends))), (a_p0_state_spoons, .inl (G 1, 7, .inl (zA v_p0_state_spoons))), (a_p0_numbers, .inl (G 1, 7, .inl (zA v_p0_numbers)))]) (qcI D G (Int32.ofInt r) [(a_p0, .inr (10, [.ref a_p0_tape, .ref a_p0_rules, .ref a_p0_state, .int (Int32.ofInt o_i_p0_faultFound), .int (Int32.ofInt o_i_p0_faultPlace), .int (Int32.ofInt o_i_p0_lines), .int (Int32.ofInt o_i_p0_met), .int (Int32.ofInt o_i_p0_greatest), .ref a_p0_numbers])), (a_p0_tape, .inr (9, [.ref a_p0_tape_bytes, .int (Int32.ofInt i_p0_tape_length), .int (Int32.ofInt o_i_p0_tape_at), .int (Int32.ofInt o_i_p0_tape_token), .int (Int32.ofInt o_i_p0_tape_start), .int (Int32.ofInt o_i_p0_tape_value)])), (a_p0_tape_bytes, .inl (G 0, 320, .inl (zA v_p0_tape_bytes))), (a_p0_rules, .inr (6, [.int (Int32.ofInt o_i_p0_rules_seats), .int (Int32.ofInt o_i_p0_rules_stirs), .ref a_p0_rules_need, .ref a_p0_rules_kind, .ref a_p0_rules_first, .ref a_p0_rules_second, .ref a_p0_rules_after])), (a_p0_rules_need, .inl (G 1, 7, .inl (zA o_v_p0_rules_need))), (a_p0_rules_kind, .inl (G 1, 5, .inl (zA o_v_p0_rules_kind))), (a_p0_rules_first, .inl (G 1, 5, .inl (zA o_v_p0_rules_first))), (a_p0_rules_second, .inl (G 1, 5, .inl (zA o_v_p0_rules_second))), (a_p0_state, .inr (8, [.ref a_p0_state_pieces, .ref a_p0_state_friends, .ref a_p0_state_spoons, .ref a_p0_state_eaten, .ref a_p0_state_seen, .int (Int32.ofInt i_p0_state_seenDays), .int (Int32.ofInt o_i_p0_state_bone), .int (Int32.ofInt o_i_p0_state_king), .int (Int32.ofInt i_p0_state_days)])), (a_p0_state_pieces, .inl (G 1, 7, .inl (zA o_v_p0_state_pieces))), (a_p0_state_friends, .inl (G 1, 7, .inl (zA o_v_p0_state_friends))), (a_p0_state_spoons, .inl (G 1, 7, .inl (zA o_v_p0_state_spoons))), (a_p0_numbers, .inl (G 1, 7, .inl (zA o_v_p0_numbers)))] (va_A [(a_p0, .inr (10, [.ref a_p0_tape, .ref a_p0_rules, .ref a_p0_state, .int (Int32.ofInt i_p0_faultFound), .int (Int32.ofInt i_p0_faultPlace), .int (Int32.ofInt i_p0_lines), .int (Int32.ofInt i_p0_met), .int (Int32.ofInt i_p0_greatest), .ref a_p0_numbers])), (a_p0_tape, .inr (9, [.ref a_p0_tape_bytes, .int (Int32.ofInt i_p0_tape_length), .int (Int32.ofInt i_p0_tape_at), .int (Int32.ofInt i_p0_tape_token), .int (Int32.ofInt i_p0_tape_start), .int (Int32.ofInt i_p0_tape_value)])), (a_p0_tape_bytes, .inl (G 0, 320, .inl (zA v_p0_tape_bytes))), (a_p0_rules, .inr (6, [.int (Int32.ofInt i_p0_rules_seats), .int (Int32.ofInt i_p0_rules_stirs), .ref a_p0_rules_need, .ref a_p0_rules_kind, .ref a_p0_rules_first, .ref a_p0_rules_second, .ref a_p0_rules_after])), (a_p0_rules_need, .inl (G 1, 7, .inl (zA v_p0_rules_need))), (a_p0_rules_kind, .inl (G 1, 5, .inl (zA v_p0_rules_kind))), (a_p0_rules_first, .inl (G 1, 5, .inl (zA v_p0_rules_first))), (a_p0_rules_second, .inl (G 1, 5, .inl (zA v_p0_rules_second))), (a_p0_state, .inr (8, [.ref a_p0_state_pieces, .ref a_p0_state_friends, .ref a_p0_state_spoons, .ref a_p0_state_eaten, .ref a_p0_state_seen, .int (Int32.ofInt i_p0_state_seenDays), .int (Int32.ofInt i_p0_state_bone), .int (Int32.ofInt i_p0_state_king), .int (Int32.ofInt i_p0_state_days)])), (a_p0_state_pieces, .inl (G 1, 7, .inl (zA v_p0_state_pieces))), (a_p0_state_friends, .inl (G 1, 7, .inl (zA v_p0_state_friends))), (a_p0_state_spoons, .inl (G 1, 7, .inl (zA v_p0_state_spoons))), (a_p0_numbers, .inl (G 1, 7, .inl (zA v_p0_numbers)))] sz)) 0 0 (va_A [(a_p0, .inr (10, [.ref a_p0_tape, .ref a_p0_rules, .ref a_p0_state, .int (Int32.ofInt i_p0_faultFound), .int (Int32.ofInt i_p0_faultPlace), .int (Int32.ofInt i_p0_lines), .int (Int32.ofInt i_p0_met), .int (Int32.ofInt i_p0_greatest), .ref a_p0_numbers])), (a_p0_tape, .inr (9, [.ref a_p0_tape_bytes, .int (Int32.ofInt i_p0_tape_length), .int (Int32.ofInt i_p0_tape_at), .int (Int32.ofInt i_p0_tape_token), .int (Int32.ofInt i_p0_tape_start), .int (Int32.ofInt i_p0_tape_value)])), (a_p0_tape_bytes, .inl (G 0, 320, .inl (zA v_p0_tape_bytes))), (a_p0_rules, .inr (6, [.int (Int32.ofInt i_p0_rules_seats), .int (Int32.ofInt i_p0_rules_stirs), .ref a_p0_rules_need, .ref a_p0_rules_kind, .ref a_p0_rules_first, .ref a_p0_rules_second, .ref a_p0_rules_after])), (a_p0_rules_need, .inl (G 1, 7, .inl (zA v_p0_rules_need))), (a_p0_rules_kind, .inl (G 1, 5, .inl (zA v_p0_rules_kind))), (a_p0_rules_first, .inl (G 1, 5, .inl (zA v_p0_rules_first))), (a_p0_rules_second, .inl (G 1, 5, .inl (zA v_p0_rules_second))), (a_p0_state, .inr (8, [.ref a_p0_state_pieces, .ref a_p0_state_friends, .ref a_p0_state_spoons, .ref a_p0_state_eaten, .ref a_p0_state_seen, .int (Int32.ofInt i_p0_state_seenDays), .int (Int32.ofInt i_p0_state_bone), .int (Int32.ofInt i_p0_state_king), .int (Int32.ofInt i_p0_state_days)])), (a_p0_state_pieces, .inl (G 1, 7, .inl (zA v_p0_state_pieces))), (a_p0_state_friends, .inl (G 1, 7, .inl (zA v_p0_state_friends))), (a_p0_state_spoons, .inl (G 1, 7, .inl (zA v_p0_state_spoons))), (a_p0_numbers, .inl (G 1, 7, .inl (zA v_p0_numbers)))] sz) := by
  refine Met.ofW (cc := cX10_readLine) (maxL := 4) (ret := (some .boolean)) (by decide) rfl ?_
  intro p e s m args below meth c s₁ B hml hv
  obtain ⟨rfl, hsz, hP, hK, hD0, hE⟩ := hv
  have hx := B.exec
  have hb := B.bytes
  have hr := B.returns
  have hts := atoms_spec (ws := wsX10_readLine) B.pre
  have hown : s.vm.findClass RX10 = some m.cls := findClass_of_methodNamed B.named
  have hlocks := B.notSynchronized
  subst hsz
  have hD := hD0.self (sz := s.heap.size)
  generalize hAe : va_A [(a_p0, .inr (10, [.ref a_p0_tape, .ref a_p0_rules, .ref a_p0_state, .int (Int32.ofInt i_p0_faultFound), .int (Int32.ofInt i_p0_faultPlace), .int (Int32.ofInt i_p0_lines), .int (Int32.ofInt i_p0_met), .int (Int32.ofInt i_p0_greatest), .ref a_p0_numbers])), (a_p0_tape, .inr (9, [.ref a_p0_tape_bytes, .int (Int32.ofInt i_p0_tape_length), .int (Int32.ofInt i_p0_tape_at), .int (Int32.ofInt i_p0_tape_token), .int (Int32.ofInt i_p0_tape_start), .int (Int32.ofInt i_p0_tape_value)])), (a_p0_tape_bytes, .inl (G 0, 320, .inl (zA v_p0_tape_bytes))), (a_p0_rules, .inr (6, [.int (Int32.ofInt i_p0_rules_seats), .int (Int32.ofInt i_p0_rules_stirs), .ref a_p0_rules_need, .ref a_p0_rules_kind, .ref a_p0_rules_first, .ref a_p0_rules_second, .ref a_p0_rules_after])), (a_p0_rules_need, .inl (G 1, 7, .inl (zA v_p0_rules_need))), (a_p0_rules_kind, .inl (G 1, 5, .inl (zA v_p0_rules_kind))), (a_p0_rules_first, .inl (G 1, 5, .inl (zA v_p0_rules_first))), (a_p0_rules_second, .inl (G 1, 5, .inl (zA v_p0_rules_second))), (a_p0_state, .inr (8, [.ref a_p0_state_pieces, .ref a_p0_state_friends, .ref a_p0_state_spoons, .ref a_p0_state_eaten, .ref a_p0_state_seen, .int (Int32.ofInt i_p0_state_seenDays), .int (Int32.ofInt i_p0_state_bone), .int (Int32.ofInt i_p0_state_king), .int (Int32.ofInt i_p0_state_days)])), (a_p0_state_pieces, .inl (G 1, 7, .inl (zA v_p0_state_pieces))), (a_p0_state_friends, .inl (G 1, 7, .inl (zA v_p0_state_friends))), (a_p0_state_spoons, .inl (G 1, 7, .inl (zA v_p0_state_spoons))), (a_p0_numbers, .inl (G 1, 7, .inl (zA v_p0_numbers)))] s.heap.size = A at hD hE ⊢
  have hA : ∀ q : Nat, s.heap.size ≤ q → A q := fun q h => by rw [← hAe]; exact Or.inr h
  clear hAe hD0
  have hS : va_S A s.heap s.heap [] := va_S.rf
  have hl := lv_entry ([.ref a_p0]) (n := 4) (Nat.le_of_ble_eq_true rfl)
  rw [lg_entry_eq]
  generalize (lg_sl ([.ref a_p0]) ++ List.replicate (4 - (lg_sl ([.ref a_p0])).length) Slot.unset).toArray = ls at hl ⊢
  have hl : lv_has ls 4 [(0, .ref a_p0)] := hl
  refine W_nameQ (fun Q hQ => ?_)
  obtain ⟨H, hH⟩ : ∃ H, H = s.heap := ⟨_, rfl⟩
  replace hS : va_S A s.heap H [] := by rw [hH]; exact hS
  replace hP : va_P D vwCl [(a_p0, .inr (10, [.ref a_p0_tape, .ref a_p0_rules, .ref a_p0_state, .int (Int32.ofInt i_p0_faultFound), .int (Int32.ofInt i_p0_faultPlace), .int (Int32.ofInt i_p0_lines), .int (Int32.ofInt i_p0_met), .int (Int32.ofInt i_p0_greatest), .ref a_p0_numbers])), (a_p0_tape, .inr (9, [.ref a_p0_tape_bytes, .int (Int32.ofInt i_p0_tape_length), .int (Int32.ofInt i_p0_tape_at), .int (Int32.ofInt i_p0_tape_token), .int (Int32.ofInt i_p0_tape_start), .int (Int32.ofInt i_p0_tape_value)])), (a_p0_tape_bytes, .inl (G 0, 320, .inl (zA v_p0_tape_bytes))), (a_p0_rules, .inr (6, [.int (Int32.ofInt i_p0_rules_seats), .int (Int32.ofInt i_p0_rules_stirs), .ref a_p0_rules_need, .ref a_p0_rules_kind, .ref a_p0_rules_first, .ref a_p0_rules_second, .ref a_p0_rules_after])), (a_p0_rules_need, .inl (G 1, 7, .inl (zA v_p0_rules_need))), (a_p0_rules_kind, .inl (G 1, 5, .inl (zA v_p0_rules_kind))), (a_p0_rules_first, .inl (G 1, 5, .inl (zA v_p0_rules_first))), (a_p0_rules_second, .inl (G 1, 5, .inl (zA v_p0_rules_second))), (a_p0_state, .inr (8, [.ref a_p0_state_pieces, .ref a_p0_state_friends, .ref a_p0_state_spoons, .ref a_p0_state_eaten, .ref a_p0_state_seen, .int (Int32.ofInt i_p0_state_seenDays), .int (Int32.ofInt i_p0_state_bone), .int (Int32.ofInt i_p0_state_king), .int (Int32.ofInt i_p0_state_days)])), (a_p0_state_pieces, .inl (G 1, 7, .inl (zA v_p0_state_pieces))), (a_p0_state_friends, .inl (G 1, 7, .inl (zA v_p0_state_friends))), (a_p0_state_spoons, .inl (G 1, 7, .inl (zA v_p0_state_spoons))), (a_p0_numbers, .inl (G 1, 7, .inl (zA v_p0_numbers)))] H := by rw [hH]; exact hP
  rw [← hH]
  clear hH
  unfold f_X10_readLine at hf
  refine lv_aload_n hx hb dX10_readLine_0 rfl (lv_at hl 0 rfl) ?_
  refine va_get (D := D) (ci := 10) (v := .ref a_p0_tape) (C := RX10) (T := TX10) (N := 9) hx hb hts inX10_readLine_X10 hown hK hP 0 rfl rfl 0 (by decide) (hts _ mwX10_readLine_1) (fun _ h9 => h9) rfl dX10_readLine_1 ?_
  have hq := bd4_s hf
  clear hf
  obtain ⟨z1, z2, z3, z4, hcall, hf⟩ := hq
  refine gcV (ws' := [(a_p0, .inr (10, [.ref a_p0_tape, .ref a_p0_rules, .ref a_p0_state, .int (Int32.ofInt i_p0_faultFound), .int (Int32.ofInt i_p0_faultPlace), .int (Int32.ofInt i_p0_lines), .int (Int32.ofInt i_p0_met), .int (Int32.ofInt i_p0_greatest), .ref a_p0_numbers])), (a_p0_tape, .inr (9, [.ref a_p0_tape_bytes, .int (Int32.ofInt i_p0_tape_length), .int (Int32.ofInt z1), .int (Int32.ofInt z2), .int (Int32.ofInt z3), .int (Int32.ofInt z4)])), (a_p0_tape_bytes, .inl (G 0, 320, .inl (zA v_p0_tape_bytes))), (a_p0_rules, .inr (6, [.int (Int32.ofInt i_p0_rules_seats), .int (Int32.ofInt i_p0_rules_stirs), .ref a_p0_rules_need, .ref a_p0_rules_kind, .ref a_p0_rules_first, .ref a_p0_rules_second, .ref a_p0_rules_after])), (a_p0_rules_need, .inl (G 1, 7, .inl (zA v_p0_rules_need))), (a_p0_rules_kind, .inl (G 1, 5, .inl (zA v_p0_rules_kind))), (a_p0_rules_first, .inl (G 1, 5, .inl (zA v_p0_rules_first))), (a_p0_rules_second, .inl (G 1, 5, .inl (zA v_p0_rules_second))), (a_p0_state, .inr (8, [.ref a_p0_state_pieces, .ref a_p0_state_friends, .ref a_p0_state_spoons, .ref a_p0_state_eaten, .ref a_p0_state_seen, .int (Int32.ofInt i_p0_state_seenDays), .int (Int32.ofInt i_p0_state_bone), .int (Int32.ofInt i_p0_state_king), .int (Int32.ofInt i_p0_state_days)])), (a_p0_state_pieces, .inl (G 1, 7, .inl (zA v_p0_state_pieces))), (a_p0_state_friends, .inl (G 1, 7, .inl (zA v_p0_state_friends))), (a_p0_state_spoons, .inl (G 1, 7, .inl (zA v_p0_state_spoons))), (a_p0_numbers, .inl (G 1, 7, .inl (zA v_p0_numbers)))]) (va_runV (As := []) (rest := []) ⟨hx, hb, hml, hown, hts⟩ (c_X9_readToken (l := l) (D := D) (G := G) (sz := H.size) (a_p0 := a_p0_tape) (a_p0_bytes := a_p0_tape_bytes) (i_p0_length := i_p0_tape_length) (i_p0_at := i_p0_tape_at) (i_p0_token := i_p0_tape_token) (i_p0_start := i_p0_tape_start) (i_p0_value := i_p0_tape_value) (v_p0_bytes := v_p0_tape_bytes) (o_i_p0_at := z1) (o_i_p0_token := z2) (o_i_p0_start := z3) (o_i_p0_value := z4) (hf := hcall)) (cwV 0 hts gX10_readLine_X9_readToken rfl rfl rfl (by decide +kernel) ⟨Nat.le_of_ble_eq_true rfl, Nat.le_of_ble_eq_true rfl⟩) (preG_V (ci := 9) (hP.sub [1, 2] rfl) (hD.sub [1, 2] rfl rfl) hK rfl rfl) rfl rfl hl.1 rfl (lv_room (Nat.le_of_ble_eq_true rfl)) dX10_readLine_4 ⟨Nat.le_of_ble_eq_true rfl, Nat.le_of_ble_eq_true rfl⟩) hP hD hS hA [1, 2] [0, 3, 4, 5, 6, 7, 8, 9, 10, 11, 12] [0, 11, 12, 1, 2, 3, 4, 5, 6, 7, 8, 9, 10] rfl rfl rfl (by decide) rfl rfl rfl (fun H locs hP hD hS => ?_)
  clear hcall
  refine lv_aload_n hx hb dX10_readLine_7 rfl (lv_at hl 0 rfl) ?_
  refine va_get (D := D) (ci := 10) (v := .ref a_p0_tape) (C := RX10) (T := TX10) (N := 9) hx hb hts inX10_readLine_X10 hown hK hP 0 rfl rfl 0 (by decide) (hts _ mwX10_readLine_1) (fun _ h9 => h9) rfl dX10_readLine_8 ?_
  refine va_get (D := D) (ci := 9) (v := .int (Int32.ofInt z2)) (C := RX9) (T := TX9) (N := 6) hx hb hts inX10_readLine_X9 hown hK hP 1 rfl rfl 3 (by decide) (hts _ mwX10_readLine_3) (fun _ h9 => h9) rfl dX10_readLine_11 ?_
  have hr4 := ck_c hf
  replace hf := ck_r hf
  refine lv_if_ne (tgt := 19) hx hb dX10_readLine_14 (by decide) (fun cc => ?_) (fun cc => ?_)
  ·
    replace hf := ite_f (fun h9 => cc ((z_eq0 hr4).mpr h9)) hf
    clear cc
    refine lv_aload_n hx hb dX10_readLine_19 rfl (lv_at hl 0 rfl) ?_
    have hq := bd1_s hf
    clear hf
    obtain ⟨z6, hcall, hf⟩ := hq
    refine gcI (ws' := [(a_p0, .inr (10, [.ref a_p0_tape, .ref a_p0_rules, .ref a_p0_state, .int (Int32.ofInt i_p0_faultFound), .int (Int32.ofInt i_p0_faultPlace), .int (Int32.ofInt i_p0_lines), .int (Int32.ofInt i_p0_met), .int (Int32.ofInt i_p0_greatest), .ref a_p0_numbers])), (a_p0_tape, .inr (9, [.ref a_p0_tape_bytes, .int (Int32.ofInt i_p0_tape_length), .int (Int32.ofInt z1), .int (Int32.ofInt z2), .int (Int32.ofInt z3), .int (Int32.ofInt z4)])), (a_p0_tape_bytes, .inl (G 0, 320, .inl (zA v_p0_tape_bytes))), (a_p0_rules, .inr (6, [.int (Int32.ofInt i_p0_rules_seats), .int (Int32.ofInt i_p0_rules_stirs), .ref a_p0_rules_need, .ref a_p0_rules_kind, .ref a_p0_rules_first, .ref a_p0_rules_second, .ref a_p0_rules_after])), (a_p0_rules_need, .inl (G 1, 7, .inl (zA v_p0_rules_need))), (a_p0_rules_kind, .inl (G 1, 5, .inl (zA v_p0_rules_kind))), (a_p0_rules_first, .inl (G 1, 5, .inl (zA v_p0_rules_first))), (a_p0_rules_second, .inl (G 1, 5, .inl (zA v_p0_rules_second))), (a_p0_state, .inr (8, [.ref a_p0_state_pieces, .ref a_p0_state_friends, .ref a_p0_state_spoons, .ref a_p0_state_eaten, .ref a_p0_state_seen, .int (Int32.ofInt i_p0_state_seenDays), .int (Int32.ofInt i_p0_state_bone), .int (Int32.ofInt i_p0_state_king), .int (Int32.ofInt i_p0_state_days)])), (a_p0_state_pieces, .inl (G 1, 7, .inl (zA v_p0_state_pieces))), (a_p0_state_friends, .inl (G 1, 7, .inl (zA v_p0_state_friends))), (a_p0_state_spoons, .inl (G 1, 7, .inl (zA v_p0_state_spoons))), (a_p0_numbers, .inl (G 1, 7, .inl (zA v_p0_numbers)))]) (va_runV (As := []) (rest := []) ⟨hx, hb, hml, hown, hts⟩ (c_X10_nameRead (l := l) (D := D) (G := G) (sz := H.size) (adT := adT) (adK := adK) (adV := adV) (a_p0 := a_p0) (a_p0_tape := a_p0_tape) (a_p0_rules := a_p0_rules) (a_p0_state := a_p0_state) (a_p0_numbers := a_p0_numbers) (a_p0_tape_bytes := a_p0_tape_bytes) (i_p0_faultFound := i_p0_faultFound) (i_p0_faultPlace := i_p0_faultPlace) (i_p0_lines := i_p0_lines) (i_p0_met := i_p0_met) (i_p0_greatest := i_p0_greatest) (i_p0_tape_length := i_p0_tape_length) (i_p0_tape_at := z1) (i_p0_tape_token := z2) (i_p0_tape_start := z3) (i_p0_tape_value := z4) (v_p0_tape_bytes := v_p0_tape_bytes) (r := z6) (hf := hcall)) (cwV 0 hts gX10_readLine_X10_nameRead rfl rfl rfl (by decide +kernel) ⟨Nat.le_of_ble_eq_true rfl, Nat.le_of_ble_eq_true rfl⟩) (preGE_V (ci := 10) (hP.sub [0, 1, 2] rfl) (hD.sub [0, 1, 2] rfl rfl) hK rfl rfl hE hS hA) rfl rfl hl.1 rfl (lv_room (Nat.le_of_ble_eq_true rfl)) dX10_readLine_20 ⟨Nat.le_of_ble_eq_true rfl, Nat.le_of_ble_eq_true rfl⟩) hP hD hS hA [0, 1, 2] [3, 4, 5, 6, 7, 8, 9, 10, 11, 12] [10, 11, 12, 0, 1, 2, 3, 4, 5, 6, 7, 8, 9] rfl rfl rfl (by decide) rfl rfl rfl (fun H locs hP hD hS => ?_)
    clear hcall
    refine z_topi (fun z7 ez => ?_)
    replace hf := bnd_s hf ez
    clear ez
    refine lv_istore_n (lv' := [(1, .int (Int32.ofInt z7)), (0, .ref a_p0)]) hx hb dX10_readLine_23 rfl hl (by decide) rfl (fun ls hl => ?_)
    refine lv_aload_n hx hb dX10_readLine_24 rfl (lv_at hl 1 rfl) ?_
    refine lv_iload_n hx hb dX10_readLine_25 rfl (lv_at hl 0 rfl) ?_
    have hq := bd1_s hf
    clear hf
    obtain ⟨z8, hcall, hf⟩ := hq
    refine gcI (ws' := [(a_p0, .inr (10, [.ref a_p0_tape, .ref a_p0_rules, .ref a_p0_state, .int (Int32.ofInt i_p0_faultFound), .int (Int32.ofInt i_p0_faultPlace), .int (Int32.ofInt i_p0_lines), .int (Int32.ofInt i_p0_met), .int (Int32.ofInt i_p0_greatest), .ref a_p0_numbers])), (a_p0_tape, .inr (9, [.ref a_p0_tape_bytes, .int (Int32.ofInt i_p0_tape_length), .int (Int32.ofInt z1), .int (Int32.ofInt z2), .int (Int32.ofInt z3), .int (Int32.ofInt z4)])), (a_p0_tape_bytes, .inl (G 0, 320, .inl (zA v_p0_tape_bytes))), (a_p0_rules, .inr (6, [.int (Int32.ofInt i_p0_rules_seats), .int (Int32.ofInt i_p0_rules_stirs), .ref a_p0_rules_need, .ref a_p0_rules_kind, .ref a_p0_rules_first, .ref a_p0_rules_second, .ref a_p0_rules_after])), (a_p0_rules_need, .inl (G 1, 7, .inl (zA v_p0_rules_need))), (a_p0_rules_kind, .inl (G 1, 5, .inl (zA v_p0_rules_kind))), (a_p0_rules_first, .inl (G 1, 5, .inl (zA v_p0_rules_first))), (a_p0_rules_second, .inl (G 1, 5, .inl (zA v_p0_rules_second))), (a_p0_state, .inr (8, [.ref a_p0_state_pieces, .ref a_p0_state_friends, .ref a_p0_state_spoons, .ref a_p0_state_eaten, .ref a_p0_state_seen, .int (Int32.ofInt i_p0_state_seenDays), .int (Int32.ofInt i_p0_state_bone), .int (Int32.ofInt i_p0_state_king), .int (Int32.ofInt i_p0_state_days)])), (a_p0_state_pieces, .inl (G 1, 7, .inl (zA v_p0_state_pieces))), (a_p0_state_friends, .inl (G 1, 7, .inl (zA v_p0_state_friends))), (a_p0_state_spoons, .inl (G 1, 7, .inl (zA v_p0_state_spoons))), (a_p0_numbers, .inl (G 1, 7, .inl (zA v_p0_numbers)))]) (va_runV (As := [.int (Int32.ofInt z7)]) (rest := []) ⟨hx, hb, hml, hown, hts⟩ (c_X10_faultOfName (l := l) (D := D) (G := G) (sz := H.size) (a_p0 := a_p0) (a_p0_tape := a_p0_tape) (a_p0_rules := a_p0_rules) (a_p0_state := a_p0_state) (a_p0_numbers := a_p0_numbers) (a_p0_tape_bytes := a_p0_tape_bytes) (a_p0_rules_need := a_p0_rules_need) (a_p0_rules_kind := a_p0_rules_kind) (a_p0_rules_first := a_p0_rules_first) (a_p0_rules_second := a_p0_rules_second) (a_p0_rules_after := a_p0_rules_after) (i_p0_faultFound := i_p0_faultFound) (i_p0_faultPlace := i_p0_faultPlace) (i_p0_lines := i_p0_lines) (i_p0_met := i_p0_met) (i_p0_greatest := i_p0_greatest) (i_p0_tape_length := i_p0_tape_length) (i_p0_tape_at := z1) (i_p0_tape_token := z2) (i_p0_tape_start := z3) (i_p0_tape_value := z4) (i_p0_rules_seats := i_p0_rules_seats) (i_p0_rules_stirs := i_p0_rules_stirs) (x1 := z7) (r := z8) (hf := hcall)) (cwV 1 hts gX10_readLine_X10_faultOfName rfl rfl rfl (by decide +kernel) ⟨Nat.le_of_ble_eq_true rfl, Nat.le_of_ble_eq_true rfl⟩) (preG_V (ci := 10) (hP.sub [0, 1, 3] rfl) (hD.sub [0, 1, 3] rfl rfl) hK rfl rfl) rfl rfl hl.1 rfl (lv_room (Nat.le_of_ble_eq_true rfl)) dX10_readLine_26 ⟨Nat.le_of_ble_eq_true rfl, Nat.le_of_ble_eq_true rfl⟩) hP hD hS hA [0, 1, 3] [2, 4, 5, 6, 7, 8, 9, 10, 11, 12] [10, 11, 0, 12, 1, 2, 3, 4, 5, 6, 7, 8, 9] rfl rfl rfl (by decide) rfl rfl rfl (fun H locs hP hD hS => ?_)
    clear hcall
    refine z_topi (fun z9 ez => ?_)
    replace hf := bnd_s hf ez
    clear ez
    refine lv_istore_n (lv' := [(2, .int (Int32.ofInt z9)), (1, .int (Int32.ofInt z7)), (0, .ref a_p0)]) hx hb dX10_readLine_29 rfl hl (by decide) rfl (fun ls hl => ?_)
    refine lv_iload_n hx hb dX10_readLine_30 rfl (lv_at hl 0 rfl) ?_
    have hr9 := ck_c hf
    replace hf := ck_r hf
    refine lv_if_eq (tgt := 47) hx hb dX10_readLine_31 (by decide) (fun cc => ?_) (fun cc => ?_)
    ·
      replace hf := ite_t ((z_eq0 hr9).mp cc) hf
      clear cc
      refine lv_aload_n hx hb dX10_readLine_47 rfl (lv_at hl 2 rfl) ?_
      refine lv_dup hx hb dX10_readLine_48 rfl ?_
      refine va_get (D := D) (ci := 10) (v := .int (Int32.ofInt i_p0_met)) (C := RX10) (T := TX10) (N := 9) hx hb hts inX10_readLine_X10 hown hK hP 0 rfl rfl 6 (by decide) (hts _ mwX10_readLine_4) (fun _ h9 => h9) rfl dX10_readLine_49 ?_
      refine lv_iconst (v := Int32.ofInt (1 : Int)) hx hb dX10_readLine_52 (by decide) ?_
      refine lv_iload_n hx hb dX10_readLine_53 rfl (lv_at hl 1 rfl) ?_
      refine lv_ishl hx hb dX10_readLine_54 (z_ci (z_shl_e (1 : Int) z7) ?_)
      refine lv_ior hx hb dX10_readLine_55 (z_ci (z_or_e i_p0_met (z_shl (1 : Int) z7)) ?_)
      refine z_topi (fun z11 ez => ?_)
      replace hf := bnd_s hf ez
      clear ez
      refine va_put (D := D) (ci := 10) (v := .int (Int32.ofInt z11)) (ty := .int) (C := RX10) (T := TX10) (N := 9) hx hb hts inX10_readLine_X10 tyX10 tyX10_ok nmX10 hown hK hP hD hS 0 rfl rfl 6 (by decide) (hts _ mwX10_readLine_4) (fun _ h9 => h9) rfl (by decide +kernel) rfl rfl (Nat.le_of_ble_eq_true rfl) dX10_readLine_56 (fun H locs hP hD hS => ?_)
      have hP : va_P D vwCl [(a_p0, .inr (10, [.ref a_p0_tape, .ref a_p0_rules, .ref a_p0_state, .int (Int32.ofInt i_p0_faultFound), .int (Int32.ofInt i_p0_faultPlace), .int (Int32.ofInt i_p0_lines), .int (Int32.ofInt z11), .int (Int32.ofInt i_p0_greatest), .ref a_p0_numbers])), (a_p0_tape, .inr (9, [.ref a_p0_tape_bytes, .int (Int32.ofInt i_p0_tape_length), .int (Int32.ofInt z1), .int (Int32.ofInt z2), .int (Int32.ofInt z3), .int (Int32.ofInt z4)])), (a_p0_tape_bytes, .inl (G 0, 320, .inl (zA v_p0_tape_bytes))), (a_p0_rules, .inr (6, [.int (Int32.ofInt i_p0_rules_seats), .int (Int32.ofInt i_p0_rules_stirs), .ref a_p0_rules_need, .ref a_p0_rules_kind, .ref a_p0_rules_first, .ref a_p0_rules_second, .ref a_p0_rules_after])), (a_p0_rules_need, .inl (G 1, 7, .inl (zA v_p0_rules_need))), (a_p0_rules_kind, .inl (G 1, 5, .inl (zA v_p0_rules_kind))), (a_p0_rules_first, .inl (G 1, 5, .inl (zA v_p0_rules_first))), (a_p0_rules_second, .inl (G 1, 5, .inl (zA v_p0_rules_second))), (a_p0_state, .inr (8, [.ref a_p0_state_pieces, .ref a_p0_state_friends, .ref a_p0_state_spoons, .ref a_p0_state_eaten, .ref a_p0_state_seen, .int (Int32.ofInt i_p0_state_seenDays), .int (Int32.ofInt i_p0_state_bone), .int (Int32.ofInt i_p0_state_king), .int (Int32.ofInt i_p0_state_days)])), (a_p0_state_pieces, .inl (G 1, 7, .inl (zA v_p0_state_pieces))), (a_p0_state_friends, .inl (G 1, 7, .inl (zA v_p0_state_friends))), (a_p0_state_spoons, .inl (G 1, 7, .inl (zA v_p0_state_spoons))), (a_p0_numbers, .inl (G 1, 7, .inl (zA v_p0_numbers)))] H := hP
      have hD : va_D A [(a_p0, .inr (10, [.ref a_p0_tape, .ref a_p0_rules, .ref a_p0_state, .int (Int32.ofInt i_p0_faultFound), .int (Int32.ofInt i_p0_faultPlace), .int (Int32.ofInt i_p0_lines), .int (Int32.ofInt z11), .int (Int32.ofInt i_p0_greatest), .ref a_p0_numbers])), (a_p0_tape, .inr (9, [.ref a_p0_tape_bytes, .int (Int32.ofInt i_p0_tape_length), .int (Int32.ofInt z1), .int (Int32.ofInt z2), .int (Int32.ofInt z3), .int (Int32.ofInt z4)])), (a_p0_tape_bytes, .inl (G 0, 320, .inl (zA v_p0_tape_bytes))), (a_p0_rules, .inr (6, [.int (Int32.ofInt i_p0_rules_seats), .int (Int32.ofInt i_p0_rules_stirs), .ref a_p0_rules_need, .ref a_p0_rules_kind, .ref a_p0_rules_first, .ref a_p0_rules_second, .ref a_p0_rules_after])), (a_p0_rules_need, .inl (G 1, 7, .inl (zA v_p0_rules_need))), (a_p0_rules_kind, .inl (G 1, 5, .inl (zA v_p0_rules_kind))), (a_p0_rules_first, .inl (G 1, 5, .inl (zA v_p0_rules_first))), (a_p0_rules_second, .inl (G 1, 5, .inl (zA v_p0_rules_second))), (a_p0_state, .inr (8, [.ref a_p0_state_pieces, .ref a_p0_state_friends, .ref a_p0_state_spoons, .ref a_p0_state_eaten, .ref a_p0_state_seen, .int (Int32.ofInt i_p0_state_seenDays), .int (Int32.ofInt i_p0_state_bone), .int (Int32.ofInt i_p0_state_king), .int (Int32.ofInt i_p0_state_days)])), (a_p0_state_pieces, .inl (G 1, 7, .inl (zA v_p0_state_pieces))), (a_p0_state_friends, .inl (G 1, 7, .inl (zA v_p0_state_friends))), (a_p0_state_spoons, .inl (G 1, 7, .inl (zA v_p0_state_spoons))), (a_p0_numbers, .inl (G 1, 7, .inl (zA v_p0_numbers)))] := hD
      refine lv_iconst (v := Int32.ofInt (0 : Int)) hx hb dX10_readLine_59 (by decide) ?_
      refine z_topi (fun z12 ez => ?_)
      replace hf := bnd_s hf ez
      clear ez
      refine lv_istore_n (lv' := [(3, .int (Int32.ofInt z12)), (2, .int (Int32.ofInt z9)), (1, .int (Int32.ofInt z7)), (0, .ref a_p0)]) hx hb dX10_readLine_60 rfl hl (by decide) rfl (fun ls hl => ?_)
      have hq := jn_i hf
      clear hf
      obtain ⟨J19, eJ19, hf⟩ := hq
      have hJ19 : ∀ (z13 : Int) (z14 : Int) (z15 : Int) (z16 : Int) (z17 : Int) (w18 : (Int → Int)) (ls : Array Slot) (H : Heap) (locs : List Loc), lv_has ls 4 [(2, .int (Int32.ofInt z13)), (0, .ref a_p0)] → va_P D vwCl [(a_p0, .inr (10, [.ref a_p0_tape, .ref a_p0_rules, .ref a_p0_state, .int (Int32.ofInt i_p0_faultFound), .int (Int32.ofInt i_p0_faultPlace), .int (Int32.ofInt i_p0_lines), .int (Int32.ofInt z11), .int (Int32.ofInt i_p0_greatest), .ref a_p0_numbers])), (a_p0_tape, .inr (9, [.ref a_p0_tape_bytes, .int (Int32.ofInt i_p0_tape_length), .int (Int32.ofInt z14), .int (Int32.ofInt z15), .int (Int32.ofInt z16), .int (Int32.ofInt z17)])), (a_p0_tape_bytes, .inl (G 0, 320, .inl (zA v_p0_tape_bytes))), (a_p0_rules, .inr (6, [.int (Int32.ofInt i_p0_rules_seats), .int (Int32.ofInt i_p0_rules_stirs), .ref a_p0_rules_need, .ref a_p0_rules_kind, .ref a_p0_rules_first, .ref a_p0_rules_second, .ref a_p0_rules_after])), (a_p0_rules_need, .inl (G 1, 7, .inl (zA v_p0_rules_need))), (a_p0_rules_kind, .inl (G 1, 5, .inl (zA v_p0_rules_kind))), (a_p0_rules_first, .inl (G 1, 5, .inl (zA v_p0_rules_first))), (a_p0_rules_second, .inl (G 1, 5, .inl (zA v_p0_rules_second))), (a_p0_state, .inr (8, [.ref a_p0_state_pieces, .ref a_p0_state_friends, .ref a_p0_state_spoons, .ref a_p0_state_eaten, .ref a_p0_state_seen, .int (Int32.ofInt i_p0_state_seenDays), .int (Int32.ofInt i_p0_state_bone), .int (Int32.ofInt i_p0_state_king), .int (Int32.ofInt i_p0_state_days)])), (a_p0_state_pieces, .inl (G 1, 7, .inl (zA v_p0_state_pieces))), (a_p0_state_friends, .inl (G 1, 7, .inl (zA v_p0_state_friends))), (a_p0_state_spoons, .inl (G 1, 7, .inl (zA v_p0_state_spoons))), (a_p0_numbers, .inl (G 1, 7, .inl (zA w18)))] H → va_D A [(a_p0, .inr (10, [.ref a_p0_tape, .ref a_p0_rules, .ref a_p0_state, .int (Int32.ofInt i_p0_faultFound), .int (Int32.ofInt i_p0_faultPlace), .int (Int32.ofInt i_p0_lines), .int (Int32.ofInt z11), .int (Int32.ofInt i_p0_greatest), .ref a_p0_numbers])), (a_p0_tape, .inr (9, [.ref a_p0_tape_bytes, .int (Int32.ofInt i_p0_tape_length), .int (Int32.ofInt z14), .int (Int32.ofInt z15), .int (Int32.ofInt z16), .int (Int32.ofInt z17)])), (a_p0_tape_bytes, .inl (G 0, 320, .inl (zA v_p0_tape_bytes))), (a_p0_rules, .inr (6, [.int (Int32.ofInt i_p0_rules_seats), .int (Int32.ofInt i_p0_rules_stirs), .ref a_p0_rules_need, .ref a_p0_rules_kind, .ref a_p0_rules_first, .ref a_p0_rules_second, .ref a_p0_rules_after])), (a_p0_rules_need, .inl (G 1, 7, .inl (zA v_p0_rules_need))), (a_p0_rules_kind, .inl (G 1, 5, .inl (zA v_p0_rules_kind))), (a_p0_rules_first, .inl (G 1, 5, .inl (zA v_p0_rules_first))), (a_p0_rules_second, .inl (G 1, 5, .inl (zA v_p0_rules_second))), (a_p0_state, .inr (8, [.ref a_p0_state_pieces, .ref a_p0_state_friends, .ref a_p0_state_spoons, .ref a_p0_state_eaten, .ref a_p0_state_seen, .int (Int32.ofInt i_p0_state_seenDays), .int (Int32.ofInt i_p0_state_bone), .int (Int32.ofInt i_p0_state_king), .int (Int32.ofInt i_p0_state_days)])), (a_p0_state_pieces, .inl (G 1, 7, .inl (zA v_p0_state_pieces))), (a_p0_state_friends, .inl (G 1, 7, .inl (zA v_p0_state_friends))), (a_p0_state_spoons, .inl (G 1, 7, .inl (zA v_p0_state_spoons))), (a_p0_numbers, .inl (G 1, 7, .inl (zA w18)))] → va_S A s.heap H locs → J19 z13 z14 z15 z16 z17 w18 = some (r, o_i_p0_faultFound, o_i_p0_faultPlace, o_i_p0_lines, o_i_p0_met, o_i_p0_greatest, o_i_p0_tape_at, o_i_p0_tape_token, o_i_p0_tape_start, o_i_p0_tape_value, o_i_p0_rules_seats, o_i_p0_rules_stirs, o_v_p0_rules_need, o_v_p0_rules_kind, o_v_p0_rules_first, o_v_p0_rules_second, o_i_p0_state_bone, o_i_p0_state_king, o_v_p0_state_pieces, o_v_p0_state_friends, o_v_p0_state_spoons, o_v_p0_numbers) → W p l e rm_X10_readLine s m ([.ref a_p0] : List Value).toArray below meth c H locs 0 0 Q (F0 m 116 ls []) := by
        clear hf hl hP hD hS
        intro z13 z14 z15 z16 z17 w18 ls H locs hl hP hD hS hf
        replace hf := jn6_s eJ19 hf
        refine lv_aload_n hx hb dX10_readLine_116 rfl (lv_at hl 1 rfl) ?_
        refine lv_iload_n hx hb dX10_readLine_117 rfl (lv_at hl 0 rfl) ?_
        refine lv_aload_n hx hb dX10_readLine_118 rfl (lv_at hl 1 rfl) ?_
        refine va_get (D := D) (ci := 10) (v := .ref a_p0_tape) (C := RX10) (T := TX10) (N := 9) hx hb hts inX10_readLine_X10 hown hK hP 0 rfl rfl 0 (by decide) (hts _ mwX10_readLine_1) (fun _ h9 => h9) rfl dX10_readLine_119 ?_
        refine va_get (D := D) (ci := 9) (v := .int (Int32.ofInt z16)) (C := RX9) (T := TX9) (N := 6) hx hb hts inX10_readLine_X9 hown hK hP 1 rfl rfl 4 (by decide) (hts _ mwX10_readLine_5) (fun _ h9 => h9) rfl dX10_readLine_122 ?_
        have hq := bd3_s hf
        clear hf
        obtain ⟨z20, z21, z22, hcall, hf⟩ := hq
        refine gcI (ws' := [(a_p0, .inr (10, [.ref a_p0_tape, .ref a_p0_rules, .ref a_p0_state, .int (Int32.ofInt z21), .int (Int32.ofInt z22), .int (Int32.ofInt i_p0_lines), .int (Int32.ofInt z11), .int (Int32.ofInt i_p0_greatest), .ref a_p0_numbers])), (a_p0_tape, .inr (9, [.ref a_p0_tape_bytes, .int (Int32.ofInt i_p0_tape_length), .int (Int32.ofInt z14), .int (Int32.ofInt z15), .int (Int32.ofInt z16), .int (Int32.ofInt z17)])), (a_p0_tape_bytes, .inl (G 0, 320, .inl (zA v_p0_tape_bytes))), (a_p0_rules, .inr (6, [.int (Int32.ofInt i_p0_rules_seats), .int (Int32.ofInt i_p0_rules_stirs), .ref a_p0_rules_need, .ref a_p0_rules_kind, .ref a_p0_rules_first, .ref a_p0_rules_second, .ref a_p0_rules_after])), (a_p0_rules_need, .inl (G 1, 7, .inl (zA v_p0_rules_need))), (a_p0_rules_kind, .inl (G 1, 5, .inl (zA v_p0_rules_kind))), (a_p0_rules_first, .inl (G 1, 5, .inl (zA v_p0_rules_first))), (a_p0_rules_second, .inl (G 1, 5, .inl (zA v_p0_rules_second))), (a_p0_state, .inr (8, [.ref a_p0_state_pieces, .ref a_p0_state_friends, .ref a_p0_state_spoons, .ref a_p0_state_eaten, .ref a_p0_state_seen, .int (Int32.ofInt i_p0_state_seenDays), .int (Int32.ofInt i_p0_state_bone), .int (Int32.ofInt i_p0_state_king), .int (Int32.ofInt i_p0_state_days)])), (a_p0_state_pieces, .inl (G 1, 7, .inl (zA v_p0_state_pieces))), (a_p0_state_friends, .inl (G 1, 7, .inl (zA v_p0_state_friends))), (a_p0_state_spoons, .inl (G 1, 7, .inl (zA v_p0_state_spoons))), (a_p0_numbers, .inl (G 1, 7, .inl (zA w18)))]) (va_runV (As := [.int (Int32.ofInt z13), .int (Int32.ofInt z16)]) (rest := []) ⟨hx, hb, hml, hown, hts⟩ (c_X10_refuse (l := l) (D := D) (G := G) (sz := H.size) (a_p0 := a_p0) (a_p0_tape := a_p0_tape) (a_p0_rules := a_p0_rules) (a_p0_state := a_p0_state) (a_p0_numbers := a_p0_numbers) (i_p0_faultFound := i_p0_faultFound) (i_p0_faultPlace := i_p0_faultPlace) (i_p0_lines := i_p0_lines) (i_p0_met := z11) (i_p0_greatest := i_p0_greatest) (x1 := z13) (x2 := z16) (r := z20) (o_i_p0_faultFound := z21) (o_i_p0_faultPlace := z22) (hf := hcall)) (cwV 2 hts gX10_readLine_X10_refuse rfl rfl rfl (by decide +kernel) ⟨Nat.le_of_ble_eq_true rfl, Nat.le_of_ble_eq_true rfl⟩) (preG_V (ci := 10) (hP.sub [0] rfl) (hD.sub [0] rfl rfl) hK rfl rfl) rfl rfl hl.1 rfl (lv_room (Nat.le_of_ble_eq_true rfl)) dX10_readLine_125 ⟨Nat.le_of_ble_eq_true rfl, Nat.le_of_ble_eq_true rfl⟩) hP hD hS hA [0] [1, 2, 3, 4, 5, 6, 7, 8, 9, 10, 11, 12] [12, 0, 1, 2, 3, 4, 5, 6, 7, 8, 9, 10, 11] rfl rfl rfl (by decide) rfl rfl rfl (fun H locs hP hD hS => ?_)
        clear hcall
        have hz := ck_c hf
        replace hf := ck_r hf
        obtain ⟨rfl, rfl, rfl, rfl, rfl, rfl, rfl, rfl, rfl, rfl, rfl, rfl, rfl, rfl, rfl, rfl, rfl, rfl, rfl, rfl, rfl, rfl⟩ := ou22 hf
        rw [hQ]
        exact W.zret hx hb hr (z_bn hz) (fun t ht hW => ⟨⟨_, (), rfl, rfl, by rw [ht]; exact hP, va_K.moved hW.alike hK, hD⟩, hS.F ht⟩) hS.2.2 dX10_readLine_128
      have hq := jn_i hf
      clear hf
      obtain ⟨J29, eJ29, hf⟩ := hq
      have hJ29 : ∀ (z23 : Int) (z24 : Int) (z25 : Int) (z26 : Int) (z27 : Int) (w28 : (Int → Int)) (ls : Array Slot) (H : Heap) (locs : List Loc), lv_has ls 4 [(3, .int (Int32.ofInt z23)), (1, .int (Int32.ofInt z7)), (0, .ref a_p0)] → va_P D vwCl [(a_p0, .inr (10, [.ref a_p0_tape, .ref a_p0_rules, .ref a_p0_state, .int (Int32.ofInt i_p0_faultFound), .int (Int32.ofInt i_p0_faultPlace), .int (Int32.ofInt i_p0_lines), .int (Int32.ofInt z11), .int (Int32.ofInt i_p0_greatest), .ref a_p0_numbers])), (a_p0_tape, .inr (9, [.ref a_p0_tape_bytes, .int (Int32.ofInt i_p0_tape_length), .int (Int32.ofInt z24), .int (Int32.ofInt z25), .int (Int32.ofInt z26), .int (Int32.ofInt z27)])), (a_p0_tape_bytes, .inl (G 0, 320, .inl (zA v_p0_tape_bytes))), (a_p0_rules, .inr (6, [.int (Int32.ofInt i_p0_rules_seats), .int (Int32.ofInt i_p0_rules_stirs), .ref a_p0_rules_need, .ref a_p0_rules_kind, .ref a_p0_rules_first, .ref a_p0_rules_second, .ref a_p0_rules_after])), (a_p0_rules_need, .inl (G 1, 7, .inl (zA v_p0_rules_need))), (a_p0_rules_kind, .inl (G 1, 5, .inl (zA v_p0_rules_kind))), (a_p0_rules_first, .inl (G 1, 5, .inl (zA v_p0_rules_first))), (a_p0_rules_second, .inl (G 1, 5, .inl (zA v_p0_rules_second))), (a_p0_state, .inr (8, [.ref a_p0_state_pieces, .ref a_p0_state_friends, .ref a_p0_state_spoons, .ref a_p0_state_eaten, .ref a_p0_state_seen, .int (Int32.ofInt i_p0_state_seenDays), .int (Int32.ofInt i_p0_state_bone), .int (Int32.ofInt i_p0_state_king), .int (Int32.ofInt i_p0_state_days)])), (a_p0_state_pieces, .inl (G 1, 7, .inl (zA v_p0_state_pieces))), (a_p0_state_friends, .inl (G 1, 7, .inl (zA v_p0_state_friends))), (a_p0_state_spoons, .inl (G 1, 7, .inl (zA v_p0_state_spoons))), (a_p0_numbers, .inl (G 1, 7, .inl (zA w28)))] H → va_D A [(a_p0, .inr (10, [.ref a_p0_tape, .ref a_p0_rules, .ref a_p0_state, .int (Int32.ofInt i_p0_faultFound), .int (Int32.ofInt i_p0_faultPlace), .int (Int32.ofInt i_p0_lines), .int (Int32.ofInt z11), .int (Int32.ofInt i_p0_greatest), .ref a_p0_numbers])), (a_p0_tape, .inr (9, [.ref a_p0_tape_bytes, .int (Int32.ofInt i_p0_tape_length), .int (Int32.ofInt z24), .int (Int32.ofInt z25), .int (Int32.ofInt z26), .int (Int32.ofInt z27)])), (a_p0_tape_bytes, .inl (G 0, 320, .inl (zA v_p0_tape_bytes))), (a_p0_rules, .inr (6, [.int (Int32.ofInt i_p0_rules_seats), .int (Int32.ofInt i_p0_rules_stirs), .ref a_p0_rules_need, .ref a_p0_rules_kind, .ref a_p0_rules_first, .ref a_p0_rules_second, .ref a_p0_rules_after])), (a_p0_rules_need, .inl (G 1, 7, .inl (zA v_p0_rules_need))), (a_p0_rules_kind, .inl (G 1, 5, .inl (zA v_p0_rules_kind))), (a_p0_rules_first, .inl (G 1, 5, .inl (zA v_p0_rules_first))), (a_p0_rules_second, .inl (G 1, 5, .inl (zA v_p0_rules_second))), (a_p0_state, .inr (8, [.ref a_p0_state_pieces, .ref a_p0_state_friends, .ref a_p0_state_spoons, .ref a_p0_state_eaten, .ref a_p0_state_seen, .int (Int32.ofInt i_p0_state_seenDays), .int (Int32.ofInt i_p0_state_bone), .int (Int32.ofInt i_p0_state_king), .int (Int32.ofInt i_p0_state_days)])), (a_p0_state_pieces, .inl (G 1, 7, .inl (zA v_p0_state_pieces))), (a_p0_state_friends, .inl (G 1, 7, .inl (zA v_p0_state_friends))), (a_p0_state_spoons, .inl (G 1, 7, .inl (zA v_p0_state_spoons))), (a_p0_numbers, .inl (G 1, 7, .inl (zA w28)))] → va_S A s.heap H locs → J29 z23 z24 z25 z26 z27 w28 = some (r, o_i_p0_faultFound, o_i_p0_faultPlace, o_i_p0_lines, o_i_p0_met, o_i_p0_greatest, o_i_p0_tape_at, o_i_p0_tape_token, o_i_p0_tape_start, o_i_p0_tape_value, o_i_p0_rules_seats, o_i_p0_rules_stirs, o_v_p0_rules_need, o_v_p0_rules_kind, o_v_p0_rules_first, o_v_p0_rules_second, o_i_p0_state_bone, o_i_p0_state_king, o_v_p0_state_pieces, o_v_p0_state_friends, o_v_p0_state_spoons, o_v_p0_numbers) → W p l e rm_X10_readLine s m ([.ref a_p0] : List Value).toArray below meth c H locs 0 0 Q (F0 m 97 ls []) := by
        clear hf hl hP hD hS
        intro z23 z24 z25 z26 z27 w28 ls H locs hl hP hD hS hf
        replace hf := jn6_s eJ29 hf
        refine lv_aload_n hx hb dX10_readLine_97 rfl (lv_at hl 2 rfl) ?_
        refine lv_iload_n hx hb dX10_readLine_98 rfl (lv_at hl 1 rfl) ?_
        refine lv_iload_n hx hb dX10_readLine_99 rfl (lv_at hl 0 rfl) ?_
        have hq := bd13_s hf
        clear hf
        obtain ⟨z30, z31, z32, z33, w34, w35, w36, w37, z38, z39, w40, w41, w42, hcall, hf⟩ := hq
        refine gcV (ws' := [(a_p0, .inr (10, [.ref a_p0_tape, .ref a_p0_rules, .ref a_p0_state, .int (Int32.ofInt i_p0_faultFound), .int (Int32.ofInt i_p0_faultPlace), .int (Int32.ofInt z30), .int (Int32.ofInt z11), .int (Int32.ofInt z31), .ref a_p0_numbers])), (a_p0_tape, .inr (9, [.ref a_p0_tape_bytes, .int (Int32.ofInt i_p0_tape_length), .int (Int32.ofInt z24), .int (Int32.ofInt z25), .int (Int32.ofInt z26), .int (Int32.ofInt z27)])), (a_p0_tape_bytes, .inl (G 0, 320, .inl (zA v_p0_tape_bytes))), (a_p0_rules, .inr (6, [.int (Int32.ofInt z32), .int (Int32.ofInt z33), .ref a_p0_rules_need, .ref a_p0_rules_kind, .ref a_p0_rules_first, .ref a_p0_rules_second, .ref a_p0_rules_after])), (a_p0_rules_need, .inl (G 1, 7, .inl (zA w34))), (a_p0_rules_kind, .inl (G 1, 5, .inl (zA w35))), (a_p0_rules_first, .inl (G 1, 5, .inl (zA w36))), (a_p0_rules_second, .inl (G 1, 5, .inl (zA w37))), (a_p0_state, .inr (8, [.ref a_p0_state_pieces, .ref a_p0_state_friends, .ref a_p0_state_spoons, .ref a_p0_state_eaten, .ref a_p0_state_seen, .int (Int32.ofInt i_p0_state_seenDays), .int (Int32.ofInt z38), .int (Int32.ofInt z39), .int (Int32.ofInt i_p0_state_days)])), (a_p0_state_pieces, .inl (G 1, 7, .inl (zA w40))), (a_p0_state_friends, .inl (G 1, 7, .inl (zA w41))), (a_p0_state_spoons, .inl (G 1, 7, .inl (zA w42))), (a_p0_numbers, .inl (G 1, 7, .inl (zA w28)))]) (va_runV (As := [.int (Int32.ofInt z7), .int (Int32.ofInt z23)]) (rest := []) ⟨hx, hb, hml, hown, hts⟩ (c_X10_takeLine (l := l) (D := D) (G := G) (sz := H.size) (a_p0 := a_p0) (a_p0_tape := a_p0_tape) (a_p0_rules := a_p0_rules) (a_p0_state := a_p0_state) (a_p0_numbers := a_p0_numbers) (a_p0_rules_need := a_p0_rules_need) (a_p0_rules_kind := a_p0_rules_kind) (a_p0_rules_first := a_p0_rules_first) (a_p0_rules_second := a_p0_rules_second) (a_p0_rules_after := a_p0_rules_after) (a_p0_state_pieces := a_p0_state_pieces) (a_p0_state_friends := a_p0_state_friends) (a_p0_state_spoons := a_p0_state_spoons) (a_p0_state_eaten := a_p0_state_eaten) (a_p0_state_seen := a_p0_state_seen) (i_p0_faultFound := i_p0_faultFound) (i_p0_faultPlace := i_p0_faultPlace) (i_p0_lines := i_p0_lines) (i_p0_met := z11) (i_p0_greatest := i_p0_greatest) (i_p0_rules_seats := i_p0_rules_seats) (i_p0_rules_stirs := i_p0_rules_stirs) (v_p0_rules_need := v_p0_rules_need) (v_p0_rules_kind := v_p0_rules_kind) (v_p0_rules_first := v_p0_rules_first) (v_p0_rules_second := v_p0_rules_second) (i_p0_state_seenDays := i_p0_state_seenDays) (i_p0_state_bone := i_p0_state_bone) (i_p0_state_king := i_p0_state_king) (i_p0_state_days := i_p0_state_days) (v_p0_state_pieces := v_p0_state_pieces) (v_p0_state_friends := v_p0_state_friends) (v_p0_state_spoons := v_p0_state_spoons) (v_p0_numbers := w28) (x1 := z7) (x2 := z23) (o_i_p0_lines := z30) (o_i_p0_greatest := z31) (o_i_p0_rules_seats := z32) (o_i_p0_rules_stirs := z33) (o_v_p0_rules_need := w34) (o_v_p0_rules_kind := w35) (o_v_p0_rules_first := w36) (o_v_p0_rules_second := w37) (o_i_p0_state_bone := z38) (o_i_p0_state_king := z39) (o_v_p0_state_pieces := w40) (o_v_p0_state_friends := w41) (o_v_p0_state_spoons := w42) (hf := hcall)) (cwV 2 hts gX10_readLine_X10_takeLine rfl rfl rfl (by decide +kernel) ⟨Nat.le_of_ble_eq_true rfl, Nat.le_of_ble_eq_true rfl⟩) (preG_V (ci := 10) (hP.sub [0, 3, 4, 5, 6, 7, 8, 9, 10, 11, 12] rfl) (hD.sub [0, 3, 4, 5, 6, 7, 8, 9, 10, 11, 12] rfl rfl) hK rfl rfl) rfl rfl hl.1 rfl (lv_room (Nat.le_of_ble_eq_true rfl)) dX10_readLine_100 ⟨Nat.le_of_ble_eq_true rfl, Nat.le_of_ble_eq_true rfl⟩) hP hD hS hA [0, 3, 4, 5, 6, 7, 8, 9, 10, 11, 12] [1, 2] [2, 0, 1, 3, 4, 5, 6, 7, 8, 9, 10, 11, 12] rfl rfl rfl (by decide) rfl rfl rfl (fun H locs hP hD hS => ?_)
        clear hcall
        refine lv_iconst (v := Int32.ofInt (1 : Int)) hx hb dX10_readLine_103 (by decide) ?_
        obtain ⟨rfl, rfl, rfl, rfl, rfl, rfl, rfl, rfl, rfl, rfl, rfl, rfl, rfl, rfl, rfl, rfl, rfl, rfl, rfl, rfl, rfl, rfl⟩ := ou22 hf
        rw [hQ]
        exact W.zret hx hb hr rfl (fun t ht hW => ⟨⟨_, (), rfl, rfl, by rw [ht]; exact hP, va_K.moved hW.alike hK, hD⟩, hS.F ht⟩) hS.2.2 dX10_readLine_104
      have hq := lq6_i hf
      clear hf
      obtain ⟨B49, eB49, NB49, hf⟩ := hq
      have hB49 : ∀ (n : Nat) (z43 : Int) (z44 : Int) (z45 : Int) (z46 : Int) (z47 : Int) (w48 : (Int → Int)) (ls : Array Slot) (H : Heap) (locs : List Loc), lv_has ls 4 [(3, .int (Int32.ofInt z43)), (1, .int (Int32.ofInt z7)), (0, .ref a_p0)] → va_P D vwCl [(a_p0, .inr (10, [.ref a_p0_tape, .ref a_p0_rules, .ref a_p0_state, .int (Int32.ofInt i_p0_faultFound), .int (Int32.ofInt i_p0_faultPlace), .int (Int32.ofInt i_p0_lines), .int (Int32.ofInt z11), .int (Int32.ofInt i_p0_greatest), .ref a_p0_numbers])), (a_p0_tape, .inr (9, [.ref a_p0_tape_bytes, .int (Int32.ofInt i_p0_tape_length), .int (Int32.ofInt z44), .int (Int32.ofInt z45), .int (Int32.ofInt z46), .int (Int32.ofInt z47)])), (a_p0_tape_bytes, .inl (G 0, 320, .inl (zA v_p0_tape_bytes))), (a_p0_rules, .inr (6, [.int (Int32.ofInt i_p0_rules_seats), .int (Int32.ofInt i_p0_rules_stirs), .ref a_p0_rules_need, .ref a_p0_rules_kind, .ref a_p0_rules_first, .ref a_p0_rules_second, .ref a_p0_rules_after])), (a_p0_rules_need, .inl (G 1, 7, .inl (zA v_p0_rules_need))), (a_p0_rules_kind, .inl (G 1, 5, .inl (zA v_p0_rules_kind))), (a_p0_rules_first, .inl (G 1, 5, .inl (zA v_p0_rules_first))), (a_p0_rules_second, .inl (G 1, 5, .inl (zA v_p0_rules_second))), (a_p0_state, .inr (8, [.ref a_p0_state_pieces, .ref a_p0_state_friends, .ref a_p0_state_spoons, .ref a_p0_state_eaten, .ref a_p0_state_seen, .int (Int32.ofInt i_p0_state_seenDays), .int (Int32.ofInt i_p0_state_bone), .int (Int32.ofInt i_p0_state_king), .int (Int32.ofInt i_p0_state_days)])), (a_p0_state_pieces, .inl (G 1, 7, .inl (zA v_p0_state_pieces))), (a_p0_state_friends, .inl (G 1, 7, .inl (zA v_p0_state_friends))), (a_p0_state_spoons, .inl (G 1, 7, .inl (zA v_p0_state_spoons))), (a_p0_numbers, .inl (G 1, 7, .inl (zA w48)))] H → va_D A [(a_p0, .inr (10, [.ref a_p0_tape, .ref a_p0_rules, .ref a_p0_state, .int (Int32.ofInt i_p0_faultFound), .int (Int32.ofInt i_p0_faultPlace), .int (Int32.ofInt i_p0_lines), .int (Int32.ofInt z11), .int (Int32.ofInt i_p0_greatest), .ref a_p0_numbers])), (a_p0_tape, .inr (9, [.ref a_p0_tape_bytes, .int (Int32.ofInt i_p0_tape_length), .int (Int32.ofInt z44), .int (Int32.ofInt z45), .int (Int32.ofInt z46), .int (Int32.ofInt z47)])), (a_p0_tape_bytes, .inl (G 0, 320, .inl (zA v_p0_tape_bytes))), (a_p0_rules, .inr (6, [.int (Int32.ofInt i_p0_rules_seats), .int (Int32.ofInt i_p0_rules_stirs), .ref a_p0_rules_need, .ref a_p0_rules_kind, .ref a_p0_rules_first, .ref a_p0_rules_second, .ref a_p0_rules_after])), (a_p0_rules_need, .inl (G 1, 7, .inl (zA v_p0_rules_need))), (a_p0_rules_kind, .inl (G 1, 5, .inl (zA v_p0_rules_kind))), (a_p0_rules_first, .inl (G 1, 5, .inl (zA v_p0_rules_first))), (a_p0_rules_second, .inl (G 1, 5, .inl (zA v_p0_rules_second))), (a_p0_state, .inr (8, [.ref a_p0_state_pieces, .ref a_p0_state_friends, .ref a_p0_state_spoons, .ref a_p0_state_eaten, .ref a_p0_state_seen, .int (Int32.ofInt i_p0_state_seenDays), .int (Int32.ofInt i_p0_state_bone), .int (Int32.ofInt i_p0_state_king), .int (Int32.ofInt i_p0_state_days)])), (a_p0_state_pieces, .inl (G 1, 7, .inl (zA v_p0_state_pieces))), (a_p0_state_friends, .inl (G 1, 7, .inl (zA v_p0_state_friends))), (a_p0_state_spoons, .inl (G 1, 7, .inl (zA v_p0_state_spoons))), (a_p0_numbers, .inl (G 1, 7, .inl (zA w48)))] → va_S A s.heap H locs → lq6 B49 n z43 z44 z45 z46 z47 w48 = some (r, o_i_p0_faultFound, o_i_p0_faultPlace, o_i_p0_lines, o_i_p0_met, o_i_p0_greatest, o_i_p0_tape_at, o_i_p0_tape_token, o_i_p0_tape_start, o_i_p0_tape_value, o_i_p0_rules_seats, o_i_p0_rules_stirs, o_v_p0_rules_need, o_v_p0_rules_kind, o_v_p0_rules_first, o_v_p0_rules_second, o_i_p0_state_bone, o_i_p0_state_king, o_v_p0_state_pieces, o_v_p0_state_friends, o_v_p0_state_spoons, o_v_p0_numbers) → W p l e rm_X10_readLine s m ([.ref a_p0] : List Value).toArray below meth c H locs 0 0 Q (F0 m 61 ls []) := by
        clear hf hl hP hD hS
        intro n
        induction n with
        | zero =>
          intro z43 z44 z45 z46 z47 w48 ls H locs hl hP hD hS hf
          exact (lq6_0 hf).elim
        | succ n ih61 =>
          intro z43 z44 z45 z46 z47 w48 ls H locs hl hP hD hS hf
          replace hf := lq6_s eB49 hf
          unfold B_X10_readLine_61 at hf
          refine lv_iload_n hx hb dX10_readLine_61 rfl (lv_at hl 0 rfl) ?_
          refine va_gets (C := "LadleKings$TextReader") (n := "MOST") (d := "[I") (v := .ref (adT 1)) hx hb (hE.1 1 (by decide)).1 hS hown (hts _ mwX10_readLine_6) (fun _ h9 => h9) dX10_readLine_62 ?_
          refine lv_iload_n hx hb dX10_readLine_65 rfl (lv_at hl 1 rfl) ?_
          have hc := ck_c hf
          replace hf := ck_r hf
          refine va_ti (v := .int (Int32.ofInt (z_T 1 z7))) hx hb (hE.1 1 (by decide)).2 hS (z_ix_in hc) (z_T_e 1 hc) dX10_readLine_66 ?_
          clear hc
          have hr49 := ck_c hf
          replace hf := ck_r hf
          have hr50 := ck_c hf
          replace hf := ck_r hf
          refine lv_icmp_gt (tgt := 148) hx hb dX10_readLine_67 (by decide) (fun cc => ?_) (fun cc => ?_)
          ·
            replace hf := ite_t ((z_lt hr50 hr49).mp cc) hf
            clear cc
            refine lv_iconst (v := Int32.ofInt (0 : Int)) hx hb dX10_readLine_148 (by decide) ?_
            obtain ⟨rfl, rfl, rfl, rfl, rfl, rfl, rfl, rfl, rfl, rfl, rfl, rfl, rfl, rfl, rfl, rfl, rfl, rfl, rfl, rfl, rfl, rfl⟩ := ou22 hf
            rw [hQ]
            exact W.zret hx hb hr rfl (fun t ht hW => ⟨⟨_, (), rfl, rfl, by rw [ht]; exact hP, va_K.moved hW.alike hK, hD⟩, hS.F ht⟩) hS.2.2 dX10_readLine_149
          ·
            replace hf := ite_f (fun h9 => cc ((z_lt hr50 hr49).mpr h9)) hf
            clear cc
            refine lv_aload_n hx hb dX10_readLine_70 rfl (lv_at hl 2 rfl) ?_
            refine va_get (D := D) (ci := 10) (v := .ref a_p0_tape) (C := RX10) (T := TX10) (N := 9) hx hb hts inX10_readLine_X10 hown hK hP 0 rfl rfl 0 (by decide) (hts _ mwX10_readLine_1) (fun _ h9 => h9) rfl dX10_readLine_71 ?_
            have hq := bd4_s hf
            clear hf
            obtain ⟨z52, z53, z54, z55, hcall, hf⟩ := hq
            refine gcV (ws' := [(a_p0, .inr (10, [.ref a_p0_tape, .ref a_p0_rules, .ref a_p0_state, .int (Int32.ofInt i_p0_faultFound), .int (Int32.ofInt i_p0_faultPlace), .int (Int32.ofInt i_p0_lines), .int (Int32.ofInt z11), .int (Int32.ofInt i_p0_greatest), .ref a_p0_numbers])), (a_p0_tape, .inr (9, [.ref a_p0_tape_bytes, .int (Int32.ofInt i_p0_tape_length), .int (Int32.ofInt z52), .int (Int32.ofInt z53), .int (Int32.ofInt z54), .int (Int32.ofInt z55)])), (a_p0_tape_bytes, .inl (G 0, 320, .inl (zA v_p0_tape_bytes))), (a_p0_rules, .inr (6, [.int (Int32.ofInt i_p0_rules_seats), .int (Int32.ofInt i_p0_rules_stirs), .ref a_p0_rules_need, .ref a_p0_rules_kind, .ref a_p0_rules_first, .ref a_p0_rules_second, .ref a_p0_rules_after])), (a_p0_rules_need, .inl (G 1, 7, .inl (zA v_p0_rules_need))), (a_p0_rules_kind, .inl (G 1, 5, .inl (zA v_p0_rules_kind))), (a_p0_rules_first, .inl (G 1, 5, .inl (zA v_p0_rules_first))), (a_p0_rules_second, .inl (G 1, 5, .inl (zA v_p0_rules_second))), (a_p0_state, .inr (8, [.ref a_p0_state_pieces, .ref a_p0_state_friends, .ref a_p0_state_spoons, .ref a_p0_state_eaten, .ref a_p0_state_seen, .int (Int32.ofInt i_p0_state_seenDays), .int (Int32.ofInt i_p0_state_bone), .int (Int32.ofInt i_p0_state_king), .int (Int32.ofInt i_p0_state_days)])), (a_p0_state_pieces, .inl (G 1, 7, .inl (zA v_p0_state_pieces))), (a_p0_state_friends, .inl (G 1, 7, .inl (zA v_p0_state_friends))), (a_p0_state_spoons, .inl (G 1, 7, .inl (zA v_p0_state_spoons))), (a_p0_numbers, .inl (G 1, 7, .inl (zA w48)))]) (va_runV (As := []) (rest := []) ⟨hx, hb, hml, hown, hts⟩ (c_X9_readToken (l := l) (D := D) (G := G) (sz := H.size) (a_p0 := a_p0_tape) (a_p0_bytes := a_p0_tape_bytes) (i_p0_length := i_p0_tape_length) (i_p0_at := z44) (i_p0_token := z45) (i_p0_start := z46) (i_p0_value := z47) (v_p0_bytes := v_p0_tape_bytes) (o_i_p0_at := z52) (o_i_p0_token := z53) (o_i_p0_start := z54) (o_i_p0_value := z55) (hf := hcall)) (cwV 0 hts gX10_readLine_X9_readToken rfl rfl rfl (by decide +kernel) ⟨Nat.le_of_ble_eq_true rfl, Nat.le_of_ble_eq_true rfl⟩) (preG_V (ci := 9) (hP.sub [1, 2] rfl) (hD.sub [1, 2] rfl rfl) hK rfl rfl) rfl rfl hl.1 rfl (lv_room (Nat.le_of_ble_eq_true rfl)) dX10_readLine_74 ⟨Nat.le_of_ble_eq_true rfl, Nat.le_of_ble_eq_true rfl⟩) hP hD hS hA [1, 2] [0, 3, 4, 5, 6, 7, 8, 9, 10, 11, 12] [0, 11, 12, 1, 2, 3, 4, 5, 6, 7, 8, 9, 10] rfl rfl rfl (by decide) rfl rfl rfl (fun H locs hP hD hS => ?_)
            clear hcall
            refine lv_aload_n hx hb dX10_readLine_77 rfl (lv_at hl 2 rfl) ?_
            refine va_get (D := D) (ci := 10) (v := .ref a_p0_tape) (C := RX10) (T := TX10) (N := 9) hx hb hts inX10_readLine_X10 hown hK hP 0 rfl rfl 0 (by decide) (hts _ mwX10_readLine_1) (fun _ h9 => h9) rfl dX10_readLine_78 ?_
            refine va_get (D := D) (ci := 9) (v := .int (Int32.ofInt z53)) (C := RX9) (T := TX9) (N := 6) hx hb hts inX10_readLine_X9 hown hK hP 1 rfl rfl 3 (by decide) (hts _ mwX10_readLine_3) (fun _ h9 => h9) rfl dX10_readLine_81 ?_
            refine lv_iconst (v := Int32.ofInt (3 : Int)) hx hb dX10_readLine_84 (by decide) ?_
            have hr55 := ck_c hf
            replace hf := ck_r hf
            have hq := jn_i hf
            clear hf
            obtain ⟨J57, eJ57, hf⟩ := hq
            have hJ57 : ∀  (ls : Array Slot) (H : Heap) (locs : List Loc), lv_has ls 4 [(3, .int (Int32.ofInt z43)), (1, .int (Int32.ofInt z7)), (0, .ref a_p0)] → va_P D vwCl [(a_p0, .inr (10, [.ref a_p0_tape, .ref a_p0_rules, .ref a_p0_state, .int (Int32.ofInt i_p0_faultFound), .int (Int32.ofInt i_p0_faultPlace), .int (Int32.ofInt i_p0_lines), .int (Int32.ofInt z11), .int (Int32.ofInt i_p0_greatest), .ref a_p0_numbers])), (a_p0_tape, .inr (9, [.ref a_p0_tape_bytes, .int (Int32.ofInt i_p0_tape_length), .int (Int32.ofInt z52), .int (Int32.ofInt z53), .int (Int32.ofInt z54), .int (Int32.ofInt z55)])), (a_p0_tape_bytes, .inl (G 0, 320, .inl (zA v_p0_tape_bytes))), (a_p0_rules, .inr (6, [.int (Int32.ofInt i_p0_rules_seats), .int (Int32.ofInt i_p0_rules_stirs), .ref a_p0_rules_need, .ref a_p0_rules_kind, .ref a_p0_rules_first, .ref a_p0_rules_second, .ref a_p0_rules_after])), (a_p0_rules_need, .inl (G 1, 7, .inl (zA v_p0_rules_need))), (a_p0_rules_kind, .inl (G 1, 5, .inl (zA v_p0_rules_kind))), (a_p0_rules_first, .inl (G 1, 5, .inl (zA v_p0_rules_first))), (a_p0_rules_second, .inl (G 1, 5, .inl (zA v_p0_rules_second))), (a_p0_state, .inr (8, [.ref a_p0_state_pieces, .ref a_p0_state_friends, .ref a_p0_state_spoons, .ref a_p0_state_eaten, .ref a_p0_state_seen, .int (Int32.ofInt i_p0_state_seenDays), .int (Int32.ofInt i_p0_state_bone), .int (Int32.ofInt i_p0_state_king), .int (Int32.ofInt i_p0_state_days)])), (a_p0_state_pieces, .inl (G 1, 7, .inl (zA v_p0_state_pieces))), (a_p0_state_friends, .inl (G 1, 7, .inl (zA v_p0_state_friends))), (a_p0_state_spoons, .inl (G 1, 7, .inl (zA v_p0_state_spoons))), (a_p0_numbers, .inl (G 1, 7, .inl (zA w48)))] H → va_D A [(a_p0, .inr (10, [.ref a_p0_tape, .ref a_p0_rules, .ref a_p0_state, .int (Int32.ofInt i_p0_faultFound), .int (Int32.ofInt i_p0_faultPlace), .int (Int32.ofInt i_p0_lines), .int (Int32.ofInt z11), .int (Int32.ofInt i_p0_greatest), .ref a_p0_numbers])), (a_p0_tape, .inr (9, [.ref a_p0_tape_bytes, .int (Int32.ofInt i_p0_tape_length), .int (Int32.ofInt z52), .int (Int32.ofInt z53), .int (Int32.ofInt z54), .int (Int32.ofInt z55)])), (a_p0_tape_bytes, .inl (G 0, 320, .inl (zA v_p0_tape_bytes))), (a_p0_rules, .inr (6, [.int (Int32.ofInt i_p0_rules_seats), .int (Int32.ofInt i_p0_rules_stirs), .ref a_p0_rules_need, .ref a_p0_rules_kind, .ref a_p0_rules_first, .ref a_p0_rules_second, .ref a_p0_rules_after])), (a_p0_rules_need, .inl (G 1, 7, .inl (zA v_p0_rules_need))), (a_p0_rules_kind, .inl (G 1, 5, .inl (zA v_p0_rules_kind))), (a_p0_rules_first, .inl (G 1, 5, .inl (zA v_p0_rules_first))), (a_p0_rules_second, .inl (G 1, 5, .inl (zA v_p0_rules_second))), (a_p0_state, .inr (8, [.ref a_p0_state_pieces, .ref a_p0_state_friends, .ref a_p0_state_spoons, .ref a_p0_state_eaten, .ref a_p0_state_seen, .int (Int32.ofInt i_p0_state_seenDays), .int (Int32.ofInt i_p0_state_bone), .int (Int32.ofInt i_p0_state_king), .int (Int32.ofInt i_p0_state_days)])), (a_p0_state_pieces, .inl (G 1, 7, .inl (zA v_p0_state_pieces))), (a_p0_state_friends, .inl (G 1, 7, .inl (zA v_p0_state_friends))), (a_p0_state_spoons, .inl (G 1, 7, .inl (zA v_p0_state_spoons))), (a_p0_numbers, .inl (G 1, 7, .inl (zA w48)))] → va_S A s.heap H locs → J57  = some (r, o_i_p0_faultFound, o_i_p0_faultPlace, o_i_p0_lines, o_i_p0_met, o_i_p0_greatest, o_i_p0_tape_at, o_i_p0_tape_token, o_i_p0_tape_start, o_i_p0_tape_value, o_i_p0_rules_seats, o_i_p0_rules_stirs, o_v_p0_rules_need, o_v_p0_rules_kind, o_v_p0_rules_first, o_v_p0_rules_second, o_i_p0_state_bone, o_i_p0_state_king, o_v_p0_state_pieces, o_v_p0_state_friends, o_v_p0_state_spoons, o_v_p0_numbers) → W p l e rm_X10_readLine s m ([.ref a_p0] : List Value).toArray below meth c H locs 0 0 Q (F0 m 105 ls []) := by
              clear hf hl hP hD hS
              intro  ls H locs hl hP hD hS hf
              replace hf := jn0_s eJ57 hf
              refine lv_aload_n hx hb dX10_readLine_105 rfl (lv_at hl 2 rfl) ?_
              refine lv_iload_n hx hb dX10_readLine_106 rfl (lv_at hl 1 rfl) ?_
              refine lv_iload_n hx hb dX10_readLine_107 rfl (lv_at hl 0 rfl) ?_
              have hq := bd1_s hf
              clear hf
              obtain ⟨z58, hcall, hf⟩ := hq
              refine gcI (ws' := [(a_p0, .inr (10, [.ref a_p0_tape, .ref a_p0_rules, .ref a_p0_state, .int (Int32.ofInt i_p0_faultFound), .int (Int32.ofInt i_p0_faultPlace), .int (Int32.ofInt i_p0_lines), .int (Int32.ofInt z11), .int (Int32.ofInt i_p0_greatest), .ref a_p0_numbers])), (a_p0_tape, .inr (9, [.ref a_p0_tape_bytes, .int (Int32.ofInt i_p0_tape_length), .int (Int32.ofInt z52), .int (Int32.ofInt z53), .int (Int32.ofInt z54), .int (Int32.ofInt z55)])), (a_p0_tape_bytes, .inl (G 0, 320, .inl (zA v_p0_tape_bytes))), (a_p0_rules, .inr (6, [.int (Int32.ofInt i_p0_rules_seats), .int (Int32.ofInt i_p0_rules_stirs), .ref a_p0_rules_need, .ref a_p0_rules_kind, .ref a_p0_rules_first, .ref a_p0_rules_second, .ref a_p0_rules_after])), (a_p0_rules_need, .inl (G 1, 7, .inl (zA v_p0_rules_need))), (a_p0_rules_kind, .inl (G 1, 5, .inl (zA v_p0_rules_kind))), (a_p0_rules_first, .inl (G 1, 5, .inl (zA v_p0_rules_first))), (a_p0_rules_second, .inl (G 1, 5, .inl (zA v_p0_rules_second))), (a_p0_state, .inr (8, [.ref a_p0_state_pieces, .ref a_p0_state_friends, .ref a_p0_state_spoons, .ref a_p0_state_eaten, .ref a_p0_state_seen, .int (Int32.ofInt i_p0_state_seenDays), .int (Int32.ofInt i_p0_state_bone), .int (Int32.ofInt i_p0_state_king), .int (Int32.ofInt i_p0_state_days)])), (a_p0_state_pieces, .inl (G 1, 7, .inl (zA v_p0_state_pieces))), (a_p0_state_friends, .inl (G 1, 7, .inl (zA v_p0_state_friends))), (a_p0_state_spoons, .inl (G 1, 7, .inl (zA v_p0_state_spoons))), (a_p0_numbers, .inl (G 1, 7, .inl (zA w48)))]) (va_runV (As := [.int (Int32.ofInt z7), .int (Int32.ofInt z43)]) (rest := []) ⟨hx, hb, hml, hown, hts⟩ (c_X10_faultOfNumber (l := l) (D := D) (G := G) (sz := H.size) (adT := adT) (adK := adK) (adV := adV) (a_p0 := a_p0) (a_p0_tape := a_p0_tape) (a_p0_rules := a_p0_rules) (a_p0_state := a_p0_state) (a_p0_numbers := a_p0_numbers) (a_p0_tape_bytes := a_p0_tape_bytes) (a_p0_state_pieces := a_p0_state_pieces) (a_p0_state_friends := a_p0_state_friends) (a_p0_state_spoons := a_p0_state_spoons) (a_p0_state_eaten := a_p0_state_eaten) (a_p0_state_seen := a_p0_state_seen) (i_p0_faultFound := i_p0_faultFound) (i_p0_faultPlace := i_p0_faultPlace) (i_p0_lines := i_p0_lines) (i_p0_met := z11) (i_p0_greatest := i_p0_greatest) (i_p0_tape_length := i_p0_tape_length) (i_p0_tape_at := z52) (i_p0_tape_token := z53) (i_p0_tape_start := z54) (i_p0_tape_value := z55) (i_p0_state_seenDays := i_p0_state_seenDays) (i_p0_state_bone := i_p0_state_bone) (i_p0_state_king := i_p0_state_king) (i_p0_state_days := i_p0_state_days) (v_p0_state_friends := v_p0_state_friends) (v_p0_numbers := w48) (x1 := z7) (x2 := z43) (r := z58) (hf := hcall)) (cwV 2 hts gX10_readLine_X10_faultOfNumber rfl rfl rfl (by decide +kernel) ⟨Nat.le_of_ble_eq_true rfl, Nat.le_of_ble_eq_true rfl⟩) (preGE_V (ci := 10) (hP.sub [0, 1, 8, 10, 12] rfl) (hD.sub [0, 1, 8, 10, 12] rfl rfl) hK rfl rfl hE hS hA) rfl rfl hl.1 rfl (lv_room (Nat.le_of_ble_eq_true rfl)) dX10_readLine_108 ⟨Nat.le_of_ble_eq_true rfl, Nat.le_of_ble_eq_true rfl⟩) hP hD hS hA [0, 1, 8, 10, 12] [2, 3, 4, 5, 6, 7, 9, 11] [8, 9, 0, 1, 2, 3, 4, 5, 10, 6, 11, 7, 12] rfl rfl rfl (by decide) rfl rfl rfl (fun H locs hP hD hS => ?_)
              clear hcall
              refine z_topi (fun z59 ez => ?_)
              replace hf := bnd_s hf ez
              clear ez
              refine lv_istore_n (lv' := [(2, .int (Int32.ofInt z59)), (3, .int (Int32.ofInt z43)), (1, .int (Int32.ofInt z7)), (0, .ref a_p0)]) hx hb dX10_readLine_111 rfl hl (by decide) rfl (fun ls hl => ?_)
              refine lv_iload_n hx hb dX10_readLine_112 rfl (lv_at hl 0 rfl) ?_
              have hr59 := ck_c hf
              replace hf := ck_r hf
              refine lv_if_eq (tgt := 129) hx hb dX10_readLine_113 (by decide) (fun cc => ?_) (fun cc => ?_)
              ·
                replace hf := ite_t ((z_eq0 hr59).mp cc) hf
                clear cc
                refine lv_aload_n hx hb dX10_readLine_129 rfl (lv_at hl 3 rfl) ?_
                refine va_get (D := D) (ci := 10) (v := .ref a_p0_numbers) (C := RX10) (T := TX10) (N := 9) hx hb hts inX10_readLine_X10 hown hK hP 0 rfl rfl 8 (by decide) (hts _ mwX10_readLine_7) (fun _ h9 => h9) rfl dX10_readLine_130 ?_
                refine lv_iload_n hx hb dX10_readLine_133 rfl (lv_at hl 1 rfl) ?_
                refine lv_aload_n hx hb dX10_readLine_134 rfl (lv_at hl 3 rfl) ?_
                refine va_get (D := D) (ci := 10) (v := .ref a_p0_tape) (C := RX10) (T := TX10) (N := 9) hx hb hts inX10_readLine_X10 hown hK hP 0 rfl rfl 0 (by decide) (hts _ mwX10_readLine_1) (fun _ h9 => h9) rfl dX10_readLine_135 ?_
                refine va_get (D := D) (ci := 9) (v := .int (Int32.ofInt z55)) (C := RX9) (T := TX9) (N := 6) hx hb hts inX10_readLine_X9 hown hK hP 1 rfl rfl 5 (by decide) (hts _ mwX10_readLine_8) (fun _ h9 => h9) rfl dX10_readLine_138 ?_
                have hc := ck_c hf
                replace hf := ck_r hf
                refine zs_iast (wf := fun w61 => [(a_p0, .inr (10, [.ref a_p0_tape, .ref a_p0_rules, .ref a_p0_state, .int (Int32.ofInt i_p0_faultFound), .int (Int32.ofInt i_p0_faultPlace), .int (Int32.ofInt i_p0_lines), .int (Int32.ofInt z11), .int (Int32.ofInt i_p0_greatest), .ref a_p0_numbers])), (a_p0_tape, .inr (9, [.ref a_p0_tape_bytes, .int (Int32.ofInt i_p0_tape_length), .int (Int32.ofInt z52), .int (Int32.ofInt z53), .int (Int32.ofInt z54), .int (Int32.ofInt z55)])), (a_p0_tape_bytes, .inl (G 0, 320, .inl (zA v_p0_tape_bytes))), (a_p0_rules, .inr (6, [.int (Int32.ofInt i_p0_rules_seats), .int (Int32.ofInt i_p0_rules_stirs), .ref a_p0_rules_need, .ref a_p0_rules_kind, .ref a_p0_rules_first, .ref a_p0_rules_second, .ref a_p0_rules_after])), (a_p0_rules_need, .inl (G 1, 7, .inl (zA v_p0_rules_need))), (a_p0_rules_kind, .inl (G 1, 5, .inl (zA v_p0_rules_kind))), (a_p0_rules_first, .inl (G 1, 5, .inl (zA v_p0_rules_first))), (a_p0_rules_second, .inl (G 1, 5, .inl (zA v_p0_rules_second))), (a_p0_state, .inr (8, [.ref a_p0_state_pieces, .ref a_p0_state_friends, .ref a_p0_state_spoons, .ref a_p0_state_eaten, .ref a_p0_state_seen, .int (Int32.ofInt i_p0_state_seenDays), .int (Int32.ofInt i_p0_state_bone), .int (Int32.ofInt i_p0_state_king), .int (Int32.ofInt i_p0_state_days)])), (a_p0_state_pieces, .inl (G 1, 7, .inl (zA v_p0_state_pieces))), (a_p0_state_friends, .inl (G 1, 7, .inl (zA v_p0_state_friends))), (a_p0_state_spoons, .inl (G 1, 7, .inl (zA v_p0_state_spoons))), (a_p0_numbers, .inl (G 1, 7, .inl (zA w61)))]) hx hb hK hP hD hS 12 1 rfl rfl hc dX10_readLine_141 (fun _ => rfl) (fun w61 ez H locs hP hD hS => ?_)
                replace hf := bnd_s hf ez
                clear ez hc
                obtain ⟨z62, ez⟩ : ∃ y : Int, y = (z43 + (1 : Int)) := ⟨_, rfl⟩
                replace hf := bnd_s hf ez
                refine lv_iinc (v := Int32.ofInt z62) (lv' := [(3, .int (Int32.ofInt z62)), (2, .int (Int32.ofInt z59)), (1, .int (Int32.ofInt z7)), (0, .ref a_p0)]) hx hb dX10_readLine_142 hl (k := 1) rfl (by rw [ez]; exact (Int32.ofInt_add _ _).symm) (by decide) rfl (fun ls hl => ?_)
                clear ez
                refine lv_goto (tgt := 61) hx hb dX10_readLine_145 (by decide) ?_
                exact ih61 _ _ _ _ _ _ _ _ _ (lv_sub hl [0, 2, 3] rfl) hP hD hS hf
              ·
                replace hf := ite_f (fun h9 => cc ((z_eq0 hr59).mpr h9)) hf
                clear cc
                exact hJ19 _ _ _ _ _ _ _ _ _ (lv_sub hl [0, 3] rfl) hP hD hS hf
            refine lv_icmp_ne (tgt := 105) hx hb dX10_readLine_85 (by decide) (fun cc => ?_) (fun cc => ?_)
            ·
              replace hf := ite_f (fun h9 => cc ((z_eq hr55 (by decide)).mpr h9)) hf
              clear cc
              exact hJ57  _ _ _ (lv_sub hl [0, 1, 2] rfl) hP hD hS hf
            ·
              replace hf := ite_t ((z_eq hr55 (by decide)).mp cc) hf
              clear cc
              refine lv_iload_n hx hb dX10_readLine_88 rfl (lv_at hl 0 rfl) ?_
              refine va_gets (C := "LadleKings$TextReader") (n := "FEWEST") (d := "[I") (v := .ref (adT 0)) hx hb (hE.1 0 (by decide)).1 hS hown (hts _ mwX10_readLine_9) (fun _ h9 => h9) dX10_readLine_89 ?_
              refine lv_iload_n hx hb dX10_readLine_92 rfl (lv_at hl 1 rfl) ?_
              have hc := ck_c hf
              replace hf := ck_r hf
              refine va_ti (v := .int (Int32.ofInt (z_T 0 z7))) hx hb (hE.1 0 (by decide)).2 hS (z_ix_in hc) (z_T_e 0 hc) dX10_readLine_93 ?_
              clear hc
              have hr62 := ck_c hf
              replace hf := ck_r hf
              refine lv_icmp_lt (tgt := 105) hx hb dX10_readLine_94 (by decide) (fun cc => ?_) (fun cc => ?_)
              ·
                replace hf := ite_t ((z_lt hr49 hr62).mp cc) hf
                clear cc
                exact hJ57  _ _ _ (lv_sub hl [0, 1, 2] rfl) hP hD hS hf
              ·
                replace hf := ite_f (fun h9 => cc ((z_lt hr49 hr62).mpr h9)) hf
                clear cc
                exact hJ29 _ _ _ _ _ _ _ _ _ (lv_sub hl [0, 1, 2] rfl) hP hD hS hf
      exact hB49 _ _ _ _ _ _ _ _ _ _ (lv_sub hl [0, 2, 3] rfl) hP hD hS hf
    ·
      replace hf := ite_f (fun h9 => cc ((z_eq0 hr9).mpr h9)) hf
      clear cc
      refine lv_aload_n hx hb dX10_readLine_34 rfl (lv_at hl 2 rfl) ?_
      refine lv_iload_n hx hb dX10_readLine_35 rfl (lv_at hl 0 rfl) ?_
      refine lv_aload_n hx hb dX10_readLine_36 rfl (lv_at hl 2 rfl) ?_
      refine va_get (D := D) (ci := 10) (v := .ref a_p0_tape) (C := RX10) (T := TX10) (N := 9) hx hb hts inX10_readLine_X10 hown hK hP 0 rfl rfl 0 (by decide) (hts _ mwX10_readLine_1) (fun _ h9 => h9) rfl dX10_readLine_37 ?_
      refine va_get (D := D) (ci := 9) (v := .int (Int32.ofInt z3)) (C := RX9) (T := TX9) (N := 6) hx hb hts inX10_readLine_X9 hown hK hP 1 rfl rfl 4 (by decide) (hts _ mwX10_readLine_5) (fun _ h9 => h9) rfl dX10_readLine_40 ?_
      have hq := bd3_s hf
      clear hf
      obtain ⟨z64, z65, z66, hcall, hf⟩ := hq
      refine gcI (ws' := [(a_p0, .inr (10, [.ref a_p0_tape, .ref a_p0_rules, .ref a_p0_state, .int (Int32.ofInt z65), .int (Int32.ofInt z66), .int (Int32.ofInt i_p0_lines), .int (Int32.ofInt i_p0_met), .int (Int32.ofInt i_p0_greatest), .ref a_p0_numbers])), (a_p0_tape, .inr (9, [.ref a_p0_tape_bytes, .int (Int32.ofInt i_p0_tape_length), .int (Int32.ofInt z1), .int (Int32.ofInt z2), .int (Int32.ofInt z3), .int (Int32.ofInt z4)])), (a_p0_tape_bytes, .inl (G 0, 320, .inl (zA v_p0_tape_bytes))), (a_p0_rules, .inr (6, [.int (Int32.ofInt i_p0_rules_seats), .int (Int32.ofInt i_p0_rules_stirs), .ref a_p0_rules_need, .ref a_p0_rules_kind, .ref a_p0_rules_first, .ref a_p0_rules_second, .ref a_p0_rules_after])), (a_p0_rules_need, .inl (G 1, 7, .inl (zA v_p0_rules_need))), (a_p0_rules_kind, .inl (G 1, 5, .inl (zA v_p0_rules_kind))), (a_p0_rules_first, .inl (G 1, 5, .inl (zA v_p0_rules_first))), (a_p0_rules_second, .inl (G 1, 5, .inl (zA v_p0_rules_second))), (a_p0_state, .inr (8, [.ref a_p0_state_pieces, .ref a_p0_state_friends, .ref a_p0_state_spoons, .ref a_p0_state_eaten, .ref a_p0_state_seen, .int (Int32.ofInt i_p0_state_seenDays), .int (Int32.ofInt i_p0_state_bone), .int (Int32.ofInt i_p0_state_king), .int (Int32.ofInt i_p0_state_days)])), (a_p0_state_pieces, .inl (G 1, 7, .inl (zA v_p0_state_pieces))), (a_p0_state_friends, .inl (G 1, 7, .inl (zA v_p0_state_friends))), (a_p0_state_spoons, .inl (G 1, 7, .inl (zA v_p0_state_spoons))), (a_p0_numbers, .inl (G 1, 7, .inl (zA v_p0_numbers)))]) (va_runV (As := [.int (Int32.ofInt z9), .int (Int32.ofInt z3)]) (rest := []) ⟨hx, hb, hml, hown, hts⟩ (c_X10_refuse (l := l) (D := D) (G := G) (sz := H.size) (a_p0 := a_p0) (a_p0_tape := a_p0_tape) (a_p0_rules := a_p0_rules) (a_p0_state := a_p0_state) (a_p0_numbers := a_p0_numbers) (i_p0_faultFound := i_p0_faultFound) (i_p0_faultPlace := i_p0_faultPlace) (i_p0_lines := i_p0_lines) (i_p0_met := i_p0_met) (i_p0_greatest := i_p0_greatest) (x1 := z9) (x2 := z3) (r := z64) (o_i_p0_faultFound := z65) (o_i_p0_faultPlace := z66) (hf := hcall)) (cwV 2 hts gX10_readLine_X10_refuse rfl rfl rfl (by decide +kernel) ⟨Nat.le_of_ble_eq_true rfl, Nat.le_of_ble_eq_true rfl⟩) (preG_V (ci := 10) (hP.sub [0] rfl) (hD.sub [0] rfl rfl) hK rfl rfl) rfl rfl hl.1 rfl (lv_room (Nat.le_of_ble_eq_true rfl)) dX10_readLine_43 ⟨Nat.le_of_ble_eq_true rfl, Nat.le_of_ble_eq_true rfl⟩) hP hD hS hA [0] [1, 2, 3, 4, 5, 6, 7, 8, 9, 10, 11, 12] [12, 0, 1, 2, 3, 4, 5, 6, 7, 8, 9, 10, 11] rfl rfl rfl (by decide) rfl rfl rfl (fun H locs hP hD hS => ?_)
      clear hcall
      have hz := ck_c hf
      replace hf := ck_r hf
      obtain ⟨rfl, rfl, rfl, rfl, rfl, rfl, rfl, rfl, rfl, rfl, rfl, rfl, rfl, rfl, rfl, rfl, rfl, rfl, rfl, rfl, rfl, rfl⟩ := ou22 hf
      rw [hQ]
      exact W.zret hx hb hr (z_bn hz) (fun t ht hW => ⟨⟨_, (), rfl, rfl, by rw [ht]; exact hP, va_K.moved hW.alike hK, hD⟩, hS.F ht⟩) hS.2.2 dX10_readLine_46
  ·
    replace hf := ite_t ((z_eq0 hr4).mp cc) hf
    clear cc
    refine lv_iconst (v := Int32.ofInt (0 : Int)) hx hb dX10_readLine_17 (by decide) ?_
    obtain ⟨rfl, rfl, rfl, rfl, rfl, rfl, rfl, rfl, rfl, rfl, rfl, rfl, rfl, rfl, rfl, rfl, rfl, rfl, rfl, rfl, rfl, rfl⟩ := ou22 hf
    rw [hQ]
    exact W.zret hx hb hr rfl (fun t ht hW => ⟨⟨_, (), rfl, rfl, by rw [ht]; exact hP, va_K.moved hW.alike hK, hD⟩, hS.F ht⟩) hS.2.2 dX10_readLine_18

noncomputable def B_X10_readTape_8 (J40 : Int → Int → Int → Int → Int → Int → Int → Int → Int → Int → Int → (Int → Int) → (Int → Int) → (Int → Int) → (Int → Int) → Int → Int → (Int → Int) → (Int → Int) → (Int → Int) → (Int → Int) → Option (Int × Int × Int × Int × Int × Int × Int × Int × Int × Int × Int × Int × (Int → Int) × (Int → Int) × (Int → Int) × (Int → Int) × (Int → Int) × Int × Int × Int × Int × (Int → Int) × (Int → Int) × (Int → Int) × (Int → Int) × (Int → Int))) (i_p0_tape_length : Int) (v_p0_tape_bytes : (Int → Int)) (again8 : Int → Int → Int → Int → Int → Int → Int → Int → Int → Int → Int → Int → Int → (Int → Int) → (Int → Int) → (Int → Int) → (Int → Int) → Int → Int → (Int → Int) → (Int → Int) → (Int → Int) → (Int → Int) → Option (Int × Int × Int × Int × Int × Int × Int × Int × Int × Int × Int × Int × (Int → Int) × (Int → Int) × (Int → Int) × (Int → Int) × (Int → Int) × Int × Int × Int × Int × (Int → Int) × (Int → Int) × (Int → Int) × (Int → Int) × (Int → Int))) (z52 : Int) (z53 : Int) (z54 : Int) (z55 : Int) (z56 : Int) (z57 : Int) (z58 : Int) (z59 : Int) (z60 : Int) (z61 : Int) (z62 : Int) (z63 : Int) (z64 : Int) (w65 : (Int → Int)) (w66 : (Int → Int)) (w67 : (Int → Int)) (w68 : (Int → Int)) (z69 : Int) (z70 : Int) (w71 : (Int → Int)) (w72 : (Int → Int)) (w73 : (Int → Int)) (w74 : (Int → Int)) : Option (Int × Int × Int × Int × Int × Int × Int × Int × Int × Int × Int × Int × (Int → Int) × (Int → Int) × (Int → Int) × (Int → Int) × (Int → Int) × Int × Int × Int × Int × (Int → Int) × (Int → Int) × (Int → Int) × (Int → Int) × (Int → Int)) := (ck (z_r32 z52) (if (320 : Int) < z52 then (J40 z54 z55 z56 z57 z58 z59 z60 z61 z62 z63 z64 w65 w66 w67 w68 z69 z70 w71 w72 w73 w74) else (ck (z_r32 z53) (if z53 = (0 : Int) then (J40 z54 z55 z56 z57 z58 z59 z60 z61 z62 z63 z64 w65 w66 w67 w68 z69 z70 w71 w72 w73 w74) else (bd22 (f_X10_readLine z54 z55 z56 z57 z58 i_p0_tape_length z59 z62 v_p0_tape_bytes z63 z64 w65 w66 w67 w68 z69 z70 w71 w72 w73 w74) (fun (z78 : Int) (z79 : Int) (z80 : Int) (z81 : Int) (z82 : Int) (z83 : Int) (z84 : Int) (z85 : Int) (z86 : Int) (z87 : Int) (z88 : Int) (z89 : Int) (w90 : (Int → Int)) (w91 : (Int → Int)) (w92 : (Int → Int)) (w93 : (Int → Int)) (z94 : Int) (z95 : Int) (w96 : (Int → Int)) (w97 : (Int → Int)) (w98 : (Int → Int)) (w99 : (Int → Int)) => (bnd z78 (fun (z100 : Int) => (bnd (z52 + (1 : Int)) (fun (z101 : Int) => (again8 z101 z100 z79 z80 z81 z82 z83 z84 z85 z86 z87 z88 z89 w90 w91 w92 w93 z94 z95 w96 w97 w98 w99)))))))))))
noncomputable def f_X10_readTape (i_p0_faultPlace : Int) (i_p0_tape_length : Int) (i_p0_tape_token : Int) (i_p0_tape_start : Int) (i_p0_tape_value : Int) (v_p0_tape_bytes : (Int → Int)) (v_p0_rules_need : (Int → Int)) (v_p0_rules_kind : (Int → Int)) (v_p0_rules_first : (Int → Int)) (v_p0_rules_second : (Int → Int)) (v_p0_rules_after : (Int → Int)) (v_p0_state_pieces : (Int → Int)) (v_p0_state_friends : (Int → Int)) (v_p0_state_spoons : (Int → Int)) (v_p0_state_eaten : (Int → Int)) (v_p0_numbers : (Int → Int)) : Option (Int × Int × Int × Int × Int × Int × Int × Int × Int × Int × Int × Int × (Int → Int) × (Int → Int) × (Int → Int) × (Int → Int) × (Int → Int) × Int × Int × Int × Int × (Int → Int) × (Int → Int) × (Int → Int) × (Int → Int) × (Int → Int)) := (bd16 (f_X10_begin v_p0_rules_need v_p0_state_pieces v_p0_state_friends v_p0_state_spoons v_p0_state_eaten) (fun (z1 : Int) (z2 : Int) (z3 : Int) (z4 : Int) (z5 : Int) (z6 : Int) (z7 : Int) (w8 : (Int → Int)) (z9 : Int) (z10 : Int) (z11 : Int) (z12 : Int) (w13 : (Int → Int)) (w14 : (Int → Int)) (w15 : (Int → Int)) (w16 : (Int → Int)) => (bnd (1 : Int) (fun (z17 : Int) => (bnd (0 : Int) (fun (z18 : Int) => (jn (fun (z19 : Int) (z20 : Int) (z21 : Int) (z22 : Int) (z23 : Int) (z24 : Int) (z25 : Int) (z26 : Int) (z27 : Int) (z28 : Int) (z29 : Int) (w30 : (Int → Int)) (w31 : (Int → Int)) (w32 : (Int → Int)) (w33 : (Int → Int)) (z34 : Int) (z35 : Int) (w36 : (Int → Int)) (w37 : (Int → Int)) (w38 : (Int → Int)) (w39 : (Int → Int)) => (ck (z_r32 z19) (jn (fun (z42 : Int) (z43 : Int) => (ck (z_r32 z42) (if z42 = (0 : Int) then (bd1 (f_X6_workOutStirs z28 z29 w31 w32 w33 v_p0_rules_after) (fun (w46 : (Int → Int)) => (some (z21, z42, z43, z21, z22, z23, z24, z25, z26, z27, z28, z29, w30, w31, w32, w33, w46, z9, z34, z35, z12, w36, w37, w38, w16, w39)))) else (some (((-10 : Int) - z43), z42, z43, z21, z22, z23, z24, z25, z26, z27, z28, z29, w30, w31, w32, w33, v_p0_rules_after, z9, z34, z35, z12, w36, w37, w38, w16, w39))))) (fun (J44 : Int → Int → Option (Int × Int × Int × Int × Int × Int × Int × Int × Int × Int × Int × Int × (Int → Int) × (Int → Int) × (Int → Int) × (Int → Int) × (Int → Int) × Int × Int × Int × Int × (Int → Int) × (Int → Int) × (Int → Int) × (Int → Int) × (Int → Int))) => (if z19 = (0 : Int) then (ck (z_r32 z23) (ck (z_r32 z28) (if z23 < z28 then (J44 z19 z20) else (bd3 (f_X10_refuse (6 : Int) i_p0_tape_length) (fun (z49 : Int) (z50 : Int) (z51 : Int) => (J44 z50 z51)))))) else (J44 z19 z20)))))) (fun (J40 : Int → Int → Int → Int → Int → Int → Int → Int → Int → Int → Int → (Int → Int) → (Int → Int) → (Int → Int) → (Int → Int) → Int → Int → (Int → Int) → (Int → Int) → (Int → Int) → (Int → Int) → Option (Int × Int × Int × Int × Int × Int × Int × Int × Int × Int × Int × Int × (Int → Int) × (Int → Int) × (Int → Int) × (Int → Int) × (Int → Int) × Int × Int × Int × Int × (Int → Int) × (Int → Int) × (Int → Int) × (Int → Int) × (Int → Int))) => (lq23 (B_X10_readTape_8 J40 i_p0_tape_length v_p0_tape_bytes) 1000 z18 z17 z1 i_p0_faultPlace z2 z3 z4 z5 i_p0_tape_token i_p0_tape_start i_p0_tape_value z6 z7 w8 v_p0_rules_kind v_p0_rules_first v_p0_rules_second z10 z11 w13 w14 w15 v_p0_numbers)))))))))
abbrev rm_X10_readTape : Room := { frames := 7, cells := 0, slots := 0, locals := 151 }
theorem inX10_readTape_X10 : ∀ w ∈ wsX100, w ∈ wsX10_readTape := by decide +kernel
theorem mwX10_readTape_1 : Cond.fieldLink RX10 25 "LadleKings$TextReader" "faultFound" "I" ∈ wsX10_readTape := by decide +kernel
theorem mwX10_readTape_2 : Cond.fieldLink RX10 12 "LadleKings$TextReader" "rules" "LLadleKings$Rules;" ∈ wsX10_readTape := by decide +kernel
theorem mwX10_readTape_3 : Cond.fieldLink RX10 32 "LadleKings$TextReader" "lines" "I" ∈ wsX10_readTape := by decide +kernel
theorem mwX10_readTape_4 : Cond.fieldLink RX10 29 "LadleKings$TextReader" "faultPlace" "I" ∈ wsX10_readTape := by decide +kernel
theorem mwX10_readTape_5 : Cond.fieldLink RX10 38 "LadleKings$TextReader" "greatest" "I" ∈ wsX10_readTape := by decide +kernel
theorem inX10_readTape_X6 : ∀ w ∈ wsX60, w ∈ wsX10_readTape := by decide +kernel
theorem mwX10_readTape_7 : Cond.fieldLink RX10 56 "LadleKings$Rules" "seats" "I" ∈ wsX10_readTape := by decide +kernel
theorem mwX10_readTape_8 : Cond.fieldLink RX10 45 "LadleKings$TextReader" "tape" "LLadleKings$Tape;" ∈ wsX10_readTape := by decide +kernel
theorem inX10_readTape_X9 : ∀ w ∈ wsX90, w ∈ wsX10_readTape := by decide +kernel
theorem mwX10_readTape_10 : Cond.fieldLink RX10 59 "LadleKings$Tape" "length" "I" ∈ wsX10_readTape := by decide +kernel
set_option maxHeartbeats 8000000 in
set_option maxRecDepth 100000 in
theorem c_X10_readTape (l : Launch) (D : va_G) (G : Nat → ClassId) (sz : Nat) (adT adK adV : Nat → Nat) (a_p0 : Nat) (a_p0_tape : Nat) (a_p0_rules : Nat) (a_p0_state : Nat) (a_p0_numbers : Nat) (a_p0_tape_bytes : Nat) (a_p0_rules_need : Nat) (a_p0_rules_kind : Nat) (a_p0_rules_first : Nat) (a_p0_rules_second : Nat) (a_p0_rules_after : Nat) (a_p0_state_pieces : Nat) (a_p0_state_friends : Nat) (a_p0_state_spoons : Nat) (a_p0_state_eaten : Nat) (a_p0_state_seen : Nat) (i_p0_faultFound : Int) (i_p0_faultPlace : Int) (i_p0_lines : Int) (i_p0_met : Int) (i_p0_greatest : Int) (i_p0_tape_length : Int) (i_p0_tape_at : Int) (i_p0_tape_token : Int) (i_p0_tape_start : Int) (i_p0_tape_value : Int) (v_p0_tape_bytes : (Int → Int)) (i_p0_rules_seats : Int) (i_p0_rules_stirs : Int) (v_p0_rules_need : (Int → Int)) (v_p0_rules_kind : (Int → Int)) (v_p0_rules_first : (Int → Int)) (v_p0_rules_second : (Int → Int)) (v_p0_rules_after : (Int → Int)) (i_p0_state_seenDays : Int) (i_p0_state_bone : Int) (i_p0_state_king : Int) (i_p0_state_days : Int) (v_p0_state_pieces : (Int → Int)) (v_p0_state_friends : (Int → Int)) (v_p0_state_spoons : (Int → Int)) (v_p0_state_eaten : (Int → Int)) (v_p0_numbers : (Int → Int)) (r : Int) (o_i_p0_faultFound : Int) (o_i_p0_faultPlace : Int) (o_i_p0_lines : Int) (o_i_p0_met : Int) (o_i_p0_greatest : Int) (o_i_p0_tape_at : Int) (o_i_p0_tape_token : Int) (o_i_p0_tape_start : Int) (o_i_p0_tape_value : Int) (o_i_p0_rules_seats : Int) (o_i_p0_rules_stirs : Int) (o_v_p0_rules_need : (Int → Int)) (o_v_p0_rules_kind : (Int → Int)) (o_v_p0_rules_first : (Int → Int)) (o_v_p0_rules_second : (Int → Int)) (o_v_p0_rules_after : (Int → Int)) (o_i_p0_state_seenDays : Int) (o_i_p0_state_bone : Int) (o_i_p0_state_king : Int) (o_i_p0_state_days : Int) (o_v_p0_state_pieces : (Int → Int)) (o_v_p0_state_friends : (Int → Int)) (o_v_p0_state_spoons : (Int → Int)) (o_v_p0_state_eaten : (Int → Int)) (o_v_p0_numbers : (Int → Int)) (hf : f_X10_readTape i_p0_faultPlace i_p0_tape_length i_p0_tape_token i_p0_tape_start i_p0_tape_value v_p0_tape_bytes v_p0_rules_need v_p0_rules_kind v_p0_rules_first v_p0_rules_second v_p0_rules_after v_p0_state_pieces v_p0_state_friends v_p0_state_spoons v_p0_state_eaten v_p0_numbers = some (r, o_i_p0_faultFound, o_i_p0_faultPlace, o_i_p0_lines, o_i_p0_met, o_i_p0_greatest, o_i_p0_tape_at, o_i_p0_tape_token, o_i_p0_tape_start, o_i_p0_tape_value, o_i_p0_rules_seats, o_i_p0_rules_stirs, o_v_p0_rules_need, o_v_p0_rules_kind, o_v_p0_rules_first, o_v_p0_rules_second, o_v_p0_rules_after, o_i_p0_state_seenDays, o_i_p0_state_bone, o_i_p0_state_king, o_i_p0_state_days, o_v_p0_state_pieces, o_v_p0_state_friends, o_v_p0_state_spoons, o_v_p0_state_eaten, o_v_p0_numbers)) : Met l yX10_readTape wsX10_readTape rm_X10_readTape (pcGE D G adT adK adV [.ref a_p0] sz [(a_p0, .inr (10, [.ref a_p0_tape, .ref a_p0_rules, .ref a_p0_state, .int (Int32.ofInt i_p0_faultFound), .int (Int32.ofInt i_p0_faultPlace), .int (Int32.ofInt i_p0_lines), .int (Int32.ofInt i_p0_met), .int (Int32.ofInt i_p0_greatest), .ref a_p0_numbers])), (a_p0_tape, .inr (9, [.ref a_p0_tape_bytes, .int (Int32.ofInt i_p0_tape_length), .int (Int32.ofInt i_p0_tape_at), .int (Int32.ofInt i_p0_tape_token), .int (Int32.ofInt i_p0_tape_start), .int (Int32.ofInt i_p0_tape_value)])), (a_p0_tape_bytes, .inl (G 0, 320, .inl (zA v_p0_tape_bytes))), (a_p0_rules, .inr (6, [.int (Int32.ofInt i_p0_rules_seats), .int (Int32.ofInt i_p0_rules_stirs), .ref a_p0_rules_need, .ref a_p0_rules_kind, .ref a_p0_rules_first, .ref a_p0_rules_second, .ref a_p0_rules_after])), (a_p0_rules_need, .inl (G 1, 7, .inl (zA v_p0_rules_need))), (a_p0_rules_kind, .inl (G 1, 5, .inl (zA v_p0_rules_kind))), (a_p0_rules_first, .inl (G 1, 5, .inl (zA v_p0_rules_first))), (a_p0_rules_second, .inl (G 1, 5, .inl (zA v_p0_rules_second))), (a_p0_rules_after, .inl (G 1, 35, .inl (zA v_p0_rules_after))), (a_p0_state, .inr (8, [.ref a_p0_state_pieces, .ref a_p0_state_friends, .ref a_p0_state_spoons, .ref a_p0_state_eaten, .ref a_p0_state_seen, .int (Int32.ofInt i_p0_state_seenDays), .int (Int32.ofInt i_p0_state_bone), .int (Int32.ofInt i_p0_state_king), .int (Int32.ofInt i_p0_state_days)])), (a_p0_state_pieces, .inl (G 1, 7, .inl (zA v_p0_state_pieces))), (a_p0_state_friends, .inl (G 1, 7, .inl (zA v_p0_state_friends))), (a_p0_state_spoons, .inl (G 1, 7, .inl (zA v_p0_state_spoons))), (a_p0_state_eaten, .inl (G 1, 7, .inl (zA v_p0_state_eaten))), (a_p0_numbers, .inl (G 1, 7, .inl (zA v_p0_numbers)))]) (qcI D G (Int32.ofInt r) [(a_p0, .inr (10, [.ref a_p0_tape, .ref a_p0_rules, .ref a_p0_state, .int (Int32.ofInt o_i_p0_faultFound), .int (Int32.ofInt o_i_p0_faultPlace), .int (Int32.ofInt o_i_p0_lines), .int (Int32.ofInt o_i_p0_met), .int (Int32.ofInt o_i_p0_greatest), .ref a_p0_numbers])), (a_p0_tape, .inr (9, [.ref a_p0_tape_bytes, .int (Int32.ofInt i_p0_tape_length), .int (Int32.ofInt o_i_p0_tape_at), .int (Int32.ofInt o_i_p0_tape_token), .int (Int32.ofInt o_i_p0_tape_start), .int (Int32.ofInt o_i_p0_tape_value)])), (a_p0_tape_bytes, .inl (G 0, 320, .inl (zA v_p0_tape_bytes))), (a_p0_rules, .inr (6, [.int (Int32.ofInt o_i_p0_rules_seats), .int (Int32.ofInt o_i_p0_rules_stirs), .ref a_p0_rules_need, .ref a_p0_rules_kind, .ref a_p0_rules_first, .ref a_p0_rules_second, .ref a_p0_rules_after])), (a_p0_rules_need, .inl (G 1, 7, .inl (zA o_v_p0_rules_need))), (a_p0_rules_kind, .inl (G 1, 5, .inl (zA o_v_p0_rules_kind))), (a_p0_rules_first, .inl (G 1, 5, .inl (zA o_v_p0_rules_first))), (a_p0_rules_second, .inl (G 1, 5, .inl (zA o_v_p0_rules_second))), (a_p0_rules_after, .inl (G 1, 35, .inl (zA o_v_p0_rules_after))), (a_p0_state, .inr (8, [.ref a_p0_state_pieces, .ref a_p0_state_friends, .ref a_p0_state_spoons, .ref a_p0_state_eaten, .ref a_p0_state_seen, .int (Int32.ofInt o_i_p0_state_seenDays), .int (Int32.ofInt o_i_p0_state_bone), .int (Int32.ofInt o_i_p0_state_king), .int (Int32.ofInt o_i_p0_state_days)])), (a_p0_state_pieces, .inl (G 1, 7, .inl (zA o_v_p0_state_pieces))), (a_p0_state_friends, .inl (G 1, 7, .inl (zA o_v_p0_state_friends))), (a_p0_state_spoons, .inl (G 1, 7, .inl (zA o_v_p0_state_spoons))), (a_p0_state_eaten, .inl (G 1, 7, .inl (zA o_v_p0_state_eaten))), (a_p0_numbers, .inl (G 1, 7, .inl (zA o_v_p0_numbers)))] (va_A [(a_p0, .inr (10, [.ref a_p0_tape, .ref a_p0_rules, .ref a_p0_state, .int (Int32.ofInt i_p0_faultFound), .int (Int32.ofInt i_p0_faultPlace), .int (Int32.ofInt i_p0_lines), .int (Int32.ofInt i_p0_met), .int (Int32.ofInt i_p0_greatest), .ref a_p0_numbers])), (a_p0_tape, .inr (9, [.ref a_p0_tape_bytes, .int (Int32.ofInt i_p0_tape_length), .int (Int32.ofInt i_p0_tape_at), .int (Int32.ofInt i_p0_tape_token), .int (Int32.ofInt i_p0_tape_start), .int (Int32.ofInt i_p0_tape_value)])), (a_p0_tape_bytes, .inl (G 0, 320, .inl (zA v_p0_tape_bytes))), (a_p0_rules, .inr (6, [.int (Int32.ofInt i_p0_rules_seats), .int (Int32.ofInt i_p0_rules_stirs), .ref a_p0_rules_need, .ref a_p0_rules_kind, .ref a_p0_rules_first, .ref a_p0_rules_second, .ref a_p0_rules_after])), (a_p0_rules_need, .inl (G 1, 7, .inl (zA v_p0_rules_need))), (a_p0_rules_kind, .inl (G 1, 5, .inl (zA v_p0_rules_kind))), (a_p0_rules_first, .inl (G 1, 5, .inl (zA v_p0_rules_first))), (a_p0_rules_second, .inl (G 1, 5, .inl (zA v_p0_rules_second))), (a_p0_rules_after, .inl (G 1, 35, .inl (zA v_p0_rules_after))), (a_p0_state, .inr (8, [.ref a_p0_state_pieces, .ref a_p0_state_friends, .ref a_p0_state_spoons, .ref a_p0_state_eaten, .ref a_p0_state_seen, .int (Int32.ofInt i_p0_state_seenDays), .int (Int32.ofInt i_p0_state_bone), .int (Int32.ofInt i_p0_state_king), .int (Int32.ofInt i_p0_state_days)])), (a_p0_state_pieces, .inl (G 1, 7, .inl (zA v_p0_state_pieces))), (a_p0_state_friends, .inl (G 1, 7, .inl (zA v_p0_state_friends))), (a_p0_state_spoons, .inl (G 1, 7, .inl (zA v_p0_state_spoons))), (a_p0_state_eaten, .inl (G 1, 7, .inl (zA v_p0_state_eaten))), (a_p0_numbers, .inl (G 1, 7, .inl (zA v_p0_numbers)))] sz)) 0 0 (va_A [(a_p0, .inr (10, [.ref a_p0_tape, .ref a_p0_rules, .ref a_p0_state, .int (Int32.ofInt i_p0_faultFound), .int (Int32.ofInt i_p0_faultPlace), .int (Int32.ofInt i_p0_lines), .int (Int32.ofInt i_p0_met), .int (Int32.ofInt i_p0_greatest), .ref a_p0_numbers])), (a_p0_tape, .inr (9, [.ref a_p0_tape_bytes, .int (Int32.ofInt i_p0_tape_length), .int (Int32.ofInt i_p0_tape_at), .int (Int32.ofInt i_p0_tape_token), .int (Int32.ofInt i_p0_tape_start), .int (Int32.ofInt i_p0_tape_value)])), (a_p0_tape_bytes, .inl (G 0, 320, .inl (zA v_p0_tape_bytes))), (a_p0_rules, .inr (6, [.int (Int32.ofInt i_p0_rules_seats), .int (Int32.ofInt i_p0_rules_stirs), .ref a_p0_rules_need, .ref a_p0_rules_kind, .ref a_p0_rules_first, .ref a_p0_rules_second, .ref a_p0_rules_after])), (a_p0_rules_need, .inl (G 1, 7, .inl (zA v_p0_rules_need))), (a_p0_rules_kind, .inl (G 1, 5, .inl (zA v_p0_rules_kind))), (a_p0_rules_first, .inl (G 1, 5, .inl (zA v_p0_rules_first))), (a_p0_rules_second, .inl (G 1, 5, .inl (zA v_p0_rules_second))), (a_p0_rules_after, .inl (G 1, 35, .inl (zA v_p0_rules_after))), (a_p0_state, .inr (8, [.ref a_p0_state_pieces, .ref a_p0_state_friends, .ref a_p0_state_spoons, .ref a_p0_state_eaten, .ref a_p0_state_seen, .int (Int32.ofInt i_p0_state_seenDays), .int (Int32.ofInt i_p0_state_bone), .int (Int32.ofInt i_p0_state_king), .int (Int32.ofInt i_p0_state_days)])), (a_p0_state_pieces, .inl (G 1, 7, .inl (zA v_p0_state_pieces))), (a_p0_state_friends, .inl (G 1, 7, .inl (zA v_p0_state_friends))), (a_p0_state_spoons, .inl (G 1, 7, .inl (zA v_p0_state_spoons))), (a_p0_state_eaten, .inl (G 1, 7, .inl (zA v_p0_state_eaten))), (a_p0_numbers, .inl (G 1, 7, .inl (zA v_p0_numbers)))] sz) := by
  refine Met.ofW (cc := cX10_readTape) (maxL := 3) (ret := (some .int)) (by decide) rfl ?_
  intro p e s m args below meth c s₁ B hml hv
  obtain ⟨rfl, hsz, hP, hK, hD0, hE⟩ := hv
  have hx := B.exec
  have hb := B.bytes
  have hr := B.returns
  have hts := atoms_spec (ws := wsX10_readTape) B.pre
  have hown : s.vm.findClass RX10 = some m.cls := findClass_of_methodNamed B.named
  have hlocks := B.notSynchronized
  subst hsz
  have hD := hD0.self (sz := s.heap.size)
  generalize hAe : va_A [(a_p0, .inr (10, [.ref a_p0_tape, .ref a_p0_rules, .ref a_p0_state, .int (Int32.ofInt i_p0_faultFound), .int (Int32.ofInt i_p0_faultPlace), .int (Int32.ofInt i_p0_lines), .int (Int32.ofInt i_p0_met), .int (Int32.ofInt i_p0_greatest), .ref a_p0_numbers])), (a_p0_tape, .inr (9, [.ref a_p0_tape_bytes, .int (Int32.ofInt i_p0_tape_length), .int (Int32.ofInt i_p0_tape_at), .int (Int32.ofInt i_p0_tape_token), .int (Int32.ofInt i_p0_tape_start), .int (Int32.ofInt i_p0_tape_value)])), (a_p0_tape_bytes, .inl (G 0, 320, .inl (zA v_p0_tape_bytes))), (a_p0_rules, .inr (6, [.int (Int32.ofInt i_p0_rules_seats), .int (Int32.ofInt i_p0_rules_stirs), .ref a_p0_rules_need, .ref a_p0_rules_kind, .ref a_p0_rules_first, .ref a_p0_rules_second, .ref a_p0_rules_after])), (a_p0_rules_need, .inl (G 1, 7, .inl (zA v_p0_rules_need))), (a_p0_rules_kind, .inl (G 1, 5, .inl (zA v_p0_rules_kind))), (a_p0_rules_first, .inl (G 1, 5, .inl (zA v_p0_rules_first))), (a_p0_rules_second, .inl (G 1, 5, .inl (zA v_p0_rules_second))), (a_p0_rules_after, .inl (G 1, 35, .inl (zA v_p0_rules_after))), (a_p0_state, .inr (8, [.ref a_p0_state_pieces, .ref a_p0_state_friends, .ref a_p0_state_spoons, .ref a_p0_state_eaten, .ref a_p0_state_seen, .int (Int32.ofInt i_p0_state_seenDays), .int (Int32.ofInt i_p0_state_bone), .int (Int32.ofInt i_p0_state_king), .int (Int32.ofInt i_p0_state_days)])), (a_p0_state_pieces, .inl (G 1, 7, .inl (zA v_p0_state_pieces))), (a_p0_state_friends, .inl (G 1, 7, .inl (zA v_p0_state_friends))), (a_p0_state_spoons, .inl (G 1, 7, .inl (zA v_p0_state_spoons))), (a_p0_state_eaten, .inl (G 1, 7, .inl (zA v_p0_state_eaten))), (a_p0_numbers, .inl (G 1, 7, .inl (zA v_p0_numbers)))] s.heap.size = A at hD hE ⊢
  have hA : ∀ q : Nat, s.heap.size ≤ q → A q := fun q h => by rw [← hAe]; exact Or.inr h
  clear hAe hD0
  have hS : va_S A s.heap s.heap [] := va_S.rf
  have hl := lv_entry ([.ref a_p0]) (n := 3) (Nat.le_of_ble_eq_true rfl)
  rw [lg_entry_eq]
  generalize (lg_sl ([.ref a_p0]) ++ List.replicate (3 - (lg_sl ([.ref a_p0])).length) Slot.unset).toArray = ls at hl ⊢
  have hl : lv_has ls 3 [(0, .ref a_p0)] := hl
  refine W_nameQ (fun Q hQ => ?_)
  obtain ⟨H, hH⟩ : ∃ H, H = s.heap := ⟨_, rfl⟩
  replace hS : va_S A s.heap H [] := by rw [hH]; exact hS
  replace hP : va_P D vwCl [(a_p0, .inr (10, [.ref a_p0_tape, .ref a_p0_rules, .ref a_p0_state, .int (Int32.ofInt i_p0_faultFound), .int (Int32.ofInt i_p0_faultPlace), .int (Int32.ofInt i_p0_lines), .int (Int32.ofInt i_p0_met), .int (Int32.ofInt i_p0_greatest), .ref a_p0_numbers])), (a_p0_tape, .inr (9, [.ref a_p0_tape_bytes, .int (Int32.ofInt i_p0_tape_length), .int (Int32.ofInt i_p0_tape_at), .int (Int32.ofInt i_p0_tape_token), .int (Int32.ofInt i_p0_tape_start), .int (Int32.ofInt i_p0_tape_value)])), (a_p0_tape_bytes, .inl (G 0, 320, .inl (zA v_p0_tape_bytes))), (a_p0_rules, .inr (6, [.int (Int32.ofInt i_p0_rules_seats), .int (Int32.ofInt i_p0_rules_stirs), .ref a_p0_rules_need, .ref a_p0_rules_kind, .ref a_p0_rules_first, .ref a_p0_rules_second, .ref a_p0_rules_after])), (a_p0_rules_need, .inl (G 1, 7, .inl (zA v_p0_rules_need))), (a_p0_rules_kind, .inl (G 1, 5, .inl (zA v_p0_rules_kind))), (a_p0_rules_first, .inl (G 1, 5, .inl (zA v_p0_rules_first))), (a_p0_rules_second, .inl (G 1, 5, .inl (zA v_p0_rules_second))), (a_p0_rules_after, .inl (G 1, 35, .inl (zA v_p0_rules_after))), (a_p0_state, .inr (8, [.ref a_p0_state_pieces, .ref a_p0_state_friends, .ref a_p0_state_spoons, .ref a_p0_state_eaten, .ref a_p0_state_seen, .int (Int32.ofInt i_p0_state_seenDays), .int (Int32.ofInt i_p0_state_bone), .int (Int32.ofInt i_p0_state_king), .int (Int32.ofInt i_p0_state_days)])), (a_p0_state_pieces, .inl (G 1, 7, .inl (zA v_p0_state_pieces))), (a_p0_state_friends, .inl (G 1, 7, .inl (zA v_p0_state_friends))), (a_p0_state_spoons, .inl (G 1, 7, .inl (zA v_p0_state_spoons))), (a_p0_state_eaten, .inl (G 1, 7, .inl (zA v_p0_state_eaten))), (a_p0_numbers, .inl (G 1, 7, .inl (zA v_p0_numbers)))] H := by rw [hH]; exact hP
  rw [← hH]
  clear hH
  unfold f_X10_readTape at hf
  refine lv_aload_n hx hb dX10_readTape_0 rfl (lv_at hl 0 rfl) ?_
  have hq := bd16_s hf
  clear hf
  obtain ⟨z1, z2, z3, z4, z5, z6, z7, w8, z9, z10, z11, z12, w13, w14, w15, w16, hcall, hf⟩ := hq
  refine gcV (ws' := [(a_p0, .inr (10, [.ref a_p0_tape, .ref a_p0_rules, .ref a_p0_state, .int (Int32.ofInt z1), .int (Int32.ofInt i_p0_faultPlace), .int (Int32.ofInt z2), .int (Int32.ofInt z3), .int (Int32.ofInt z4), .ref a_p0_numbers])), (a_p0_tape, .inr (9, [.ref a_p0_tape_bytes, .int (Int32.ofInt i_p0_tape_length), .int (Int32.ofInt z5), .int (Int32.ofInt i_p0_tape_token), .int (Int32.ofInt i_p0_tape_start), .int (Int32.ofInt i_p0_tape_value)])), (a_p0_tape_bytes, .inl (G 0, 320, .inl (zA v_p0_tape_bytes))), (a_p0_rules, .inr (6, [.int (Int32.ofInt z6), .int (Int32.ofInt z7), .ref a_p0_rules_need, .ref a_p0_rules_kind, .ref a_p0_rules_first, .ref a_p0_rules_second, .ref a_p0_rules_after])), (a_p0_rules_need, .inl (G 1, 7, .inl (zA w8))), (a_p0_rules_kind, .inl (G 1, 5, .inl (zA v_p0_rules_kind))), (a_p0_rules_first, .inl (G 1, 5, .inl (zA v_p0_rules_first))), (a_p0_rules_second, .inl (G 1, 5, .inl (zA v_p0_rules_second))), (a_p0_rules_after, .inl (G 1, 35, .inl (zA v_p0_rules_after))), (a_p0_state, .inr (8, [.ref a_p0_state_pieces, .ref a_p0_state_friends, .ref a_p0_state_spoons, .ref a_p0_state_eaten, .ref a_p0_state_seen, .int (Int32.ofInt z9), .int (Int32.ofInt z10), .int (Int32.ofInt z11), .int (Int32.ofInt z12)])), (a_p0_state_pieces, .inl (G 1, 7, .inl (zA w13))), (a_p0_state_friends, .inl (G 1, 7, .inl (zA w14))), (a_p0_state_spoons, .inl (G 1, 7, .inl (zA w15))), (a_p0_state_eaten, .inl (G 1, 7, .inl (zA w16))), (a_p0_numbers, .inl (G 1, 7, .inl (zA v_p0_numbers)))]) (va_runV (As := []) (rest := []) ⟨hx, hb, hml, hown, hts⟩ (c_X10_begin (l := l) (D := D) (G := G) (sz := H.size) (a_p0 := a_p0) (a_p0_tape := a_p0_tape) (a_p0_rules := a_p0_rules) (a_p0_state := a_p0_state) (a_p0_numbers := a_p0_numbers) (a_p0_tape_bytes := a_p0_tape_bytes) (a_p0_rules_need := a_p0_rules_need) (a_p0_rules_kind := a_p0_rules_kind) (a_p0_rules_first := a_p0_rules_first) (a_p0_rules_second := a_p0_rules_second) (a_p0_rules_after := a_p0_rules_after) (a_p0_state_pieces := a_p0_state_pieces) (a_p0_state_friends := a_p0_state_friends) (a_p0_state_spoons := a_p0_state_spoons) (a_p0_state_eaten := a_p0_state_eaten) (a_p0_state_seen := a_p0_state_seen) (i_p0_faultFound := i_p0_faultFound) (i_p0_faultPlace := i_p0_faultPlace) (i_p0_lines := i_p0_lines) (i_p0_met := i_p0_met) (i_p0_greatest := i_p0_greatest) (i_p0_tape_length := i_p0_tape_length) (i_p0_tape_at := i_p0_tape_at) (i_p0_tape_token := i_p0_tape_token) (i_p0_tape_start := i_p0_tape_start) (i_p0_tape_value := i_p0_tape_value) (i_p0_rules_seats := i_p0_rules_seats) (i_p0_rules_stirs := i_p0_rules_stirs) (v_p0_rules_need := v_p0_rules_need) (i_p0_state_seenDays := i_p0_state_seenDays) (i_p0_state_bone := i_p0_state_bone) (i_p0_state_king := i_p0_state_king) (i_p0_state_days := i_p0_state_days) (v_p0_state_pieces := v_p0_state_pieces) (v_p0_state_friends := v_p0_state_friends) (v_p0_state_spoons := v_p0_state_spoons) (v_p0_state_eaten := v_p0_state_eaten) (o_i_p0_faultFound := z1) (o_i_p0_lines := z2) (o_i_p0_met := z3) (o_i_p0_greatest := z4) (o_i_p0_tape_at := z5) (o_i_p0_rules_seats := z6) (o_i_p0_rules_stirs := z7) (o_v_p0_rules_need := w8) (o_i_p0_state_seenDays := z9) (o_i_p0_state_bone := z10) (o_i_p0_state_king := z11) (o_i_p0_state_days := z12) (o_v_p0_state_pieces := w13) (o_v_p0_state_friends := w14) (o_v_p0_state_spoons := w15) (o_v_p0_state_eaten := w16) (hf := hcall)) (cwV 0 hts gX10_readTape_X10_begin rfl rfl rfl (by decide +kernel) ⟨Nat.le_of_ble_eq_true rfl, Nat.le_of_ble_eq_true rfl⟩) (preG_V (ci := 10) (hP.sub [0, 1, 3, 4, 9, 10, 11, 12, 13] rfl) (hD.sub [0, 1, 3, 4, 9, 10, 11, 12, 13] rfl rfl) hK rfl rfl) rfl rfl hl.1 rfl (lv_room (Nat.le_of_ble_eq_true rfl)) dX10_readTape_1 ⟨Nat.le_of_ble_eq_true rfl, Nat.le_of_ble_eq_true rfl⟩) hP hD hS hA [0, 1, 3, 4, 9, 10, 11, 12, 13] [2, 5, 6, 7, 8, 14] [6, 7, 0, 8, 9, 1, 2, 3, 4, 10, 11, 12, 13, 14, 5] rfl rfl rfl (by decide) rfl rfl rfl (fun H locs hP hD hS => ?_)
  clear hcall
  refine lv_iconst (v := Int32.ofInt (1 : Int)) hx hb dX10_readTape_4 (by decide) ?_
  refine z_topi (fun z17 ez => ?_)
  replace hf := bnd_s hf ez
  clear ez
  refine lv_istore_n (lv' := [(1, .int (Int32.ofInt z17)), (0, .ref a_p0)]) hx hb dX10_readTape_5 rfl hl (by decide) rfl (fun ls hl => ?_)
  refine lv_iconst (v := Int32.ofInt (0 : Int)) hx hb dX10_readTape_6 (by decide) ?_
  refine z_topi (fun z18 ez => ?_)
  replace hf := bnd_s hf ez
  clear ez
  refine lv_istore_n (lv' := [(2, .int (Int32.ofInt z18)), (1, .int (Int32.ofInt z17)), (0, .ref a_p0)]) hx hb dX10_readTape_7 rfl hl (by decide) rfl (fun ls hl => ?_)
  have hq := jn_i hf
  clear hf
  obtain ⟨J40, eJ40, hf⟩ := hq
  have hJ40 : ∀ (z19 : Int) (z20 : Int) (z21 : Int) (z22 : Int) (z23 : Int) (z24 : Int) (z25 : Int) (z26 : Int) (z27 : Int) (z28 : Int) (z29 : Int) (w30 : (Int → Int)) (w31 : (Int → Int)) (w32 : (Int → Int)) (w33 : (Int → Int)) (z34 : Int) (z35 : Int) (w36 : (Int → Int)) (w37 : (Int → Int)) (w38 : (Int → Int)) (w39 : (Int → Int)) (ls : Array Slot) (H : Heap) (locs : List Loc), lv_has ls 3 [(0, .ref a_p0)] → va_P D vwCl [(a_p0, .inr (10, [.ref a_p0_tape, .ref a_p0_rules, .ref a_p0_state, .int (Int32.ofInt z19), .int (Int32.ofInt z20), .int (Int32.ofInt z21), .int (Int32.ofInt z22), .int (Int32.ofInt z23), .ref a_p0_numbers])), (a_p0_tape, .inr (9, [.ref a_p0_tape_bytes, .int (Int32.ofInt i_p0_tape_length), .int (Int32.ofInt z24), .int (Int32.ofInt z25), .int (Int32.ofInt z26), .int (Int32.ofInt z27)])), (a_p0_tape_bytes, .inl (G 0, 320, .inl (zA v_p0_tape_bytes))), (a_p0_rules, .inr (6, [.int (Int32.ofInt z28), .int (Int32.ofInt z29), .ref a_p0_rules_need, .ref a_p0_rules_kind, .ref a_p0_rules_first, .ref a_p0_rules_second, .ref a_p0_rules_after])), (a_p0_rules_need, .inl (G 1, 7, .inl (zA w30))), (a_p0_rules_kind, .inl (G 1, 5, .inl (zA w31))), (a_p0_rules_first, .inl (G 1, 5, .inl (zA w32))), (a_p0_rules_second, .inl (G 1, 5, .inl (zA w33))), (a_p0_rules_after, .inl (G 1, 35, .inl (zA v_p0_rules_after))), (a_p0_state, .inr (8, [.ref a_p0_state_pieces, .ref a_p0_state_friends, .ref a_p0_state_spoons, .ref a_p0_state_eaten, .ref a_p0_state_seen, .int (Int32.ofInt z9), .int (Int32.ofInt z34), .int (Int32.ofInt z35), .int (Int32.ofInt z12)])), (a_p0_state_pieces, .inl (G 1, 7, .inl (zA w36))), (a_p0_state_friends, .inl (G 1, 7, .inl (zA w37))), (a_p0_state_spoons, .inl (G 1, 7, .inl (zA w38))), (a_p0_state_eaten, .inl (G 1, 7, .inl (zA w16))), (a_p0_numbers, .inl (G 1, 7, .inl (zA w39)))] H → va_D A [(a_p0, .inr (10, [.ref a_p0_tape, .ref a_p0_rules, .ref a_p0_state, .int (Int32.ofInt z19), .int (Int32.ofInt z20), .int (Int32.ofInt z21), .int (Int32.ofInt z22), .int (Int32.ofInt z23), .ref a_p0_numbers])), (a_p0_tape, .inr (9, [.ref a_p0_tape_bytes, .int (Int32.ofInt i_p0_tape_length), .int (Int32.ofInt z24), .int (Int32.ofInt z25), .int (Int32.ofInt z26), .int (Int32.ofInt z27)])), (a_p0_tape_bytes, .inl (G 0, 320, .inl (zA v_p0_tape_bytes))), (a_p0_rules, .inr (6, [.int (Int32.ofInt z28), .int (Int32.ofInt z29), .ref a_p0_rules_need, .ref a_p0_rules_kind, .ref a_p0_rules_first, .ref a_p0_rules_second, .ref a_p0_rules_after])), (a_p0_rules_need, .inl (G 1, 7, .inl (zA w30))), (a_p0_rules_kind, .inl (G 1, 5, .inl (zA w31))), (a_p0_rules_first, .inl (G 1, 5, .inl (zA w32))), (a_p0_rules_second, .inl (G 1, 5, .inl (zA w33))), (a_p0_rules_after, .inl (G 1, 35, .inl (zA v_p0_rules_after))), (a_p0_state, .inr (8, [.ref a_p0_state_pieces, .ref a_p0_state_friends, .ref a_p0_state_spoons, .ref a_p0_state_eaten, .ref a_p0_state_seen, .int (Int32.ofInt z9), .int (Int32.ofInt z34), .int (Int32.ofInt z35), .int (Int32.ofInt z12)])), (a_p0_state_pieces, .inl (G 1, 7, .inl (zA w36))), (a_p0_state_friends, .inl (G 1, 7, .inl (zA w37))), (a_p0_state_spoons, .inl (G 1, 7, .inl (zA w38))), (a_p0_state_eaten, .inl (G 1, 7, .inl (zA w16))), (a_p0_numbers, .inl (G 1, 7, .inl (zA w39)))] → va_S A s.heap H locs → J40 z19 z20 z21 z22 z23 z24 z25 z26 z27 z28 z29 w30 w31 w32 w33 z34 z35 w36 w37 w38 w39 = some (r, o_i_p0_faultFound, o_i_p0_faultPlace, o_i_p0_lines, o_i_p0_met, o_i_p0_greatest, o_i_p0_tape_at, o_i_p0_tape_token, o_i_p0_tape_start, o_i_p0_tape_value, o_i_p0_rules_seats, o_i_p0_rules_stirs, o_v_p0_rules_need, o_v_p0_rules_kind, o_v_p0_rules_first, o_v_p0_rules_second, o_v_p0_rules_after, o_i_p0_state_seenDays, o_i_p0_state_bone, o_i_p0_state_king, o_i_p0_state_days, o_v_p0_state_pieces, o_v_p0_state_friends, o_v_p0_state_spoons, o_v_p0_state_eaten, o_v_p0_numbers) → W p l e rm_X10_readTape s m ([.ref a_p0] : List Value).toArray below meth c H locs 0 0 Q (F0 m 30 ls []) := by
    clear hf hl hP hD hS
    intro z19 z20 z21 z22 z23 z24 z25 z26 z27 z28 z29 w30 w31 w32 w33 z34 z35 w36 w37 w38 w39 ls H locs hl hP hD hS hf
    replace hf := jn21_s eJ40 hf
    refine lv_aload_n hx hb dX10_readTape_30 rfl (lv_at hl 0 rfl) ?_
    refine va_get (D := D) (ci := 10) (v := .int (Int32.ofInt z19)) (C := RX10) (T := TX10) (N := 9) hx hb hts inX10_readTape_X10 hown hK hP 0 rfl rfl 3 (by decide) (hts _ mwX10_readTape_1) (fun _ h9 => h9) rfl dX10_readTape_31 ?_
    have hr40 := ck_c hf
    replace hf := ck_r hf
    have hq := jn_i hf
    clear hf
    obtain ⟨J44, eJ44, hf⟩ := hq
    have hJ44 : ∀ (z42 : Int) (z43 : Int) (ls : Array Slot) (H : Heap) (locs : List Loc), lv_has ls 3 [(0, .ref a_p0)] → va_P D vwCl [(a_p0, .inr (10, [.ref a_p0_tape, .ref a_p0_rules, .ref a_p0_state, .int (Int32.ofInt z42), .int (Int32.ofInt z43), .int (Int32.ofInt z21), .int (Int32.ofInt z22), .int (Int32.ofInt z23), .ref a_p0_numbers])), (a_p0_tape, .inr (9, [.ref a_p0_tape_bytes, .int (Int32.ofInt i_p0_tape_length), .int (Int32.ofInt z24), .int (Int32.ofInt z25), .int (Int32.ofInt z26), .int (Int32.ofInt z27)])), (a_p0_tape_bytes, .inl (G 0, 320, .inl (zA v_p0_tape_bytes))), (a_p0_rules, .inr (6, [.int (Int32.ofInt z28), .int (Int32.ofInt z29), .ref a_p0_rules_need, .ref a_p0_rules_kind, .ref a_p0_rules_first, .ref a_p0_rules_second, .ref a_p0_rules_after])), (a_p0_rules_need, .inl (G 1, 7, .inl (zA w30))), (a_p0_rules_kind, .inl (G 1, 5, .inl (zA w31))), (a_p0_rules_first, .inl (G 1, 5, .inl (zA w32))), (a_p0_rules_second, .inl (G 1, 5, .inl (zA w33))), (a_p0_rules_after, .inl (G 1, 35, .inl (zA v_p0_rules_after))), (a_p0_state, .inr (8, [.ref a_p0_state_pieces, .ref a_p0_state_friends, .ref a_p0_state_spoons, .ref a_p0_state_eaten, .ref a_p0_state_seen, .int (Int32.ofInt z9), .int (Int32.ofInt z34), .int (Int32.ofInt z35), .int (Int32.ofInt z12)])), (a_p0_state_pieces, .inl (G 1, 7, .inl (zA w36))), (a_p0_state_friends, .inl (G 1, 7, .inl (zA w37))), (a_p0_state_spoons, .inl (G 1, 7, .inl (zA w38))), (a_p0_state_eaten, .inl (G 1, 7, .inl (zA w16))), (a_p0_numbers, .inl (G 1, 7, .inl (zA w39)))] H → va_D A [(a_p0, .inr (10, [.ref a_p0_tape, .ref a_p0_rules, .ref a_p0_state, .int (Int32.ofInt z42), .int (Int32.ofInt z43), .int (Int32.ofInt z21), .int (Int32.ofInt z22), .int (Int32.ofInt z23), .ref a_p0_numbers])), (a_p0_tape, .inr (9, [.ref a_p0_tape_bytes, .int (Int32.ofInt i_p0_tape_length), .int (Int32.ofInt z24), .int (Int32.ofInt z25), .int (Int32.ofInt z26), .int (Int32.ofInt z27)])), (a_p0_tape_bytes, .inl (G 0, 320, .inl (zA v_p0_tape_bytes))), (a_p0_rules, .inr (6, [.int (Int32.ofInt z28), .int (Int32.ofInt z29), .ref a_p0_rules_need, .ref a_p0_rules_kind, .ref a_p0_rules_first, .ref a_p0_rules_second, .ref a_p0_rules_after])), (a_p0_rules_need, .inl (G 1, 7, .inl (zA w30))), (a_p0_rules_kind, .inl (G 1, 5, .inl (zA w31))), (a_p0_rules_first, .inl (G 1, 5, .inl (zA w32))), (a_p0_rules_second, .inl (G 1, 5, .inl (zA w33))), (a_p0_rules_after, .inl (G 1, 35, .inl (zA v_p0_rules_after))), (a_p0_state, .inr (8, [.ref a_p0_state_pieces, .ref a_p0_state_friends, .ref a_p0_state_spoons, .ref a_p0_state_eaten, .ref a_p0_state_seen, .int (Int32.ofInt z9), .int (Int32.ofInt z34), .int (Int32.ofInt z35), .int (Int32.ofInt z12)])), (a_p0_state_pieces, .inl (G 1, 7, .inl (zA w36))), (a_p0_state_friends, .inl (G 1, 7, .inl (zA w37))), (a_p0_state_spoons, .inl (G 1, 7, .inl (zA w38))), (a_p0_state_eaten, .inl (G 1, 7, .inl (zA w16))), (a_p0_numbers, .inl (G 1, 7, .inl (zA w39)))] → va_S A s.heap H locs → J44 z42 z43 = some (r, o_i_p0_faultFound, o_i_p0_faultPlace, o_i_p0_lines, o_i_p0_met, o_i_p0_greatest, o_i_p0_tape_at, o_i_p0_tape_token, o_i_p0_tape_start, o_i_p0_tape_value, o_i_p0_rules_seats, o_i_p0_rules_stirs, o_v_p0_rules_need, o_v_p0_rules_kind, o_v_p0_rules_first, o_v_p0_rules_second, o_v_p0_rules_after, o_i_p0_state_seenDays, o_i_p0_state_bone, o_i_p0_state_king, o_i_p0_state_days, o_v_p0_state_pieces, o_v_p0_state_friends, o_v_p0_state_spoons, o_v_p0_state_eaten, o_v_p0_numbers) → W p l e rm_X10_readTape s m ([.ref a_p0] : List Value).toArray below meth c H locs 0 0 Q (F0 m 65 ls []) := by
      clear hf hl hP hD hS
      intro z42 z43 ls H locs hl hP hD hS hf
      replace hf := jn2_s eJ44 hf
      refine lv_aload_n hx hb dX10_readTape_65 rfl (lv_at hl 0 rfl) ?_
      refine va_get (D := D) (ci := 10) (v := .int (Int32.ofInt z42)) (C := RX10) (T := TX10) (N := 9) hx hb hts inX10_readTape_X10 hown hK hP 0 rfl rfl 3 (by decide) (hts _ mwX10_readTape_1) (fun _ h9 => h9) rfl dX10_readTape_66 ?_
      have hr44 := ck_c hf
      replace hf := ck_r hf
      refine lv_if_eq (tgt := 80) hx hb dX10_readTape_69 (by decide) (fun cc => ?_) (fun cc => ?_)
      ·
        replace hf := ite_t ((z_eq0 hr44).mp cc) hf
        clear cc
        refine lv_aload_n hx hb dX10_readTape_80 rfl (lv_at hl 0 rfl) ?_
        refine va_get (D := D) (ci := 10) (v := .ref a_p0_rules) (C := RX10) (T := TX10) (N := 9) hx hb hts inX10_readTape_X10 hown hK hP 0 rfl rfl 1 (by decide) (hts _ mwX10_readTape_2) (fun _ h9 => h9) rfl dX10_readTape_81 ?_
        have hq := bd1_s hf
        clear hf
        obtain ⟨w46, hcall, hf⟩ := hq
        refine gcV (ws' := [(a_p0, .inr (10, [.ref a_p0_tape, .ref a_p0_rules, .ref a_p0_state, .int (Int32.ofInt z42), .int (Int32.ofInt z43), .int (Int32.ofInt z21), .int (Int32.ofInt z22), .int (Int32.ofInt z23), .ref a_p0_numbers])), (a_p0_tape, .inr (9, [.ref a_p0_tape_bytes, .int (Int32.ofInt i_p0_tape_length), .int (Int32.ofInt z24), .int (Int32.ofInt z25), .int (Int32.ofInt z26), .int (Int32.ofInt z27)])), (a_p0_tape_bytes, .inl (G 0, 320, .inl (zA v_p0_tape_bytes))), (a_p0_rules, .inr (6, [.int (Int32.ofInt z28), .int (Int32.ofInt z29), .ref a_p0_rules_need, .ref a_p0_rules_kind, .ref a_p0_rules_first, .ref a_p0_rules_second, .ref a_p0_rules_after])), (a_p0_rules_need, .inl (G 1, 7, .inl (zA w30))), (a_p0_rules_kind, .inl (G 1, 5, .inl (zA w31))), (a_p0_rules_first, .inl (G 1, 5, .inl (zA w32))), (a_p0_rules_second, .inl (G 1, 5, .inl (zA w33))), (a_p0_rules_after, .inl (G 1, 35, .inl (zA w46))), (a_p0_state, .inr (8, [.ref a_p0_state_pieces, .ref a_p0_state_friends, .ref a_p0_state_spoons, .ref a_p0_state_eaten, .ref a_p0_state_seen, .int (Int32.ofInt z9), .int (Int32.ofInt z34), .int (Int32.ofInt z35), .int (Int32.ofInt z12)])), (a_p0_state_pieces, .inl (G 1, 7, .inl (zA w36))), (a_p0_state_friends, .inl (G 1, 7, .inl (zA w37))), (a_p0_state_spoons, .inl (G 1, 7, .inl (zA w38))), (a_p0_state_eaten, .inl (G 1, 7, .inl (zA w16))), (a_p0_numbers, .inl (G 1, 7, .inl (zA w39)))]) (va_runV (As := []) (rest := []) ⟨hx, hb, hml, hown, hts⟩ (c_X6_workOutStirs (l := l) (D := D) (G := G) (sz := H.size) (a_p0 := a_p0_rules) (a_p0_need := a_p0_rules_need) (a_p0_kind := a_p0_rules_kind) (a_p0_first := a_p0_rules_first) (a_p0_second := a_p0_rules_second) (a_p0_after := a_p0_rules_after) (i_p0_seats := z28) (i_p0_stirs := z29) (v_p0_kind := w31) (v_p0_first := w32) (v_p0_second := w33) (v_p0_after := v_p0_rules_after) (o_v_p0_after := w46) (hf := hcall)) (cwV 0 hts gX10_readTape_X6_workOutStirs rfl rfl rfl (by decide +kernel) ⟨Nat.le_of_ble_eq_true rfl, Nat.le_of_ble_eq_true rfl⟩) (preG_V (ci := 6) (hP.sub [3, 5, 6, 7, 8] rfl) (hD.sub [3, 5, 6, 7, 8] rfl rfl) hK rfl rfl) rfl rfl hl.1 rfl (lv_room (Nat.le_of_ble_eq_true rfl)) dX10_readTape_84 ⟨Nat.le_of_ble_eq_true rfl, Nat.le_of_ble_eq_true rfl⟩) hP hD hS hA [3, 5, 6, 7, 8] [0, 1, 2, 4, 9, 10, 11, 12, 13, 14] [0, 1, 2, 10, 3, 11, 12, 13, 14, 4, 5, 6, 7, 8, 9] rfl rfl rfl (by decide) rfl rfl rfl (fun H locs hP hD hS => ?_)
        clear hcall
        refine lv_aload_n hx hb dX10_readTape_87 rfl (lv_at hl 0 rfl) ?_
        refine va_get (D := D) (ci := 10) (v := .int (Int32.ofInt z21)) (C := RX10) (T := TX10) (N := 9) hx hb hts inX10_readTape_X10 hown hK hP 0 rfl rfl 5 (by decide) (hts _ mwX10_readTape_3) (fun _ h9 => h9) rfl dX10_readTape_88 ?_
        obtain ⟨rfl, rfl, rfl, rfl, rfl, rfl, rfl, rfl, rfl, rfl, rfl, rfl, rfl, rfl, rfl, rfl, rfl, rfl, rfl, rfl, rfl, rfl, rfl, rfl, rfl, rfl⟩ := ou26 hf
        rw [hQ]
        exact W.iret hx hb hr (fun t ht hW => ⟨⟨_, (), rfl, rfl, by rw [ht]; exact hP, va_K.moved hW.alike hK, hD⟩, hS.F ht⟩) hS.2.2 dX10_readTape_91
      ·
        replace hf := ite_f (fun h9 => cc ((z_eq0 hr44).mpr h9)) hf
        clear cc
        refine lv_bipush (v := Int32.ofInt (-10 : Int)) hx hb dX10_readTape_72 (by decide) ?_
        refine lv_aload_n hx hb dX10_readTape_74 rfl (lv_at hl 0 rfl) ?_
        refine va_get (D := D) (ci := 10) (v := .int (Int32.ofInt z43)) (C := RX10) (T := TX10) (N := 9) hx hb hts inX10_readTape_X10 hown hK hP 0 rfl rfl 4 (by decide) (hts _ mwX10_readTape_4) (fun _ h9 => h9) rfl dX10_readTape_75 ?_
        refine lv_isub hx hb dX10_readTape_78 (z_ci (Int32.ofInt_sub (-10 : Int) z43) ?_)
        obtain ⟨rfl, rfl, rfl, rfl, rfl, rfl, rfl, rfl, rfl, rfl, rfl, rfl, rfl, rfl, rfl, rfl, rfl, rfl, rfl, rfl, rfl, rfl, rfl, rfl, rfl, rfl⟩ := ou26 hf
        rw [hQ]
        exact W.iret hx hb hr (fun t ht hW => ⟨⟨_, (), rfl, rfl, by rw [ht]; exact hP, va_K.moved hW.alike hK, hD⟩, hS.F ht⟩) hS.2.2 dX10_readTape_79
    refine lv_if_ne (tgt := 65) hx hb dX10_readTape_34 (by decide) (fun cc => ?_) (fun cc => ?_)
    ·
      replace hf := ite_f (fun h9 => cc ((z_eq0 hr40).mpr h9)) hf
      clear cc
      exact hJ44 _ _ _ _ _ (lv_sub hl [0] rfl) hP hD hS hf
    ·
      replace hf := ite_t ((z_eq0 hr40).mp cc) hf
      clear cc
      refine lv_aload_n hx hb dX10_readTape_37 rfl (lv_at hl 0 rfl) ?_
      refine va_get (D := D) (ci := 10) (v := .int (Int32.ofInt z23)) (C := RX10) (T := TX10) (N := 9) hx hb hts inX10_readTape_X10 hown hK hP 0 rfl rfl 7 (by decide) (hts _ mwX10_readTape_5) (fun _ h9 => h9) rfl dX10_readTape_38 ?_
      refine lv_aload_n hx hb dX10_readTape_41 rfl (lv_at hl 0 rfl) ?_
      refine va_get (D := D) (ci := 10) (v := .ref a_p0_rules) (C := RX10) (T := TX10) (N := 9) hx hb hts inX10_readTape_X10 hown hK hP 0 rfl rfl 1 (by decide) (hts _ mwX10_readTape_2) (fun _ h9 => h9) rfl dX10_readTape_42 ?_
      refine va_get (D := D) (ci := 6) (v := .int (Int32.ofInt z28)) (C := RX6) (T := TX6) (N := 7) hx hb hts inX10_readTape_X6 hown hK hP 3 rfl rfl 0 (by decide) (hts _ mwX10_readTape_7) (fun _ h9 => h9) rfl dX10_readTape_45 ?_
      have hr46 := ck_c hf
      replace hf := ck_r hf
      have hr47 := ck_c hf
      replace hf := ck_r hf
      refine lv_icmp_lt (tgt := 65) hx hb dX10_readTape_48 (by decide) (fun cc => ?_) (fun cc => ?_)
      ·
        replace hf := ite_t ((z_lt hr46 hr47).mp cc) hf
        clear cc
        exact hJ44 _ _ _ _ _ (lv_sub hl [0] rfl) hP hD hS hf
      ·
        replace hf := ite_f (fun h9 => cc ((z_lt hr46 hr47).mpr h9)) hf
        clear cc
        refine lv_aload_n hx hb dX10_readTape_51 rfl (lv_at hl 0 rfl) ?_
        refine lv_bipush (v := Int32.ofInt (6 : Int)) hx hb dX10_readTape_52 (by decide) ?_
        refine lv_aload_n hx hb dX10_readTape_54 rfl (lv_at hl 0 rfl) ?_
        refine va_get (D := D) (ci := 10) (v := .ref a_p0_tape) (C := RX10) (T := TX10) (N := 9) hx hb hts inX10_readTape_X10 hown hK hP 0 rfl rfl 0 (by decide) (hts _ mwX10_readTape_8) (fun _ h9 => h9) rfl dX10_readTape_55 ?_
        refine va_get (D := D) (ci := 9) (v := .int (Int32.ofInt i_p0_tape_length)) (C := RX9) (T := TX9) (N := 6) hx hb hts inX10_readTape_X9 hown hK hP 1 rfl rfl 1 (by decide) (hts _ mwX10_readTape_10) (fun _ h9 => h9) rfl dX10_readTape_58 ?_
        have hq := bd3_s hf
        clear hf
        obtain ⟨z49, z50, z51, hcall, hf⟩ := hq
        refine gcI (ws' := [(a_p0, .inr (10, [.ref a_p0_tape, .ref a_p0_rules, .ref a_p0_state, .int (Int32.ofInt z50), .int (Int32.ofInt z51), .int (Int32.ofInt z21), .int (Int32.ofInt z22), .int (Int32.ofInt z23), .ref a_p0_numbers])), (a_p0_tape, .inr (9, [.ref a_p0_tape_bytes, .int (Int32.ofInt i_p0_tape_length), .int (Int32.ofInt z24), .int (Int32.ofInt z25), .int (Int32.ofInt z26), .int (Int32.ofInt z27)])), (a_p0_tape_bytes, .inl (G 0, 320, .inl (zA v_p0_tape_bytes))), (a_p0_rules, .inr (6, [.int (Int32.ofInt z28), .int (Int32.ofInt z29), .ref a_p0_rules_need, .ref a_p0_rules_kind, .ref a_p0_rules_first, .ref a_p0_rules_second, .ref a_p0_rules_after])), (a_p0_rules_need, .inl (G 1, 7, .inl (zA w30))), (a_p0_rules_kind, .inl (G 1, 5, .inl (zA w31))), (a_p0_rules_first, .inl (G 1, 5, .inl (zA w32))), (a_p0_rules_second, .inl (G 1, 5, .inl (zA w33))), (a_p0_rules_after, .inl (G 1, 35, .inl (zA v_p0_rules_after))), (a_p0_state, .inr (8, [.ref a_p0_state_pieces, .ref a_p0_state_friends, .ref a_p0_state_spoons, .ref a_p0_state_eaten, .ref a_p0_state_seen, .int (Int32.ofInt z9), .int (Int32.ofInt z34), .int (Int32.ofInt z35), .int (Int32.ofInt z12)])), (a_p0_state_pieces, .inl (G 1, 7, .inl (zA w36))), (a_p0_state_friends, .inl (G 1, 7, .inl (zA w37))), (a_p0_state_spoons, .inl (G 1, 7, .inl (zA w38))), (a_p0_state_eaten, .inl (G 1, 7, .inl (zA w16))), (a_p0_numbers, .inl (G 1, 7, .inl (zA w39)))]) (va_runV (As := [.int (Int32.ofInt (6 : Int)), .int (Int32.ofInt i_p0_tape_length)]) (rest := []) ⟨hx, hb, hml, hown, hts⟩ (c_X10_refuse (l := l) (D := D) (G := G) (sz := H.size) (a_p0 := a_p0) (a_p0_tape := a_p0_tape) (a_p0_rules := a_p0_rules) (a_p0_state := a_p0_state) (a_p0_numbers := a_p0_numbers) (i_p0_faultFound := z19) (i_p0_faultPlace := z20) (i_p0_lines := z21) (i_p0_met := z22) (i_p0_greatest := z23) (x1 := (6 : Int)) (x2 := i_p0_tape_length) (r := z49) (o_i_p0_faultFound := z50) (o_i_p0_faultPlace := z51) (hf := hcall)) (cwV 2 hts gX10_readTape_X10_refuse rfl rfl rfl (by decide +kernel) ⟨Nat.le_of_ble_eq_true rfl, Nat.le_of_ble_eq_true rfl⟩) (preG_V (ci := 10) (hP.sub [0] rfl) (hD.sub [0] rfl rfl) hK rfl rfl) rfl rfl hl.1 rfl (lv_room (Nat.le_of_ble_eq_true rfl)) dX10_readTape_61 ⟨Nat.le_of_ble_eq_true rfl, Nat.le_of_ble_eq_true rfl⟩) hP hD hS hA [0] [1, 2, 3, 4, 5, 6, 7, 8, 9, 10, 11, 12, 13, 14] [14, 0, 1, 2, 3, 4, 5, 6, 7, 8, 9, 10, 11, 12, 13] rfl rfl rfl (by decide) rfl rfl rfl (fun H locs hP hD hS => ?_)
        clear hcall
        refine lv_pop hx hb dX10_readTape_64 rfl ?_
        exact hJ44 _ _ _ _ _ (lv_sub hl [0] rfl) hP hD hS hf
  have hq := lq23_i hf
  clear hf
  obtain ⟨B75, eB75, NB75, hf⟩ := hq
  have hB75 : ∀ (n : Nat) (z52 : Int) (z53 : Int) (z54 : Int) (z55 : Int) (z56 : Int) (z57 : Int) (z58 : Int) (z59 : Int) (z60 : Int) (z61 : Int) (z62 : Int) (z63 : Int) (z64 : Int) (w65 : (Int → Int)) (w66 : (Int → Int)) (w67 : (Int → Int)) (w68 : (Int → Int)) (z69 : Int) (z70 : Int) (w71 : (Int → Int)) (w72 : (Int → Int)) (w73 : (Int → Int)) (w74 : (Int → Int)) (ls : Array Slot) (H : Heap) (locs : List Loc), lv_has ls 3 [(2, .int (Int32.ofInt z52)), (1, .int (Int32.ofInt z53)), (0, .ref a_p0)] → va_P D vwCl [(a_p0, .inr (10, [.ref a_p0_tape, .ref a_p0_rules, .ref a_p0_state, .int (Int32.ofInt z54), .int (Int32.ofInt z55), .int (Int32.ofInt z56), .int (Int32.ofInt z57), .int (Int32.ofInt z58), .ref a_p0_numbers])), (a_p0_tape, .inr (9, [.ref a_p0_tape_bytes, .int (Int32.ofInt i_p0_tape_length), .int (Int32.ofInt z59), .int (Int32.ofInt z60), .int (Int32.ofInt z61), .int (Int32.ofInt z62)])), (a_p0_tape_bytes, .inl (G 0, 320, .inl (zA v_p0_tape_bytes))), (a_p0_rules, .inr (6, [.int (Int32.ofInt z63), .int (Int32.ofInt z64), .ref a_p0_rules_need, .ref a_p0_rules_kind, .ref a_p0_rules_first, .ref a_p0_rules_second, .ref a_p0_rules_after])), (a_p0_rules_need, .inl (G 1, 7, .inl (zA w65))), (a_p0_rules_kind, .inl (G 1, 5, .inl (zA w66))), (a_p0_rules_first, .inl (G 1, 5, .inl (zA w67))), (a_p0_rules_second, .inl (G 1, 5, .inl (zA w68))), (a_p0_rules_after, .inl (G 1, 35, .inl (zA v_p0_rules_after))), (a_p0_state, .inr (8, [.ref a_p0_state_pieces, .ref a_p0_state_friends, .ref a_p0_state_spoons, .ref a_p0_state_eaten, .ref a_p0_state_seen, .int (Int32.ofInt z9), .int (Int32.ofInt z69), .int (Int32.ofInt z70), .int (Int32.ofInt z12)])), (a_p0_state_pieces, .inl (G 1, 7, .inl (zA w71))), (a_p0_state_friends, .inl (G 1, 7, .inl (zA w72))), (a_p0_state_spoons, .inl (G 1, 7, .inl (zA w73))), (a_p0_state_eaten, .inl (G 1, 7, .inl (zA w16))), (a_p0_numbers, .inl (G 1, 7, .inl (zA w74)))] H → va_D A [(a_p0, .inr (10, [.ref a_p0_tape, .ref a_p0_rules, .ref a_p0_state, .int (Int32.ofInt z54), .int (Int32.ofInt z55), .int (Int32.ofInt z56), .int (Int32.ofInt z57), .int (Int32.ofInt z58), .ref a_p0_numbers])), (a_p0_tape, .inr (9, [.ref a_p0_tape_bytes, .int (Int32.ofInt i_p0_tape_length), .int (Int32.ofInt z59), .int (Int32.ofInt z60), .int (Int32.ofInt z61), .int (Int32.ofInt z62)])), (a_p0_tape_bytes, .inl (G 0, 320, .inl (zA v_p0_tape_bytes))), (a_p0_rules, .inr (6, [.int (Int32.ofInt z63), .int (Int32.ofInt z64), .ref a_p0_rules_need, .ref a_p0_rules_kind, .ref a_p0_rules_first, .ref a_p0_rules_second, .ref a_p0_rules_after])), (a_p0_rules_need, .inl (G 1, 7, .inl (zA w65))), (a_p0_rules_kind, .inl (G 1, 5, .inl (zA w66))), (a_p0_rules_first, .inl (G 1, 5, .inl (zA w67))), (a_p0_rules_second, .inl (G 1, 5, .inl (zA w68))), (a_p0_rules_after, .inl (G 1, 35, .inl (zA v_p0_rules_after))), (a_p0_state, .inr (8, [.ref a_p0_state_pieces, .ref a_p0_state_friends, .ref a_p0_state_spoons, .ref a_p0_state_eaten, .ref a_p0_state_seen, .int (Int32.ofInt z9), .int (Int32.ofInt z69), .int (Int32.ofInt z70), .int (Int32.ofInt z12)])), (a_p0_state_pieces, .inl (G 1, 7, .inl (zA w71))), (a_p0_state_friends, .inl (G 1, 7, .inl (zA w72))), (a_p0_state_spoons, .inl (G 1, 7, .inl (zA w73))), (a_p0_state_eaten, .inl (G 1, 7, .inl (zA w16))), (a_p0_numbers, .inl (G 1, 7, .inl (zA w74)))] → va_S A s.heap H locs → lq23 B75 n z52 z53 z54 z55 z56 z57 z58 z59 z60 z61 z62 z63 z64 w65 w66 w67 w68 z69 z70 w71 w72 w73 w74 = some (r, o_i_p0_faultFound, o_i_p0_faultPlace, o_i_p0_lines, o_i_p0_met, o_i_p0_greatest, o_i_p0_tape_at, o_i_p0_tape_token, o_i_p0_tape_start, o_i_p0_tape_value, o_i_p0_rules_seats, o_i_p0_rules_stirs, o_v_p0_rules_need, o_v_p0_rules_kind, o_v_p0_rules_first, o_v_p0_rules_second, o_v_p0_rules_after, o_i_p0_state_seenDays, o_i_p0_state_bone, o_i_p0_state_king, o_i_p0_state_days, o_v_p0_state_pieces, o_v_p0_state_friends, o_v_p0_state_spoons, o_v_p0_state_eaten, o_v_p0_numbers) → W p l e rm_X10_readTape s m ([.ref a_p0] : List Value).toArray below meth c H locs 0 0 Q (F0 m 8 ls []) := by
    clear hf hl hP hD hS
    intro n
    induction n with
    | zero =>
      intro z52 z53 z54 z55 z56 z57 z58 z59 z60 z61 z62 z63 z64 w65 w66 w67 w68 z69 z70 w71 w72 w73 w74 ls H locs hl hP hD hS hf
      exact (lq23_0 hf).elim
    | succ n ih8 =>
      intro z52 z53 z54 z55 z56 z57 z58 z59 z60 z61 z62 z63 z64 w65 w66 w67 w68 z69 z70 w71 w72 w73 w74 ls H locs hl hP hD hS hf
      replace hf := lq23_s eB75 hf
      unfold B_X10_readTape_8 at hf
      refine lv_iload_n hx hb dX10_readTape_8 rfl (lv_at hl 0 rfl) ?_
      refine lv_sipush (v := Int32.ofInt (320 : Int)) hx hb dX10_readTape_9 (by decide) ?_
      have hr75 := ck_c hf
      replace hf := ck_r hf
      refine lv_icmp_gt (tgt := 30) hx hb dX10_readTape_12 (by decide) (fun cc => ?_) (fun cc => ?_)
      ·
        replace hf := ite_t ((z_lt (by decide) hr75).mp cc) hf
        clear cc
        exact hJ40 _ _ _ _ _ _ _ _ _ _ _ _ _ _ _ _ _ _ _ _ _ _ _ _ (lv_sub hl [2] rfl) hP hD hS hf
      ·
        replace hf := ite_f (fun h9 => cc ((z_lt (by decide) hr75).mpr h9)) hf
        clear cc
        refine lv_iload_n hx hb dX10_readTape_15 rfl (lv_at hl 1 rfl) ?_
        have hr76 := ck_c hf
        replace hf := ck_r hf
        refine lv_if_eq (tgt := 30) hx hb dX10_readTape_16 (by decide) (fun cc => ?_) (fun cc => ?_)
        ·
          replace hf := ite_t ((z_eq0 hr76).mp cc) hf
          clear cc
          exact hJ40 _ _ _ _ _ _ _ _ _ _ _ _ _ _ _ _ _ _ _ _ _ _ _ _ (lv_sub hl [2] rfl) hP hD hS hf
        ·
          replace hf := ite_f (fun h9 => cc ((z_eq0 hr76).mpr h9)) hf
          clear cc
          refine lv_aload_n hx hb dX10_readTape_19 rfl (lv_at hl 2 rfl) ?_
          have hq := bd22_s hf
          clear hf
          obtain ⟨z78, z79, z80, z81, z82, z83, z84, z85, z86, z87, z88, z89, w90, w91, w92, w93, z94, z95, w96, w97, w98, w99, hcall, hf⟩ := hq
          refine gcI (ws' := [(a_p0, .inr (10, [.ref a_p0_tape, .ref a_p0_rules, .ref a_p0_state, .int (Int32.ofInt z79), .int (Int32.ofInt z80), .int (Int32.ofInt z81), .int (Int32.ofInt z82), .int (Int32.ofInt z83), .ref a_p0_numbers])), (a_p0_tape, .inr (9, [.ref a_p0_tape_bytes, .int (Int32.ofInt i_p0_tape_length), .int (Int32.ofInt z84), .int (Int32.ofInt z85), .int (Int32.ofInt z86), .int (Int32.ofInt z87)])), (a_p0_tape_bytes, .inl (G 0, 320, .inl (zA v_p0_tape_bytes))), (a_p0_rules, .inr (6, [.int (Int32.ofInt z88), .int (Int32.ofInt z89), .ref a_p0_rules_need, .ref a_p0_rules_kind, .ref a_p0_rules_first, .ref a_p0_rules_second, .ref a_p0_rules_after])), (a_p0_rules_need, .inl (G 1, 7, .inl (zA w90))), (a_p0_rules_kind, .inl (G 1, 5, .inl (zA w91))), (a_p0_rules_first, .inl (G 1, 5, .inl (zA w92))), (a_p0_rules_second, .inl (G 1, 5, .inl (zA w93))), (a_p0_rules_after, .inl (G 1, 35, .inl (zA v_p0_rules_after))), (a_p0_state, .inr (8, [.ref a_p0_state_pieces, .ref a_p0_state_friends, .ref a_p0_state_spoons, .ref a_p0_state_eaten, .ref a_p0_state_seen, .int (Int32.ofInt z9), .int (Int32.ofInt z94), .int (Int32.ofInt z95), .int (Int32.ofInt z12)])), (a_p0_state_pieces, .inl (G 1, 7, .inl (zA w96))), (a_p0_state_friends, .inl (G 1, 7, .inl (zA w97))), (a_p0_state_spoons, .inl (G 1, 7, .inl (zA w98))), (a_p0_state_eaten, .inl (G 1, 7, .inl (zA w16))), (a_p0_numbers, .inl (G 1, 7, .inl (zA w99)))]) (va_runV (As := []) (rest := []) ⟨hx, hb, hml, hown, hts⟩ (c_X10_readLine (l := l) (D := D) (G := G) (sz := H.size) (adT := adT) (adK := adK) (adV := adV) (a_p0 := a_p0) (a_p0_tape := a_p0_tape) (a_p0_rules := a_p0_rules) (a_p0_state := a_p0_state) (a_p0_numbers := a_p0_numbers) (a_p0_tape_bytes := a_p0_tape_bytes) (a_p0_rules_need := a_p0_rules_need) (a_p0_rules_kind := a_p0_rules_kind) (a_p0_rules_first := a_p0_rules_first) (a_p0_rules_second := a_p0_rules_second) (a_p0_rules_after := a_p0_rules_after) (a_p0_state_pieces := a_p0_state_pieces) (a_p0_state_friends := a_p0_state_friends) (a_p0_state_spoons := a_p0_state_spoons) (a_p0_state_eaten := a_p0_state_eaten) (a_p0_state_seen := a_p0_state_seen) (i_p0_faultFound := z54) (i_p0_faultPlace := z55) (i_p0_lines := z56) (i_p0_met := z57) (i_p0_greatest := z58) (i_p0_tape_length := i_p0_tape_length) (i_p0_tape_at := z59) (i_p0_tape_token := z60) (i_p0_tape_start := z61) (i_p0_tape_value := z62) (v_p0_tape_bytes := v_p0_tape_bytes) (i_p0_rules_seats := z63) (i_p0_rules_stirs := z64) (v_p0_rules_need := w65) (v_p0_rules_kind := w66) (v_p0_rules_first := w67) (v_p0_rules_second := w68) (i_p0_state_seenDays := z9) (i_p0_state_bone := z69) (i_p0_state_king := z70) (i_p0_state_days := z12) (v_p0_state_pieces := w71) (v_p0_state_friends := w72) (v_p0_state_spoons := w73) (v_p0_numbers := w74) (r := z78) (o_i_p0_faultFound := z79) (o_i_p0_faultPlace := z80) (o_i_p0_lines := z81) (o_i_p0_met := z82) (o_i_p0_greatest := z83) (o_i_p0_tape_at := z84) (o_i_p0_tape_token := z85) (o_i_p0_tape_start := z86) (o_i_p0_tape_value := z87) (o_i_p0_rules_seats := z88) (o_i_p0_rules_stirs := z89) (o_v_p0_rules_need := w90) (o_v_p0_rules_kind := w91) (o_v_p0_rules_first := w92) (o_v_p0_rules_second := w93) (o_i_p0_state_bone := z94) (o_i_p0_state_king := z95) (o_v_p0_state_pieces := w96) (o_v_p0_state_friends := w97) (o_v_p0_state_spoons := w98) (o_v_p0_numbers := w99) (hf := hcall)) (cwV 0 hts gX10_readTape_X10_readLine rfl rfl rfl (by decide +kernel) ⟨Nat.le_of_ble_eq_true rfl, Nat.le_of_ble_eq_true rfl⟩) (preGE_V (ci := 10) (hP.sub [0, 1, 2, 3, 4, 5, 6, 7, 9, 10, 11, 12, 14] rfl) (hD.sub [0, 1, 2, 3, 4, 5, 6, 7, 9, 10, 11, 12, 14] rfl rfl) hK rfl rfl hE hS hA) rfl rfl hl.1 rfl (lv_room (Nat.le_of_ble_eq_true rfl)) dX10_readTape_20 ⟨Nat.le_of_ble_eq_true rfl, Nat.le_of_ble_eq_true rfl⟩) hP hD hS hA [0, 1, 2, 3, 4, 5, 6, 7, 9, 10, 11, 12, 14] [8, 13] [2, 3, 4, 5, 6, 7, 8, 9, 0, 10, 11, 12, 13, 1, 14] rfl rfl rfl (by decide) rfl rfl rfl (fun H locs hP hD hS => ?_)
          clear hcall
          refine z_topi (fun z100 ez => ?_)
          replace hf := bnd_s hf ez
          clear ez
          refine lv_istore_n (lv' := [(1, .int (Int32.ofInt z100)), (2, .int (Int32.ofInt z52)), (0, .ref a_p0)]) hx hb dX10_readTape_23 rfl hl (by decide) rfl (fun ls hl => ?_)
          obtain ⟨z101, ez⟩ : ∃ y : Int, y = (z52 + (1 : Int)) := ⟨_, rfl⟩
          replace hf := bnd_s hf ez
          refine lv_iinc (v := Int32.ofInt z101) (lv' := [(2, .int (Int32.ofInt z101)), (1, .int (Int32.ofInt z100)), (0, .ref a_p0)]) hx hb dX10_readTape_24 hl (k := 1) rfl (by rw [ez]; exact (Int32.ofInt_add _ _).symm) (by decide) rfl (fun ls hl => ?_)
          clear ez
          refine lv_goto (tgt := 8) hx hb dX10_readTape_27 (by decide) ?_
          exact ih8 _ _ _ _ _ _ _ _ _ _ _ _ _ _ _ _ _ _ _ _ _ _ _ _ _ _ (lv_sub hl [0, 1, 2] rfl) hP hD hS hf
  exact hB75 _ _ _ _ _ _ _ _ _ _ _ _ _ _ _ _ _ _ _ _ _ _ _ _ _ _ _ (lv_sub hl [0, 1, 2] rfl) hP hD hS hf

noncomputable def f_X11_feed (i_p0_tape_length : Int) (v_p0_tape_bytes : (Int → Int)) (x1 : Int) : Option (Int × Int × (Int → Int)) := (bd3 (f_X9_append i_p0_tape_length v_p0_tape_bytes x1) (fun (z1 : Int) (z2 : Int) (w3 : (Int → Int)) => (ck (z_r32 z1) (if z1 = (0 : Int) then (some ((-3 : Int), z2, w3)) else (some (z2, z2, w3))))))
abbrev rm_X11_feed : Room := { frames := 1, cells := 0, slots := 0, locals := 23 }
theorem inX11_feed_X11 : ∀ w ∈ wsX110, w ∈ wsX11_feed := by decide +kernel
theorem mwX11_feed_1 : Cond.fieldLink RX11 26 "LadleKings" "tape" "LLadleKings$Tape;" ∈ wsX11_feed := by decide +kernel
theorem inX11_feed_X9 : ∀ w ∈ wsX90, w ∈ wsX11_feed := by decide +kernel
theorem mwX11_feed_3 : Cond.fieldLink RX11 111 "LadleKings$Tape" "length" "I" ∈ wsX11_feed := by decide +kernel
set_option maxHeartbeats 8000000 in
set_option maxRecDepth 100000 in
theorem c_X11_feed (l : Launch) (D : va_G) (G : Nat → ClassId) (sz : Nat) (a_p0 : Nat) (a_p0_rules : Nat) (a_p0_state : Nat) (a_p0_tape : Nat) (a_p0_reader : Nat) (a_p0_kitchen : Nat) (a_p0_luck : Nat) (a_p0_plans : Nat) (a_p0_coups : Nat) (a_p0_past : Nat) (a_p0_fairDays : Nat) (a_p0_images : Nat) (a_p0_imageHeld : Nat) (a_p0_sheets : Nat) (a_p0_tape_bytes : Nat) (i_p0_latestFault : Int) (i_p0_latestTear : Int) (i_p0_tape_length : Int) (i_p0_tape_at : Int) (i_p0_tape_token : Int) (i_p0_tape_start : Int) (i_p0_tape_value : Int) (v_p0_tape_bytes : (Int → Int)) (x1 : Int) (r : Int) (o_i_p0_tape_length : Int) (o_v_p0_tape_bytes : (Int → Int)) (hf : f_X11_feed i_p0_tape_length v_p0_tape_bytes x1 = some (r, o_i_p0_tape_length, o_v_p0_tape_bytes)) : Met l yX11_feed wsX11_feed rm_X11_feed (pcG D G [.ref a_p0, .long (Int64.ofInt x1)] sz [(a_p0, .inr (11, [.ref a_p0_rules, .ref a_p0_state, .ref a_p0_tape, .ref a_p0_reader, .ref a_p0_kitchen, .ref a_p0_luck, .ref a_p0_plans, .ref a_p0_coups, .ref a_p0_past, .ref a_p0_fairDays, .ref a_p0_images, .ref a_p0_imageHeld, .ref a_p0_sheets, .int (Int32.ofInt i_p0_latestFault), .int (Int32.ofInt i_p0_latestTear)])), (a_p0_tape, .inr (9, [.ref a_p0_tape_bytes, .int (Int32.ofInt i_p0_tape_length), .int (Int32.ofInt i_p0_tape_at), .int (Int32.ofInt i_p0_tape_token), .int (Int32.ofInt i_p0_tape_start), .int (Int32.ofInt i_p0_tape_value)])), (a_p0_tape_bytes, .inl (G 0, 320, .inl (zA v_p0_tape_bytes)))]) (qcI D G (Int32.ofInt r) [(a_p0, .inr (11, [.ref a_p0_rules, .ref a_p0_state, .ref a_p0_tape, .ref a_p0_reader, .ref a_p0_kitchen, .ref a_p0_luck, .ref a_p0_plans, .ref a_p0_coups, .ref a_p0_past, .ref a_p0_fairDays, .ref a_p0_images, .ref a_p0_imageHeld, .ref a_p0_sheets, .int (Int32.ofInt i_p0_latestFault), .int (Int32.ofInt i_p0_latestTear)])), (a_p0_tape, .inr (9, [.ref a_p0_tape_bytes, .int (Int32.ofInt o_i_p0_tape_length), .int (Int32.ofInt i_p0_tape_at), .int (Int32.ofInt i_p0_tape_token), .int (Int32.ofInt i_p0_tape_start), .int (Int32.ofInt i_p0_tape_value)])), (a_p0_tape_bytes, .inl (G 0, 320, .inl (zA o_v_p0_tape_bytes)))] (va_A [(a_p0, .inr (11, [.ref a_p0_rules, .ref a_p0_state, .ref a_p0_tape, .ref a_p0_reader, .ref a_p0_kitchen, .ref a_p0_luck, .ref a_p0_plans, .ref a_p0_coups, .ref a_p0_past, .ref a_p0_fairDays, .ref a_p0_images, .ref a_p0_imageHeld, .ref a_p0_sheets, .int (Int32.ofInt i_p0_latestFault), .int (Int32.ofInt i_p0_latestTear)])), (a_p0_tape, .inr (9, [.ref a_p0_tape_bytes, .int (Int32.ofInt i_p0_tape_length), .int (Int32.ofInt i_p0_tape_at), .int (Int32.ofInt i_p0_tape_token), .int (Int32.ofInt i_p0_tape_start), .int (Int32.ofInt i_p0_tape_value)])), (a_p0_tape_bytes, .inl (G 0, 320, .inl (zA v_p0_tape_bytes)))] sz)) 0 0 (va_A [(a_p0, .inr (11, [.ref a_p0_rules, .ref a_p0_state, .ref a_p0_tape, .ref a_p0_reader, .ref a_p0_kitchen, .ref a_p0_luck, .ref a_p0_plans, .ref a_p0_coups, .ref a_p0_past, .ref a_p0_fairDays, .ref a_p0_images, .ref a_p0_imageHeld, .ref a_p0_sheets, .int (Int32.ofInt i_p0_latestFault), .int (Int32.ofInt i_p0_latestTear)])), (a_p0_tape, .inr (9, [.ref a_p0_tape_bytes, .int (Int32.ofInt i_p0_tape_length), .int (Int32.ofInt i_p0_tape_at), .int (Int32.ofInt i_p0_tape_token), .int (Int32.ofInt i_p0_tape_start), .int (Int32.ofInt i_p0_tape_value)])), (a_p0_tape_bytes, .inl (G 0, 320, .inl (zA v_p0_tape_bytes)))] sz) := by
  refine Met.ofW (cc := cX11_feed) (maxL := 3) (ret := (some .int)) (by decide) rfl ?_
  intro p e s m args below meth c s₁ B hml hv
  obtain ⟨rfl, hsz, hP, hK, hD0⟩ := hv
  have hx := B.exec
  have hb := B.bytes
  have hr := B.returns
  have hts := atoms_spec (ws := wsX11_feed) B.pre
  have hown : s.vm.findClass RX11 = some m.cls := findClass_of_methodNamed B.named
  have hlocks := B.notSynchronized
  subst hsz
  have hD := hD0.self (sz := s.heap.size)
  generalize hAe : va_A [(a_p0, .inr (11, [.ref a_p0_rules, .ref a_p0_state, .ref a_p0_tape, .ref a_p0_reader, .ref a_p0_kitchen, .ref a_p0_luck, .ref a_p0_plans, .ref a_p0_coups, .ref a_p0_past, .ref a_p0_fairDays, .ref a_p0_images, .ref a_p0_imageHeld, .ref a_p0_sheets, .int (Int32.ofInt i_p0_latestFault), .int (Int32.ofInt i_p0_latestTear)])), (a_p0_tape, .inr (9, [.ref a_p0_tape_bytes, .int (Int32.ofInt i_p0_tape_length), .int (Int32.ofInt i_p0_tape_at), .int (Int32.ofInt i_p0_tape_token), .int (Int32.ofInt i_p0_tape_start), .int (Int32.ofInt i_p0_tape_value)])), (a_p0_tape_bytes, .inl (G 0, 320, .inl (zA v_p0_tape_bytes)))] s.heap.size = A at hD ⊢
  have hA : ∀ q : Nat, s.heap.size ≤ q → A q := fun q h => by rw [← hAe]; exact Or.inr h
  clear hAe hD0
  have hS : va_S A s.heap s.heap [] := va_S.rf
  have hl := lv_entry ([.ref a_p0, .long (Int64.ofInt x1)]) (n := 3) (Nat.le_of_ble_eq_true rfl)
  rw [lg_entry_eq]
  generalize (lg_sl ([.ref a_p0, .long (Int64.ofInt x1)]) ++ List.replicate (3 - (lg_sl ([.ref a_p0, .long (Int64.ofInt x1)])).length) Slot.unset).toArray = ls at hl ⊢
  have hl : lv_has ls 3 [(0, .ref a_p0), (1, .long (Int64.ofInt x1))] := hl
  refine W_nameQ (fun Q hQ => ?_)
  obtain ⟨H, hH⟩ : ∃ H, H = s.heap := ⟨_, rfl⟩
  replace hS : va_S A s.heap H [] := by rw [hH]; exact hS
  replace hP : va_P D vwCl [(a_p0, .inr (11, [.ref a_p0_rules, .ref a_p0_state, .ref a_p0_tape, .ref a_p0_reader, .ref a_p0_kitchen, .ref a_p0_luck, .ref a_p0_plans, .ref a_p0_coups, .ref a_p0_past, .ref a_p0_fairDays, .ref a_p0_images, .ref a_p0_imageHeld, .ref a_p0_sheets, .int (Int32.ofInt i_p0_latestFault), .int (Int32.ofInt i_p0_latestTear)])), (a_p0_tape, .inr (9, [.ref a_p0_tape_bytes, .int (Int32.ofInt i_p0_tape_length), .int (Int32.ofInt i_p0_tape_at), .int (Int32.ofInt i_p0_tape_token), .int (Int32.ofInt i_p0_tape_start), .int (Int32.ofInt i_p0_tape_value)])), (a_p0_tape_bytes, .inl (G 0, 320, .inl (zA v_p0_tape_bytes)))] H := by rw [hH]; exact hP
  rw [← hH]
  clear hH
  unfold f_X11_feed at hf
  refine lv_aload_n hx hb dX11_feed_0 rfl (lv_at hl 0 rfl) ?_
  refine va_get (D := D) (ci := 11) (v := .ref a_p0_tape) (C := RX11) (T := TX11) (N := 15) hx hb hts inX11_feed_X11 hown hK hP 0 rfl rfl 2 (by decide) (hts _ mwX11_feed_1) (fun _ h9 => h9) rfl dX11_feed_1 ?_
  refine lv_lload_n hx hb dX11_feed_4 rfl (lv_at hl 1 rfl) ?_
  have hq := bd3_s hf
  clear hf
  obtain ⟨z1, z2, w3, hcall, hf⟩ := hq
  refine gcI (ws' := [(a_p0, .inr (11, [.ref a_p0_rules, .ref a_p0_state, .ref a_p0_tape, .ref a_p0_reader, .ref a_p0_kitchen, .ref a_p0_luck, .ref a_p0_plans, .ref a_p0_coups, .ref a_p0_past, .ref a_p0_fairDays, .ref a_p0_images, .ref a_p0_imageHeld, .ref a_p0_sheets, .int (Int32.ofInt i_p0_latestFault), .int (Int32.ofInt i_p0_latestTear)])), (a_p0_tape, .inr (9, [.ref a_p0_tape_bytes, .int (Int32.ofInt z2), .int (Int32.ofInt i_p0_tape_at), .int (Int32.ofInt i_p0_tape_token), .int (Int32.ofInt i_p0_tape_start), .int (Int32.ofInt i_p0_tape_value)])), (a_p0_tape_bytes, .inl (G 0, 320, .inl (zA w3)))]) (va_runV (As := [.long (Int64.ofInt x1)]) (rest := []) ⟨hx, hb, hml, hown, hts⟩ (c_X9_append (l := l) (D := D) (G := G) (sz := H.size) (a_p0 := a_p0_tape) (a_p0_bytes := a_p0_tape_bytes) (i_p0_length := i_p0_tape_length) (i_p0_at := i_p0_tape_at) (i_p0_token := i_p0_tape_token) (i_p0_start := i_p0_tape_start) (i_p0_value := i_p0_tape_value) (v_p0_bytes := v_p0_tape_bytes) (x1 := x1) (r := z1) (o_i_p0_length := z2) (o_v_p0_bytes := w3) (hf := hcall)) (cwV 1 hts gX11_feed_X9_append rfl rfl rfl (by decide +kernel) ⟨Nat.le_of_ble_eq_true rfl, Nat.le_of_ble_eq_true rfl⟩) (preG_V (ci := 9) (hP.sub [1, 2] rfl) (hD.sub [1, 2] rfl rfl) hK rfl rfl) rfl rfl hl.1 rfl (lv_room (Nat.le_of_ble_eq_true rfl)) dX11_feed_5 ⟨Nat.le_of_ble_eq_true rfl, Nat.le_of_ble_eq_true rfl⟩) hP hD hS hA [1, 2] [0] [0, 1, 2] rfl rfl rfl (by decide) rfl rfl rfl (fun H locs hP hD hS => ?_)
  clear hcall
  have hr3 := ck_c hf
  replace hf := ck_r hf
  refine lv_if_eq (tgt := 21) hx hb dX11_feed_8 (by decide) (fun cc => ?_) (fun cc => ?_)
  ·
    replace hf := ite_t ((z_eq0 hr3).mp cc) hf
    clear cc
    refine lv_bipush (v := Int32.ofInt (-3 : Int)) hx hb dX11_feed_21 (by decide) ?_
    obtain ⟨rfl, rfl, rfl⟩ := ou3 hf
    rw [hQ]
    exact W.iret hx hb hr (fun t ht hW => ⟨⟨_, (), rfl, rfl, by rw [ht]; exact hP, va_K.moved hW.alike hK, hD⟩, hS.F ht⟩) hS.2.2 dX11_feed_23
  ·
    replace hf := ite_f (fun h9 => cc ((z_eq0 hr3).mpr h9)) hf
    clear cc
    refine lv_aload_n hx hb dX11_feed_11 rfl (lv_at hl 0 rfl) ?_
    refine va_get (D := D) (ci := 11) (v := .ref a_p0_tape) (C := RX11) (T := TX11) (N := 15) hx hb hts inX11_feed_X11 hown hK hP 0 rfl rfl 2 (by decide) (hts _ mwX11_feed_1) (fun _ h9 => h9) rfl dX11_feed_12 ?_
    refine va_get (D := D) (ci := 9) (v := .int (Int32.ofInt z2)) (C := RX9) (T := TX9) (N := 6) hx hb hts inX11_feed_X9 hown hK hP 1 rfl rfl 1 (by decide) (hts _ mwX11_feed_3) (fun _ h9 => h9) rfl dX11_feed_15 ?_
    refine lv_goto (tgt := 23) hx hb dX11_feed_18 (by decide) ?_
    obtain ⟨rfl, rfl, rfl⟩ := ou3 hf
    rw [hQ]
    exact W.iret hx hb hr (fun t ht hW => ⟨⟨_, (), rfl, rfl, by rw [ht]; exact hP, va_K.moved hW.alike hK, hD⟩, hS.F ht⟩) hS.2.2 dX11_feed_23
